set_option maxHeartbeats 4000000 in
set_option maxRecDepth 100000 in
theorem k_size (l : Launch) (D : va_G) (eT : Nat) (h0 : Nat) (ed : Nat) (mc : Int32) (sn : Int32) (sz : Nat) : Met l yJx4a65c_size_8abf5 wsJx4a65c_size_8abf5 ({ frames := 0, cells := 0, slots := 0, locals := 0 }) (va_Pc [.ref h0] (pr D eT sz [(h0, .inr (2, [.int mc, .ref ed, .int sn]))] [])) (va_Qi (fun (r : Int32) (_ : Unit) => r = sn) (fun _ _ => True) (fun q => sz ≤ q)) 0 0 (fun q => sz ≤ q) := by
  refine Met.ofW (cc := cJx4a65c_size_8abf5) (maxL := 1) (ret := (some .int)) (by decide +kernel) rfl ?_
  intro p e s m args below meth c s₁ B hml hv
  obtain ⟨rfl, hsz, hP, hK, hE⟩ := hv
  have hx := B.exec
  have hb := B.bytes
  have hr := B.returns
  have hts := atoms_spec (ws := wsJx4a65c_size_8abf5) B.pre
  have hown : s.vm.findClass RJx4a65c = some m.cls := findClass_of_methodNamed B.named
  have hlocks := B.notSynchronized
  subst hsz
  have hA : ∀ q : Nat, s.heap.size ≤ q → (fun q : Nat => s.heap.size ≤ q) q := fun _ h => h
  have hS : va_S (fun q : Nat => s.heap.size ≤ q) s.heap s.heap [] := va_S.rf
  have hP : va_P D vwCl [(h0, .inr (2, [.int mc, .ref ed, .int sn]))] s.heap := hP
  have hl := lv_entry ([.ref h0]) (n := 1) (Nat.le_of_ble_eq_true rfl)
  rw [lg_entry_eq]
  generalize (lg_sl ([.ref h0]) ++ List.replicate (1 - (lg_sl ([.ref h0])).length) Slot.unset).toArray = ls at hl ⊢
  have hl : lv_has ls 1 [(0, .ref h0)] := hl
  refine lv_aload_n hx hb dJx4a65c_size_8abf5_0 rfl (lv_at hl 0 rfl) ?_
  refine va_get (D := D) (ci := 2) (v := .int sn) (C := RJx4a65c) (T := TJx4a65c) (N := 3) hx hb hts (by decide +kernel) hown hK hP 0 rfl rfl 2 (by decide) (hts (.fieldLink RJx4a65c 48 "java/util/ArrayList" "size" "I") (by decide +kernel)) (fun _ h9 => h9) rfl dJx4a65c_size_8abf5_1 ?_
  exact W.iret (v := sn) hx hb hr (fun t ht hW => ⟨⟨sn, (), rfl, rfl, trivial⟩, hS.F ht⟩) hS.2.2 dJx4a65c_size_8abf5_4
set_option maxHeartbeats 4000000 in
set_option maxRecDepth 100000 in
theorem k_acoll (l : Launch) (D : va_G) (eT : Nat) (h0 : Nat) (sz : Nat) : Met l yJxa1e45_init_da8c8 wsJxa1e45_init_da8c8 ({ frames := 1, cells := 0, slots := 0, locals := 12 }) (va_Pc [.ref h0] (pc D eT sz [(h0, .inr (2, [.int 0, .null, .int 0]))] [])) (va_Qv (fun (_ : Unit) => True) (fun _ t => va_P D vwCl [(h0, .inr (2, [.int 0, .null, .int 0]))] t.heap ∧ va_K D vwCl [] t ∧ va_D (va_A [(h0, .inr (2, [.int 0, .null, .int 0]))] sz) [(h0, .inr (2, [.int 0, .null, .int 0]))]) (va_A [(h0, .inr (2, [.int 0, .null, .int 0]))] sz)) 0 0 (va_A [(h0, .inr (2, [.int 0, .null, .int 0]))] sz) := by
  refine Met.ofW (cc := cJxa1e45_init_da8c8) (maxL := 1) (ret := none) (by decide +kernel) rfl ?_
  intro p e s m args below meth c s₁ B hml hv
  obtain ⟨rfl, hsz, hP, hK, hD0, hE⟩ := hv
  have hx := B.exec
  have hb := B.bytes
  have hr := B.returns
  have hts := atoms_spec (ws := wsJxa1e45_init_da8c8) B.pre
  have hown : s.vm.findClass RJxa1e45 = some m.cls := findClass_of_methodNamed B.named
  have hlocks := B.notSynchronized
  have hin : meth.name = "<init>" := (name_of_methodNamed B.named B.method).1
  subst hsz
  have hD := hD0.self (sz := s.heap.size)
  generalize hAe : va_A [(h0, .inr (2, [.int 0, .null, .int 0]))] s.heap.size = A at hD hE ⊢
  have hA : ∀ q : Nat, s.heap.size ≤ q → A q := fun q h => by rw [← hAe]; exact Or.inr h
  have hS : va_S A s.heap s.heap [] := va_S.rf
  have hP : va_P D vwCl [(h0, .inr (2, [.int 0, .null, .int 0]))] s.heap := hP
  have hl := lv_entry ([.ref h0]) (n := 1) (Nat.le_of_ble_eq_true rfl)
  rw [lg_entry_eq]
  generalize (lg_sl ([.ref h0]) ++ List.replicate (1 - (lg_sl ([.ref h0])).length) Slot.unset).toArray = ls at hl ⊢
  have hl : lv_has ls 1 [(0, .ref h0)] := hl
  refine lv_aload_n hx hb dJxa1e45_init_da8c8_0 rfl (lv_at hl 0 rfl) ?_
  refine W.objInit hx hb hown (hts (.methodLink RJxa1e45 1 objectInit) (by decide +kernel)) (hts (.instanceMethod objectInit) (by decide +kernel)) (hts (.code objectInit ⟨#[0xb1]⟩ 1 none) (by decide +kernel)) rfl (by rw [hml]; exact hl.1) rfl dJxa1e45_init_da8c8_1 (Nat.le_of_ble_eq_true rfl) (Nat.le_of_ble_eq_true rfl) ?_
  refine W.eq (g2 := F0 m 4 ls []) rfl ?_
  have hP9 := hP.sub (ws' := [(h0, .inr (2, [.int 0, .null, .int 0]))]) [0] rfl
  have hD9 := hD.sub (ws' := [(h0, .inr (2, [.int 0, .null, .int 0]))]) [0] (by decide) rfl
  have hK9 := hK.sub (tys' := []) [] rfl
  exact W.vret hx hb hr (fun t ht hW => ⟨⟨(), rfl, trivial, ⟨by rw [ht]; exact hP9, va_K.moved hW.alike hK9, hD9⟩⟩, hS.F ht⟩) hS.2.2 dJxa1e45_init_da8c8_4
set_option maxHeartbeats 4000000 in
set_option maxRecDepth 100000 in
theorem k_alist (l : Launch) (D : va_G) (eT : Nat) (h0 : Nat) (sz : Nat) : Met l yJxc12de_init_da8c8 wsJxc12de_init_da8c8 ({ frames := 2, cells := 0, slots := 0, locals := 32 }) (va_Pc [.ref h0] (pc D eT sz [(h0, .inr (2, [.int 0, .null, .int 0]))] [])) (va_Qv (fun (_ : Unit) => True) (fun _ t => va_P D vwCl [(h0, .inr (2, [.int 0, .null, .int 0]))] t.heap ∧ va_K D vwCl [] t ∧ va_D (va_A [(h0, .inr (2, [.int 0, .null, .int 0]))] sz) [(h0, .inr (2, [.int 0, .null, .int 0]))]) (va_A [(h0, .inr (2, [.int 0, .null, .int 0]))] sz)) 0 0 (va_A [(h0, .inr (2, [.int 0, .null, .int 0]))] sz) := by
  refine Met.ofW (cc := cJxc12de_init_da8c8) (maxL := 1) (ret := none) (by decide +kernel) rfl ?_
  intro p e s m args below meth c s₁ B hml hv
  obtain ⟨rfl, hsz, hP, hK, hD0, hE⟩ := hv
  have hx := B.exec
  have hb := B.bytes
  have hr := B.returns
  have hts := atoms_spec (ws := wsJxc12de_init_da8c8) B.pre
  have hown : s.vm.findClass RJxc12de = some m.cls := findClass_of_methodNamed B.named
  have hlocks := B.notSynchronized
  have hin : meth.name = "<init>" := (name_of_methodNamed B.named B.method).1
  subst hsz
  have hD := hD0.self (sz := s.heap.size)
  generalize hAe : va_A [(h0, .inr (2, [.int 0, .null, .int 0]))] s.heap.size = A at hD hE ⊢
  have hA : ∀ q : Nat, s.heap.size ≤ q → A q := fun q h => by rw [← hAe]; exact Or.inr h
  have hS : va_S A s.heap s.heap [] := va_S.rf
  have hP : va_P D vwCl [(h0, .inr (2, [.int 0, .null, .int 0]))] s.heap := hP
  have hl := lv_entry ([.ref h0]) (n := 1) (Nat.le_of_ble_eq_true rfl)
  rw [lg_entry_eq]
  generalize (lg_sl ([.ref h0]) ++ List.replicate (1 - (lg_sl ([.ref h0])).length) Slot.unset).toArray = ls at hl ⊢
  have hl : lv_has ls 1 [(0, .ref h0)] := hl
  refine lv_aload_n hx hb dJxc12de_init_da8c8_0 rfl (lv_at hl 0 rfl) ?_
  have hPc := hP.sub (ws' := [(h0, .inr (2, [.int 0, .null, .int 0]))]) [0] rfl
  have hKc := hK.sub (tys' := []) [] rfl
  have hDc := hD.sub (ws' := [(h0, .inr (2, [.int 0, .null, .int 0]))]) [0] (by decide) rfl
  have hFc := va_free (wc := [(h0, .inr (2, [.int 0, .null, .int 0]))]) hD hS hA [0] rfl
  refine va_callv (va_runI (As := []) (rest := []) ⟨hx, hb, hml, hown, hts⟩ (k_acoll l D eT h0 s.heap.size ) (cwI 0 hts gJxc12de_init_da8c8_Jxa1e45_init_da8c8 rfl rfl rfl (hts (.initialized RJxa1e45) (by decide +kernel)) (hts (.methodLink RJxc12de 1 yJxa1e45_init_da8c8) (by decide +kernel)) (hts (.instanceMethod yJxa1e45_init_da8c8) (by decide +kernel)) rfl (by decide +kernel) ⟨Nat.le_of_ble_eq_true rfl, Nat.le_of_ble_eq_true rfl⟩) (pc_s (As := [.ref h0]) hPc hDc hKc hE hS hFc) rfl rfl hl.1 rfl (lv_room (Nat.le_of_ble_eq_true rfl)) dJxc12de_init_da8c8_1 ⟨Nat.le_of_ble_eq_true rfl, Nat.le_of_ble_eq_true rfl⟩) hS (fun q _ h => hFc q h) hFc (fun u t H1 locs ht hvm hw hB hz1 hk1 hS => ?_)
  obtain ⟨hP1, hK1, hD1⟩ := hB
  rw [ht] at hP1
  have hK1 := va_K.moved hvm.symm hK1
  obtain ⟨hP, hD⟩ := va_join (wr := []) (w1 := [(h0, .inr (2, [.int 0, .null, .int 0]))]) hP hD [0] [] rfl rfl (by decide) (by decide) hk1 hFc hP1 hD1
  generalize H1 = H at hP hS ⊢
  have hP : va_P D vwCl [(h0, .inr (2, [.int 0, .null, .int 0]))] H := hP
  have hD : va_D A [(h0, .inr (2, [.int 0, .null, .int 0]))] := hD
  refine lv_aload_n hx hb dJxc12de_init_da8c8_4 rfl (lv_at hl 0 rfl) ?_
  refine lv_iconst (v := 0) hx hb dJxc12de_init_da8c8_5 (by decide) ?_
  refine va_put (D := D) (ci := 2) (v := .int 0) (C := RJx4a65c) (T := TJx4a65c) (N := 3) hx hb hts (by decide +kernel) tyJx4a65c tyJx4a65c_ok nmJx4a65c hown hK hP hD hS 0 rfl rfl 0 (by decide) (hts (.fieldLink RJxc12de 7 "java/util/AbstractList" "modCount" "I") (by decide +kernel)) (fun _ h9 => h9) rfl (tyJx4a65c_ok 0 (by decide)) rfl rfl (Nat.le_of_ble_eq_true rfl) dJxc12de_init_da8c8_6 (fun H locs hP hD hS => ?_)
  have hP : va_P D vwCl [(h0, .inr (2, [.int 0, .null, .int 0]))] H := hP
  have hD : va_D A [(h0, .inr (2, [.int 0, .null, .int 0]))] := hD
  have hP9 := hP.sub (ws' := [(h0, .inr (2, [.int 0, .null, .int 0]))]) [0] rfl
  have hD9 := hD.sub (ws' := [(h0, .inr (2, [.int 0, .null, .int 0]))]) [0] (by decide) rfl
  have hK9 := hK.sub (tys' := []) [] rfl
  exact W.vret hx hb hr (fun t ht hW => ⟨⟨(), rfl, trivial, ⟨by rw [ht]; exact hP9, va_K.moved hW.alike hK9, hD9⟩⟩, hS.F ht⟩) hS.2.2 dJxc12de_init_da8c8_9
set_option maxHeartbeats 4000000 in
set_option maxRecDepth 100000 in
theorem k_list (l : Launch) (D : va_G) (eT : Nat) (h0 : Nat) (sz : Nat) : Met l yJx4a65c_init_da8c8 wsJx4a65c_init_da8c8 ({ frames := 3, cells := 0, slots := 0, locals := 52 }) (va_Pc [.ref h0] (pc D eT sz [(h0, .inr (2, [.int 0, .null, .int 0]))] [])) (va_Qv (fun (_ : Unit) => True) (fun _ t => va_P D vwCl [(h0, .inr (2, [.int 0, .ref eT, .int 0]))] t.heap ∧ va_K D vwCl [] t ∧ va_D (va_A [(h0, .inr (2, [.int 0, .null, .int 0]))] sz) [(h0, .inr (2, [.int 0, .ref eT, .int 0]))]) (va_A [(h0, .inr (2, [.int 0, .null, .int 0]))] sz)) 0 0 (va_A [(h0, .inr (2, [.int 0, .null, .int 0]))] sz) := by
  refine Met.ofW (cc := cJx4a65c_init_da8c8) (maxL := 1) (ret := none) (by decide +kernel) rfl ?_
  intro p e s m args below meth c s₁ B hml hv
  obtain ⟨rfl, hsz, hP, hK, hD0, hE⟩ := hv
  have hx := B.exec
  have hb := B.bytes
  have hr := B.returns
  have hts := atoms_spec (ws := wsJx4a65c_init_da8c8) B.pre
  have hown : s.vm.findClass RJx4a65c = some m.cls := findClass_of_methodNamed B.named
  have hlocks := B.notSynchronized
  have hin : meth.name = "<init>" := (name_of_methodNamed B.named B.method).1
  subst hsz
  have hD := hD0.self (sz := s.heap.size)
  generalize hAe : va_A [(h0, .inr (2, [.int 0, .null, .int 0]))] s.heap.size = A at hD hE ⊢
  have hA : ∀ q : Nat, s.heap.size ≤ q → A q := fun q h => by rw [← hAe]; exact Or.inr h
  have hS : va_S A s.heap s.heap [] := va_S.rf
  have hP : va_P D vwCl [(h0, .inr (2, [.int 0, .null, .int 0]))] s.heap := hP
  have hl := lv_entry ([.ref h0]) (n := 1) (Nat.le_of_ble_eq_true rfl)
  rw [lg_entry_eq]
  generalize (lg_sl ([.ref h0]) ++ List.replicate (1 - (lg_sl ([.ref h0])).length) Slot.unset).toArray = ls at hl ⊢
  have hl : lv_has ls 1 [(0, .ref h0)] := hl
  refine lv_aload_n hx hb dJx4a65c_init_da8c8_0 rfl (lv_at hl 0 rfl) ?_
  have hPc := hP.sub (ws' := [(h0, .inr (2, [.int 0, .null, .int 0]))]) [0] rfl
  have hKc := hK.sub (tys' := []) [] rfl
  have hDc := hD.sub (ws' := [(h0, .inr (2, [.int 0, .null, .int 0]))]) [0] (by decide) rfl
  have hFc := va_free (wc := [(h0, .inr (2, [.int 0, .null, .int 0]))]) hD hS hA [0] rfl
  refine va_callv (va_runI (As := []) (rest := []) ⟨hx, hb, hml, hown, hts⟩ (k_alist l D eT h0 s.heap.size ) (cwI 0 hts gJx4a65c_init_da8c8_Jxc12de_init_da8c8 rfl rfl rfl (hts (.initialized RJxc12de) (by decide +kernel)) (hts (.methodLink RJx4a65c 1 yJxc12de_init_da8c8) (by decide +kernel)) (hts (.instanceMethod yJxc12de_init_da8c8) (by decide +kernel)) rfl (by decide +kernel) ⟨Nat.le_of_ble_eq_true rfl, Nat.le_of_ble_eq_true rfl⟩) (pc_s (As := [.ref h0]) hPc hDc hKc hE hS hFc) rfl rfl hl.1 rfl (lv_room (Nat.le_of_ble_eq_true rfl)) dJx4a65c_init_da8c8_1 ⟨Nat.le_of_ble_eq_true rfl, Nat.le_of_ble_eq_true rfl⟩) hS (fun q _ h => hFc q h) hFc (fun u t H1 locs ht hvm hw hB hz1 hk1 hS => ?_)
  obtain ⟨hP1, hK1, hD1⟩ := hB
  rw [ht] at hP1
  have hK1 := va_K.moved hvm.symm hK1
  obtain ⟨hP, hD⟩ := va_join (wr := []) (w1 := [(h0, .inr (2, [.int 0, .null, .int 0]))]) hP hD [0] [] rfl rfl (by decide) (by decide) hk1 hFc hP1 hD1
  generalize H1 = H at hP hS ⊢
  have hP : va_P D vwCl [(h0, .inr (2, [.int 0, .null, .int 0]))] H := hP
  have hD : va_D A [(h0, .inr (2, [.int 0, .null, .int 0]))] := hD
  refine lv_aload_n hx hb dJx4a65c_init_da8c8_4 rfl (lv_at hl 0 rfl) ?_
  refine va_gets hx hb hE.2.2.2.2.2.1 hS hown (hts (.fieldLink RJx4a65c 39 "java/util/ArrayList" "DEFAULTCAPACITY_EMPTY_ELEMENTDATA" "[Ljava/lang/Object;") (by decide +kernel)) (fun _ h9 => h9) dJx4a65c_init_da8c8_5 ?_
  refine va_put (D := D) (ci := 2) (v := .ref eT) (C := RJx4a65c) (T := TJx4a65c) (N := 3) hx hb hts (by decide +kernel) tyJx4a65c tyJx4a65c_ok nmJx4a65c hown hK hP hD hS 0 rfl rfl 1 (by decide) (hts (.fieldLink RJx4a65c 9 "java/util/ArrayList" "elementData" "[Ljava/lang/Object;") (by decide +kernel)) (fun _ h9 => h9) rfl (tyJx4a65c_ok 1 (by decide)) rfl rfl (Nat.le_of_ble_eq_true rfl) dJx4a65c_init_da8c8_8 (fun H locs hP hD hS => ?_)
  have hP : va_P D vwCl [(h0, .inr (2, [.int 0, .ref eT, .int 0]))] H := hP
  have hD : va_D A [(h0, .inr (2, [.int 0, .ref eT, .int 0]))] := hD
  have hP9 := hP.sub (ws' := [(h0, .inr (2, [.int 0, .ref eT, .int 0]))]) [0] rfl
  have hD9 := hD.sub (ws' := [(h0, .inr (2, [.int 0, .ref eT, .int 0]))]) [0] (by decide) rfl
  have hK9 := hK.sub (tys' := []) [] rfl
  exact W.vret hx hb hr (fun t ht hW => ⟨⟨(), rfl, trivial, ⟨by rw [ht]; exact hP9, va_K.moved hW.alike hK9, hD9⟩⟩, hS.F ht⟩) hS.2.2 dJx4a65c_init_da8c8_11
set_option maxHeartbeats 4000000 in
set_option maxRecDepth 100000 in
theorem k_itinit (l : Launch) (D : va_G) (eT : Nat) (h0 : Nat) (h1 : Nat) (sz : Nat) : Met l yJx35411_init_45d68 wsJx35411_init_45d68 ({ frames := 1, cells := 0, slots := 0, locals := 12 }) (va_Pc [.ref h0, .ref h1] (pc D eT sz [(h0, .inr (1, [.int 0, .int 0, .int 0, .null])), (h1, .inr (2, [.int 0, .ref eT, .int 0]))] [])) (va_Qv (fun (_ : Unit) => True) (fun _ t => va_P D vwCl [(h0, .inr (1, [.int 0, .int (-1), .int 0, .ref h1])), (h1, .inr (2, [.int 0, .ref eT, .int 0]))] t.heap ∧ va_K D vwCl [] t ∧ va_D (va_A [(h0, .inr (1, [.int 0, .int 0, .int 0, .null])), (h1, .inr (2, [.int 0, .ref eT, .int 0]))] sz) [(h0, .inr (1, [.int 0, .int (-1), .int 0, .ref h1])), (h1, .inr (2, [.int 0, .ref eT, .int 0]))]) (va_A [(h0, .inr (1, [.int 0, .int 0, .int 0, .null])), (h1, .inr (2, [.int 0, .ref eT, .int 0]))] sz)) 0 0 (va_A [(h0, .inr (1, [.int 0, .int 0, .int 0, .null])), (h1, .inr (2, [.int 0, .ref eT, .int 0]))] sz) := by
  refine Met.ofW (cc := cJx35411_init_45d68) (maxL := 2) (ret := none) (by decide +kernel) rfl ?_
  intro p e s m args below meth c s₁ B hml hv
  obtain ⟨rfl, hsz, hP, hK, hD0, hE⟩ := hv
  have hx := B.exec
  have hb := B.bytes
  have hr := B.returns
  have hts := atoms_spec (ws := wsJx35411_init_45d68) B.pre
  have hown : s.vm.findClass RJx35411 = some m.cls := findClass_of_methodNamed B.named
  have hlocks := B.notSynchronized
  have hin : meth.name = "<init>" := (name_of_methodNamed B.named B.method).1
  subst hsz
  have hD := hD0.self (sz := s.heap.size)
  generalize hAe : va_A [(h0, .inr (1, [.int 0, .int 0, .int 0, .null])), (h1, .inr (2, [.int 0, .ref eT, .int 0]))] s.heap.size = A at hD hE ⊢
  have hA : ∀ q : Nat, s.heap.size ≤ q → A q := fun q h => by rw [← hAe]; exact Or.inr h
  have hS : va_S A s.heap s.heap [] := va_S.rf
  have hP : va_P D vwCl [(h0, .inr (1, [.int 0, .int 0, .int 0, .null])), (h1, .inr (2, [.int 0, .ref eT, .int 0]))] s.heap := hP
  have hl := lv_entry ([.ref h0, .ref h1]) (n := 2) (Nat.le_of_ble_eq_true rfl)
  rw [lg_entry_eq]
  generalize (lg_sl ([.ref h0, .ref h1]) ++ List.replicate (2 - (lg_sl ([.ref h0, .ref h1])).length) Slot.unset).toArray = ls at hl ⊢
  have hl : lv_has ls 2 [(0, .ref h0), (1, .ref h1)] := hl
  refine lv_aload_n hx hb dJx35411_init_45d68_0 rfl (lv_at hl 0 rfl) ?_
  refine lv_aload_n hx hb dJx35411_init_45d68_1 rfl (lv_at hl 1 rfl) ?_
  refine va_putF (D := D) (ci := 1) (v := .ref h1) (C := RJx35411) (T := TJx35411) (N := 4) hx hb hts (by decide +kernel) tyJx35411 tyJx35411_ok nmJx35411 hown hK hP hD hS 0 rfl rfl 3 (by decide) (hts (.fieldLink RJx35411 1 "java/util/ArrayList$Itr" "this$0" "Ljava/util/ArrayList;") (by decide +kernel)) (fun _ h9 => h9) rfl hin rfl (tyJx35411_ok 3 (by decide)) rfl rfl (Nat.le_of_ble_eq_true rfl) dJx35411_init_45d68_2 (fun H locs hP hD hS => ?_)
  have hP : va_P D vwCl [(h0, .inr (1, [.int 0, .int 0, .int 0, .ref h1])), (h1, .inr (2, [.int 0, .ref eT, .int 0]))] H := hP
  have hD : va_D A [(h0, .inr (1, [.int 0, .int 0, .int 0, .ref h1])), (h1, .inr (2, [.int 0, .ref eT, .int 0]))] := hD
  refine lv_aload_n hx hb dJx35411_init_45d68_5 rfl (lv_at hl 0 rfl) ?_
  refine W.objInit hx hb hown (hts (.methodLink RJx35411 7 objectInit) (by decide +kernel)) (hts (.instanceMethod objectInit) (by decide +kernel)) (hts (.code objectInit ⟨#[0xb1]⟩ 1 none) (by decide +kernel)) rfl (by rw [hml]; exact hl.1) rfl dJx35411_init_45d68_6 (Nat.le_of_ble_eq_true rfl) (Nat.le_of_ble_eq_true rfl) ?_
  refine W.eq (g2 := F0 m 9 ls []) rfl ?_
  refine lv_aload_n hx hb dJx35411_init_45d68_9 rfl (lv_at hl 0 rfl) ?_
  refine lv_iconst (v := (-1)) hx hb dJx35411_init_45d68_10 (by decide) ?_
  refine va_put (D := D) (ci := 1) (v := .int (-1)) (C := RJx35411) (T := TJx35411) (N := 4) hx hb hts (by decide +kernel) tyJx35411 tyJx35411_ok nmJx35411 hown hK hP hD hS 0 rfl rfl 1 (by decide) (hts (.fieldLink RJx35411 13 "java/util/ArrayList$Itr" "lastRet" "I") (by decide +kernel)) (fun _ h9 => h9) rfl (tyJx35411_ok 1 (by decide)) rfl rfl (Nat.le_of_ble_eq_true rfl) dJx35411_init_45d68_11 (fun H locs hP hD hS => ?_)
  have hP : va_P D vwCl [(h0, .inr (1, [.int 0, .int (-1), .int 0, .ref h1])), (h1, .inr (2, [.int 0, .ref eT, .int 0]))] H := hP
  have hD : va_D A [(h0, .inr (1, [.int 0, .int (-1), .int 0, .ref h1])), (h1, .inr (2, [.int 0, .ref eT, .int 0]))] := hD
  refine lv_aload_n hx hb dJx35411_init_45d68_14 rfl (lv_at hl 0 rfl) ?_
  refine lv_aload_n hx hb dJx35411_init_45d68_15 rfl (lv_at hl 0 rfl) ?_
  refine va_get (D := D) (ci := 1) (v := .ref h1) (C := RJx35411) (T := TJx35411) (N := 4) hx hb hts (by decide +kernel) hown hK hP 0 rfl rfl 3 (by decide) (hts (.fieldLink RJx35411 1 "java/util/ArrayList$Itr" "this$0" "Ljava/util/ArrayList;") (by decide +kernel)) (fun _ h9 => h9) rfl dJx35411_init_45d68_16 ?_
  refine va_get (D := D) (ci := 2) (v := .int 0) (C := RJx4a65c) (T := TJx4a65c) (N := 3) hx hb hts (by decide +kernel) hown hK hP 1 rfl rfl 0 (by decide) (hts (.fieldLink RJx35411 17 "java/util/ArrayList" "modCount" "I") (by decide +kernel)) (fun x h9 => u_same (hts (.sameField "java/util/ArrayList" "java/util/AbstractList" "modCount" "I") (by decide +kernel)) x h9) rfl dJx35411_init_45d68_19 ?_
  refine va_put (D := D) (ci := 1) (v := .int 0) (C := RJx35411) (T := TJx35411) (N := 4) hx hb hts (by decide +kernel) tyJx35411 tyJx35411_ok nmJx35411 hown hK hP hD hS 0 rfl rfl 2 (by decide) (hts (.fieldLink RJx35411 22 "java/util/ArrayList$Itr" "expectedModCount" "I") (by decide +kernel)) (fun _ h9 => h9) rfl (tyJx35411_ok 2 (by decide)) rfl rfl (Nat.le_of_ble_eq_true rfl) dJx35411_init_45d68_22 (fun H locs hP hD hS => ?_)
  have hP : va_P D vwCl [(h0, .inr (1, [.int 0, .int (-1), .int 0, .ref h1])), (h1, .inr (2, [.int 0, .ref eT, .int 0]))] H := hP
  have hD : va_D A [(h0, .inr (1, [.int 0, .int (-1), .int 0, .ref h1])), (h1, .inr (2, [.int 0, .ref eT, .int 0]))] := hD
  have hP9 := hP.sub (ws' := [(h0, .inr (1, [.int 0, .int (-1), .int 0, .ref h1])), (h1, .inr (2, [.int 0, .ref eT, .int 0]))]) [0, 1] rfl
  have hD9 := hD.sub (ws' := [(h0, .inr (1, [.int 0, .int (-1), .int 0, .ref h1])), (h1, .inr (2, [.int 0, .ref eT, .int 0]))]) [0, 1] (by decide) rfl
  have hK9 := hK.sub (tys' := []) [] rfl
  exact W.vret hx hb hr (fun t ht hW => ⟨⟨(), rfl, trivial, ⟨by rw [ht]; exact hP9, va_K.moved hW.alike hK9, hD9⟩⟩, hS.F ht⟩) hS.2.2 dJx35411_init_45d68_25
set_option maxHeartbeats 4000000 in
set_option maxRecDepth 100000 in
theorem k_iter (l : Launch) (D : va_G) (eT : Nat) (h0 : Nat) (sz : Nat) : Met l yJx4a65c_iterator_32c93 wsJx4a65c_iterator_32c93 ({ frames := 2, cells := 1, slots := 4, locals := 33 }) (va_Pc [.ref h0] (pc D eT sz [(h0, .inr (2, [.int 0, .ref eT, .int 0]))] [])) (va_Qr (fun (_ : Unit) => True) (fun _ ra t => va_P D vwCl [(h0, .inr (2, [.int 0, .ref eT, .int 0])), (ra, .inr (1, [.int 0, .int (-1), .int 0, .ref h0]))] t.heap ∧ va_K D vwCl [] t ∧ va_D (va_A [(h0, .inr (2, [.int 0, .ref eT, .int 0]))] sz) [(h0, .inr (2, [.int 0, .ref eT, .int 0])), (ra, .inr (1, [.int 0, .int (-1), .int 0, .ref h0]))]) (va_A [(h0, .inr (2, [.int 0, .ref eT, .int 0]))] sz)) 1 4 (va_A [(h0, .inr (2, [.int 0, .ref eT, .int 0]))] sz) := by
  refine Met.ofW (cc := cJx4a65c_iterator_32c93) (maxL := 1) (ret := (some (.object "java/util/Iterator"))) (by decide +kernel) rfl ?_
  intro p e s m args below meth c s₁ B hml hv
  obtain ⟨rfl, hsz, hP, hK, hD0, hE⟩ := hv
  have hx := B.exec
  have hb := B.bytes
  have hr := B.returns
  have hts := atoms_spec (ws := wsJx4a65c_iterator_32c93) B.pre
  have hown : s.vm.findClass RJx4a65c = some m.cls := findClass_of_methodNamed B.named
  have hlocks := B.notSynchronized
  subst hsz
  have hD := hD0.self (sz := s.heap.size)
  generalize hAe : va_A [(h0, .inr (2, [.int 0, .ref eT, .int 0]))] s.heap.size = A at hD hE ⊢
  have hA : ∀ q : Nat, s.heap.size ≤ q → A q := fun q h => by rw [← hAe]; exact Or.inr h
  have hS : va_S A s.heap s.heap [] := va_S.rf
  have hP : va_P D vwCl [(h0, .inr (2, [.int 0, .ref eT, .int 0]))] s.heap := hP
  have hl := lv_entry ([.ref h0]) (n := 1) (Nat.le_of_ble_eq_true rfl)
  rw [lg_entry_eq]
  generalize (lg_sl ([.ref h0]) ++ List.replicate (1 - (lg_sl ([.ref h0])).length) Slot.unset).toArray = ls at hl ⊢
  have hl : lv_has ls 1 [(0, .ref h0)] := hl
  refine va_new (ci := 1) (fs := [.int 0, .int 0, .int 0, .null]) (C := RJx35411) (T := TJx35411) (N := 4) hx hb hts (by decide +kernel) tyJx35411 tyJx35411_ok hown (hts (.classLink RJx4a65c 267 RJx35411) (by decide +kernel)) (hts (.instantiable RJx35411 4) (by decide +kernel)) (hts (.initialized RJx35411) (by decide +kernel)) hK hP hD hS hA rfl (fun j hj => by rcases (show j = 0 ∨ j = 1 ∨ j = 2 ∨ j = 3 by omega) with rfl | rfl | rfl | rfl <;> rfl) (Nat.le_of_ble_eq_true rfl) (Nat.le_of_ble_eq_true rfl) dJx4a65c_iterator_32c93_0 (fun q_1 H hP hD hS => ?_)
  have hP : va_P D vwCl [(h0, .inr (2, [.int 0, .ref eT, .int 0])), (q_1, .inr (1, [.int 0, .int 0, .int 0, .null]))] H := hP
  have hD : va_D A [(h0, .inr (2, [.int 0, .ref eT, .int 0])), (q_1, .inr (1, [.int 0, .int 0, .int 0, .null]))] := hD
  refine W.widen (k := 1) (n := 4) (Nat.le_of_ble_eq_true rfl) (Nat.le_of_ble_eq_true rfl) ?_
  refine lv_dup hx hb dJx4a65c_iterator_32c93_3 rfl ?_
  refine lv_aload_n hx hb dJx4a65c_iterator_32c93_4 rfl (lv_at hl 0 rfl) ?_
  have hPc := hP.sub (ws' := [(q_1, .inr (1, [.int 0, .int 0, .int 0, .null])), (h0, .inr (2, [.int 0, .ref eT, .int 0]))]) [1, 0] rfl
  have hKc := hK.sub (tys' := []) [] rfl
  have hDc := hD.sub (ws' := [(q_1, .inr (1, [.int 0, .int 0, .int 0, .null])), (h0, .inr (2, [.int 0, .ref eT, .int 0]))]) [1, 0] (by decide) rfl
  have hFc := va_free (wc := [(q_1, .inr (1, [.int 0, .int 0, .int 0, .null])), (h0, .inr (2, [.int 0, .ref eT, .int 0]))]) hD hS hA [1, 0] rfl
  refine va_callv (va_runI (As := [.ref h0]) (rest := [.ref q_1]) ⟨hx, hb, hml, hown, hts⟩ (k_itinit l D eT q_1 h0 H.size ) (cwI 1 hts gJx4a65c_iterator_32c93_Jx35411_init_45d68 rfl rfl rfl (hts (.initialized RJx35411) (by decide +kernel)) (hts (.methodLink RJx4a65c 269 yJx35411_init_45d68) (by decide +kernel)) (hts (.instanceMethod yJx35411_init_45d68) (by decide +kernel)) rfl (by decide +kernel) ⟨Nat.le_of_ble_eq_true rfl, Nat.le_of_ble_eq_true rfl⟩) (pc_s (As := [.ref q_1, .ref h0]) hPc hDc hKc hE hS hFc) rfl rfl hl.1 rfl (lv_room (Nat.le_of_ble_eq_true rfl)) dJx4a65c_iterator_32c93_5 ⟨Nat.le_of_ble_eq_true rfl, Nat.le_of_ble_eq_true rfl⟩) hS (fun q _ h => hFc q h) hFc (fun u t H1 locs ht hvm hw hB hz1 hk1 hS => ?_)
  obtain ⟨hP1, hK1, hD1⟩ := hB
  rw [ht] at hP1
  have hK1 := va_K.moved hvm.symm hK1
  obtain ⟨hP, hD⟩ := va_join (wr := []) (w1 := [(q_1, .inr (1, [.int 0, .int (-1), .int 0, .ref h0])), (h0, .inr (2, [.int 0, .ref eT, .int 0]))]) hP hD [1, 0] [] rfl rfl (by decide) (by decide) hk1 hFc hP1 hD1
  generalize H1 = H at hP hS ⊢
  have hP : va_P D vwCl [(q_1, .inr (1, [.int 0, .int (-1), .int 0, .ref h0])), (h0, .inr (2, [.int 0, .ref eT, .int 0]))] H := hP
  have hD : va_D A [(q_1, .inr (1, [.int 0, .int (-1), .int 0, .ref h0])), (h0, .inr (2, [.int 0, .ref eT, .int 0]))] := hD
  have hP9 := hP.sub (ws' := [(h0, .inr (2, [.int 0, .ref eT, .int 0])), (q_1, .inr (1, [.int 0, .int (-1), .int 0, .ref h0]))]) [1, 0] rfl
  have hD9 := hD.sub (ws' := [(h0, .inr (2, [.int 0, .ref eT, .int 0])), (q_1, .inr (1, [.int 0, .int (-1), .int 0, .ref h0]))]) [1, 0] (by decide) rfl
  have hK9 := hK.sub (tys' := []) [] rfl
  exact W.aret (v := .ref q_1) hx hb hr (Or.inl ⟨_, rfl⟩) (Or.inr ⟨_, rfl⟩) (fun t ht hW => ⟨⟨(), q_1, rfl, trivial, ⟨by rw [ht]; exact hP9, va_K.moved hW.alike hK9, hD9⟩⟩, hS.F ht⟩) hS.2.2 dJx4a65c_iterator_32c93_8
set_option maxHeartbeats 4000000 in
set_option maxRecDepth 100000 in
theorem k_hasNext (l : Launch) (D : va_G) (eT : Nat) (h0 : Nat) (h1 : Nat) (sz : Nat) : Met l yJx35411_hasNext_aae02 wsJx35411_hasNext_aae02 ({ frames := 0, cells := 0, slots := 0, locals := 0 }) (va_Pc [.ref h0] (pr D eT sz [(h0, .inr (1, [.int 0, .int (-1), .int 0, .ref h1])), (h1, .inr (2, [.int 0, .ref eT, .int 0]))] [])) (va_Qi (fun (r : Int32) (_ : Unit) => r = 0) (fun _ _ => True) (fun q => sz ≤ q)) 0 0 (fun q => sz ≤ q) := by
  refine Met.ofW (cc := cJx35411_hasNext_aae02) (maxL := 1) (ret := (some .boolean)) (by decide +kernel) rfl ?_
  intro p e s m args below meth c s₁ B hml hv
  obtain ⟨rfl, hsz, hP, hK, hE⟩ := hv
  have hx := B.exec
  have hb := B.bytes
  have hr := B.returns
  have hts := atoms_spec (ws := wsJx35411_hasNext_aae02) B.pre
  have hown : s.vm.findClass RJx35411 = some m.cls := findClass_of_methodNamed B.named
  have hlocks := B.notSynchronized
  subst hsz
  have hA : ∀ q : Nat, s.heap.size ≤ q → (fun q : Nat => s.heap.size ≤ q) q := fun _ h => h
  have hS : va_S (fun q : Nat => s.heap.size ≤ q) s.heap s.heap [] := va_S.rf
  have hP : va_P D vwCl [(h0, .inr (1, [.int 0, .int (-1), .int 0, .ref h1])), (h1, .inr (2, [.int 0, .ref eT, .int 0]))] s.heap := hP
  have hl := lv_entry ([.ref h0]) (n := 1) (Nat.le_of_ble_eq_true rfl)
  rw [lg_entry_eq]
  generalize (lg_sl ([.ref h0]) ++ List.replicate (1 - (lg_sl ([.ref h0])).length) Slot.unset).toArray = ls at hl ⊢
  have hl : lv_has ls 1 [(0, .ref h0)] := hl
  refine lv_aload_n hx hb dJx35411_hasNext_aae02_0 rfl (lv_at hl 0 rfl) ?_
  refine va_get (D := D) (ci := 1) (v := .int 0) (C := RJx35411) (T := TJx35411) (N := 4) hx hb hts (by decide +kernel) hown hK hP 0 rfl rfl 0 (by decide) (hts (.fieldLink RJx35411 25 "java/util/ArrayList$Itr" "cursor" "I") (by decide +kernel)) (fun _ h9 => h9) rfl dJx35411_hasNext_aae02_1 ?_
  refine lv_aload_n hx hb dJx35411_hasNext_aae02_4 rfl (lv_at hl 0 rfl) ?_
  refine va_get (D := D) (ci := 1) (v := .ref h1) (C := RJx35411) (T := TJx35411) (N := 4) hx hb hts (by decide +kernel) hown hK hP 0 rfl rfl 3 (by decide) (hts (.fieldLink RJx35411 1 "java/util/ArrayList$Itr" "this$0" "Ljava/util/ArrayList;") (by decide +kernel)) (fun _ h9 => h9) rfl dJx35411_hasNext_aae02_5 ?_
  refine va_getN (D := D) (ci := 2) (v := .int 0) (C := RJx4a65c) (T := TJx4a65c) (N := 3) hx hb hts (by decide +kernel) hown hK hP 1 rfl rfl 2 (by decide) (va_Nw.use rfl hE.1.2.2.2.1) (fun _ h9 => h9) rfl dJx35411_hasNext_aae02_8 ?_
  refine lv_icmp_eq (tgt := 18) hx hb dJx35411_hasNext_aae02_11 (by decide) (fun _ => ?_) (fun h => absurd (by decide) h)
  refine lv_iconst (v := 0) hx hb dJx35411_hasNext_aae02_18 (by decide) ?_
  exact W.zret (v := 0) (ty := .boolean) hx hb hr (by decide +kernel) (fun t ht hW => ⟨⟨0, (), rfl, rfl, trivial⟩, hS.F ht⟩) hS.2.2 dJx35411_hasNext_aae02_19
set_option maxHeartbeats 4000000 in
set_option maxRecDepth 100000 in
theorem k_is_t (l : Launch) (D : va_G) (eT : Nat) (v : Int32) (lo : Int32) (hi : Int32) (sz : Nat) (h1 : lo ≤ v) (h2 : v ≤ hi) : Met l yX5_is wsX5_is ({ frames := 0, cells := 0, slots := 0, locals := 0 }) (va_Pc [.int v, .int lo, .int hi] (pr D eT sz [] [])) (va_Qi (fun (r : Int32) (_ : Unit) => r = 1) (fun _ _ => True) (fun q => sz ≤ q)) 0 0 (fun q => sz ≤ q) := by
  refine Met.ofW (cc := cX5_is) (maxL := 3) (ret := (some .boolean)) (by decide +kernel) rfl ?_
  intro p e s m args below meth c s₁ B hml hv
  obtain ⟨rfl, hsz, hP, hK, hE⟩ := hv
  have hx := B.exec
  have hb := B.bytes
  have hr := B.returns
  have hts := atoms_spec (ws := wsX5_is) B.pre
  have hown : s.vm.findClass RX5 = some m.cls := findClass_of_methodNamed B.named
  have hlocks := B.notSynchronized
  subst hsz
  have hA : ∀ q : Nat, s.heap.size ≤ q → (fun q : Nat => s.heap.size ≤ q) q := fun _ h => h
  have hS : va_S (fun q : Nat => s.heap.size ≤ q) s.heap s.heap [] := va_S.rf
  have hP : va_P D vwCl [] s.heap := hP
  have hl := lv_entry ([.int v, .int lo, .int hi]) (n := 3) (Nat.le_of_ble_eq_true rfl)
  rw [lg_entry_eq]
  generalize (lg_sl ([.int v, .int lo, .int hi]) ++ List.replicate (3 - (lg_sl ([.int v, .int lo, .int hi])).length) Slot.unset).toArray = ls at hl ⊢
  have hl : lv_has ls 3 [(0, .int v), (1, .int lo), (2, .int hi)] := hl
  refine lv_iload_n hx hb dX5_is_0 rfl (lv_at hl 0 rfl) ?_
  refine lv_iload_n hx hb dX5_is_1 rfl (lv_at hl 1 rfl) ?_
  refine lv_icmp_lt (tgt := 14) hx hb dX5_is_2 (by decide) (fun h => absurd h (i_le h1)) (fun hc => ?_)
  refine lv_iload_n hx hb dX5_is_5 rfl (lv_at hl 0 rfl) ?_
  refine lv_iload_n hx hb dX5_is_6 rfl (lv_at hl 2 rfl) ?_
  refine lv_icmp_gt (tgt := 14) hx hb dX5_is_7 (by decide) (fun h => absurd h (i_le h2)) (fun hc => ?_)
  refine lv_iconst (v := 1) hx hb dX5_is_10 (by decide) ?_
  refine lv_goto (tgt := 15) hx hb dX5_is_11 (by decide) ?_
  exact W.zret (v := 1) (ty := .boolean) hx hb hr (by decide +kernel) (fun t ht hW => ⟨⟨1, (), rfl, rfl, trivial⟩, hS.F ht⟩) hS.2.2 dX5_is_15
set_option maxHeartbeats 4000000 in
set_option maxRecDepth 100000 in
theorem k_is_f (l : Launch) (D : va_G) (eT : Nat) (v : Int32) (lo : Int32) (hi : Int32) (sz : Nat) (hn : ¬ (lo ≤ v ∧ v ≤ hi)) : Met l yX5_is wsX5_is ({ frames := 0, cells := 0, slots := 0, locals := 0 }) (va_Pc [.int v, .int lo, .int hi] (pr D eT sz [] [])) (va_Qi (fun (r : Int32) (_ : Unit) => r = 0) (fun _ _ => True) (fun q => sz ≤ q)) 0 0 (fun q => sz ≤ q) := by
  refine Met.ofW (cc := cX5_is) (maxL := 3) (ret := (some .boolean)) (by decide +kernel) rfl ?_
  intro p e s m args below meth c s₁ B hml hv
  obtain ⟨rfl, hsz, hP, hK, hE⟩ := hv
  have hx := B.exec
  have hb := B.bytes
  have hr := B.returns
  have hts := atoms_spec (ws := wsX5_is) B.pre
  have hown : s.vm.findClass RX5 = some m.cls := findClass_of_methodNamed B.named
  have hlocks := B.notSynchronized
  subst hsz
  have hA : ∀ q : Nat, s.heap.size ≤ q → (fun q : Nat => s.heap.size ≤ q) q := fun _ h => h
  have hS : va_S (fun q : Nat => s.heap.size ≤ q) s.heap s.heap [] := va_S.rf
  have hP : va_P D vwCl [] s.heap := hP
  have hl := lv_entry ([.int v, .int lo, .int hi]) (n := 3) (Nat.le_of_ble_eq_true rfl)
  rw [lg_entry_eq]
  generalize (lg_sl ([.int v, .int lo, .int hi]) ++ List.replicate (3 - (lg_sl ([.int v, .int lo, .int hi])).length) Slot.unset).toArray = ls at hl ⊢
  have hl : lv_has ls 3 [(0, .int v), (1, .int lo), (2, .int hi)] := hl
  refine lv_iload_n hx hb dX5_is_0 rfl (lv_at hl 0 rfl) ?_
  refine lv_iload_n hx hb dX5_is_1 rfl (lv_at hl 1 rfl) ?_
  refine lv_icmp_lt (tgt := 14) hx hb dX5_is_2 (by decide) (fun h1 => ?_) (fun h1 => ?_)
  · skip
    refine lv_iconst (v := 0) hx hb dX5_is_14 (by decide) ?_
    exact W.zret (v := 0) (ty := .boolean) hx hb hr (by decide +kernel) (fun t ht hW => ⟨⟨0, (), rfl, rfl, trivial⟩, hS.F ht⟩) hS.2.2 dX5_is_15
  · skip
    refine lv_iload_n hx hb dX5_is_5 rfl (lv_at hl 0 rfl) ?_
    refine lv_iload_n hx hb dX5_is_6 rfl (lv_at hl 2 rfl) ?_
    refine lv_icmp_gt (tgt := 14) hx hb dX5_is_7 (by decide) (fun hc => ?_) (fun h => absurd ⟨i_nlt h1, i_nlt h⟩ hn)
    refine lv_iconst (v := 0) hx hb dX5_is_14 (by decide) ?_
    exact W.zret (v := 0) (ty := .boolean) hx hb hr (by decide +kernel) (fun t ht hW => ⟨⟨0, (), rfl, rfl, trivial⟩, hS.F ht⟩) hS.2.2 dX5_is_15
set_option maxHeartbeats 4000000 in
set_option maxRecDepth 100000 in
theorem r_isHouse (l : Launch) (D : va_G) (eT : Nat) (h0 : Nat) (lH : Nat) (lB : Nat) (lJ : Nat) (aR : Nat) (aL : Nat) (lC : Nat) (aM : Nat) (aP : Nat) (sm : Int64) (p0 : Int32) (sz : Nat) : Met l yX5_isHouse wsX5_isHouse ({ frames := 1, cells := 0, slots := 0, locals := 22 }) (va_Pc [.ref h0, .int p0] (pr D eT sz [(h0, .inr (8, [.int 0, .ref lH, .ref lB, .ref lJ, .ref aR, .ref aL, .int 0, .int 0, .int 0, .ref lC, .ref aM, .ref aP, .int 0, .int 0, .int 0, .int (-1), .int (-1), .int 0, .int 0, .long sm])), (lH, .inr (2, [.int 0, .ref eT, .int 0]))] [])) (va_Qi (fun (r : Int32) (_ : Unit) => r = 0) (fun _ _ => True) (fun q => sz ≤ q)) 0 0 (fun q => sz ≤ q) := by
  refine Met.ofW (cc := cX5_isHouse) (maxL := 2) (ret := (some .boolean)) (by decide +kernel) rfl ?_
  intro p e s m args below meth c s₁ B hml hv
  obtain ⟨rfl, hsz, hP, hK, hE⟩ := hv
  have hx := B.exec
  have hb := B.bytes
  have hr := B.returns
  have hts := atoms_spec (ws := wsX5_isHouse) B.pre
  have hown : s.vm.findClass RX5 = some m.cls := findClass_of_methodNamed B.named
  have hlocks := B.notSynchronized
  subst hsz
  have hA : ∀ q : Nat, s.heap.size ≤ q → (fun q : Nat => s.heap.size ≤ q) q := fun _ h => h
  have hS : va_S (fun q : Nat => s.heap.size ≤ q) s.heap s.heap [] := va_S.rf
  have hP : va_P D vwCl [(h0, .inr (8, [.int 0, .ref lH, .ref lB, .ref lJ, .ref aR, .ref aL, .int 0, .int 0, .int 0, .ref lC, .ref aM, .ref aP, .int 0, .int 0, .int 0, .int (-1), .int (-1), .int 0, .int 0, .long sm])), (lH, .inr (2, [.int 0, .ref eT, .int 0]))] s.heap := hP
  have hl := lv_entry ([.ref h0, .int p0]) (n := 2) (Nat.le_of_ble_eq_true rfl)
  rw [lg_entry_eq]
  generalize (lg_sl ([.ref h0, .int p0]) ++ List.replicate (2 - (lg_sl ([.ref h0, .int p0])).length) Slot.unset).toArray = ls at hl ⊢
  have hl : lv_has ls 2 [(0, .ref h0), (1, .int p0)] := hl
  refine lv_iload_n hx hb dX5_isHouse_0 rfl (lv_at hl 1 rfl) ?_
  refine lv_iconst (v := 0) hx hb dX5_isHouse_1 (by decide) ?_
  refine lv_aload_n hx hb dX5_isHouse_2 rfl (lv_at hl 0 rfl) ?_
  refine va_get (D := D) (ci := 8) (v := .ref lH) (C := RX5) (T := TX5) (N := 20) hx hb hts (by decide +kernel) hown hK hP 0 rfl rfl 1 (by decide) (hts (.fieldLink RX5 10 "PrizeHouseModel" "houses" "Ljava/util/ArrayList;") (by decide +kernel)) (fun _ h9 => h9) rfl dX5_isHouse_3 ?_
  have hPc := hP.sub (ws' := [(lH, .inr (2, [.int 0, .ref eT, .int 0]))]) [1] rfl
  have hKc := hK.sub (tys' := []) [] rfl
  refine va_calli (va_runV (As := []) (rest := [.int 0, .int p0]) ⟨hx, hb, hml, hown, hts⟩ (k_size l D eT lH eT 0 0 s.heap.size ) (cwV 0 hts gX5_isHouse_Jx4a65c_size_8abf5 rfl rfl rfl (by decide +kernel) ⟨Nat.le_of_ble_eq_true rfl, Nat.le_of_ble_eq_true rfl⟩) (pr_v (ci := 2) (q0 := 0) rfl rfl hPc hKc hE hS hA) rfl rfl hl.1 rfl (lv_room (Nat.le_of_ble_eq_true rfl)) dX5_isHouse_6 ⟨Nat.le_of_ble_eq_true rfl, Nat.le_of_ble_eq_true rfl⟩) hS (fun q h1 h2 => ro_A h1 h2) (fun q h => ro_F hS hA q h) (fun r u t H1 locs ht hvm hw hB hz1 hk1 hS => ?_)
  have hw : r = 0 := hw
  rw [hw]
  have hP := ro_P hP hk1
  generalize H1 = H at hP hS ⊢
  refine lv_iconst (v := 1) hx hb dX5_isHouse_9 (by decide) ?_
  refine lv_isub hx hb dX5_isHouse_10 ?_
  refine lv_topi (fun z_1 ez_1 => ?_)
  have ez_1 : z_1 = (-1) := ez_1.trans (by decide +kernel)
  rw [ez_1]
  have hPc := hP.sub (ws' := []) [] rfl
  have hKc := hK.sub (tys' := []) [] rfl
  refine va_calli (va_runS (As := [.int p0, .int 0, .int (-1)]) (rest := []) ⟨hx, hb, hml, hown, hts⟩ (k_is_f l D eT p0 0 (-1) H.size (fun h => absurd (Int32.le_trans h.1 h.2) (by decide))) (va_cwS 3 hts gX5_isHouse_X5_is rfl rfl rfl (by decide +kernel) ⟨Nat.le_of_ble_eq_true rfl, Nat.le_of_ble_eq_true rfl⟩) (pr_s hPc hKc hE hS hA) rfl rfl hl.1 rfl (lv_room (Nat.le_of_ble_eq_true rfl)) dX5_isHouse_11 ⟨Nat.le_of_ble_eq_true rfl, Nat.le_of_ble_eq_true rfl⟩) hS (fun q h1 h2 => ro_A h1 h2) (fun q h => ro_F hS hA q h) (fun r u t H1 locs ht hvm hw hB hz1 hk1 hS => ?_)
  have hw : r = 0 := hw
  rw [hw]
  have hP := ro_P hP hk1
  generalize H1 = H at hP hS ⊢
  exact W.zret (v := 0) (ty := .boolean) hx hb hr (by decide +kernel) (fun t ht hW => ⟨⟨0, (), rfl, rfl, trivial⟩, hS.F ht⟩) hS.2.2 dX5_isHouse_14
set_option maxHeartbeats 4000000 in
set_option maxRecDepth 100000 in
theorem r_isBook (l : Launch) (D : va_G) (eT : Nat) (h0 : Nat) (lH : Nat) (lB : Nat) (lJ : Nat) (aR : Nat) (aL : Nat) (lC : Nat) (aM : Nat) (aP : Nat) (sm : Int64) (p0 : Int32) (sz : Nat) : Met l yX5_isBook wsX5_isBook ({ frames := 1, cells := 0, slots := 0, locals := 22 }) (va_Pc [.ref h0, .int p0] (pr D eT sz [(h0, .inr (8, [.int 0, .ref lH, .ref lB, .ref lJ, .ref aR, .ref aL, .int 0, .int 0, .int 0, .ref lC, .ref aM, .ref aP, .int 0, .int 0, .int 0, .int (-1), .int (-1), .int 0, .int 0, .long sm])), (lB, .inr (2, [.int 0, .ref eT, .int 0]))] [])) (va_Qi (fun (r : Int32) (_ : Unit) => r = 0) (fun _ _ => True) (fun q => sz ≤ q)) 0 0 (fun q => sz ≤ q) := by
  refine Met.ofW (cc := cX5_isBook) (maxL := 2) (ret := (some .boolean)) (by decide +kernel) rfl ?_
  intro p e s m args below meth c s₁ B hml hv
  obtain ⟨rfl, hsz, hP, hK, hE⟩ := hv
  have hx := B.exec
  have hb := B.bytes
  have hr := B.returns
  have hts := atoms_spec (ws := wsX5_isBook) B.pre
  have hown : s.vm.findClass RX5 = some m.cls := findClass_of_methodNamed B.named
  have hlocks := B.notSynchronized
  subst hsz
  have hA : ∀ q : Nat, s.heap.size ≤ q → (fun q : Nat => s.heap.size ≤ q) q := fun _ h => h
  have hS : va_S (fun q : Nat => s.heap.size ≤ q) s.heap s.heap [] := va_S.rf
  have hP : va_P D vwCl [(h0, .inr (8, [.int 0, .ref lH, .ref lB, .ref lJ, .ref aR, .ref aL, .int 0, .int 0, .int 0, .ref lC, .ref aM, .ref aP, .int 0, .int 0, .int 0, .int (-1), .int (-1), .int 0, .int 0, .long sm])), (lB, .inr (2, [.int 0, .ref eT, .int 0]))] s.heap := hP
  have hl := lv_entry ([.ref h0, .int p0]) (n := 2) (Nat.le_of_ble_eq_true rfl)
  rw [lg_entry_eq]
  generalize (lg_sl ([.ref h0, .int p0]) ++ List.replicate (2 - (lg_sl ([.ref h0, .int p0])).length) Slot.unset).toArray = ls at hl ⊢
  have hl : lv_has ls 2 [(0, .ref h0), (1, .int p0)] := hl
  refine lv_iload_n hx hb dX5_isBook_0 rfl (lv_at hl 1 rfl) ?_
  refine lv_iconst (v := 0) hx hb dX5_isBook_1 (by decide) ?_
  refine lv_aload_n hx hb dX5_isBook_2 rfl (lv_at hl 0 rfl) ?_
  refine va_get (D := D) (ci := 8) (v := .ref lB) (C := RX5) (T := TX5) (N := 20) hx hb hts (by decide +kernel) hown hK hP 0 rfl rfl 2 (by decide) (hts (.fieldLink RX5 16 "PrizeHouseModel" "books" "Ljava/util/ArrayList;") (by decide +kernel)) (fun _ h9 => h9) rfl dX5_isBook_3 ?_
  have hPc := hP.sub (ws' := [(lB, .inr (2, [.int 0, .ref eT, .int 0]))]) [1] rfl
  have hKc := hK.sub (tys' := []) [] rfl
  refine va_calli (va_runV (As := []) (rest := [.int 0, .int p0]) ⟨hx, hb, hml, hown, hts⟩ (k_size l D eT lB eT 0 0 s.heap.size ) (cwV 0 hts gX5_isBook_Jx4a65c_size_8abf5 rfl rfl rfl (by decide +kernel) ⟨Nat.le_of_ble_eq_true rfl, Nat.le_of_ble_eq_true rfl⟩) (pr_v (ci := 2) (q0 := 0) rfl rfl hPc hKc hE hS hA) rfl rfl hl.1 rfl (lv_room (Nat.le_of_ble_eq_true rfl)) dX5_isBook_6 ⟨Nat.le_of_ble_eq_true rfl, Nat.le_of_ble_eq_true rfl⟩) hS (fun q h1 h2 => ro_A h1 h2) (fun q h => ro_F hS hA q h) (fun r u t H1 locs ht hvm hw hB hz1 hk1 hS => ?_)
  have hw : r = 0 := hw
  rw [hw]
  have hP := ro_P hP hk1
  generalize H1 = H at hP hS ⊢
  refine lv_iconst (v := 1) hx hb dX5_isBook_9 (by decide) ?_
  refine lv_isub hx hb dX5_isBook_10 ?_
  refine lv_topi (fun z_1 ez_1 => ?_)
  have ez_1 : z_1 = (-1) := ez_1.trans (by decide +kernel)
  rw [ez_1]
  have hPc := hP.sub (ws' := []) [] rfl
  have hKc := hK.sub (tys' := []) [] rfl
  refine va_calli (va_runS (As := [.int p0, .int 0, .int (-1)]) (rest := []) ⟨hx, hb, hml, hown, hts⟩ (k_is_f l D eT p0 0 (-1) H.size (fun h => absurd (Int32.le_trans h.1 h.2) (by decide))) (va_cwS 3 hts gX5_isBook_X5_is rfl rfl rfl (by decide +kernel) ⟨Nat.le_of_ble_eq_true rfl, Nat.le_of_ble_eq_true rfl⟩) (pr_s hPc hKc hE hS hA) rfl rfl hl.1 rfl (lv_room (Nat.le_of_ble_eq_true rfl)) dX5_isBook_11 ⟨Nat.le_of_ble_eq_true rfl, Nat.le_of_ble_eq_true rfl⟩) hS (fun q h1 h2 => ro_A h1 h2) (fun q h => ro_F hS hA q h) (fun r u t H1 locs ht hvm hw hB hz1 hk1 hS => ?_)
  have hw : r = 0 := hw
  rw [hw]
  have hP := ro_P hP hk1
  generalize H1 = H at hP hS ⊢
  exact W.zret (v := 0) (ty := .boolean) hx hb hr (by decide +kernel) (fun t ht hW => ⟨⟨0, (), rfl, rfl, trivial⟩, hS.F ht⟩) hS.2.2 dX5_isBook_14
set_option maxHeartbeats 4000000 in
set_option maxRecDepth 100000 in
theorem r_isJudge (l : Launch) (D : va_G) (eT : Nat) (h0 : Nat) (lH : Nat) (lB : Nat) (lJ : Nat) (aR : Nat) (aL : Nat) (lC : Nat) (aM : Nat) (aP : Nat) (sm : Int64) (p0 : Int32) (sz : Nat) : Met l yX5_isJudge wsX5_isJudge ({ frames := 1, cells := 0, slots := 0, locals := 22 }) (va_Pc [.ref h0, .int p0] (pr D eT sz [(h0, .inr (8, [.int 0, .ref lH, .ref lB, .ref lJ, .ref aR, .ref aL, .int 0, .int 0, .int 0, .ref lC, .ref aM, .ref aP, .int 0, .int 0, .int 0, .int (-1), .int (-1), .int 0, .int 0, .long sm])), (lJ, .inr (2, [.int 0, .ref eT, .int 0]))] [])) (va_Qi (fun (r : Int32) (_ : Unit) => r = 0) (fun _ _ => True) (fun q => sz ≤ q)) 0 0 (fun q => sz ≤ q) := by
  refine Met.ofW (cc := cX5_isJudge) (maxL := 2) (ret := (some .boolean)) (by decide +kernel) rfl ?_
  intro p e s m args below meth c s₁ B hml hv
  obtain ⟨rfl, hsz, hP, hK, hE⟩ := hv
  have hx := B.exec
  have hb := B.bytes
  have hr := B.returns
  have hts := atoms_spec (ws := wsX5_isJudge) B.pre
  have hown : s.vm.findClass RX5 = some m.cls := findClass_of_methodNamed B.named
  have hlocks := B.notSynchronized
  subst hsz
  have hA : ∀ q : Nat, s.heap.size ≤ q → (fun q : Nat => s.heap.size ≤ q) q := fun _ h => h
  have hS : va_S (fun q : Nat => s.heap.size ≤ q) s.heap s.heap [] := va_S.rf
  have hP : va_P D vwCl [(h0, .inr (8, [.int 0, .ref lH, .ref lB, .ref lJ, .ref aR, .ref aL, .int 0, .int 0, .int 0, .ref lC, .ref aM, .ref aP, .int 0, .int 0, .int 0, .int (-1), .int (-1), .int 0, .int 0, .long sm])), (lJ, .inr (2, [.int 0, .ref eT, .int 0]))] s.heap := hP
  have hl := lv_entry ([.ref h0, .int p0]) (n := 2) (Nat.le_of_ble_eq_true rfl)
  rw [lg_entry_eq]
  generalize (lg_sl ([.ref h0, .int p0]) ++ List.replicate (2 - (lg_sl ([.ref h0, .int p0])).length) Slot.unset).toArray = ls at hl ⊢
  have hl : lv_has ls 2 [(0, .ref h0), (1, .int p0)] := hl
  refine lv_iload_n hx hb dX5_isJudge_0 rfl (lv_at hl 1 rfl) ?_
  refine lv_iconst (v := 0) hx hb dX5_isJudge_1 (by decide) ?_
  refine lv_aload_n hx hb dX5_isJudge_2 rfl (lv_at hl 0 rfl) ?_
  refine va_get (D := D) (ci := 8) (v := .ref lJ) (C := RX5) (T := TX5) (N := 20) hx hb hts (by decide +kernel) hown hK hP 0 rfl rfl 3 (by decide) (hts (.fieldLink RX5 19 "PrizeHouseModel" "judges" "Ljava/util/ArrayList;") (by decide +kernel)) (fun _ h9 => h9) rfl dX5_isJudge_3 ?_
  have hPc := hP.sub (ws' := [(lJ, .inr (2, [.int 0, .ref eT, .int 0]))]) [1] rfl
  have hKc := hK.sub (tys' := []) [] rfl
  refine va_calli (va_runV (As := []) (rest := [.int 0, .int p0]) ⟨hx, hb, hml, hown, hts⟩ (k_size l D eT lJ eT 0 0 s.heap.size ) (cwV 0 hts gX5_isJudge_Jx4a65c_size_8abf5 rfl rfl rfl (by decide +kernel) ⟨Nat.le_of_ble_eq_true rfl, Nat.le_of_ble_eq_true rfl⟩) (pr_v (ci := 2) (q0 := 0) rfl rfl hPc hKc hE hS hA) rfl rfl hl.1 rfl (lv_room (Nat.le_of_ble_eq_true rfl)) dX5_isJudge_6 ⟨Nat.le_of_ble_eq_true rfl, Nat.le_of_ble_eq_true rfl⟩) hS (fun q h1 h2 => ro_A h1 h2) (fun q h => ro_F hS hA q h) (fun r u t H1 locs ht hvm hw hB hz1 hk1 hS => ?_)
  have hw : r = 0 := hw
  rw [hw]
  have hP := ro_P hP hk1
  generalize H1 = H at hP hS ⊢
  refine lv_iconst (v := 1) hx hb dX5_isJudge_9 (by decide) ?_
  refine lv_isub hx hb dX5_isJudge_10 ?_
  refine lv_topi (fun z_1 ez_1 => ?_)
  have ez_1 : z_1 = (-1) := ez_1.trans (by decide +kernel)
  rw [ez_1]
  have hPc := hP.sub (ws' := []) [] rfl
  have hKc := hK.sub (tys' := []) [] rfl
  refine va_calli (va_runS (As := [.int p0, .int 0, .int (-1)]) (rest := []) ⟨hx, hb, hml, hown, hts⟩ (k_is_f l D eT p0 0 (-1) H.size (fun h => absurd (Int32.le_trans h.1 h.2) (by decide))) (va_cwS 3 hts gX5_isJudge_X5_is rfl rfl rfl (by decide +kernel) ⟨Nat.le_of_ble_eq_true rfl, Nat.le_of_ble_eq_true rfl⟩) (pr_s hPc hKc hE hS hA) rfl rfl hl.1 rfl (lv_room (Nat.le_of_ble_eq_true rfl)) dX5_isJudge_11 ⟨Nat.le_of_ble_eq_true rfl, Nat.le_of_ble_eq_true rfl⟩) hS (fun q h1 h2 => ro_A h1 h2) (fun q h => ro_F hS hA q h) (fun r u t H1 locs ht hvm hw hB hz1 hk1 hS => ?_)
  have hw : r = 0 := hw
  rw [hw]
  have hP := ro_P hP hk1
  generalize H1 = H at hP hS ⊢
  exact W.zret (v := 0) (ty := .boolean) hx hb hr (by decide +kernel) (fun t ht hW => ⟨⟨0, (), rfl, rfl, trivial⟩, hS.F ht⟩) hS.2.2 dX5_isJudge_14
set_option maxHeartbeats 4000000 in
set_option maxRecDepth 100000 in
theorem r_refuse (l : Launch) (D : va_G) (eT : Nat) (h0 : Nat) (lH : Nat) (lB : Nat) (lJ : Nat) (aR : Nat) (aL : Nat) (lC : Nat) (aM : Nat) (aP : Nat) (sm : Int64) (p0 : Int32) (sz : Nat) : Met l yX5_refuse wsX5_refuse ({ frames := 0, cells := 0, slots := 0, locals := 0 }) (va_Pc [.ref h0, .int p0] (pc D eT sz [(h0, .inr (8, [.int 0, .ref lH, .ref lB, .ref lJ, .ref aR, .ref aL, .int 0, .int 0, .int 0, .ref lC, .ref aM, .ref aP, .int 0, .int 0, .int 0, .int (-1), .int (-1), .int 0, .int 0, .long sm]))] [])) (va_Qi (fun (r : Int32) (_ : Unit) => r = 0) (fun _ t => va_P D vwCl [(h0, .inr (8, [.int p0, .ref lH, .ref lB, .ref lJ, .ref aR, .ref aL, .int 0, .int 0, .int 0, .ref lC, .ref aM, .ref aP, .int 0, .int 0, .int 0, .int (-1), .int (-1), .int 0, .int 0, .long sm]))] t.heap ∧ va_K D vwCl [] t ∧ va_D (va_A [(h0, .inr (8, [.int 0, .ref lH, .ref lB, .ref lJ, .ref aR, .ref aL, .int 0, .int 0, .int 0, .ref lC, .ref aM, .ref aP, .int 0, .int 0, .int 0, .int (-1), .int (-1), .int 0, .int 0, .long sm]))] sz) [(h0, .inr (8, [.int p0, .ref lH, .ref lB, .ref lJ, .ref aR, .ref aL, .int 0, .int 0, .int 0, .ref lC, .ref aM, .ref aP, .int 0, .int 0, .int 0, .int (-1), .int (-1), .int 0, .int 0, .long sm]))]) (va_A [(h0, .inr (8, [.int 0, .ref lH, .ref lB, .ref lJ, .ref aR, .ref aL, .int 0, .int 0, .int 0, .ref lC, .ref aM, .ref aP, .int 0, .int 0, .int 0, .int (-1), .int (-1), .int 0, .int 0, .long sm]))] sz)) 0 0 (va_A [(h0, .inr (8, [.int 0, .ref lH, .ref lB, .ref lJ, .ref aR, .ref aL, .int 0, .int 0, .int 0, .ref lC, .ref aM, .ref aP, .int 0, .int 0, .int 0, .int (-1), .int (-1), .int 0, .int 0, .long sm]))] sz) := by
  refine Met.ofW (cc := cX5_refuse) (maxL := 2) (ret := (some .int)) (by decide +kernel) rfl ?_
  intro p e s m args below meth c s₁ B hml hv
  obtain ⟨rfl, hsz, hP, hK, hD0, hE⟩ := hv
  have hx := B.exec
  have hb := B.bytes
  have hr := B.returns
  have hts := atoms_spec (ws := wsX5_refuse) B.pre
  have hown : s.vm.findClass RX5 = some m.cls := findClass_of_methodNamed B.named
  have hlocks := B.notSynchronized
  subst hsz
  have hD := hD0.self (sz := s.heap.size)
  generalize hAe : va_A [(h0, .inr (8, [.int 0, .ref lH, .ref lB, .ref lJ, .ref aR, .ref aL, .int 0, .int 0, .int 0, .ref lC, .ref aM, .ref aP, .int 0, .int 0, .int 0, .int (-1), .int (-1), .int 0, .int 0, .long sm]))] s.heap.size = A at hD hE ⊢
  have hA : ∀ q : Nat, s.heap.size ≤ q → A q := fun q h => by rw [← hAe]; exact Or.inr h
  have hS : va_S A s.heap s.heap [] := va_S.rf
  have hP : va_P D vwCl [(h0, .inr (8, [.int 0, .ref lH, .ref lB, .ref lJ, .ref aR, .ref aL, .int 0, .int 0, .int 0, .ref lC, .ref aM, .ref aP, .int 0, .int 0, .int 0, .int (-1), .int (-1), .int 0, .int 0, .long sm]))] s.heap := hP
  have hl := lv_entry ([.ref h0, .int p0]) (n := 2) (Nat.le_of_ble_eq_true rfl)
  rw [lg_entry_eq]
  generalize (lg_sl ([.ref h0, .int p0]) ++ List.replicate (2 - (lg_sl ([.ref h0, .int p0])).length) Slot.unset).toArray = ls at hl ⊢
  have hl : lv_has ls 2 [(0, .ref h0), (1, .int p0)] := hl
  refine lv_aload_n hx hb dX5_refuse_0 rfl (lv_at hl 0 rfl) ?_
  refine lv_iload_n hx hb dX5_refuse_1 rfl (lv_at hl 1 rfl) ?_
  refine va_put (D := D) (ci := 8) (v := .int p0) (C := RX5) (T := TX5) (N := 20) hx hb hts (by decide +kernel) tyX5 tyX5_ok nmX5 hown hK hP hD hS 0 rfl rfl 0 (by decide) (hts (.fieldLink RX5 50 "PrizeHouseModel" "thrown" "I") (by decide +kernel)) (fun _ h9 => h9) rfl (tyX5_ok 0 (by decide)) rfl rfl (Nat.le_of_ble_eq_true rfl) dX5_refuse_2 (fun H locs hP hD hS => ?_)
  have hP : va_P D vwCl [(h0, .inr (8, [.int p0, .ref lH, .ref lB, .ref lJ, .ref aR, .ref aL, .int 0, .int 0, .int 0, .ref lC, .ref aM, .ref aP, .int 0, .int 0, .int 0, .int (-1), .int (-1), .int 0, .int 0, .long sm]))] H := hP
  have hD : va_D A [(h0, .inr (8, [.int p0, .ref lH, .ref lB, .ref lJ, .ref aR, .ref aL, .int 0, .int 0, .int 0, .ref lC, .ref aM, .ref aP, .int 0, .int 0, .int 0, .int (-1), .int (-1), .int 0, .int 0, .long sm]))] := hD
  refine lv_iconst (v := 0) hx hb dX5_refuse_5 (by decide) ?_
  have hP9 := hP.sub (ws' := [(h0, .inr (8, [.int p0, .ref lH, .ref lB, .ref lJ, .ref aR, .ref aL, .int 0, .int 0, .int 0, .ref lC, .ref aM, .ref aP, .int 0, .int 0, .int 0, .int (-1), .int (-1), .int 0, .int 0, .long sm]))]) [0] rfl
  have hD9 := hD.sub (ws' := [(h0, .inr (8, [.int p0, .ref lH, .ref lB, .ref lJ, .ref aR, .ref aL, .int 0, .int 0, .int 0, .ref lC, .ref aM, .ref aP, .int 0, .int 0, .int 0, .int (-1), .int (-1), .int 0, .int 0, .long sm]))]) [0] (by decide) rfl
  have hK9 := hK.sub (tys' := []) [] rfl
  exact W.iret (v := 0) hx hb hr (fun t ht hW => ⟨⟨0, (), rfl, rfl, ⟨by rw [ht]; exact hP9, va_K.moved hW.alike hK9, hD9⟩⟩, hS.F ht⟩) hS.2.2 dX5_refuse_6
set_option maxHeartbeats 4000000 in
set_option maxRecDepth 100000 in
theorem r_thrown (l : Launch) (D : va_G) (eT : Nat) (h0 : Nat) (lH : Nat) (lB : Nat) (lJ : Nat) (aR : Nat) (aL : Nat) (lC : Nat) (aM : Nat) (aP : Nat) (sm : Int64) (tn : Int32) (dd : Int32) (sz : Nat) : Met l yX5_thrown wsX5_thrown ({ frames := 0, cells := 0, slots := 0, locals := 0 }) (va_Pc [.ref h0] (pr D eT sz [(h0, .inr (8, [.int tn, .ref lH, .ref lB, .ref lJ, .ref aR, .ref aL, .int 0, .int 0, .int dd, .ref lC, .ref aM, .ref aP, .int 0, .int 0, .int 0, .int (-1), .int (-1), .int 0, .int 0, .long sm]))] [])) (va_Qi (fun (r : Int32) (_ : Unit) => r = tn) (fun _ _ => True) (fun q => sz ≤ q)) 0 0 (fun q => sz ≤ q) := by
  refine Met.ofW (cc := cX5_thrown) (maxL := 1) (ret := (some .int)) (by decide +kernel) rfl ?_
  intro p e s m args below meth c s₁ B hml hv
  obtain ⟨rfl, hsz, hP, hK, hE⟩ := hv
  have hx := B.exec
  have hb := B.bytes
  have hr := B.returns
  have hts := atoms_spec (ws := wsX5_thrown) B.pre
  have hown : s.vm.findClass RX5 = some m.cls := findClass_of_methodNamed B.named
  have hlocks := B.notSynchronized
  subst hsz
  have hA : ∀ q : Nat, s.heap.size ≤ q → (fun q : Nat => s.heap.size ≤ q) q := fun _ h => h
  have hS : va_S (fun q : Nat => s.heap.size ≤ q) s.heap s.heap [] := va_S.rf
  have hP : va_P D vwCl [(h0, .inr (8, [.int tn, .ref lH, .ref lB, .ref lJ, .ref aR, .ref aL, .int 0, .int 0, .int dd, .ref lC, .ref aM, .ref aP, .int 0, .int 0, .int 0, .int (-1), .int (-1), .int 0, .int 0, .long sm]))] s.heap := hP
  have hl := lv_entry ([.ref h0]) (n := 1) (Nat.le_of_ble_eq_true rfl)
  rw [lg_entry_eq]
  generalize (lg_sl ([.ref h0]) ++ List.replicate (1 - (lg_sl ([.ref h0])).length) Slot.unset).toArray = ls at hl ⊢
  have hl : lv_has ls 1 [(0, .ref h0)] := hl
  refine lv_aload_n hx hb dX5_thrown_0 rfl (lv_at hl 0 rfl) ?_
  refine va_get (D := D) (ci := 8) (v := .int tn) (C := RX5) (T := TX5) (N := 20) hx hb hts (by decide +kernel) hown hK hP 0 rfl rfl 0 (by decide) (hts (.fieldLink RX5 50 "PrizeHouseModel" "thrown" "I") (by decide +kernel)) (fun _ h9 => h9) rfl dX5_thrown_1 ?_
  exact W.iret (v := tn) hx hb hr (fun t ht hW => ⟨⟨tn, (), rfl, rfl, trivial⟩, hS.F ht⟩) hS.2.2 dX5_thrown_4
set_option maxHeartbeats 4000000 in
set_option maxRecDepth 100000 in
theorem r_book (l : Launch) (D : va_G) (eT : Nat) (h0 : Nat) (lH : Nat) (lB : Nat) (lJ : Nat) (aR : Nat) (aL : Nat) (lC : Nat) (aM : Nat) (aP : Nat) (sm : Int64) (p0 : Int32) (p1 : Int32) (p2 : Int32) (p3 : Int32) (p4 : Int32) (p5 : Int32) (sz : Nat) : Met l yX5_book wsX5_book ({ frames := 2, cells := 0, slots := 0, locals := 43 }) (va_Pc [.ref h0, .int p0, .int p1, .int p2, .int p3, .int p4, .int p5] (pc D eT sz [(h0, .inr (8, [.int 0, .ref lH, .ref lB, .ref lJ, .ref aR, .ref aL, .int 0, .int 0, .int 0, .ref lC, .ref aM, .ref aP, .int 0, .int 0, .int 0, .int (-1), .int (-1), .int 0, .int 0, .long sm])), (lH, .inr (2, [.int 0, .ref eT, .int 0]))] [])) (va_Qi (fun (r : Int32) (_ : Unit) => r = 0) (fun _ t => va_P D vwCl [(h0, .inr (8, [.int 1, .ref lH, .ref lB, .ref lJ, .ref aR, .ref aL, .int 0, .int 0, .int 0, .ref lC, .ref aM, .ref aP, .int 0, .int 0, .int 0, .int (-1), .int (-1), .int 0, .int 0, .long sm]))] t.heap ∧ va_K D vwCl [] t ∧ va_D (va_A [(h0, .inr (8, [.int 0, .ref lH, .ref lB, .ref lJ, .ref aR, .ref aL, .int 0, .int 0, .int 0, .ref lC, .ref aM, .ref aP, .int 0, .int 0, .int 0, .int (-1), .int (-1), .int 0, .int 0, .long sm])), (lH, .inr (2, [.int 0, .ref eT, .int 0]))] sz) [(h0, .inr (8, [.int 1, .ref lH, .ref lB, .ref lJ, .ref aR, .ref aL, .int 0, .int 0, .int 0, .ref lC, .ref aM, .ref aP, .int 0, .int 0, .int 0, .int (-1), .int (-1), .int 0, .int 0, .long sm]))]) (va_A [(h0, .inr (8, [.int 0, .ref lH, .ref lB, .ref lJ, .ref aR, .ref aL, .int 0, .int 0, .int 0, .ref lC, .ref aM, .ref aP, .int 0, .int 0, .int 0, .int (-1), .int (-1), .int 0, .int 0, .long sm])), (lH, .inr (2, [.int 0, .ref eT, .int 0]))] sz)) 0 0 (va_A [(h0, .inr (8, [.int 0, .ref lH, .ref lB, .ref lJ, .ref aR, .ref aL, .int 0, .int 0, .int 0, .ref lC, .ref aM, .ref aP, .int 0, .int 0, .int 0, .int (-1), .int (-1), .int 0, .int 0, .long sm])), (lH, .inr (2, [.int 0, .ref eT, .int 0]))] sz) := by
  refine Met.ofW (cc := cX5_book) (maxL := 8) (ret := (some .int)) (by decide +kernel) rfl ?_
  intro p e s m args below meth c s₁ B hml hv
  obtain ⟨rfl, hsz, hP, hK, hD0, hE⟩ := hv
  have hx := B.exec
  have hb := B.bytes
  have hr := B.returns
  have hts := atoms_spec (ws := wsX5_book) B.pre
  have hown : s.vm.findClass RX5 = some m.cls := findClass_of_methodNamed B.named
  have hlocks := B.notSynchronized
  subst hsz
  have hD := hD0.self (sz := s.heap.size)
  generalize hAe : va_A [(h0, .inr (8, [.int 0, .ref lH, .ref lB, .ref lJ, .ref aR, .ref aL, .int 0, .int 0, .int 0, .ref lC, .ref aM, .ref aP, .int 0, .int 0, .int 0, .int (-1), .int (-1), .int 0, .int 0, .long sm])), (lH, .inr (2, [.int 0, .ref eT, .int 0]))] s.heap.size = A at hD hE ⊢
  have hA : ∀ q : Nat, s.heap.size ≤ q → A q := fun q h => by rw [← hAe]; exact Or.inr h
  have hS : va_S A s.heap s.heap [] := va_S.rf
  have hP : va_P D vwCl [(h0, .inr (8, [.int 0, .ref lH, .ref lB, .ref lJ, .ref aR, .ref aL, .int 0, .int 0, .int 0, .ref lC, .ref aM, .ref aP, .int 0, .int 0, .int 0, .int (-1), .int (-1), .int 0, .int 0, .long sm])), (lH, .inr (2, [.int 0, .ref eT, .int 0]))] s.heap := hP
  have hl := lv_entry ([.ref h0, .int p0, .int p1, .int p2, .int p3, .int p4, .int p5]) (n := 8) (Nat.le_of_ble_eq_true rfl)
  rw [lg_entry_eq]
  generalize (lg_sl ([.ref h0, .int p0, .int p1, .int p2, .int p3, .int p4, .int p5]) ++ List.replicate (8 - (lg_sl ([.ref h0, .int p0, .int p1, .int p2, .int p3, .int p4, .int p5])).length) Slot.unset).toArray = ls at hl ⊢
  have hl : lv_has ls 8 [(0, .ref h0), (1, .int p0), (2, .int p1), (3, .int p2), (4, .int p3), (5, .int p4), (6, .int p5)] := hl
  refine lv_aload_n hx hb dX5_book_0 rfl (lv_at hl 0 rfl) ?_
  refine lv_iconst (v := 0) hx hb dX5_book_1 (by decide) ?_
  refine va_put (D := D) (ci := 8) (v := .int 0) (C := RX5) (T := TX5) (N := 20) hx hb hts (by decide +kernel) tyX5 tyX5_ok nmX5 hown hK hP hD hS 0 rfl rfl 0 (by decide) (hts (.fieldLink RX5 50 "PrizeHouseModel" "thrown" "I") (by decide +kernel)) (fun _ h9 => h9) rfl (tyX5_ok 0 (by decide)) rfl rfl (Nat.le_of_ble_eq_true rfl) dX5_book_2 (fun H locs hP hD hS => ?_)
  have hP : va_P D vwCl [(h0, .inr (8, [.int 0, .ref lH, .ref lB, .ref lJ, .ref aR, .ref aL, .int 0, .int 0, .int 0, .ref lC, .ref aM, .ref aP, .int 0, .int 0, .int 0, .int (-1), .int (-1), .int 0, .int 0, .long sm])), (lH, .inr (2, [.int 0, .ref eT, .int 0]))] H := hP
  have hD : va_D A [(h0, .inr (8, [.int 0, .ref lH, .ref lB, .ref lJ, .ref aR, .ref aL, .int 0, .int 0, .int 0, .ref lC, .ref aM, .ref aP, .int 0, .int 0, .int 0, .int (-1), .int (-1), .int 0, .int 0, .long sm])), (lH, .inr (2, [.int 0, .ref eT, .int 0]))] := hD
  refine lv_aload_n hx hb dX5_book_5 rfl (lv_at hl 0 rfl) ?_
  refine lv_iload_n hx hb dX5_book_6 rfl (lv_at hl 1 rfl) ?_
  have hPc := hP.sub (ws' := [(h0, .inr (8, [.int 0, .ref lH, .ref lB, .ref lJ, .ref aR, .ref aL, .int 0, .int 0, .int 0, .ref lC, .ref aM, .ref aP, .int 0, .int 0, .int 0, .int (-1), .int (-1), .int 0, .int 0, .long sm])), (lH, .inr (2, [.int 0, .ref eT, .int 0]))]) [0, 1] rfl
  have hKc := hK.sub (tys' := []) [] rfl
  refine va_calli (va_runV (As := [.int p0]) (rest := []) ⟨hx, hb, hml, hown, hts⟩ (r_isHouse l D eT h0 lH lB lJ aR aL lC aM aP sm p0 H.size ) (cwV 1 hts gX5_book_X5_isHouse rfl rfl rfl (by decide +kernel) ⟨Nat.le_of_ble_eq_true rfl, Nat.le_of_ble_eq_true rfl⟩) (pr_v (ci := 8) (q0 := 0) rfl rfl hPc hKc hE hS hA) rfl rfl hl.1 rfl (lv_room (Nat.le_of_ble_eq_true rfl)) dX5_book_7 ⟨Nat.le_of_ble_eq_true rfl, Nat.le_of_ble_eq_true rfl⟩) hS (fun q h1 h2 => ro_A h1 h2) (fun q h => ro_F hS hA q h) (fun r u t H1 locs ht hvm hw hB hz1 hk1 hS => ?_)
  have hw : r = 0 := hw
  rw [hw]
  have hP := ro_P hP hk1
  generalize H1 = H at hP hS ⊢
  refine lv_if_ne (tgt := 19) hx hb dX5_book_10 (by decide) (fun h => absurd (by decide) h) (fun _ => ?_)
  refine lv_aload_n hx hb dX5_book_13 rfl (lv_at hl 0 rfl) ?_
  refine lv_iconst (v := 1) hx hb dX5_book_14 (by decide) ?_
  have hPc := hP.sub (ws' := [(h0, .inr (8, [.int 0, .ref lH, .ref lB, .ref lJ, .ref aR, .ref aL, .int 0, .int 0, .int 0, .ref lC, .ref aM, .ref aP, .int 0, .int 0, .int 0, .int (-1), .int (-1), .int 0, .int 0, .long sm]))]) [0] rfl
  have hKc := hK.sub (tys' := []) [] rfl
  have hDc := hD.sub (ws' := [(h0, .inr (8, [.int 0, .ref lH, .ref lB, .ref lJ, .ref aR, .ref aL, .int 0, .int 0, .int 0, .ref lC, .ref aM, .ref aP, .int 0, .int 0, .int 0, .int (-1), .int (-1), .int 0, .int 0, .long sm]))]) [0] (by decide) rfl
  have hFc := va_free (wc := [(h0, .inr (8, [.int 0, .ref lH, .ref lB, .ref lJ, .ref aR, .ref aL, .int 0, .int 0, .int 0, .ref lC, .ref aM, .ref aP, .int 0, .int 0, .int 0, .int (-1), .int (-1), .int 0, .int 0, .long sm]))]) hD hS hA [0] rfl
  refine va_calli (va_runV (As := [.int 1]) (rest := []) ⟨hx, hb, hml, hown, hts⟩ (r_refuse l D eT h0 lH lB lJ aR aL lC aM aP sm 1 H.size ) (cwV 1 hts gX5_book_X5_refuse rfl rfl rfl (by decide +kernel) ⟨Nat.le_of_ble_eq_true rfl, Nat.le_of_ble_eq_true rfl⟩) (pc_v (ci := 8) (q0 := 0) rfl rfl hPc hDc hKc hE hS hFc) rfl rfl hl.1 rfl (lv_room (Nat.le_of_ble_eq_true rfl)) dX5_book_15 ⟨Nat.le_of_ble_eq_true rfl, Nat.le_of_ble_eq_true rfl⟩) hS (fun q _ h => hFc q h) hFc (fun r u t H1 locs ht hvm hw hB hz1 hk1 hS => ?_)
  have hw : r = 0 := hw
  rw [hw]
  obtain ⟨hP1, hK1, hD1⟩ := hB
  rw [ht] at hP1
  have hK1 := va_K.moved hvm.symm hK1
  obtain ⟨hP, hD⟩ := va_join (wr := [(lH, .inr (2, [.int 0, .ref eT, .int 0]))]) (w1 := [(h0, .inr (8, [.int 1, .ref lH, .ref lB, .ref lJ, .ref aR, .ref aL, .int 0, .int 0, .int 0, .ref lC, .ref aM, .ref aP, .int 0, .int 0, .int 0, .int (-1), .int (-1), .int 0, .int 0, .long sm]))]) hP hD [0] [1] rfl rfl (by decide) (by decide) hk1 hFc hP1 hD1
  generalize H1 = H at hP hS ⊢
  have hP : va_P D vwCl [(lH, .inr (2, [.int 0, .ref eT, .int 0])), (h0, .inr (8, [.int 1, .ref lH, .ref lB, .ref lJ, .ref aR, .ref aL, .int 0, .int 0, .int 0, .ref lC, .ref aM, .ref aP, .int 0, .int 0, .int 0, .int (-1), .int (-1), .int 0, .int 0, .long sm]))] H := hP
  have hD : va_D A [(lH, .inr (2, [.int 0, .ref eT, .int 0])), (h0, .inr (8, [.int 1, .ref lH, .ref lB, .ref lJ, .ref aR, .ref aL, .int 0, .int 0, .int 0, .ref lC, .ref aM, .ref aP, .int 0, .int 0, .int 0, .int (-1), .int (-1), .int 0, .int 0, .long sm]))] := hD
  have hP9 := hP.sub (ws' := [(h0, .inr (8, [.int 1, .ref lH, .ref lB, .ref lJ, .ref aR, .ref aL, .int 0, .int 0, .int 0, .ref lC, .ref aM, .ref aP, .int 0, .int 0, .int 0, .int (-1), .int (-1), .int 0, .int 0, .long sm]))]) [1] rfl
  have hD9 := hD.sub (ws' := [(h0, .inr (8, [.int 1, .ref lH, .ref lB, .ref lJ, .ref aR, .ref aL, .int 0, .int 0, .int 0, .ref lC, .ref aM, .ref aP, .int 0, .int 0, .int 0, .int (-1), .int (-1), .int 0, .int 0, .long sm]))]) [1] (by decide) rfl
  have hK9 := hK.sub (tys' := []) [] rfl
  exact W.iret (v := 0) hx hb hr (fun t ht hW => ⟨⟨0, (), rfl, rfl, ⟨by rw [ht]; exact hP9, va_K.moved hW.alike hK9, hD9⟩⟩, hS.F ht⟩) hS.2.2 dX5_book_18
set_option maxHeartbeats 4000000 in
set_option maxRecDepth 100000 in
theorem r_conflict (l : Launch) (D : va_G) (eT : Nat) (h0 : Nat) (lH : Nat) (lB : Nat) (lJ : Nat) (aR : Nat) (aL : Nat) (lC : Nat) (aM : Nat) (aP : Nat) (sm : Int64) (p0 : Int32) (p1 : Int32) (sz : Nat) : Met l yX5_conflict wsX5_conflict ({ frames := 2, cells := 0, slots := 0, locals := 43 }) (va_Pc [.ref h0, .int p0, .int p1] (pc D eT sz [(h0, .inr (8, [.int 0, .ref lH, .ref lB, .ref lJ, .ref aR, .ref aL, .int 0, .int 0, .int 0, .ref lC, .ref aM, .ref aP, .int 0, .int 0, .int 0, .int (-1), .int (-1), .int 0, .int 0, .long sm])), (lJ, .inr (2, [.int 0, .ref eT, .int 0]))] [])) (va_Qi (fun (r : Int32) (_ : Unit) => r = 0) (fun _ t => va_P D vwCl [(h0, .inr (8, [.int 1, .ref lH, .ref lB, .ref lJ, .ref aR, .ref aL, .int 0, .int 0, .int 0, .ref lC, .ref aM, .ref aP, .int 0, .int 0, .int 0, .int (-1), .int (-1), .int 0, .int 0, .long sm]))] t.heap ∧ va_K D vwCl [] t ∧ va_D (va_A [(h0, .inr (8, [.int 0, .ref lH, .ref lB, .ref lJ, .ref aR, .ref aL, .int 0, .int 0, .int 0, .ref lC, .ref aM, .ref aP, .int 0, .int 0, .int 0, .int (-1), .int (-1), .int 0, .int 0, .long sm])), (lJ, .inr (2, [.int 0, .ref eT, .int 0]))] sz) [(h0, .inr (8, [.int 1, .ref lH, .ref lB, .ref lJ, .ref aR, .ref aL, .int 0, .int 0, .int 0, .ref lC, .ref aM, .ref aP, .int 0, .int 0, .int 0, .int (-1), .int (-1), .int 0, .int 0, .long sm]))]) (va_A [(h0, .inr (8, [.int 0, .ref lH, .ref lB, .ref lJ, .ref aR, .ref aL, .int 0, .int 0, .int 0, .ref lC, .ref aM, .ref aP, .int 0, .int 0, .int 0, .int (-1), .int (-1), .int 0, .int 0, .long sm])), (lJ, .inr (2, [.int 0, .ref eT, .int 0]))] sz)) 0 0 (va_A [(h0, .inr (8, [.int 0, .ref lH, .ref lB, .ref lJ, .ref aR, .ref aL, .int 0, .int 0, .int 0, .ref lC, .ref aM, .ref aP, .int 0, .int 0, .int 0, .int (-1), .int (-1), .int 0, .int 0, .long sm])), (lJ, .inr (2, [.int 0, .ref eT, .int 0]))] sz) := by
  refine Met.ofW (cc := cX5_conflict) (maxL := 3) (ret := (some .int)) (by decide +kernel) rfl ?_
  intro p e s m args below meth c s₁ B hml hv
  obtain ⟨rfl, hsz, hP, hK, hD0, hE⟩ := hv
  have hx := B.exec
  have hb := B.bytes
  have hr := B.returns
  have hts := atoms_spec (ws := wsX5_conflict) B.pre
  have hown : s.vm.findClass RX5 = some m.cls := findClass_of_methodNamed B.named
  have hlocks := B.notSynchronized
  subst hsz
  have hD := hD0.self (sz := s.heap.size)
  generalize hAe : va_A [(h0, .inr (8, [.int 0, .ref lH, .ref lB, .ref lJ, .ref aR, .ref aL, .int 0, .int 0, .int 0, .ref lC, .ref aM, .ref aP, .int 0, .int 0, .int 0, .int (-1), .int (-1), .int 0, .int 0, .long sm])), (lJ, .inr (2, [.int 0, .ref eT, .int 0]))] s.heap.size = A at hD hE ⊢
  have hA : ∀ q : Nat, s.heap.size ≤ q → A q := fun q h => by rw [← hAe]; exact Or.inr h
  have hS : va_S A s.heap s.heap [] := va_S.rf
  have hP : va_P D vwCl [(h0, .inr (8, [.int 0, .ref lH, .ref lB, .ref lJ, .ref aR, .ref aL, .int 0, .int 0, .int 0, .ref lC, .ref aM, .ref aP, .int 0, .int 0, .int 0, .int (-1), .int (-1), .int 0, .int 0, .long sm])), (lJ, .inr (2, [.int 0, .ref eT, .int 0]))] s.heap := hP
  have hl := lv_entry ([.ref h0, .int p0, .int p1]) (n := 3) (Nat.le_of_ble_eq_true rfl)
  rw [lg_entry_eq]
  generalize (lg_sl ([.ref h0, .int p0, .int p1]) ++ List.replicate (3 - (lg_sl ([.ref h0, .int p0, .int p1])).length) Slot.unset).toArray = ls at hl ⊢
  have hl : lv_has ls 3 [(0, .ref h0), (1, .int p0), (2, .int p1)] := hl
  refine lv_aload_n hx hb dX5_conflict_0 rfl (lv_at hl 0 rfl) ?_
  refine lv_iconst (v := 0) hx hb dX5_conflict_1 (by decide) ?_
  refine va_put (D := D) (ci := 8) (v := .int 0) (C := RX5) (T := TX5) (N := 20) hx hb hts (by decide +kernel) tyX5 tyX5_ok nmX5 hown hK hP hD hS 0 rfl rfl 0 (by decide) (hts (.fieldLink RX5 50 "PrizeHouseModel" "thrown" "I") (by decide +kernel)) (fun _ h9 => h9) rfl (tyX5_ok 0 (by decide)) rfl rfl (Nat.le_of_ble_eq_true rfl) dX5_conflict_2 (fun H locs hP hD hS => ?_)
  have hP : va_P D vwCl [(h0, .inr (8, [.int 0, .ref lH, .ref lB, .ref lJ, .ref aR, .ref aL, .int 0, .int 0, .int 0, .ref lC, .ref aM, .ref aP, .int 0, .int 0, .int 0, .int (-1), .int (-1), .int 0, .int 0, .long sm])), (lJ, .inr (2, [.int 0, .ref eT, .int 0]))] H := hP
  have hD : va_D A [(h0, .inr (8, [.int 0, .ref lH, .ref lB, .ref lJ, .ref aR, .ref aL, .int 0, .int 0, .int 0, .ref lC, .ref aM, .ref aP, .int 0, .int 0, .int 0, .int (-1), .int (-1), .int 0, .int 0, .long sm])), (lJ, .inr (2, [.int 0, .ref eT, .int 0]))] := hD
  refine lv_aload_n hx hb dX5_conflict_5 rfl (lv_at hl 0 rfl) ?_
  refine lv_iload_n hx hb dX5_conflict_6 rfl (lv_at hl 1 rfl) ?_
  have hPc := hP.sub (ws' := [(h0, .inr (8, [.int 0, .ref lH, .ref lB, .ref lJ, .ref aR, .ref aL, .int 0, .int 0, .int 0, .ref lC, .ref aM, .ref aP, .int 0, .int 0, .int 0, .int (-1), .int (-1), .int 0, .int 0, .long sm])), (lJ, .inr (2, [.int 0, .ref eT, .int 0]))]) [0, 1] rfl
  have hKc := hK.sub (tys' := []) [] rfl
  refine va_calli (va_runV (As := [.int p0]) (rest := []) ⟨hx, hb, hml, hown, hts⟩ (r_isJudge l D eT h0 lH lB lJ aR aL lC aM aP sm p0 H.size ) (cwV 1 hts gX5_conflict_X5_isJudge rfl rfl rfl (by decide +kernel) ⟨Nat.le_of_ble_eq_true rfl, Nat.le_of_ble_eq_true rfl⟩) (pr_v (ci := 8) (q0 := 0) rfl rfl hPc hKc hE hS hA) rfl rfl hl.1 rfl (lv_room (Nat.le_of_ble_eq_true rfl)) dX5_conflict_7 ⟨Nat.le_of_ble_eq_true rfl, Nat.le_of_ble_eq_true rfl⟩) hS (fun q h1 h2 => ro_A h1 h2) (fun q h => ro_F hS hA q h) (fun r u t H1 locs ht hvm hw hB hz1 hk1 hS => ?_)
  have hw : r = 0 := hw
  rw [hw]
  have hP := ro_P hP hk1
  generalize H1 = H at hP hS ⊢
  refine lv_if_ne (tgt := 19) hx hb dX5_conflict_10 (by decide) (fun h => absurd (by decide) h) (fun _ => ?_)
  refine lv_aload_n hx hb dX5_conflict_13 rfl (lv_at hl 0 rfl) ?_
  refine lv_iconst (v := 1) hx hb dX5_conflict_14 (by decide) ?_
  have hPc := hP.sub (ws' := [(h0, .inr (8, [.int 0, .ref lH, .ref lB, .ref lJ, .ref aR, .ref aL, .int 0, .int 0, .int 0, .ref lC, .ref aM, .ref aP, .int 0, .int 0, .int 0, .int (-1), .int (-1), .int 0, .int 0, .long sm]))]) [0] rfl
  have hKc := hK.sub (tys' := []) [] rfl
  have hDc := hD.sub (ws' := [(h0, .inr (8, [.int 0, .ref lH, .ref lB, .ref lJ, .ref aR, .ref aL, .int 0, .int 0, .int 0, .ref lC, .ref aM, .ref aP, .int 0, .int 0, .int 0, .int (-1), .int (-1), .int 0, .int 0, .long sm]))]) [0] (by decide) rfl
  have hFc := va_free (wc := [(h0, .inr (8, [.int 0, .ref lH, .ref lB, .ref lJ, .ref aR, .ref aL, .int 0, .int 0, .int 0, .ref lC, .ref aM, .ref aP, .int 0, .int 0, .int 0, .int (-1), .int (-1), .int 0, .int 0, .long sm]))]) hD hS hA [0] rfl
  refine va_calli (va_runV (As := [.int 1]) (rest := []) ⟨hx, hb, hml, hown, hts⟩ (r_refuse l D eT h0 lH lB lJ aR aL lC aM aP sm 1 H.size ) (cwV 1 hts gX5_conflict_X5_refuse rfl rfl rfl (by decide +kernel) ⟨Nat.le_of_ble_eq_true rfl, Nat.le_of_ble_eq_true rfl⟩) (pc_v (ci := 8) (q0 := 0) rfl rfl hPc hDc hKc hE hS hFc) rfl rfl hl.1 rfl (lv_room (Nat.le_of_ble_eq_true rfl)) dX5_conflict_15 ⟨Nat.le_of_ble_eq_true rfl, Nat.le_of_ble_eq_true rfl⟩) hS (fun q _ h => hFc q h) hFc (fun r u t H1 locs ht hvm hw hB hz1 hk1 hS => ?_)
  have hw : r = 0 := hw
  rw [hw]
  obtain ⟨hP1, hK1, hD1⟩ := hB
  rw [ht] at hP1
  have hK1 := va_K.moved hvm.symm hK1
  obtain ⟨hP, hD⟩ := va_join (wr := [(lJ, .inr (2, [.int 0, .ref eT, .int 0]))]) (w1 := [(h0, .inr (8, [.int 1, .ref lH, .ref lB, .ref lJ, .ref aR, .ref aL, .int 0, .int 0, .int 0, .ref lC, .ref aM, .ref aP, .int 0, .int 0, .int 0, .int (-1), .int (-1), .int 0, .int 0, .long sm]))]) hP hD [0] [1] rfl rfl (by decide) (by decide) hk1 hFc hP1 hD1
  generalize H1 = H at hP hS ⊢
  have hP : va_P D vwCl [(lJ, .inr (2, [.int 0, .ref eT, .int 0])), (h0, .inr (8, [.int 1, .ref lH, .ref lB, .ref lJ, .ref aR, .ref aL, .int 0, .int 0, .int 0, .ref lC, .ref aM, .ref aP, .int 0, .int 0, .int 0, .int (-1), .int (-1), .int 0, .int 0, .long sm]))] H := hP
  have hD : va_D A [(lJ, .inr (2, [.int 0, .ref eT, .int 0])), (h0, .inr (8, [.int 1, .ref lH, .ref lB, .ref lJ, .ref aR, .ref aL, .int 0, .int 0, .int 0, .ref lC, .ref aM, .ref aP, .int 0, .int 0, .int 0, .int (-1), .int (-1), .int 0, .int 0, .long sm]))] := hD
  have hP9 := hP.sub (ws' := [(h0, .inr (8, [.int 1, .ref lH, .ref lB, .ref lJ, .ref aR, .ref aL, .int 0, .int 0, .int 0, .ref lC, .ref aM, .ref aP, .int 0, .int 0, .int 0, .int (-1), .int (-1), .int 0, .int 0, .long sm]))]) [1] rfl
  have hD9 := hD.sub (ws' := [(h0, .inr (8, [.int 1, .ref lH, .ref lB, .ref lJ, .ref aR, .ref aL, .int 0, .int 0, .int 0, .ref lC, .ref aM, .ref aP, .int 0, .int 0, .int 0, .int (-1), .int (-1), .int 0, .int 0, .long sm]))]) [1] (by decide) rfl
  have hK9 := hK.sub (tys' := []) [] rfl
  exact W.iret (v := 0) hx hb hr (fun t ht hW => ⟨⟨0, (), rfl, rfl, ⟨by rw [ht]; exact hP9, va_K.moved hW.alike hK9, hD9⟩⟩, hS.F ht⟩) hS.2.2 dX5_conflict_18
set_option maxHeartbeats 4000000 in
set_option maxRecDepth 100000 in
theorem r_enter (l : Launch) (D : va_G) (eT : Nat) (h0 : Nat) (lH : Nat) (lB : Nat) (lJ : Nat) (aR : Nat) (aL : Nat) (lC : Nat) (aM : Nat) (aP : Nat) (sm : Int64) (p0 : Int32) (sz : Nat) : Met l yX5_enter wsX5_enter ({ frames := 2, cells := 0, slots := 0, locals := 43 }) (va_Pc [.ref h0, .int p0] (pc D eT sz [(h0, .inr (8, [.int 0, .ref lH, .ref lB, .ref lJ, .ref aR, .ref aL, .int 0, .int 0, .int 0, .ref lC, .ref aM, .ref aP, .int 0, .int 0, .int 0, .int (-1), .int (-1), .int 0, .int 0, .long sm])), (lB, .inr (2, [.int 0, .ref eT, .int 0]))] [])) (va_Qi (fun (r : Int32) (_ : Unit) => r = 0) (fun _ t => va_P D vwCl [(h0, .inr (8, [.int 1, .ref lH, .ref lB, .ref lJ, .ref aR, .ref aL, .int 0, .int 0, .int 0, .ref lC, .ref aM, .ref aP, .int 0, .int 0, .int 0, .int (-1), .int (-1), .int 0, .int 0, .long sm]))] t.heap ∧ va_K D vwCl [] t ∧ va_D (va_A [(h0, .inr (8, [.int 0, .ref lH, .ref lB, .ref lJ, .ref aR, .ref aL, .int 0, .int 0, .int 0, .ref lC, .ref aM, .ref aP, .int 0, .int 0, .int 0, .int (-1), .int (-1), .int 0, .int 0, .long sm])), (lB, .inr (2, [.int 0, .ref eT, .int 0]))] sz) [(h0, .inr (8, [.int 1, .ref lH, .ref lB, .ref lJ, .ref aR, .ref aL, .int 0, .int 0, .int 0, .ref lC, .ref aM, .ref aP, .int 0, .int 0, .int 0, .int (-1), .int (-1), .int 0, .int 0, .long sm]))]) (va_A [(h0, .inr (8, [.int 0, .ref lH, .ref lB, .ref lJ, .ref aR, .ref aL, .int 0, .int 0, .int 0, .ref lC, .ref aM, .ref aP, .int 0, .int 0, .int 0, .int (-1), .int (-1), .int 0, .int 0, .long sm])), (lB, .inr (2, [.int 0, .ref eT, .int 0]))] sz)) 0 0 (va_A [(h0, .inr (8, [.int 0, .ref lH, .ref lB, .ref lJ, .ref aR, .ref aL, .int 0, .int 0, .int 0, .ref lC, .ref aM, .ref aP, .int 0, .int 0, .int 0, .int (-1), .int (-1), .int 0, .int 0, .long sm])), (lB, .inr (2, [.int 0, .ref eT, .int 0]))] sz) := by
  refine Met.ofW (cc := cX5_enter) (maxL := 2) (ret := (some .int)) (by decide +kernel) rfl ?_
  intro p e s m args below meth c s₁ B hml hv
  obtain ⟨rfl, hsz, hP, hK, hD0, hE⟩ := hv
  have hx := B.exec
  have hb := B.bytes
  have hr := B.returns
  have hts := atoms_spec (ws := wsX5_enter) B.pre
  have hown : s.vm.findClass RX5 = some m.cls := findClass_of_methodNamed B.named
  have hlocks := B.notSynchronized
  subst hsz
  have hD := hD0.self (sz := s.heap.size)
  generalize hAe : va_A [(h0, .inr (8, [.int 0, .ref lH, .ref lB, .ref lJ, .ref aR, .ref aL, .int 0, .int 0, .int 0, .ref lC, .ref aM, .ref aP, .int 0, .int 0, .int 0, .int (-1), .int (-1), .int 0, .int 0, .long sm])), (lB, .inr (2, [.int 0, .ref eT, .int 0]))] s.heap.size = A at hD hE ⊢
  have hA : ∀ q : Nat, s.heap.size ≤ q → A q := fun q h => by rw [← hAe]; exact Or.inr h
  have hS : va_S A s.heap s.heap [] := va_S.rf
  have hP : va_P D vwCl [(h0, .inr (8, [.int 0, .ref lH, .ref lB, .ref lJ, .ref aR, .ref aL, .int 0, .int 0, .int 0, .ref lC, .ref aM, .ref aP, .int 0, .int 0, .int 0, .int (-1), .int (-1), .int 0, .int 0, .long sm])), (lB, .inr (2, [.int 0, .ref eT, .int 0]))] s.heap := hP
  have hl := lv_entry ([.ref h0, .int p0]) (n := 2) (Nat.le_of_ble_eq_true rfl)
  rw [lg_entry_eq]
  generalize (lg_sl ([.ref h0, .int p0]) ++ List.replicate (2 - (lg_sl ([.ref h0, .int p0])).length) Slot.unset).toArray = ls at hl ⊢
  have hl : lv_has ls 2 [(0, .ref h0), (1, .int p0)] := hl
  refine lv_aload_n hx hb dX5_enter_0 rfl (lv_at hl 0 rfl) ?_
  refine lv_iconst (v := 0) hx hb dX5_enter_1 (by decide) ?_
  refine va_put (D := D) (ci := 8) (v := .int 0) (C := RX5) (T := TX5) (N := 20) hx hb hts (by decide +kernel) tyX5 tyX5_ok nmX5 hown hK hP hD hS 0 rfl rfl 0 (by decide) (hts (.fieldLink RX5 50 "PrizeHouseModel" "thrown" "I") (by decide +kernel)) (fun _ h9 => h9) rfl (tyX5_ok 0 (by decide)) rfl rfl (Nat.le_of_ble_eq_true rfl) dX5_enter_2 (fun H locs hP hD hS => ?_)
  have hP : va_P D vwCl [(h0, .inr (8, [.int 0, .ref lH, .ref lB, .ref lJ, .ref aR, .ref aL, .int 0, .int 0, .int 0, .ref lC, .ref aM, .ref aP, .int 0, .int 0, .int 0, .int (-1), .int (-1), .int 0, .int 0, .long sm])), (lB, .inr (2, [.int 0, .ref eT, .int 0]))] H := hP
  have hD : va_D A [(h0, .inr (8, [.int 0, .ref lH, .ref lB, .ref lJ, .ref aR, .ref aL, .int 0, .int 0, .int 0, .ref lC, .ref aM, .ref aP, .int 0, .int 0, .int 0, .int (-1), .int (-1), .int 0, .int 0, .long sm])), (lB, .inr (2, [.int 0, .ref eT, .int 0]))] := hD
  refine lv_aload_n hx hb dX5_enter_5 rfl (lv_at hl 0 rfl) ?_
  refine lv_iload_n hx hb dX5_enter_6 rfl (lv_at hl 1 rfl) ?_
  have hPc := hP.sub (ws' := [(h0, .inr (8, [.int 0, .ref lH, .ref lB, .ref lJ, .ref aR, .ref aL, .int 0, .int 0, .int 0, .ref lC, .ref aM, .ref aP, .int 0, .int 0, .int 0, .int (-1), .int (-1), .int 0, .int 0, .long sm])), (lB, .inr (2, [.int 0, .ref eT, .int 0]))]) [0, 1] rfl
  have hKc := hK.sub (tys' := []) [] rfl
  refine va_calli (va_runV (As := [.int p0]) (rest := []) ⟨hx, hb, hml, hown, hts⟩ (r_isBook l D eT h0 lH lB lJ aR aL lC aM aP sm p0 H.size ) (cwV 1 hts gX5_enter_X5_isBook rfl rfl rfl (by decide +kernel) ⟨Nat.le_of_ble_eq_true rfl, Nat.le_of_ble_eq_true rfl⟩) (pr_v (ci := 8) (q0 := 0) rfl rfl hPc hKc hE hS hA) rfl rfl hl.1 rfl (lv_room (Nat.le_of_ble_eq_true rfl)) dX5_enter_7 ⟨Nat.le_of_ble_eq_true rfl, Nat.le_of_ble_eq_true rfl⟩) hS (fun q h1 h2 => ro_A h1 h2) (fun q h => ro_F hS hA q h) (fun r u t H1 locs ht hvm hw hB hz1 hk1 hS => ?_)
  have hw : r = 0 := hw
  rw [hw]
  have hP := ro_P hP hk1
  generalize H1 = H at hP hS ⊢
  refine lv_if_ne (tgt := 19) hx hb dX5_enter_10 (by decide) (fun h => absurd (by decide) h) (fun _ => ?_)
  refine lv_aload_n hx hb dX5_enter_13 rfl (lv_at hl 0 rfl) ?_
  refine lv_iconst (v := 1) hx hb dX5_enter_14 (by decide) ?_
  have hPc := hP.sub (ws' := [(h0, .inr (8, [.int 0, .ref lH, .ref lB, .ref lJ, .ref aR, .ref aL, .int 0, .int 0, .int 0, .ref lC, .ref aM, .ref aP, .int 0, .int 0, .int 0, .int (-1), .int (-1), .int 0, .int 0, .long sm]))]) [0] rfl
  have hKc := hK.sub (tys' := []) [] rfl
  have hDc := hD.sub (ws' := [(h0, .inr (8, [.int 0, .ref lH, .ref lB, .ref lJ, .ref aR, .ref aL, .int 0, .int 0, .int 0, .ref lC, .ref aM, .ref aP, .int 0, .int 0, .int 0, .int (-1), .int (-1), .int 0, .int 0, .long sm]))]) [0] (by decide) rfl
  have hFc := va_free (wc := [(h0, .inr (8, [.int 0, .ref lH, .ref lB, .ref lJ, .ref aR, .ref aL, .int 0, .int 0, .int 0, .ref lC, .ref aM, .ref aP, .int 0, .int 0, .int 0, .int (-1), .int (-1), .int 0, .int 0, .long sm]))]) hD hS hA [0] rfl
  refine va_calli (va_runV (As := [.int 1]) (rest := []) ⟨hx, hb, hml, hown, hts⟩ (r_refuse l D eT h0 lH lB lJ aR aL lC aM aP sm 1 H.size ) (cwV 1 hts gX5_enter_X5_refuse rfl rfl rfl (by decide +kernel) ⟨Nat.le_of_ble_eq_true rfl, Nat.le_of_ble_eq_true rfl⟩) (pc_v (ci := 8) (q0 := 0) rfl rfl hPc hDc hKc hE hS hFc) rfl rfl hl.1 rfl (lv_room (Nat.le_of_ble_eq_true rfl)) dX5_enter_15 ⟨Nat.le_of_ble_eq_true rfl, Nat.le_of_ble_eq_true rfl⟩) hS (fun q _ h => hFc q h) hFc (fun r u t H1 locs ht hvm hw hB hz1 hk1 hS => ?_)
  have hw : r = 0 := hw
  rw [hw]
  obtain ⟨hP1, hK1, hD1⟩ := hB
  rw [ht] at hP1
  have hK1 := va_K.moved hvm.symm hK1
  obtain ⟨hP, hD⟩ := va_join (wr := [(lB, .inr (2, [.int 0, .ref eT, .int 0]))]) (w1 := [(h0, .inr (8, [.int 1, .ref lH, .ref lB, .ref lJ, .ref aR, .ref aL, .int 0, .int 0, .int 0, .ref lC, .ref aM, .ref aP, .int 0, .int 0, .int 0, .int (-1), .int (-1), .int 0, .int 0, .long sm]))]) hP hD [0] [1] rfl rfl (by decide) (by decide) hk1 hFc hP1 hD1
  generalize H1 = H at hP hS ⊢
  have hP : va_P D vwCl [(lB, .inr (2, [.int 0, .ref eT, .int 0])), (h0, .inr (8, [.int 1, .ref lH, .ref lB, .ref lJ, .ref aR, .ref aL, .int 0, .int 0, .int 0, .ref lC, .ref aM, .ref aP, .int 0, .int 0, .int 0, .int (-1), .int (-1), .int 0, .int 0, .long sm]))] H := hP
  have hD : va_D A [(lB, .inr (2, [.int 0, .ref eT, .int 0])), (h0, .inr (8, [.int 1, .ref lH, .ref lB, .ref lJ, .ref aR, .ref aL, .int 0, .int 0, .int 0, .ref lC, .ref aM, .ref aP, .int 0, .int 0, .int 0, .int (-1), .int (-1), .int 0, .int 0, .long sm]))] := hD
  have hP9 := hP.sub (ws' := [(h0, .inr (8, [.int 1, .ref lH, .ref lB, .ref lJ, .ref aR, .ref aL, .int 0, .int 0, .int 0, .ref lC, .ref aM, .ref aP, .int 0, .int 0, .int 0, .int (-1), .int (-1), .int 0, .int 0, .long sm]))]) [1] rfl
  have hD9 := hD.sub (ws' := [(h0, .inr (8, [.int 1, .ref lH, .ref lB, .ref lJ, .ref aR, .ref aL, .int 0, .int 0, .int 0, .ref lC, .ref aM, .ref aP, .int 0, .int 0, .int 0, .int (-1), .int (-1), .int 0, .int 0, .long sm]))]) [1] (by decide) rfl
  have hK9 := hK.sub (tys' := []) [] rfl
  exact W.iret (v := 0) hx hb hr (fun t ht hW => ⟨⟨0, (), rfl, rfl, ⟨by rw [ht]; exact hP9, va_K.moved hW.alike hK9, hD9⟩⟩, hS.F ht⟩) hS.2.2 dX5_enter_18
set_option maxHeartbeats 4000000 in
set_option maxRecDepth 100000 in
theorem r_callIn (l : Launch) (D : va_G) (eT : Nat) (h0 : Nat) (lH : Nat) (lB : Nat) (lJ : Nat) (aR : Nat) (aL : Nat) (lC : Nat) (aM : Nat) (aP : Nat) (sm : Int64) (p0 : Int32) (p1 : Int32) (sz : Nat) : Met l yX5_callIn wsX5_callIn ({ frames := 2, cells := 0, slots := 0, locals := 43 }) (va_Pc [.ref h0, .int p0, .int p1] (pc D eT sz [(h0, .inr (8, [.int 0, .ref lH, .ref lB, .ref lJ, .ref aR, .ref aL, .int 0, .int 0, .int 0, .ref lC, .ref aM, .ref aP, .int 0, .int 0, .int 0, .int (-1), .int (-1), .int 0, .int 0, .long sm])), (lJ, .inr (2, [.int 0, .ref eT, .int 0]))] [])) (va_Qi (fun (r : Int32) (_ : Unit) => r = 0) (fun _ t => va_P D vwCl [(h0, .inr (8, [.int 1, .ref lH, .ref lB, .ref lJ, .ref aR, .ref aL, .int 0, .int 0, .int 0, .ref lC, .ref aM, .ref aP, .int 0, .int 0, .int 0, .int (-1), .int (-1), .int 0, .int 0, .long sm]))] t.heap ∧ va_K D vwCl [] t ∧ va_D (va_A [(h0, .inr (8, [.int 0, .ref lH, .ref lB, .ref lJ, .ref aR, .ref aL, .int 0, .int 0, .int 0, .ref lC, .ref aM, .ref aP, .int 0, .int 0, .int 0, .int (-1), .int (-1), .int 0, .int 0, .long sm])), (lJ, .inr (2, [.int 0, .ref eT, .int 0]))] sz) [(h0, .inr (8, [.int 1, .ref lH, .ref lB, .ref lJ, .ref aR, .ref aL, .int 0, .int 0, .int 0, .ref lC, .ref aM, .ref aP, .int 0, .int 0, .int 0, .int (-1), .int (-1), .int 0, .int 0, .long sm]))]) (va_A [(h0, .inr (8, [.int 0, .ref lH, .ref lB, .ref lJ, .ref aR, .ref aL, .int 0, .int 0, .int 0, .ref lC, .ref aM, .ref aP, .int 0, .int 0, .int 0, .int (-1), .int (-1), .int 0, .int 0, .long sm])), (lJ, .inr (2, [.int 0, .ref eT, .int 0]))] sz)) 0 0 (va_A [(h0, .inr (8, [.int 0, .ref lH, .ref lB, .ref lJ, .ref aR, .ref aL, .int 0, .int 0, .int 0, .ref lC, .ref aM, .ref aP, .int 0, .int 0, .int 0, .int (-1), .int (-1), .int 0, .int 0, .long sm])), (lJ, .inr (2, [.int 0, .ref eT, .int 0]))] sz) := by
  refine Met.ofW (cc := cX5_callIn) (maxL := 3) (ret := (some .int)) (by decide +kernel) rfl ?_
  intro p e s m args below meth c s₁ B hml hv
  obtain ⟨rfl, hsz, hP, hK, hD0, hE⟩ := hv
  have hx := B.exec
  have hb := B.bytes
  have hr := B.returns
  have hts := atoms_spec (ws := wsX5_callIn) B.pre
  have hown : s.vm.findClass RX5 = some m.cls := findClass_of_methodNamed B.named
  have hlocks := B.notSynchronized
  subst hsz
  have hD := hD0.self (sz := s.heap.size)
  generalize hAe : va_A [(h0, .inr (8, [.int 0, .ref lH, .ref lB, .ref lJ, .ref aR, .ref aL, .int 0, .int 0, .int 0, .ref lC, .ref aM, .ref aP, .int 0, .int 0, .int 0, .int (-1), .int (-1), .int 0, .int 0, .long sm])), (lJ, .inr (2, [.int 0, .ref eT, .int 0]))] s.heap.size = A at hD hE ⊢
  have hA : ∀ q : Nat, s.heap.size ≤ q → A q := fun q h => by rw [← hAe]; exact Or.inr h
  have hS : va_S A s.heap s.heap [] := va_S.rf
  have hP : va_P D vwCl [(h0, .inr (8, [.int 0, .ref lH, .ref lB, .ref lJ, .ref aR, .ref aL, .int 0, .int 0, .int 0, .ref lC, .ref aM, .ref aP, .int 0, .int 0, .int 0, .int (-1), .int (-1), .int 0, .int 0, .long sm])), (lJ, .inr (2, [.int 0, .ref eT, .int 0]))] s.heap := hP
  have hl := lv_entry ([.ref h0, .int p0, .int p1]) (n := 3) (Nat.le_of_ble_eq_true rfl)
  rw [lg_entry_eq]
  generalize (lg_sl ([.ref h0, .int p0, .int p1]) ++ List.replicate (3 - (lg_sl ([.ref h0, .int p0, .int p1])).length) Slot.unset).toArray = ls at hl ⊢
  have hl : lv_has ls 3 [(0, .ref h0), (1, .int p0), (2, .int p1)] := hl
  refine lv_aload_n hx hb dX5_callIn_0 rfl (lv_at hl 0 rfl) ?_
  refine lv_iconst (v := 0) hx hb dX5_callIn_1 (by decide) ?_
  refine va_put (D := D) (ci := 8) (v := .int 0) (C := RX5) (T := TX5) (N := 20) hx hb hts (by decide +kernel) tyX5 tyX5_ok nmX5 hown hK hP hD hS 0 rfl rfl 0 (by decide) (hts (.fieldLink RX5 50 "PrizeHouseModel" "thrown" "I") (by decide +kernel)) (fun _ h9 => h9) rfl (tyX5_ok 0 (by decide)) rfl rfl (Nat.le_of_ble_eq_true rfl) dX5_callIn_2 (fun H locs hP hD hS => ?_)
  have hP : va_P D vwCl [(h0, .inr (8, [.int 0, .ref lH, .ref lB, .ref lJ, .ref aR, .ref aL, .int 0, .int 0, .int 0, .ref lC, .ref aM, .ref aP, .int 0, .int 0, .int 0, .int (-1), .int (-1), .int 0, .int 0, .long sm])), (lJ, .inr (2, [.int 0, .ref eT, .int 0]))] H := hP
  have hD : va_D A [(h0, .inr (8, [.int 0, .ref lH, .ref lB, .ref lJ, .ref aR, .ref aL, .int 0, .int 0, .int 0, .ref lC, .ref aM, .ref aP, .int 0, .int 0, .int 0, .int (-1), .int (-1), .int 0, .int 0, .long sm])), (lJ, .inr (2, [.int 0, .ref eT, .int 0]))] := hD
  refine lv_aload_n hx hb dX5_callIn_5 rfl (lv_at hl 0 rfl) ?_
  refine lv_iload_n hx hb dX5_callIn_6 rfl (lv_at hl 1 rfl) ?_
  have hPc := hP.sub (ws' := [(h0, .inr (8, [.int 0, .ref lH, .ref lB, .ref lJ, .ref aR, .ref aL, .int 0, .int 0, .int 0, .ref lC, .ref aM, .ref aP, .int 0, .int 0, .int 0, .int (-1), .int (-1), .int 0, .int 0, .long sm])), (lJ, .inr (2, [.int 0, .ref eT, .int 0]))]) [0, 1] rfl
  have hKc := hK.sub (tys' := []) [] rfl
  refine va_calli (va_runV (As := [.int p0]) (rest := []) ⟨hx, hb, hml, hown, hts⟩ (r_isJudge l D eT h0 lH lB lJ aR aL lC aM aP sm p0 H.size ) (cwV 1 hts gX5_callIn_X5_isJudge rfl rfl rfl (by decide +kernel) ⟨Nat.le_of_ble_eq_true rfl, Nat.le_of_ble_eq_true rfl⟩) (pr_v (ci := 8) (q0 := 0) rfl rfl hPc hKc hE hS hA) rfl rfl hl.1 rfl (lv_room (Nat.le_of_ble_eq_true rfl)) dX5_callIn_7 ⟨Nat.le_of_ble_eq_true rfl, Nat.le_of_ble_eq_true rfl⟩) hS (fun q h1 h2 => ro_A h1 h2) (fun q h => ro_F hS hA q h) (fun r u t H1 locs ht hvm hw hB hz1 hk1 hS => ?_)
  have hw : r = 0 := hw
  rw [hw]
  have hP := ro_P hP hk1
  generalize H1 = H at hP hS ⊢
  refine lv_if_eq (tgt := 21) hx hb dX5_callIn_10 (by decide) (fun _ => ?_) (fun h => absurd (by decide) h)
  refine lv_aload_n hx hb dX5_callIn_21 rfl (lv_at hl 0 rfl) ?_
  refine lv_iconst (v := 1) hx hb dX5_callIn_22 (by decide) ?_
  have hPc := hP.sub (ws' := [(h0, .inr (8, [.int 0, .ref lH, .ref lB, .ref lJ, .ref aR, .ref aL, .int 0, .int 0, .int 0, .ref lC, .ref aM, .ref aP, .int 0, .int 0, .int 0, .int (-1), .int (-1), .int 0, .int 0, .long sm]))]) [0] rfl
  have hKc := hK.sub (tys' := []) [] rfl
  have hDc := hD.sub (ws' := [(h0, .inr (8, [.int 0, .ref lH, .ref lB, .ref lJ, .ref aR, .ref aL, .int 0, .int 0, .int 0, .ref lC, .ref aM, .ref aP, .int 0, .int 0, .int 0, .int (-1), .int (-1), .int 0, .int 0, .long sm]))]) [0] (by decide) rfl
  have hFc := va_free (wc := [(h0, .inr (8, [.int 0, .ref lH, .ref lB, .ref lJ, .ref aR, .ref aL, .int 0, .int 0, .int 0, .ref lC, .ref aM, .ref aP, .int 0, .int 0, .int 0, .int (-1), .int (-1), .int 0, .int 0, .long sm]))]) hD hS hA [0] rfl
  refine va_calli (va_runV (As := [.int 1]) (rest := []) ⟨hx, hb, hml, hown, hts⟩ (r_refuse l D eT h0 lH lB lJ aR aL lC aM aP sm 1 H.size ) (cwV 1 hts gX5_callIn_X5_refuse rfl rfl rfl (by decide +kernel) ⟨Nat.le_of_ble_eq_true rfl, Nat.le_of_ble_eq_true rfl⟩) (pc_v (ci := 8) (q0 := 0) rfl rfl hPc hDc hKc hE hS hFc) rfl rfl hl.1 rfl (lv_room (Nat.le_of_ble_eq_true rfl)) dX5_callIn_23 ⟨Nat.le_of_ble_eq_true rfl, Nat.le_of_ble_eq_true rfl⟩) hS (fun q _ h => hFc q h) hFc (fun r u t H1 locs ht hvm hw hB hz1 hk1 hS => ?_)
  have hw : r = 0 := hw
  rw [hw]
  obtain ⟨hP1, hK1, hD1⟩ := hB
  rw [ht] at hP1
  have hK1 := va_K.moved hvm.symm hK1
  obtain ⟨hP, hD⟩ := va_join (wr := [(lJ, .inr (2, [.int 0, .ref eT, .int 0]))]) (w1 := [(h0, .inr (8, [.int 1, .ref lH, .ref lB, .ref lJ, .ref aR, .ref aL, .int 0, .int 0, .int 0, .ref lC, .ref aM, .ref aP, .int 0, .int 0, .int 0, .int (-1), .int (-1), .int 0, .int 0, .long sm]))]) hP hD [0] [1] rfl rfl (by decide) (by decide) hk1 hFc hP1 hD1
  generalize H1 = H at hP hS ⊢
  have hP : va_P D vwCl [(lJ, .inr (2, [.int 0, .ref eT, .int 0])), (h0, .inr (8, [.int 1, .ref lH, .ref lB, .ref lJ, .ref aR, .ref aL, .int 0, .int 0, .int 0, .ref lC, .ref aM, .ref aP, .int 0, .int 0, .int 0, .int (-1), .int (-1), .int 0, .int 0, .long sm]))] H := hP
  have hD : va_D A [(lJ, .inr (2, [.int 0, .ref eT, .int 0])), (h0, .inr (8, [.int 1, .ref lH, .ref lB, .ref lJ, .ref aR, .ref aL, .int 0, .int 0, .int 0, .ref lC, .ref aM, .ref aP, .int 0, .int 0, .int 0, .int (-1), .int (-1), .int 0, .int 0, .long sm]))] := hD
  have hP9 := hP.sub (ws' := [(h0, .inr (8, [.int 1, .ref lH, .ref lB, .ref lJ, .ref aR, .ref aL, .int 0, .int 0, .int 0, .ref lC, .ref aM, .ref aP, .int 0, .int 0, .int 0, .int (-1), .int (-1), .int 0, .int 0, .long sm]))]) [1] rfl
  have hD9 := hD.sub (ws' := [(h0, .inr (8, [.int 1, .ref lH, .ref lB, .ref lJ, .ref aR, .ref aL, .int 0, .int 0, .int 0, .ref lC, .ref aM, .ref aP, .int 0, .int 0, .int 0, .int (-1), .int (-1), .int 0, .int 0, .long sm]))]) [1] (by decide) rfl
  have hK9 := hK.sub (tys' := []) [] rfl
  exact W.iret (v := 0) hx hb hr (fun t ht hW => ⟨⟨0, (), rfl, rfl, ⟨by rw [ht]; exact hP9, va_K.moved hW.alike hK9, hD9⟩⟩, hS.F ht⟩) hS.2.2 dX5_callIn_26
set_option maxHeartbeats 4000000 in
set_option maxRecDepth 100000 in
theorem r_print (l : Launch) (D : va_G) (eT : Nat) (h0 : Nat) (lH : Nat) (lB : Nat) (lJ : Nat) (aR : Nat) (aL : Nat) (lC : Nat) (aM : Nat) (aP : Nat) (sm : Int64) (p0 : Int32) (p1 : Int32) (sz : Nat) : Met l yX5_print wsX5_print ({ frames := 2, cells := 0, slots := 0, locals := 43 }) (va_Pc [.ref h0, .int p0, .int p1] (pc D eT sz [(h0, .inr (8, [.int 0, .ref lH, .ref lB, .ref lJ, .ref aR, .ref aL, .int 0, .int 0, .int 0, .ref lC, .ref aM, .ref aP, .int 0, .int 0, .int 0, .int (-1), .int (-1), .int 0, .int 0, .long sm])), (lB, .inr (2, [.int 0, .ref eT, .int 0]))] [])) (va_Qi (fun (r : Int32) (_ : Unit) => r = 0) (fun _ t => va_P D vwCl [(h0, .inr (8, [.int 1, .ref lH, .ref lB, .ref lJ, .ref aR, .ref aL, .int 0, .int 0, .int 0, .ref lC, .ref aM, .ref aP, .int 0, .int 0, .int 0, .int (-1), .int (-1), .int 0, .int 0, .long sm]))] t.heap ∧ va_K D vwCl [] t ∧ va_D (va_A [(h0, .inr (8, [.int 0, .ref lH, .ref lB, .ref lJ, .ref aR, .ref aL, .int 0, .int 0, .int 0, .ref lC, .ref aM, .ref aP, .int 0, .int 0, .int 0, .int (-1), .int (-1), .int 0, .int 0, .long sm])), (lB, .inr (2, [.int 0, .ref eT, .int 0]))] sz) [(h0, .inr (8, [.int 1, .ref lH, .ref lB, .ref lJ, .ref aR, .ref aL, .int 0, .int 0, .int 0, .ref lC, .ref aM, .ref aP, .int 0, .int 0, .int 0, .int (-1), .int (-1), .int 0, .int 0, .long sm]))]) (va_A [(h0, .inr (8, [.int 0, .ref lH, .ref lB, .ref lJ, .ref aR, .ref aL, .int 0, .int 0, .int 0, .ref lC, .ref aM, .ref aP, .int 0, .int 0, .int 0, .int (-1), .int (-1), .int 0, .int 0, .long sm])), (lB, .inr (2, [.int 0, .ref eT, .int 0]))] sz)) 0 0 (va_A [(h0, .inr (8, [.int 0, .ref lH, .ref lB, .ref lJ, .ref aR, .ref aL, .int 0, .int 0, .int 0, .ref lC, .ref aM, .ref aP, .int 0, .int 0, .int 0, .int (-1), .int (-1), .int 0, .int 0, .long sm])), (lB, .inr (2, [.int 0, .ref eT, .int 0]))] sz) := by
  refine Met.ofW (cc := cX5_print) (maxL := 4) (ret := (some .int)) (by decide +kernel) rfl ?_
  intro p e s m args below meth c s₁ B hml hv
  obtain ⟨rfl, hsz, hP, hK, hD0, hE⟩ := hv
  have hx := B.exec
  have hb := B.bytes
  have hr := B.returns
  have hts := atoms_spec (ws := wsX5_print) B.pre
  have hown : s.vm.findClass RX5 = some m.cls := findClass_of_methodNamed B.named
  have hlocks := B.notSynchronized
  subst hsz
  have hD := hD0.self (sz := s.heap.size)
  generalize hAe : va_A [(h0, .inr (8, [.int 0, .ref lH, .ref lB, .ref lJ, .ref aR, .ref aL, .int 0, .int 0, .int 0, .ref lC, .ref aM, .ref aP, .int 0, .int 0, .int 0, .int (-1), .int (-1), .int 0, .int 0, .long sm])), (lB, .inr (2, [.int 0, .ref eT, .int 0]))] s.heap.size = A at hD hE ⊢
  have hA : ∀ q : Nat, s.heap.size ≤ q → A q := fun q h => by rw [← hAe]; exact Or.inr h
  have hS : va_S A s.heap s.heap [] := va_S.rf
  have hP : va_P D vwCl [(h0, .inr (8, [.int 0, .ref lH, .ref lB, .ref lJ, .ref aR, .ref aL, .int 0, .int 0, .int 0, .ref lC, .ref aM, .ref aP, .int 0, .int 0, .int 0, .int (-1), .int (-1), .int 0, .int 0, .long sm])), (lB, .inr (2, [.int 0, .ref eT, .int 0]))] s.heap := hP
  have hl := lv_entry ([.ref h0, .int p0, .int p1]) (n := 4) (Nat.le_of_ble_eq_true rfl)
  rw [lg_entry_eq]
  generalize (lg_sl ([.ref h0, .int p0, .int p1]) ++ List.replicate (4 - (lg_sl ([.ref h0, .int p0, .int p1])).length) Slot.unset).toArray = ls at hl ⊢
  have hl : lv_has ls 4 [(0, .ref h0), (1, .int p0), (2, .int p1)] := hl
  refine lv_aload_n hx hb dX5_print_0 rfl (lv_at hl 0 rfl) ?_
  refine lv_iconst (v := 0) hx hb dX5_print_1 (by decide) ?_
  refine va_put (D := D) (ci := 8) (v := .int 0) (C := RX5) (T := TX5) (N := 20) hx hb hts (by decide +kernel) tyX5 tyX5_ok nmX5 hown hK hP hD hS 0 rfl rfl 0 (by decide) (hts (.fieldLink RX5 50 "PrizeHouseModel" "thrown" "I") (by decide +kernel)) (fun _ h9 => h9) rfl (tyX5_ok 0 (by decide)) rfl rfl (Nat.le_of_ble_eq_true rfl) dX5_print_2 (fun H locs hP hD hS => ?_)
  have hP : va_P D vwCl [(h0, .inr (8, [.int 0, .ref lH, .ref lB, .ref lJ, .ref aR, .ref aL, .int 0, .int 0, .int 0, .ref lC, .ref aM, .ref aP, .int 0, .int 0, .int 0, .int (-1), .int (-1), .int 0, .int 0, .long sm])), (lB, .inr (2, [.int 0, .ref eT, .int 0]))] H := hP
  have hD : va_D A [(h0, .inr (8, [.int 0, .ref lH, .ref lB, .ref lJ, .ref aR, .ref aL, .int 0, .int 0, .int 0, .ref lC, .ref aM, .ref aP, .int 0, .int 0, .int 0, .int (-1), .int (-1), .int 0, .int 0, .long sm])), (lB, .inr (2, [.int 0, .ref eT, .int 0]))] := hD
  refine lv_aload_n hx hb dX5_print_5 rfl (lv_at hl 0 rfl) ?_
  refine lv_iload_n hx hb dX5_print_6 rfl (lv_at hl 1 rfl) ?_
  have hPc := hP.sub (ws' := [(h0, .inr (8, [.int 0, .ref lH, .ref lB, .ref lJ, .ref aR, .ref aL, .int 0, .int 0, .int 0, .ref lC, .ref aM, .ref aP, .int 0, .int 0, .int 0, .int (-1), .int (-1), .int 0, .int 0, .long sm])), (lB, .inr (2, [.int 0, .ref eT, .int 0]))]) [0, 1] rfl
  have hKc := hK.sub (tys' := []) [] rfl
  refine va_calli (va_runV (As := [.int p0]) (rest := []) ⟨hx, hb, hml, hown, hts⟩ (r_isBook l D eT h0 lH lB lJ aR aL lC aM aP sm p0 H.size ) (cwV 1 hts gX5_print_X5_isBook rfl rfl rfl (by decide +kernel) ⟨Nat.le_of_ble_eq_true rfl, Nat.le_of_ble_eq_true rfl⟩) (pr_v (ci := 8) (q0 := 0) rfl rfl hPc hKc hE hS hA) rfl rfl hl.1 rfl (lv_room (Nat.le_of_ble_eq_true rfl)) dX5_print_7 ⟨Nat.le_of_ble_eq_true rfl, Nat.le_of_ble_eq_true rfl⟩) hS (fun q h1 h2 => ro_A h1 h2) (fun q h => ro_F hS hA q h) (fun r u t H1 locs ht hvm hw hB hz1 hk1 hS => ?_)
  have hw : r = 0 := hw
  rw [hw]
  have hP := ro_P hP hk1
  generalize H1 = H at hP hS ⊢
  refine lv_if_ne (tgt := 19) hx hb dX5_print_10 (by decide) (fun h => absurd (by decide) h) (fun _ => ?_)
  refine lv_aload_n hx hb dX5_print_13 rfl (lv_at hl 0 rfl) ?_
  refine lv_iconst (v := 1) hx hb dX5_print_14 (by decide) ?_
  have hPc := hP.sub (ws' := [(h0, .inr (8, [.int 0, .ref lH, .ref lB, .ref lJ, .ref aR, .ref aL, .int 0, .int 0, .int 0, .ref lC, .ref aM, .ref aP, .int 0, .int 0, .int 0, .int (-1), .int (-1), .int 0, .int 0, .long sm]))]) [0] rfl
  have hKc := hK.sub (tys' := []) [] rfl
  have hDc := hD.sub (ws' := [(h0, .inr (8, [.int 0, .ref lH, .ref lB, .ref lJ, .ref aR, .ref aL, .int 0, .int 0, .int 0, .ref lC, .ref aM, .ref aP, .int 0, .int 0, .int 0, .int (-1), .int (-1), .int 0, .int 0, .long sm]))]) [0] (by decide) rfl
  have hFc := va_free (wc := [(h0, .inr (8, [.int 0, .ref lH, .ref lB, .ref lJ, .ref aR, .ref aL, .int 0, .int 0, .int 0, .ref lC, .ref aM, .ref aP, .int 0, .int 0, .int 0, .int (-1), .int (-1), .int 0, .int 0, .long sm]))]) hD hS hA [0] rfl
  refine va_calli (va_runV (As := [.int 1]) (rest := []) ⟨hx, hb, hml, hown, hts⟩ (r_refuse l D eT h0 lH lB lJ aR aL lC aM aP sm 1 H.size ) (cwV 1 hts gX5_print_X5_refuse rfl rfl rfl (by decide +kernel) ⟨Nat.le_of_ble_eq_true rfl, Nat.le_of_ble_eq_true rfl⟩) (pc_v (ci := 8) (q0 := 0) rfl rfl hPc hDc hKc hE hS hFc) rfl rfl hl.1 rfl (lv_room (Nat.le_of_ble_eq_true rfl)) dX5_print_15 ⟨Nat.le_of_ble_eq_true rfl, Nat.le_of_ble_eq_true rfl⟩) hS (fun q _ h => hFc q h) hFc (fun r u t H1 locs ht hvm hw hB hz1 hk1 hS => ?_)
  have hw : r = 0 := hw
  rw [hw]
  obtain ⟨hP1, hK1, hD1⟩ := hB
  rw [ht] at hP1
  have hK1 := va_K.moved hvm.symm hK1
  obtain ⟨hP, hD⟩ := va_join (wr := [(lB, .inr (2, [.int 0, .ref eT, .int 0]))]) (w1 := [(h0, .inr (8, [.int 1, .ref lH, .ref lB, .ref lJ, .ref aR, .ref aL, .int 0, .int 0, .int 0, .ref lC, .ref aM, .ref aP, .int 0, .int 0, .int 0, .int (-1), .int (-1), .int 0, .int 0, .long sm]))]) hP hD [0] [1] rfl rfl (by decide) (by decide) hk1 hFc hP1 hD1
  generalize H1 = H at hP hS ⊢
  have hP : va_P D vwCl [(lB, .inr (2, [.int 0, .ref eT, .int 0])), (h0, .inr (8, [.int 1, .ref lH, .ref lB, .ref lJ, .ref aR, .ref aL, .int 0, .int 0, .int 0, .ref lC, .ref aM, .ref aP, .int 0, .int 0, .int 0, .int (-1), .int (-1), .int 0, .int 0, .long sm]))] H := hP
  have hD : va_D A [(lB, .inr (2, [.int 0, .ref eT, .int 0])), (h0, .inr (8, [.int 1, .ref lH, .ref lB, .ref lJ, .ref aR, .ref aL, .int 0, .int 0, .int 0, .ref lC, .ref aM, .ref aP, .int 0, .int 0, .int 0, .int (-1), .int (-1), .int 0, .int 0, .long sm]))] := hD
  have hP9 := hP.sub (ws' := [(h0, .inr (8, [.int 1, .ref lH, .ref lB, .ref lJ, .ref aR, .ref aL, .int 0, .int 0, .int 0, .ref lC, .ref aM, .ref aP, .int 0, .int 0, .int 0, .int (-1), .int (-1), .int 0, .int 0, .long sm]))]) [1] rfl
  have hD9 := hD.sub (ws' := [(h0, .inr (8, [.int 1, .ref lH, .ref lB, .ref lJ, .ref aR, .ref aL, .int 0, .int 0, .int 0, .ref lC, .ref aM, .ref aP, .int 0, .int 0, .int 0, .int (-1), .int (-1), .int 0, .int 0, .long sm]))]) [1] (by decide) rfl
  have hK9 := hK.sub (tys' := []) [] rfl
  exact W.iret (v := 0) hx hb hr (fun t ht hW => ⟨⟨0, (), rfl, rfl, ⟨by rw [ht]; exact hP9, va_K.moved hW.alike hK9, hD9⟩⟩, hS.F ht⟩) hS.2.2 dX5_print_18
set_option maxHeartbeats 4000000 in
set_option maxRecDepth 100000 in
theorem r_points (l : Launch) (D : va_G) (eT : Nat) (h0 : Nat) (lH : Nat) (lB : Nat) (lJ : Nat) (aR : Nat) (aL : Nat) (lC : Nat) (aM : Nat) (aP : Nat) (sm : Int64) (p0 : Int32) (p1 : Int32) (p2 : Int32) (sz : Nat) : Met l yX5_points wsX5_points ({ frames := 2, cells := 0, slots := 0, locals := 43 }) (va_Pc [.ref h0, .int p0, .int p1, .int p2] (pc D eT sz [(h0, .inr (8, [.int 0, .ref lH, .ref lB, .ref lJ, .ref aR, .ref aL, .int 0, .int 0, .int 0, .ref lC, .ref aM, .ref aP, .int 0, .int 0, .int 0, .int (-1), .int (-1), .int 0, .int 0, .long sm])), (lJ, .inr (2, [.int 0, .ref eT, .int 0]))] [])) (va_Qi (fun (r : Int32) (_ : Unit) => r = 0) (fun _ t => va_P D vwCl [(h0, .inr (8, [.int 1, .ref lH, .ref lB, .ref lJ, .ref aR, .ref aL, .int 0, .int 0, .int 0, .ref lC, .ref aM, .ref aP, .int 0, .int 0, .int 0, .int (-1), .int (-1), .int 0, .int 0, .long sm]))] t.heap ∧ va_K D vwCl [] t ∧ va_D (va_A [(h0, .inr (8, [.int 0, .ref lH, .ref lB, .ref lJ, .ref aR, .ref aL, .int 0, .int 0, .int 0, .ref lC, .ref aM, .ref aP, .int 0, .int 0, .int 0, .int (-1), .int (-1), .int 0, .int 0, .long sm])), (lJ, .inr (2, [.int 0, .ref eT, .int 0]))] sz) [(h0, .inr (8, [.int 1, .ref lH, .ref lB, .ref lJ, .ref aR, .ref aL, .int 0, .int 0, .int 0, .ref lC, .ref aM, .ref aP, .int 0, .int 0, .int 0, .int (-1), .int (-1), .int 0, .int 0, .long sm]))]) (va_A [(h0, .inr (8, [.int 0, .ref lH, .ref lB, .ref lJ, .ref aR, .ref aL, .int 0, .int 0, .int 0, .ref lC, .ref aM, .ref aP, .int 0, .int 0, .int 0, .int (-1), .int (-1), .int 0, .int 0, .long sm])), (lJ, .inr (2, [.int 0, .ref eT, .int 0]))] sz)) 0 0 (va_A [(h0, .inr (8, [.int 0, .ref lH, .ref lB, .ref lJ, .ref aR, .ref aL, .int 0, .int 0, .int 0, .ref lC, .ref aM, .ref aP, .int 0, .int 0, .int 0, .int (-1), .int (-1), .int 0, .int 0, .long sm])), (lJ, .inr (2, [.int 0, .ref eT, .int 0]))] sz) := by
  refine Met.ofW (cc := cX5_points) (maxL := 4) (ret := (some .int)) (by decide +kernel) rfl ?_
  intro p e s m args below meth c s₁ B hml hv
  obtain ⟨rfl, hsz, hP, hK, hD0, hE⟩ := hv
  have hx := B.exec
  have hb := B.bytes
  have hr := B.returns
  have hts := atoms_spec (ws := wsX5_points) B.pre
  have hown : s.vm.findClass RX5 = some m.cls := findClass_of_methodNamed B.named
  have hlocks := B.notSynchronized
  subst hsz
  have hD := hD0.self (sz := s.heap.size)
  generalize hAe : va_A [(h0, .inr (8, [.int 0, .ref lH, .ref lB, .ref lJ, .ref aR, .ref aL, .int 0, .int 0, .int 0, .ref lC, .ref aM, .ref aP, .int 0, .int 0, .int 0, .int (-1), .int (-1), .int 0, .int 0, .long sm])), (lJ, .inr (2, [.int 0, .ref eT, .int 0]))] s.heap.size = A at hD hE ⊢
  have hA : ∀ q : Nat, s.heap.size ≤ q → A q := fun q h => by rw [← hAe]; exact Or.inr h
  have hS : va_S A s.heap s.heap [] := va_S.rf
  have hP : va_P D vwCl [(h0, .inr (8, [.int 0, .ref lH, .ref lB, .ref lJ, .ref aR, .ref aL, .int 0, .int 0, .int 0, .ref lC, .ref aM, .ref aP, .int 0, .int 0, .int 0, .int (-1), .int (-1), .int 0, .int 0, .long sm])), (lJ, .inr (2, [.int 0, .ref eT, .int 0]))] s.heap := hP
  have hl := lv_entry ([.ref h0, .int p0, .int p1, .int p2]) (n := 4) (Nat.le_of_ble_eq_true rfl)
  rw [lg_entry_eq]
  generalize (lg_sl ([.ref h0, .int p0, .int p1, .int p2]) ++ List.replicate (4 - (lg_sl ([.ref h0, .int p0, .int p1, .int p2])).length) Slot.unset).toArray = ls at hl ⊢
  have hl : lv_has ls 4 [(0, .ref h0), (1, .int p0), (2, .int p1), (3, .int p2)] := hl
  refine lv_aload_n hx hb dX5_points_0 rfl (lv_at hl 0 rfl) ?_
  refine lv_iconst (v := 0) hx hb dX5_points_1 (by decide) ?_
  refine va_put (D := D) (ci := 8) (v := .int 0) (C := RX5) (T := TX5) (N := 20) hx hb hts (by decide +kernel) tyX5 tyX5_ok nmX5 hown hK hP hD hS 0 rfl rfl 0 (by decide) (hts (.fieldLink RX5 50 "PrizeHouseModel" "thrown" "I") (by decide +kernel)) (fun _ h9 => h9) rfl (tyX5_ok 0 (by decide)) rfl rfl (Nat.le_of_ble_eq_true rfl) dX5_points_2 (fun H locs hP hD hS => ?_)
  have hP : va_P D vwCl [(h0, .inr (8, [.int 0, .ref lH, .ref lB, .ref lJ, .ref aR, .ref aL, .int 0, .int 0, .int 0, .ref lC, .ref aM, .ref aP, .int 0, .int 0, .int 0, .int (-1), .int (-1), .int 0, .int 0, .long sm])), (lJ, .inr (2, [.int 0, .ref eT, .int 0]))] H := hP
  have hD : va_D A [(h0, .inr (8, [.int 0, .ref lH, .ref lB, .ref lJ, .ref aR, .ref aL, .int 0, .int 0, .int 0, .ref lC, .ref aM, .ref aP, .int 0, .int 0, .int 0, .int (-1), .int (-1), .int 0, .int 0, .long sm])), (lJ, .inr (2, [.int 0, .ref eT, .int 0]))] := hD
  refine lv_aload_n hx hb dX5_points_5 rfl (lv_at hl 0 rfl) ?_
  refine lv_iload_n hx hb dX5_points_6 rfl (lv_at hl 1 rfl) ?_
  have hPc := hP.sub (ws' := [(h0, .inr (8, [.int 0, .ref lH, .ref lB, .ref lJ, .ref aR, .ref aL, .int 0, .int 0, .int 0, .ref lC, .ref aM, .ref aP, .int 0, .int 0, .int 0, .int (-1), .int (-1), .int 0, .int 0, .long sm])), (lJ, .inr (2, [.int 0, .ref eT, .int 0]))]) [0, 1] rfl
  have hKc := hK.sub (tys' := []) [] rfl
  refine va_calli (va_runV (As := [.int p0]) (rest := []) ⟨hx, hb, hml, hown, hts⟩ (r_isJudge l D eT h0 lH lB lJ aR aL lC aM aP sm p0 H.size ) (cwV 1 hts gX5_points_X5_isJudge rfl rfl rfl (by decide +kernel) ⟨Nat.le_of_ble_eq_true rfl, Nat.le_of_ble_eq_true rfl⟩) (pr_v (ci := 8) (q0 := 0) rfl rfl hPc hKc hE hS hA) rfl rfl hl.1 rfl (lv_room (Nat.le_of_ble_eq_true rfl)) dX5_points_7 ⟨Nat.le_of_ble_eq_true rfl, Nat.le_of_ble_eq_true rfl⟩) hS (fun q h1 h2 => ro_A h1 h2) (fun q h => ro_F hS hA q h) (fun r u t H1 locs ht hvm hw hB hz1 hk1 hS => ?_)
  have hw : r = 0 := hw
  rw [hw]
  have hP := ro_P hP hk1
  generalize H1 = H at hP hS ⊢
  refine lv_if_eq (tgt := 40) hx hb dX5_points_10 (by decide) (fun _ => ?_) (fun h => absurd (by decide) h)
  refine lv_aload_n hx hb dX5_points_40 rfl (lv_at hl 0 rfl) ?_
  refine lv_iconst (v := 1) hx hb dX5_points_41 (by decide) ?_
  have hPc := hP.sub (ws' := [(h0, .inr (8, [.int 0, .ref lH, .ref lB, .ref lJ, .ref aR, .ref aL, .int 0, .int 0, .int 0, .ref lC, .ref aM, .ref aP, .int 0, .int 0, .int 0, .int (-1), .int (-1), .int 0, .int 0, .long sm]))]) [0] rfl
  have hKc := hK.sub (tys' := []) [] rfl
  have hDc := hD.sub (ws' := [(h0, .inr (8, [.int 0, .ref lH, .ref lB, .ref lJ, .ref aR, .ref aL, .int 0, .int 0, .int 0, .ref lC, .ref aM, .ref aP, .int 0, .int 0, .int 0, .int (-1), .int (-1), .int 0, .int 0, .long sm]))]) [0] (by decide) rfl
  have hFc := va_free (wc := [(h0, .inr (8, [.int 0, .ref lH, .ref lB, .ref lJ, .ref aR, .ref aL, .int 0, .int 0, .int 0, .ref lC, .ref aM, .ref aP, .int 0, .int 0, .int 0, .int (-1), .int (-1), .int 0, .int 0, .long sm]))]) hD hS hA [0] rfl
  refine va_calli (va_runV (As := [.int 1]) (rest := []) ⟨hx, hb, hml, hown, hts⟩ (r_refuse l D eT h0 lH lB lJ aR aL lC aM aP sm 1 H.size ) (cwV 1 hts gX5_points_X5_refuse rfl rfl rfl (by decide +kernel) ⟨Nat.le_of_ble_eq_true rfl, Nat.le_of_ble_eq_true rfl⟩) (pc_v (ci := 8) (q0 := 0) rfl rfl hPc hDc hKc hE hS hFc) rfl rfl hl.1 rfl (lv_room (Nat.le_of_ble_eq_true rfl)) dX5_points_42 ⟨Nat.le_of_ble_eq_true rfl, Nat.le_of_ble_eq_true rfl⟩) hS (fun q _ h => hFc q h) hFc (fun r u t H1 locs ht hvm hw hB hz1 hk1 hS => ?_)
  have hw : r = 0 := hw
  rw [hw]
  obtain ⟨hP1, hK1, hD1⟩ := hB
  rw [ht] at hP1
  have hK1 := va_K.moved hvm.symm hK1
  obtain ⟨hP, hD⟩ := va_join (wr := [(lJ, .inr (2, [.int 0, .ref eT, .int 0]))]) (w1 := [(h0, .inr (8, [.int 1, .ref lH, .ref lB, .ref lJ, .ref aR, .ref aL, .int 0, .int 0, .int 0, .ref lC, .ref aM, .ref aP, .int 0, .int 0, .int 0, .int (-1), .int (-1), .int 0, .int 0, .long sm]))]) hP hD [0] [1] rfl rfl (by decide) (by decide) hk1 hFc hP1 hD1
  generalize H1 = H at hP hS ⊢
  have hP : va_P D vwCl [(lJ, .inr (2, [.int 0, .ref eT, .int 0])), (h0, .inr (8, [.int 1, .ref lH, .ref lB, .ref lJ, .ref aR, .ref aL, .int 0, .int 0, .int 0, .ref lC, .ref aM, .ref aP, .int 0, .int 0, .int 0, .int (-1), .int (-1), .int 0, .int 0, .long sm]))] H := hP
  have hD : va_D A [(lJ, .inr (2, [.int 0, .ref eT, .int 0])), (h0, .inr (8, [.int 1, .ref lH, .ref lB, .ref lJ, .ref aR, .ref aL, .int 0, .int 0, .int 0, .ref lC, .ref aM, .ref aP, .int 0, .int 0, .int 0, .int (-1), .int (-1), .int 0, .int 0, .long sm]))] := hD
  have hP9 := hP.sub (ws' := [(h0, .inr (8, [.int 1, .ref lH, .ref lB, .ref lJ, .ref aR, .ref aL, .int 0, .int 0, .int 0, .ref lC, .ref aM, .ref aP, .int 0, .int 0, .int 0, .int (-1), .int (-1), .int 0, .int 0, .long sm]))]) [1] rfl
  have hD9 := hD.sub (ws' := [(h0, .inr (8, [.int 1, .ref lH, .ref lB, .ref lJ, .ref aR, .ref aL, .int 0, .int 0, .int 0, .ref lC, .ref aM, .ref aP, .int 0, .int 0, .int 0, .int (-1), .int (-1), .int 0, .int 0, .long sm]))]) [1] (by decide) rfl
  have hK9 := hK.sub (tys' := []) [] rfl
  exact W.iret (v := 0) hx hb hr (fun t ht hW => ⟨⟨0, (), rfl, rfl, ⟨by rw [ht]; exact hP9, va_K.moved hW.alike hK9, hD9⟩⟩, hS.F ht⟩) hS.2.2 dX5_points_45
set_option maxHeartbeats 4000000 in
set_option maxRecDepth 100000 in
theorem r_vote (l : Launch) (D : va_G) (eT : Nat) (h0 : Nat) (lH : Nat) (lB : Nat) (lJ : Nat) (aR : Nat) (aL : Nat) (lC : Nat) (aM : Nat) (aP : Nat) (sm : Int64) (p0 : Int32) (p1 : Int32) (sz : Nat) : Met l yX5_vote wsX5_vote ({ frames := 2, cells := 0, slots := 0, locals := 43 }) (va_Pc [.ref h0, .int p0, .int p1] (pc D eT sz [(h0, .inr (8, [.int 0, .ref lH, .ref lB, .ref lJ, .ref aR, .ref aL, .int 0, .int 0, .int 0, .ref lC, .ref aM, .ref aP, .int 0, .int 0, .int 0, .int (-1), .int (-1), .int 0, .int 0, .long sm])), (lJ, .inr (2, [.int 0, .ref eT, .int 0]))] [])) (va_Qi (fun (r : Int32) (_ : Unit) => r = 0) (fun _ t => va_P D vwCl [(h0, .inr (8, [.int 1, .ref lH, .ref lB, .ref lJ, .ref aR, .ref aL, .int 0, .int 0, .int 0, .ref lC, .ref aM, .ref aP, .int 0, .int 0, .int 0, .int (-1), .int (-1), .int 0, .int 0, .long sm]))] t.heap ∧ va_K D vwCl [] t ∧ va_D (va_A [(h0, .inr (8, [.int 0, .ref lH, .ref lB, .ref lJ, .ref aR, .ref aL, .int 0, .int 0, .int 0, .ref lC, .ref aM, .ref aP, .int 0, .int 0, .int 0, .int (-1), .int (-1), .int 0, .int 0, .long sm])), (lJ, .inr (2, [.int 0, .ref eT, .int 0]))] sz) [(h0, .inr (8, [.int 1, .ref lH, .ref lB, .ref lJ, .ref aR, .ref aL, .int 0, .int 0, .int 0, .ref lC, .ref aM, .ref aP, .int 0, .int 0, .int 0, .int (-1), .int (-1), .int 0, .int 0, .long sm]))]) (va_A [(h0, .inr (8, [.int 0, .ref lH, .ref lB, .ref lJ, .ref aR, .ref aL, .int 0, .int 0, .int 0, .ref lC, .ref aM, .ref aP, .int 0, .int 0, .int 0, .int (-1), .int (-1), .int 0, .int 0, .long sm])), (lJ, .inr (2, [.int 0, .ref eT, .int 0]))] sz)) 0 0 (va_A [(h0, .inr (8, [.int 0, .ref lH, .ref lB, .ref lJ, .ref aR, .ref aL, .int 0, .int 0, .int 0, .ref lC, .ref aM, .ref aP, .int 0, .int 0, .int 0, .int (-1), .int (-1), .int 0, .int 0, .long sm])), (lJ, .inr (2, [.int 0, .ref eT, .int 0]))] sz) := by
  refine Met.ofW (cc := cX5_vote) (maxL := 6) (ret := (some .int)) (by decide +kernel) rfl ?_
  intro p e s m args below meth c s₁ B hml hv
  obtain ⟨rfl, hsz, hP, hK, hD0, hE⟩ := hv
  have hx := B.exec
  have hb := B.bytes
  have hr := B.returns
  have hts := atoms_spec (ws := wsX5_vote) B.pre
  have hown : s.vm.findClass RX5 = some m.cls := findClass_of_methodNamed B.named
  have hlocks := B.notSynchronized
  subst hsz
  have hD := hD0.self (sz := s.heap.size)
  generalize hAe : va_A [(h0, .inr (8, [.int 0, .ref lH, .ref lB, .ref lJ, .ref aR, .ref aL, .int 0, .int 0, .int 0, .ref lC, .ref aM, .ref aP, .int 0, .int 0, .int 0, .int (-1), .int (-1), .int 0, .int 0, .long sm])), (lJ, .inr (2, [.int 0, .ref eT, .int 0]))] s.heap.size = A at hD hE ⊢
  have hA : ∀ q : Nat, s.heap.size ≤ q → A q := fun q h => by rw [← hAe]; exact Or.inr h
  have hS : va_S A s.heap s.heap [] := va_S.rf
  have hP : va_P D vwCl [(h0, .inr (8, [.int 0, .ref lH, .ref lB, .ref lJ, .ref aR, .ref aL, .int 0, .int 0, .int 0, .ref lC, .ref aM, .ref aP, .int 0, .int 0, .int 0, .int (-1), .int (-1), .int 0, .int 0, .long sm])), (lJ, .inr (2, [.int 0, .ref eT, .int 0]))] s.heap := hP
  have hl := lv_entry ([.ref h0, .int p0, .int p1]) (n := 6) (Nat.le_of_ble_eq_true rfl)
  rw [lg_entry_eq]
  generalize (lg_sl ([.ref h0, .int p0, .int p1]) ++ List.replicate (6 - (lg_sl ([.ref h0, .int p0, .int p1])).length) Slot.unset).toArray = ls at hl ⊢
  have hl : lv_has ls 6 [(0, .ref h0), (1, .int p0), (2, .int p1)] := hl
  refine lv_aload_n hx hb dX5_vote_0 rfl (lv_at hl 0 rfl) ?_
  refine lv_iconst (v := 0) hx hb dX5_vote_1 (by decide) ?_
  refine va_put (D := D) (ci := 8) (v := .int 0) (C := RX5) (T := TX5) (N := 20) hx hb hts (by decide +kernel) tyX5 tyX5_ok nmX5 hown hK hP hD hS 0 rfl rfl 0 (by decide) (hts (.fieldLink RX5 50 "PrizeHouseModel" "thrown" "I") (by decide +kernel)) (fun _ h9 => h9) rfl (tyX5_ok 0 (by decide)) rfl rfl (Nat.le_of_ble_eq_true rfl) dX5_vote_2 (fun H locs hP hD hS => ?_)
  have hP : va_P D vwCl [(h0, .inr (8, [.int 0, .ref lH, .ref lB, .ref lJ, .ref aR, .ref aL, .int 0, .int 0, .int 0, .ref lC, .ref aM, .ref aP, .int 0, .int 0, .int 0, .int (-1), .int (-1), .int 0, .int 0, .long sm])), (lJ, .inr (2, [.int 0, .ref eT, .int 0]))] H := hP
  have hD : va_D A [(h0, .inr (8, [.int 0, .ref lH, .ref lB, .ref lJ, .ref aR, .ref aL, .int 0, .int 0, .int 0, .ref lC, .ref aM, .ref aP, .int 0, .int 0, .int 0, .int (-1), .int (-1), .int 0, .int 0, .long sm])), (lJ, .inr (2, [.int 0, .ref eT, .int 0]))] := hD
  refine lv_aload_n hx hb dX5_vote_5 rfl (lv_at hl 0 rfl) ?_
  refine lv_iload_n hx hb dX5_vote_6 rfl (lv_at hl 1 rfl) ?_
  have hPc := hP.sub (ws' := [(h0, .inr (8, [.int 0, .ref lH, .ref lB, .ref lJ, .ref aR, .ref aL, .int 0, .int 0, .int 0, .ref lC, .ref aM, .ref aP, .int 0, .int 0, .int 0, .int (-1), .int (-1), .int 0, .int 0, .long sm])), (lJ, .inr (2, [.int 0, .ref eT, .int 0]))]) [0, 1] rfl
  have hKc := hK.sub (tys' := []) [] rfl
  refine va_calli (va_runV (As := [.int p0]) (rest := []) ⟨hx, hb, hml, hown, hts⟩ (r_isJudge l D eT h0 lH lB lJ aR aL lC aM aP sm p0 H.size ) (cwV 1 hts gX5_vote_X5_isJudge rfl rfl rfl (by decide +kernel) ⟨Nat.le_of_ble_eq_true rfl, Nat.le_of_ble_eq_true rfl⟩) (pr_v (ci := 8) (q0 := 0) rfl rfl hPc hKc hE hS hA) rfl rfl hl.1 rfl (lv_room (Nat.le_of_ble_eq_true rfl)) dX5_vote_7 ⟨Nat.le_of_ble_eq_true rfl, Nat.le_of_ble_eq_true rfl⟩) hS (fun q h1 h2 => ro_A h1 h2) (fun q h => ro_F hS hA q h) (fun r u t H1 locs ht hvm hw hB hz1 hk1 hS => ?_)
  have hw : r = 0 := hw
  rw [hw]
  have hP := ro_P hP hk1
  generalize H1 = H at hP hS ⊢
  refine lv_if_ne (tgt := 19) hx hb dX5_vote_10 (by decide) (fun h => absurd (by decide) h) (fun _ => ?_)
  refine lv_aload_n hx hb dX5_vote_13 rfl (lv_at hl 0 rfl) ?_
  refine lv_iconst (v := 1) hx hb dX5_vote_14 (by decide) ?_
  have hPc := hP.sub (ws' := [(h0, .inr (8, [.int 0, .ref lH, .ref lB, .ref lJ, .ref aR, .ref aL, .int 0, .int 0, .int 0, .ref lC, .ref aM, .ref aP, .int 0, .int 0, .int 0, .int (-1), .int (-1), .int 0, .int 0, .long sm]))]) [0] rfl
  have hKc := hK.sub (tys' := []) [] rfl
  have hDc := hD.sub (ws' := [(h0, .inr (8, [.int 0, .ref lH, .ref lB, .ref lJ, .ref aR, .ref aL, .int 0, .int 0, .int 0, .ref lC, .ref aM, .ref aP, .int 0, .int 0, .int 0, .int (-1), .int (-1), .int 0, .int 0, .long sm]))]) [0] (by decide) rfl
  have hFc := va_free (wc := [(h0, .inr (8, [.int 0, .ref lH, .ref lB, .ref lJ, .ref aR, .ref aL, .int 0, .int 0, .int 0, .ref lC, .ref aM, .ref aP, .int 0, .int 0, .int 0, .int (-1), .int (-1), .int 0, .int 0, .long sm]))]) hD hS hA [0] rfl
  refine va_calli (va_runV (As := [.int 1]) (rest := []) ⟨hx, hb, hml, hown, hts⟩ (r_refuse l D eT h0 lH lB lJ aR aL lC aM aP sm 1 H.size ) (cwV 1 hts gX5_vote_X5_refuse rfl rfl rfl (by decide +kernel) ⟨Nat.le_of_ble_eq_true rfl, Nat.le_of_ble_eq_true rfl⟩) (pc_v (ci := 8) (q0 := 0) rfl rfl hPc hDc hKc hE hS hFc) rfl rfl hl.1 rfl (lv_room (Nat.le_of_ble_eq_true rfl)) dX5_vote_15 ⟨Nat.le_of_ble_eq_true rfl, Nat.le_of_ble_eq_true rfl⟩) hS (fun q _ h => hFc q h) hFc (fun r u t H1 locs ht hvm hw hB hz1 hk1 hS => ?_)
  have hw : r = 0 := hw
  rw [hw]
  obtain ⟨hP1, hK1, hD1⟩ := hB
  rw [ht] at hP1
  have hK1 := va_K.moved hvm.symm hK1
  obtain ⟨hP, hD⟩ := va_join (wr := [(lJ, .inr (2, [.int 0, .ref eT, .int 0]))]) (w1 := [(h0, .inr (8, [.int 1, .ref lH, .ref lB, .ref lJ, .ref aR, .ref aL, .int 0, .int 0, .int 0, .ref lC, .ref aM, .ref aP, .int 0, .int 0, .int 0, .int (-1), .int (-1), .int 0, .int 0, .long sm]))]) hP hD [0] [1] rfl rfl (by decide) (by decide) hk1 hFc hP1 hD1
  generalize H1 = H at hP hS ⊢
  have hP : va_P D vwCl [(lJ, .inr (2, [.int 0, .ref eT, .int 0])), (h0, .inr (8, [.int 1, .ref lH, .ref lB, .ref lJ, .ref aR, .ref aL, .int 0, .int 0, .int 0, .ref lC, .ref aM, .ref aP, .int 0, .int 0, .int 0, .int (-1), .int (-1), .int 0, .int 0, .long sm]))] H := hP
  have hD : va_D A [(lJ, .inr (2, [.int 0, .ref eT, .int 0])), (h0, .inr (8, [.int 1, .ref lH, .ref lB, .ref lJ, .ref aR, .ref aL, .int 0, .int 0, .int 0, .ref lC, .ref aM, .ref aP, .int 0, .int 0, .int 0, .int (-1), .int (-1), .int 0, .int 0, .long sm]))] := hD
  have hP9 := hP.sub (ws' := [(h0, .inr (8, [.int 1, .ref lH, .ref lB, .ref lJ, .ref aR, .ref aL, .int 0, .int 0, .int 0, .ref lC, .ref aM, .ref aP, .int 0, .int 0, .int 0, .int (-1), .int (-1), .int 0, .int 0, .long sm]))]) [1] rfl
  have hD9 := hD.sub (ws' := [(h0, .inr (8, [.int 1, .ref lH, .ref lB, .ref lJ, .ref aR, .ref aL, .int 0, .int 0, .int 0, .ref lC, .ref aM, .ref aP, .int 0, .int 0, .int 0, .int (-1), .int (-1), .int 0, .int 0, .long sm]))]) [1] (by decide) rfl
  have hK9 := hK.sub (tys' := []) [] rfl
  exact W.iret (v := 0) hx hb hr (fun t ht hW => ⟨⟨0, (), rfl, rfl, ⟨by rw [ht]; exact hP9, va_K.moved hW.alike hK9, hD9⟩⟩, hS.F ht⟩) hS.2.2 dX5_vote_18
set_option maxHeartbeats 4000000 in
set_option maxRecDepth 100000 in
theorem r_ofHouse (l : Launch) (D : va_G) (eT : Nat) (h0 : Nat) (lH : Nat) (lB : Nat) (lJ : Nat) (aR : Nat) (aL : Nat) (lC : Nat) (aM : Nat) (aP : Nat) (sm : Int64) (p0 : Int32) (p1 : Int32) (sz : Nat) : Met l yX5_ofHouse wsX5_ofHouse ({ frames := 2, cells := 0, slots := 0, locals := 43 }) (va_Pc [.ref h0, .int p0, .int p1] (pc D eT sz [(h0, .inr (8, [.int 0, .ref lH, .ref lB, .ref lJ, .ref aR, .ref aL, .int 0, .int 0, .int 0, .ref lC, .ref aM, .ref aP, .int 0, .int 0, .int 0, .int (-1), .int (-1), .int 0, .int 0, .long sm])), (lH, .inr (2, [.int 0, .ref eT, .int 0]))] [])) (va_Qi (fun (r : Int32) (_ : Unit) => r = 0) (fun _ t => va_P D vwCl [(h0, .inr (8, [.int 1, .ref lH, .ref lB, .ref lJ, .ref aR, .ref aL, .int 0, .int 0, .int 0, .ref lC, .ref aM, .ref aP, .int 0, .int 0, .int 0, .int (-1), .int (-1), .int 0, .int 0, .long sm]))] t.heap ∧ va_K D vwCl [] t ∧ va_D (va_A [(h0, .inr (8, [.int 0, .ref lH, .ref lB, .ref lJ, .ref aR, .ref aL, .int 0, .int 0, .int 0, .ref lC, .ref aM, .ref aP, .int 0, .int 0, .int 0, .int (-1), .int (-1), .int 0, .int 0, .long sm])), (lH, .inr (2, [.int 0, .ref eT, .int 0]))] sz) [(h0, .inr (8, [.int 1, .ref lH, .ref lB, .ref lJ, .ref aR, .ref aL, .int 0, .int 0, .int 0, .ref lC, .ref aM, .ref aP, .int 0, .int 0, .int 0, .int (-1), .int (-1), .int 0, .int 0, .long sm]))]) (va_A [(h0, .inr (8, [.int 0, .ref lH, .ref lB, .ref lJ, .ref aR, .ref aL, .int 0, .int 0, .int 0, .ref lC, .ref aM, .ref aP, .int 0, .int 0, .int 0, .int (-1), .int (-1), .int 0, .int 0, .long sm])), (lH, .inr (2, [.int 0, .ref eT, .int 0]))] sz)) 0 0 (va_A [(h0, .inr (8, [.int 0, .ref lH, .ref lB, .ref lJ, .ref aR, .ref aL, .int 0, .int 0, .int 0, .ref lC, .ref aM, .ref aP, .int 0, .int 0, .int 0, .int (-1), .int (-1), .int 0, .int 0, .long sm])), (lH, .inr (2, [.int 0, .ref eT, .int 0]))] sz) := by
  refine Met.ofW (cc := cX5_ofHouse) (maxL := 3) (ret := (some .int)) (by decide +kernel) rfl ?_
  intro p e s m args below meth c s₁ B hml hv
  obtain ⟨rfl, hsz, hP, hK, hD0, hE⟩ := hv
  have hx := B.exec
  have hb := B.bytes
  have hr := B.returns
  have hts := atoms_spec (ws := wsX5_ofHouse) B.pre
  have hown : s.vm.findClass RX5 = some m.cls := findClass_of_methodNamed B.named
  have hlocks := B.notSynchronized
  subst hsz
  have hD := hD0.self (sz := s.heap.size)
  generalize hAe : va_A [(h0, .inr (8, [.int 0, .ref lH, .ref lB, .ref lJ, .ref aR, .ref aL, .int 0, .int 0, .int 0, .ref lC, .ref aM, .ref aP, .int 0, .int 0, .int 0, .int (-1), .int (-1), .int 0, .int 0, .long sm])), (lH, .inr (2, [.int 0, .ref eT, .int 0]))] s.heap.size = A at hD hE ⊢
  have hA : ∀ q : Nat, s.heap.size ≤ q → A q := fun q h => by rw [← hAe]; exact Or.inr h
  have hS : va_S A s.heap s.heap [] := va_S.rf
  have hP : va_P D vwCl [(h0, .inr (8, [.int 0, .ref lH, .ref lB, .ref lJ, .ref aR, .ref aL, .int 0, .int 0, .int 0, .ref lC, .ref aM, .ref aP, .int 0, .int 0, .int 0, .int (-1), .int (-1), .int 0, .int 0, .long sm])), (lH, .inr (2, [.int 0, .ref eT, .int 0]))] s.heap := hP
  have hl := lv_entry ([.ref h0, .int p0, .int p1]) (n := 3) (Nat.le_of_ble_eq_true rfl)
  rw [lg_entry_eq]
  generalize (lg_sl ([.ref h0, .int p0, .int p1]) ++ List.replicate (3 - (lg_sl ([.ref h0, .int p0, .int p1])).length) Slot.unset).toArray = ls at hl ⊢
  have hl : lv_has ls 3 [(0, .ref h0), (1, .int p0), (2, .int p1)] := hl
  refine lv_aload_n hx hb dX5_ofHouse_0 rfl (lv_at hl 0 rfl) ?_
  refine lv_iconst (v := 0) hx hb dX5_ofHouse_1 (by decide) ?_
  refine va_put (D := D) (ci := 8) (v := .int 0) (C := RX5) (T := TX5) (N := 20) hx hb hts (by decide +kernel) tyX5 tyX5_ok nmX5 hown hK hP hD hS 0 rfl rfl 0 (by decide) (hts (.fieldLink RX5 50 "PrizeHouseModel" "thrown" "I") (by decide +kernel)) (fun _ h9 => h9) rfl (tyX5_ok 0 (by decide)) rfl rfl (Nat.le_of_ble_eq_true rfl) dX5_ofHouse_2 (fun H locs hP hD hS => ?_)
  have hP : va_P D vwCl [(h0, .inr (8, [.int 0, .ref lH, .ref lB, .ref lJ, .ref aR, .ref aL, .int 0, .int 0, .int 0, .ref lC, .ref aM, .ref aP, .int 0, .int 0, .int 0, .int (-1), .int (-1), .int 0, .int 0, .long sm])), (lH, .inr (2, [.int 0, .ref eT, .int 0]))] H := hP
  have hD : va_D A [(h0, .inr (8, [.int 0, .ref lH, .ref lB, .ref lJ, .ref aR, .ref aL, .int 0, .int 0, .int 0, .ref lC, .ref aM, .ref aP, .int 0, .int 0, .int 0, .int (-1), .int (-1), .int 0, .int 0, .long sm])), (lH, .inr (2, [.int 0, .ref eT, .int 0]))] := hD
  refine lv_aload_n hx hb dX5_ofHouse_5 rfl (lv_at hl 0 rfl) ?_
  refine lv_iload_n hx hb dX5_ofHouse_6 rfl (lv_at hl 1 rfl) ?_
  have hPc := hP.sub (ws' := [(h0, .inr (8, [.int 0, .ref lH, .ref lB, .ref lJ, .ref aR, .ref aL, .int 0, .int 0, .int 0, .ref lC, .ref aM, .ref aP, .int 0, .int 0, .int 0, .int (-1), .int (-1), .int 0, .int 0, .long sm])), (lH, .inr (2, [.int 0, .ref eT, .int 0]))]) [0, 1] rfl
  have hKc := hK.sub (tys' := []) [] rfl
  refine va_calli (va_runV (As := [.int p0]) (rest := []) ⟨hx, hb, hml, hown, hts⟩ (r_isHouse l D eT h0 lH lB lJ aR aL lC aM aP sm p0 H.size ) (cwV 1 hts gX5_ofHouse_X5_isHouse rfl rfl rfl (by decide +kernel) ⟨Nat.le_of_ble_eq_true rfl, Nat.le_of_ble_eq_true rfl⟩) (pr_v (ci := 8) (q0 := 0) rfl rfl hPc hKc hE hS hA) rfl rfl hl.1 rfl (lv_room (Nat.le_of_ble_eq_true rfl)) dX5_ofHouse_7 ⟨Nat.le_of_ble_eq_true rfl, Nat.le_of_ble_eq_true rfl⟩) hS (fun q h1 h2 => ro_A h1 h2) (fun q h => ro_F hS hA q h) (fun r u t H1 locs ht hvm hw hB hz1 hk1 hS => ?_)
  have hw : r = 0 := hw
  rw [hw]
  have hP := ro_P hP hk1
  generalize H1 = H at hP hS ⊢
  refine lv_if_ne (tgt := 19) hx hb dX5_ofHouse_10 (by decide) (fun h => absurd (by decide) h) (fun _ => ?_)
  refine lv_aload_n hx hb dX5_ofHouse_13 rfl (lv_at hl 0 rfl) ?_
  refine lv_iconst (v := 1) hx hb dX5_ofHouse_14 (by decide) ?_
  have hPc := hP.sub (ws' := [(h0, .inr (8, [.int 0, .ref lH, .ref lB, .ref lJ, .ref aR, .ref aL, .int 0, .int 0, .int 0, .ref lC, .ref aM, .ref aP, .int 0, .int 0, .int 0, .int (-1), .int (-1), .int 0, .int 0, .long sm]))]) [0] rfl
  have hKc := hK.sub (tys' := []) [] rfl
  have hDc := hD.sub (ws' := [(h0, .inr (8, [.int 0, .ref lH, .ref lB, .ref lJ, .ref aR, .ref aL, .int 0, .int 0, .int 0, .ref lC, .ref aM, .ref aP, .int 0, .int 0, .int 0, .int (-1), .int (-1), .int 0, .int 0, .long sm]))]) [0] (by decide) rfl
  have hFc := va_free (wc := [(h0, .inr (8, [.int 0, .ref lH, .ref lB, .ref lJ, .ref aR, .ref aL, .int 0, .int 0, .int 0, .ref lC, .ref aM, .ref aP, .int 0, .int 0, .int 0, .int (-1), .int (-1), .int 0, .int 0, .long sm]))]) hD hS hA [0] rfl
  refine va_calli (va_runV (As := [.int 1]) (rest := []) ⟨hx, hb, hml, hown, hts⟩ (r_refuse l D eT h0 lH lB lJ aR aL lC aM aP sm 1 H.size ) (cwV 1 hts gX5_ofHouse_X5_refuse rfl rfl rfl (by decide +kernel) ⟨Nat.le_of_ble_eq_true rfl, Nat.le_of_ble_eq_true rfl⟩) (pc_v (ci := 8) (q0 := 0) rfl rfl hPc hDc hKc hE hS hFc) rfl rfl hl.1 rfl (lv_room (Nat.le_of_ble_eq_true rfl)) dX5_ofHouse_15 ⟨Nat.le_of_ble_eq_true rfl, Nat.le_of_ble_eq_true rfl⟩) hS (fun q _ h => hFc q h) hFc (fun r u t H1 locs ht hvm hw hB hz1 hk1 hS => ?_)
  have hw : r = 0 := hw
  rw [hw]
  obtain ⟨hP1, hK1, hD1⟩ := hB
  rw [ht] at hP1
  have hK1 := va_K.moved hvm.symm hK1
  obtain ⟨hP, hD⟩ := va_join (wr := [(lH, .inr (2, [.int 0, .ref eT, .int 0]))]) (w1 := [(h0, .inr (8, [.int 1, .ref lH, .ref lB, .ref lJ, .ref aR, .ref aL, .int 0, .int 0, .int 0, .ref lC, .ref aM, .ref aP, .int 0, .int 0, .int 0, .int (-1), .int (-1), .int 0, .int 0, .long sm]))]) hP hD [0] [1] rfl rfl (by decide) (by decide) hk1 hFc hP1 hD1
  generalize H1 = H at hP hS ⊢
  have hP : va_P D vwCl [(lH, .inr (2, [.int 0, .ref eT, .int 0])), (h0, .inr (8, [.int 1, .ref lH, .ref lB, .ref lJ, .ref aR, .ref aL, .int 0, .int 0, .int 0, .ref lC, .ref aM, .ref aP, .int 0, .int 0, .int 0, .int (-1), .int (-1), .int 0, .int 0, .long sm]))] H := hP
  have hD : va_D A [(lH, .inr (2, [.int 0, .ref eT, .int 0])), (h0, .inr (8, [.int 1, .ref lH, .ref lB, .ref lJ, .ref aR, .ref aL, .int 0, .int 0, .int 0, .ref lC, .ref aM, .ref aP, .int 0, .int 0, .int 0, .int (-1), .int (-1), .int 0, .int 0, .long sm]))] := hD
  have hP9 := hP.sub (ws' := [(h0, .inr (8, [.int 1, .ref lH, .ref lB, .ref lJ, .ref aR, .ref aL, .int 0, .int 0, .int 0, .ref lC, .ref aM, .ref aP, .int 0, .int 0, .int 0, .int (-1), .int (-1), .int 0, .int 0, .long sm]))]) [1] rfl
  have hD9 := hD.sub (ws' := [(h0, .inr (8, [.int 1, .ref lH, .ref lB, .ref lJ, .ref aR, .ref aL, .int 0, .int 0, .int 0, .ref lC, .ref aM, .ref aP, .int 0, .int 0, .int 0, .int (-1), .int (-1), .int 0, .int 0, .long sm]))]) [1] (by decide) rfl
  have hK9 := hK.sub (tys' := []) [] rfl
  exact W.iret (v := 0) hx hb hr (fun t ht hW => ⟨⟨0, (), rfl, rfl, ⟨by rw [ht]; exact hP9, va_K.moved hW.alike hK9, hD9⟩⟩, hS.F ht⟩) hS.2.2 dX5_ofHouse_18
set_option maxHeartbeats 4000000 in
set_option maxRecDepth 100000 in
theorem r_ofBook (l : Launch) (D : va_G) (eT : Nat) (h0 : Nat) (lH : Nat) (lB : Nat) (lJ : Nat) (aR : Nat) (aL : Nat) (lC : Nat) (aM : Nat) (aP : Nat) (sm : Int64) (p0 : Int32) (p1 : Int32) (sz : Nat) : Met l yX5_ofBook wsX5_ofBook ({ frames := 2, cells := 0, slots := 0, locals := 43 }) (va_Pc [.ref h0, .int p0, .int p1] (pc D eT sz [(h0, .inr (8, [.int 0, .ref lH, .ref lB, .ref lJ, .ref aR, .ref aL, .int 0, .int 0, .int 0, .ref lC, .ref aM, .ref aP, .int 0, .int 0, .int 0, .int (-1), .int (-1), .int 0, .int 0, .long sm])), (lB, .inr (2, [.int 0, .ref eT, .int 0]))] [])) (va_Qi (fun (r : Int32) (_ : Unit) => r = 0) (fun _ t => va_P D vwCl [(h0, .inr (8, [.int 1, .ref lH, .ref lB, .ref lJ, .ref aR, .ref aL, .int 0, .int 0, .int 0, .ref lC, .ref aM, .ref aP, .int 0, .int 0, .int 0, .int (-1), .int (-1), .int 0, .int 0, .long sm]))] t.heap ∧ va_K D vwCl [] t ∧ va_D (va_A [(h0, .inr (8, [.int 0, .ref lH, .ref lB, .ref lJ, .ref aR, .ref aL, .int 0, .int 0, .int 0, .ref lC, .ref aM, .ref aP, .int 0, .int 0, .int 0, .int (-1), .int (-1), .int 0, .int 0, .long sm])), (lB, .inr (2, [.int 0, .ref eT, .int 0]))] sz) [(h0, .inr (8, [.int 1, .ref lH, .ref lB, .ref lJ, .ref aR, .ref aL, .int 0, .int 0, .int 0, .ref lC, .ref aM, .ref aP, .int 0, .int 0, .int 0, .int (-1), .int (-1), .int 0, .int 0, .long sm]))]) (va_A [(h0, .inr (8, [.int 0, .ref lH, .ref lB, .ref lJ, .ref aR, .ref aL, .int 0, .int 0, .int 0, .ref lC, .ref aM, .ref aP, .int 0, .int 0, .int 0, .int (-1), .int (-1), .int 0, .int 0, .long sm])), (lB, .inr (2, [.int 0, .ref eT, .int 0]))] sz)) 0 0 (va_A [(h0, .inr (8, [.int 0, .ref lH, .ref lB, .ref lJ, .ref aR, .ref aL, .int 0, .int 0, .int 0, .ref lC, .ref aM, .ref aP, .int 0, .int 0, .int 0, .int (-1), .int (-1), .int 0, .int 0, .long sm])), (lB, .inr (2, [.int 0, .ref eT, .int 0]))] sz) := by
  refine Met.ofW (cc := cX5_ofBook) (maxL := 3) (ret := (some .int)) (by decide +kernel) rfl ?_
  intro p e s m args below meth c s₁ B hml hv
  obtain ⟨rfl, hsz, hP, hK, hD0, hE⟩ := hv
  have hx := B.exec
  have hb := B.bytes
  have hr := B.returns
  have hts := atoms_spec (ws := wsX5_ofBook) B.pre
  have hown : s.vm.findClass RX5 = some m.cls := findClass_of_methodNamed B.named
  have hlocks := B.notSynchronized
  subst hsz
  have hD := hD0.self (sz := s.heap.size)
  generalize hAe : va_A [(h0, .inr (8, [.int 0, .ref lH, .ref lB, .ref lJ, .ref aR, .ref aL, .int 0, .int 0, .int 0, .ref lC, .ref aM, .ref aP, .int 0, .int 0, .int 0, .int (-1), .int (-1), .int 0, .int 0, .long sm])), (lB, .inr (2, [.int 0, .ref eT, .int 0]))] s.heap.size = A at hD hE ⊢
  have hA : ∀ q : Nat, s.heap.size ≤ q → A q := fun q h => by rw [← hAe]; exact Or.inr h
  have hS : va_S A s.heap s.heap [] := va_S.rf
  have hP : va_P D vwCl [(h0, .inr (8, [.int 0, .ref lH, .ref lB, .ref lJ, .ref aR, .ref aL, .int 0, .int 0, .int 0, .ref lC, .ref aM, .ref aP, .int 0, .int 0, .int 0, .int (-1), .int (-1), .int 0, .int 0, .long sm])), (lB, .inr (2, [.int 0, .ref eT, .int 0]))] s.heap := hP
  have hl := lv_entry ([.ref h0, .int p0, .int p1]) (n := 3) (Nat.le_of_ble_eq_true rfl)
  rw [lg_entry_eq]
  generalize (lg_sl ([.ref h0, .int p0, .int p1]) ++ List.replicate (3 - (lg_sl ([.ref h0, .int p0, .int p1])).length) Slot.unset).toArray = ls at hl ⊢
  have hl : lv_has ls 3 [(0, .ref h0), (1, .int p0), (2, .int p1)] := hl
  refine lv_aload_n hx hb dX5_ofBook_0 rfl (lv_at hl 0 rfl) ?_
  refine lv_iconst (v := 0) hx hb dX5_ofBook_1 (by decide) ?_
  refine va_put (D := D) (ci := 8) (v := .int 0) (C := RX5) (T := TX5) (N := 20) hx hb hts (by decide +kernel) tyX5 tyX5_ok nmX5 hown hK hP hD hS 0 rfl rfl 0 (by decide) (hts (.fieldLink RX5 50 "PrizeHouseModel" "thrown" "I") (by decide +kernel)) (fun _ h9 => h9) rfl (tyX5_ok 0 (by decide)) rfl rfl (Nat.le_of_ble_eq_true rfl) dX5_ofBook_2 (fun H locs hP hD hS => ?_)
  have hP : va_P D vwCl [(h0, .inr (8, [.int 0, .ref lH, .ref lB, .ref lJ, .ref aR, .ref aL, .int 0, .int 0, .int 0, .ref lC, .ref aM, .ref aP, .int 0, .int 0, .int 0, .int (-1), .int (-1), .int 0, .int 0, .long sm])), (lB, .inr (2, [.int 0, .ref eT, .int 0]))] H := hP
  have hD : va_D A [(h0, .inr (8, [.int 0, .ref lH, .ref lB, .ref lJ, .ref aR, .ref aL, .int 0, .int 0, .int 0, .ref lC, .ref aM, .ref aP, .int 0, .int 0, .int 0, .int (-1), .int (-1), .int 0, .int 0, .long sm])), (lB, .inr (2, [.int 0, .ref eT, .int 0]))] := hD
  refine lv_aload_n hx hb dX5_ofBook_5 rfl (lv_at hl 0 rfl) ?_
  refine lv_iload_n hx hb dX5_ofBook_6 rfl (lv_at hl 1 rfl) ?_
  have hPc := hP.sub (ws' := [(h0, .inr (8, [.int 0, .ref lH, .ref lB, .ref lJ, .ref aR, .ref aL, .int 0, .int 0, .int 0, .ref lC, .ref aM, .ref aP, .int 0, .int 0, .int 0, .int (-1), .int (-1), .int 0, .int 0, .long sm])), (lB, .inr (2, [.int 0, .ref eT, .int 0]))]) [0, 1] rfl
  have hKc := hK.sub (tys' := []) [] rfl
  refine va_calli (va_runV (As := [.int p0]) (rest := []) ⟨hx, hb, hml, hown, hts⟩ (r_isBook l D eT h0 lH lB lJ aR aL lC aM aP sm p0 H.size ) (cwV 1 hts gX5_ofBook_X5_isBook rfl rfl rfl (by decide +kernel) ⟨Nat.le_of_ble_eq_true rfl, Nat.le_of_ble_eq_true rfl⟩) (pr_v (ci := 8) (q0 := 0) rfl rfl hPc hKc hE hS hA) rfl rfl hl.1 rfl (lv_room (Nat.le_of_ble_eq_true rfl)) dX5_ofBook_7 ⟨Nat.le_of_ble_eq_true rfl, Nat.le_of_ble_eq_true rfl⟩) hS (fun q h1 h2 => ro_A h1 h2) (fun q h => ro_F hS hA q h) (fun r u t H1 locs ht hvm hw hB hz1 hk1 hS => ?_)
  have hw : r = 0 := hw
  rw [hw]
  have hP := ro_P hP hk1
  generalize H1 = H at hP hS ⊢
  refine lv_if_ne (tgt := 19) hx hb dX5_ofBook_10 (by decide) (fun h => absurd (by decide) h) (fun _ => ?_)
  refine lv_aload_n hx hb dX5_ofBook_13 rfl (lv_at hl 0 rfl) ?_
  refine lv_iconst (v := 1) hx hb dX5_ofBook_14 (by decide) ?_
  have hPc := hP.sub (ws' := [(h0, .inr (8, [.int 0, .ref lH, .ref lB, .ref lJ, .ref aR, .ref aL, .int 0, .int 0, .int 0, .ref lC, .ref aM, .ref aP, .int 0, .int 0, .int 0, .int (-1), .int (-1), .int 0, .int 0, .long sm]))]) [0] rfl
  have hKc := hK.sub (tys' := []) [] rfl
  have hDc := hD.sub (ws' := [(h0, .inr (8, [.int 0, .ref lH, .ref lB, .ref lJ, .ref aR, .ref aL, .int 0, .int 0, .int 0, .ref lC, .ref aM, .ref aP, .int 0, .int 0, .int 0, .int (-1), .int (-1), .int 0, .int 0, .long sm]))]) [0] (by decide) rfl
  have hFc := va_free (wc := [(h0, .inr (8, [.int 0, .ref lH, .ref lB, .ref lJ, .ref aR, .ref aL, .int 0, .int 0, .int 0, .ref lC, .ref aM, .ref aP, .int 0, .int 0, .int 0, .int (-1), .int (-1), .int 0, .int 0, .long sm]))]) hD hS hA [0] rfl
  refine va_calli (va_runV (As := [.int 1]) (rest := []) ⟨hx, hb, hml, hown, hts⟩ (r_refuse l D eT h0 lH lB lJ aR aL lC aM aP sm 1 H.size ) (cwV 1 hts gX5_ofBook_X5_refuse rfl rfl rfl (by decide +kernel) ⟨Nat.le_of_ble_eq_true rfl, Nat.le_of_ble_eq_true rfl⟩) (pc_v (ci := 8) (q0 := 0) rfl rfl hPc hDc hKc hE hS hFc) rfl rfl hl.1 rfl (lv_room (Nat.le_of_ble_eq_true rfl)) dX5_ofBook_15 ⟨Nat.le_of_ble_eq_true rfl, Nat.le_of_ble_eq_true rfl⟩) hS (fun q _ h => hFc q h) hFc (fun r u t H1 locs ht hvm hw hB hz1 hk1 hS => ?_)
  have hw : r = 0 := hw
  rw [hw]
  obtain ⟨hP1, hK1, hD1⟩ := hB
  rw [ht] at hP1
  have hK1 := va_K.moved hvm.symm hK1
  obtain ⟨hP, hD⟩ := va_join (wr := [(lB, .inr (2, [.int 0, .ref eT, .int 0]))]) (w1 := [(h0, .inr (8, [.int 1, .ref lH, .ref lB, .ref lJ, .ref aR, .ref aL, .int 0, .int 0, .int 0, .ref lC, .ref aM, .ref aP, .int 0, .int 0, .int 0, .int (-1), .int (-1), .int 0, .int 0, .long sm]))]) hP hD [0] [1] rfl rfl (by decide) (by decide) hk1 hFc hP1 hD1
  generalize H1 = H at hP hS ⊢
  have hP : va_P D vwCl [(lB, .inr (2, [.int 0, .ref eT, .int 0])), (h0, .inr (8, [.int 1, .ref lH, .ref lB, .ref lJ, .ref aR, .ref aL, .int 0, .int 0, .int 0, .ref lC, .ref aM, .ref aP, .int 0, .int 0, .int 0, .int (-1), .int (-1), .int 0, .int 0, .long sm]))] H := hP
  have hD : va_D A [(lB, .inr (2, [.int 0, .ref eT, .int 0])), (h0, .inr (8, [.int 1, .ref lH, .ref lB, .ref lJ, .ref aR, .ref aL, .int 0, .int 0, .int 0, .ref lC, .ref aM, .ref aP, .int 0, .int 0, .int 0, .int (-1), .int (-1), .int 0, .int 0, .long sm]))] := hD
  have hP9 := hP.sub (ws' := [(h0, .inr (8, [.int 1, .ref lH, .ref lB, .ref lJ, .ref aR, .ref aL, .int 0, .int 0, .int 0, .ref lC, .ref aM, .ref aP, .int 0, .int 0, .int 0, .int (-1), .int (-1), .int 0, .int 0, .long sm]))]) [1] rfl
  have hD9 := hD.sub (ws' := [(h0, .inr (8, [.int 1, .ref lH, .ref lB, .ref lJ, .ref aR, .ref aL, .int 0, .int 0, .int 0, .ref lC, .ref aM, .ref aP, .int 0, .int 0, .int 0, .int (-1), .int (-1), .int 0, .int 0, .long sm]))]) [1] (by decide) rfl
  have hK9 := hK.sub (tys' := []) [] rfl
  exact W.iret (v := 0) hx hb hr (fun t ht hW => ⟨⟨0, (), rfl, rfl, ⟨by rw [ht]; exact hP9, va_K.moved hW.alike hK9, hD9⟩⟩, hS.F ht⟩) hS.2.2 dX5_ofBook_18
set_option maxHeartbeats 4000000 in
set_option maxRecDepth 100000 in
theorem r_ofJudge (l : Launch) (D : va_G) (eT : Nat) (h0 : Nat) (lH : Nat) (lB : Nat) (lJ : Nat) (aR : Nat) (aL : Nat) (lC : Nat) (aM : Nat) (aP : Nat) (sm : Int64) (p0 : Int32) (p1 : Int32) (sz : Nat) : Met l yX5_ofJudge wsX5_ofJudge ({ frames := 2, cells := 0, slots := 0, locals := 43 }) (va_Pc [.ref h0, .int p0, .int p1] (pc D eT sz [(h0, .inr (8, [.int 0, .ref lH, .ref lB, .ref lJ, .ref aR, .ref aL, .int 0, .int 0, .int 0, .ref lC, .ref aM, .ref aP, .int 0, .int 0, .int 0, .int (-1), .int (-1), .int 0, .int 0, .long sm])), (lJ, .inr (2, [.int 0, .ref eT, .int 0]))] [])) (va_Qi (fun (r : Int32) (_ : Unit) => r = 0) (fun _ t => va_P D vwCl [(h0, .inr (8, [.int 1, .ref lH, .ref lB, .ref lJ, .ref aR, .ref aL, .int 0, .int 0, .int 0, .ref lC, .ref aM, .ref aP, .int 0, .int 0, .int 0, .int (-1), .int (-1), .int 0, .int 0, .long sm]))] t.heap ∧ va_K D vwCl [] t ∧ va_D (va_A [(h0, .inr (8, [.int 0, .ref lH, .ref lB, .ref lJ, .ref aR, .ref aL, .int 0, .int 0, .int 0, .ref lC, .ref aM, .ref aP, .int 0, .int 0, .int 0, .int (-1), .int (-1), .int 0, .int 0, .long sm])), (lJ, .inr (2, [.int 0, .ref eT, .int 0]))] sz) [(h0, .inr (8, [.int 1, .ref lH, .ref lB, .ref lJ, .ref aR, .ref aL, .int 0, .int 0, .int 0, .ref lC, .ref aM, .ref aP, .int 0, .int 0, .int 0, .int (-1), .int (-1), .int 0, .int 0, .long sm]))]) (va_A [(h0, .inr (8, [.int 0, .ref lH, .ref lB, .ref lJ, .ref aR, .ref aL, .int 0, .int 0, .int 0, .ref lC, .ref aM, .ref aP, .int 0, .int 0, .int 0, .int (-1), .int (-1), .int 0, .int 0, .long sm])), (lJ, .inr (2, [.int 0, .ref eT, .int 0]))] sz)) 0 0 (va_A [(h0, .inr (8, [.int 0, .ref lH, .ref lB, .ref lJ, .ref aR, .ref aL, .int 0, .int 0, .int 0, .ref lC, .ref aM, .ref aP, .int 0, .int 0, .int 0, .int (-1), .int (-1), .int 0, .int 0, .long sm])), (lJ, .inr (2, [.int 0, .ref eT, .int 0]))] sz) := by
  refine Met.ofW (cc := cX5_ofJudge) (maxL := 3) (ret := (some .int)) (by decide +kernel) rfl ?_
  intro p e s m args below meth c s₁ B hml hv
  obtain ⟨rfl, hsz, hP, hK, hD0, hE⟩ := hv
  have hx := B.exec
  have hb := B.bytes
  have hr := B.returns
  have hts := atoms_spec (ws := wsX5_ofJudge) B.pre
  have hown : s.vm.findClass RX5 = some m.cls := findClass_of_methodNamed B.named
  have hlocks := B.notSynchronized
  subst hsz
  have hD := hD0.self (sz := s.heap.size)
  generalize hAe : va_A [(h0, .inr (8, [.int 0, .ref lH, .ref lB, .ref lJ, .ref aR, .ref aL, .int 0, .int 0, .int 0, .ref lC, .ref aM, .ref aP, .int 0, .int 0, .int 0, .int (-1), .int (-1), .int 0, .int 0, .long sm])), (lJ, .inr (2, [.int 0, .ref eT, .int 0]))] s.heap.size = A at hD hE ⊢
  have hA : ∀ q : Nat, s.heap.size ≤ q → A q := fun q h => by rw [← hAe]; exact Or.inr h
  have hS : va_S A s.heap s.heap [] := va_S.rf
  have hP : va_P D vwCl [(h0, .inr (8, [.int 0, .ref lH, .ref lB, .ref lJ, .ref aR, .ref aL, .int 0, .int 0, .int 0, .ref lC, .ref aM, .ref aP, .int 0, .int 0, .int 0, .int (-1), .int (-1), .int 0, .int 0, .long sm])), (lJ, .inr (2, [.int 0, .ref eT, .int 0]))] s.heap := hP
  have hl := lv_entry ([.ref h0, .int p0, .int p1]) (n := 3) (Nat.le_of_ble_eq_true rfl)
  rw [lg_entry_eq]
  generalize (lg_sl ([.ref h0, .int p0, .int p1]) ++ List.replicate (3 - (lg_sl ([.ref h0, .int p0, .int p1])).length) Slot.unset).toArray = ls at hl ⊢
  have hl : lv_has ls 3 [(0, .ref h0), (1, .int p0), (2, .int p1)] := hl
  refine lv_aload_n hx hb dX5_ofJudge_0 rfl (lv_at hl 0 rfl) ?_
  refine lv_iconst (v := 0) hx hb dX5_ofJudge_1 (by decide) ?_
  refine va_put (D := D) (ci := 8) (v := .int 0) (C := RX5) (T := TX5) (N := 20) hx hb hts (by decide +kernel) tyX5 tyX5_ok nmX5 hown hK hP hD hS 0 rfl rfl 0 (by decide) (hts (.fieldLink RX5 50 "PrizeHouseModel" "thrown" "I") (by decide +kernel)) (fun _ h9 => h9) rfl (tyX5_ok 0 (by decide)) rfl rfl (Nat.le_of_ble_eq_true rfl) dX5_ofJudge_2 (fun H locs hP hD hS => ?_)
  have hP : va_P D vwCl [(h0, .inr (8, [.int 0, .ref lH, .ref lB, .ref lJ, .ref aR, .ref aL, .int 0, .int 0, .int 0, .ref lC, .ref aM, .ref aP, .int 0, .int 0, .int 0, .int (-1), .int (-1), .int 0, .int 0, .long sm])), (lJ, .inr (2, [.int 0, .ref eT, .int 0]))] H := hP
  have hD : va_D A [(h0, .inr (8, [.int 0, .ref lH, .ref lB, .ref lJ, .ref aR, .ref aL, .int 0, .int 0, .int 0, .ref lC, .ref aM, .ref aP, .int 0, .int 0, .int 0, .int (-1), .int (-1), .int 0, .int 0, .long sm])), (lJ, .inr (2, [.int 0, .ref eT, .int 0]))] := hD
  refine lv_aload_n hx hb dX5_ofJudge_5 rfl (lv_at hl 0 rfl) ?_
  refine lv_iload_n hx hb dX5_ofJudge_6 rfl (lv_at hl 1 rfl) ?_
  have hPc := hP.sub (ws' := [(h0, .inr (8, [.int 0, .ref lH, .ref lB, .ref lJ, .ref aR, .ref aL, .int 0, .int 0, .int 0, .ref lC, .ref aM, .ref aP, .int 0, .int 0, .int 0, .int (-1), .int (-1), .int 0, .int 0, .long sm])), (lJ, .inr (2, [.int 0, .ref eT, .int 0]))]) [0, 1] rfl
  have hKc := hK.sub (tys' := []) [] rfl
  refine va_calli (va_runV (As := [.int p0]) (rest := []) ⟨hx, hb, hml, hown, hts⟩ (r_isJudge l D eT h0 lH lB lJ aR aL lC aM aP sm p0 H.size ) (cwV 1 hts gX5_ofJudge_X5_isJudge rfl rfl rfl (by decide +kernel) ⟨Nat.le_of_ble_eq_true rfl, Nat.le_of_ble_eq_true rfl⟩) (pr_v (ci := 8) (q0 := 0) rfl rfl hPc hKc hE hS hA) rfl rfl hl.1 rfl (lv_room (Nat.le_of_ble_eq_true rfl)) dX5_ofJudge_7 ⟨Nat.le_of_ble_eq_true rfl, Nat.le_of_ble_eq_true rfl⟩) hS (fun q h1 h2 => ro_A h1 h2) (fun q h => ro_F hS hA q h) (fun r u t H1 locs ht hvm hw hB hz1 hk1 hS => ?_)
  have hw : r = 0 := hw
  rw [hw]
  have hP := ro_P hP hk1
  generalize H1 = H at hP hS ⊢
  refine lv_if_ne (tgt := 19) hx hb dX5_ofJudge_10 (by decide) (fun h => absurd (by decide) h) (fun _ => ?_)
  refine lv_aload_n hx hb dX5_ofJudge_13 rfl (lv_at hl 0 rfl) ?_
  refine lv_iconst (v := 1) hx hb dX5_ofJudge_14 (by decide) ?_
  have hPc := hP.sub (ws' := [(h0, .inr (8, [.int 0, .ref lH, .ref lB, .ref lJ, .ref aR, .ref aL, .int 0, .int 0, .int 0, .ref lC, .ref aM, .ref aP, .int 0, .int 0, .int 0, .int (-1), .int (-1), .int 0, .int 0, .long sm]))]) [0] rfl
  have hKc := hK.sub (tys' := []) [] rfl
  have hDc := hD.sub (ws' := [(h0, .inr (8, [.int 0, .ref lH, .ref lB, .ref lJ, .ref aR, .ref aL, .int 0, .int 0, .int 0, .ref lC, .ref aM, .ref aP, .int 0, .int 0, .int 0, .int (-1), .int (-1), .int 0, .int 0, .long sm]))]) [0] (by decide) rfl
  have hFc := va_free (wc := [(h0, .inr (8, [.int 0, .ref lH, .ref lB, .ref lJ, .ref aR, .ref aL, .int 0, .int 0, .int 0, .ref lC, .ref aM, .ref aP, .int 0, .int 0, .int 0, .int (-1), .int (-1), .int 0, .int 0, .long sm]))]) hD hS hA [0] rfl
  refine va_calli (va_runV (As := [.int 1]) (rest := []) ⟨hx, hb, hml, hown, hts⟩ (r_refuse l D eT h0 lH lB lJ aR aL lC aM aP sm 1 H.size ) (cwV 1 hts gX5_ofJudge_X5_refuse rfl rfl rfl (by decide +kernel) ⟨Nat.le_of_ble_eq_true rfl, Nat.le_of_ble_eq_true rfl⟩) (pc_v (ci := 8) (q0 := 0) rfl rfl hPc hDc hKc hE hS hFc) rfl rfl hl.1 rfl (lv_room (Nat.le_of_ble_eq_true rfl)) dX5_ofJudge_15 ⟨Nat.le_of_ble_eq_true rfl, Nat.le_of_ble_eq_true rfl⟩) hS (fun q _ h => hFc q h) hFc (fun r u t H1 locs ht hvm hw hB hz1 hk1 hS => ?_)
  have hw : r = 0 := hw
  rw [hw]
  obtain ⟨hP1, hK1, hD1⟩ := hB
  rw [ht] at hP1
  have hK1 := va_K.moved hvm.symm hK1
  obtain ⟨hP, hD⟩ := va_join (wr := [(lJ, .inr (2, [.int 0, .ref eT, .int 0]))]) (w1 := [(h0, .inr (8, [.int 1, .ref lH, .ref lB, .ref lJ, .ref aR, .ref aL, .int 0, .int 0, .int 0, .ref lC, .ref aM, .ref aP, .int 0, .int 0, .int 0, .int (-1), .int (-1), .int 0, .int 0, .long sm]))]) hP hD [0] [1] rfl rfl (by decide) (by decide) hk1 hFc hP1 hD1
  generalize H1 = H at hP hS ⊢
  have hP : va_P D vwCl [(lJ, .inr (2, [.int 0, .ref eT, .int 0])), (h0, .inr (8, [.int 1, .ref lH, .ref lB, .ref lJ, .ref aR, .ref aL, .int 0, .int 0, .int 0, .ref lC, .ref aM, .ref aP, .int 0, .int 0, .int 0, .int (-1), .int (-1), .int 0, .int 0, .long sm]))] H := hP
  have hD : va_D A [(lJ, .inr (2, [.int 0, .ref eT, .int 0])), (h0, .inr (8, [.int 1, .ref lH, .ref lB, .ref lJ, .ref aR, .ref aL, .int 0, .int 0, .int 0, .ref lC, .ref aM, .ref aP, .int 0, .int 0, .int 0, .int (-1), .int (-1), .int 0, .int 0, .long sm]))] := hD
  have hP9 := hP.sub (ws' := [(h0, .inr (8, [.int 1, .ref lH, .ref lB, .ref lJ, .ref aR, .ref aL, .int 0, .int 0, .int 0, .ref lC, .ref aM, .ref aP, .int 0, .int 0, .int 0, .int (-1), .int (-1), .int 0, .int 0, .long sm]))]) [1] rfl
  have hD9 := hD.sub (ws' := [(h0, .inr (8, [.int 1, .ref lH, .ref lB, .ref lJ, .ref aR, .ref aL, .int 0, .int 0, .int 0, .ref lC, .ref aM, .ref aP, .int 0, .int 0, .int 0, .int (-1), .int (-1), .int 0, .int 0, .long sm]))]) [1] (by decide) rfl
  have hK9 := hK.sub (tys' := []) [] rfl
  exact W.iret (v := 0) hx hb hr (fun t ht hW => ⟨⟨0, (), rfl, rfl, ⟨by rw [ht]; exact hP9, va_K.moved hW.alike hK9, hD9⟩⟩, hS.F ht⟩) hS.2.2 dX5_ofJudge_18
set_option maxHeartbeats 4000000 in
set_option maxRecDepth 100000 in
theorem r_mark (l : Launch) (D : va_G) (eT : Nat) (h0 : Nat) (lH : Nat) (lB : Nat) (lJ : Nat) (aR : Nat) (aL : Nat) (lC : Nat) (aM : Nat) (aP : Nat) (sm : Int64) (p0 : Int32) (p1 : Int32) (sz : Nat) : Met l yX5_mark wsX5_mark ({ frames := 2, cells := 0, slots := 0, locals := 43 }) (va_Pc [.ref h0, .int p0, .int p1] (pc D eT sz [(h0, .inr (8, [.int 0, .ref lH, .ref lB, .ref lJ, .ref aR, .ref aL, .int 0, .int 0, .int 0, .ref lC, .ref aM, .ref aP, .int 0, .int 0, .int 0, .int (-1), .int (-1), .int 0, .int 0, .long sm])), (lJ, .inr (2, [.int 0, .ref eT, .int 0]))] [])) (va_Qi (fun (r : Int32) (_ : Unit) => r = 0) (fun _ t => va_P D vwCl [(h0, .inr (8, [.int 1, .ref lH, .ref lB, .ref lJ, .ref aR, .ref aL, .int 0, .int 0, .int 0, .ref lC, .ref aM, .ref aP, .int 0, .int 0, .int 0, .int (-1), .int (-1), .int 0, .int 0, .long sm]))] t.heap ∧ va_K D vwCl [] t ∧ va_D (va_A [(h0, .inr (8, [.int 0, .ref lH, .ref lB, .ref lJ, .ref aR, .ref aL, .int 0, .int 0, .int 0, .ref lC, .ref aM, .ref aP, .int 0, .int 0, .int 0, .int (-1), .int (-1), .int 0, .int 0, .long sm])), (lJ, .inr (2, [.int 0, .ref eT, .int 0]))] sz) [(h0, .inr (8, [.int 1, .ref lH, .ref lB, .ref lJ, .ref aR, .ref aL, .int 0, .int 0, .int 0, .ref lC, .ref aM, .ref aP, .int 0, .int 0, .int 0, .int (-1), .int (-1), .int 0, .int 0, .long sm]))]) (va_A [(h0, .inr (8, [.int 0, .ref lH, .ref lB, .ref lJ, .ref aR, .ref aL, .int 0, .int 0, .int 0, .ref lC, .ref aM, .ref aP, .int 0, .int 0, .int 0, .int (-1), .int (-1), .int 0, .int 0, .long sm])), (lJ, .inr (2, [.int 0, .ref eT, .int 0]))] sz)) 0 0 (va_A [(h0, .inr (8, [.int 0, .ref lH, .ref lB, .ref lJ, .ref aR, .ref aL, .int 0, .int 0, .int 0, .ref lC, .ref aM, .ref aP, .int 0, .int 0, .int 0, .int (-1), .int (-1), .int 0, .int 0, .long sm])), (lJ, .inr (2, [.int 0, .ref eT, .int 0]))] sz) := by
  refine Met.ofW (cc := cX5_mark) (maxL := 3) (ret := (some .int)) (by decide +kernel) rfl ?_
  intro p e s m args below meth c s₁ B hml hv
  obtain ⟨rfl, hsz, hP, hK, hD0, hE⟩ := hv
  have hx := B.exec
  have hb := B.bytes
  have hr := B.returns
  have hts := atoms_spec (ws := wsX5_mark) B.pre
  have hown : s.vm.findClass RX5 = some m.cls := findClass_of_methodNamed B.named
  have hlocks := B.notSynchronized
  subst hsz
  have hD := hD0.self (sz := s.heap.size)
  generalize hAe : va_A [(h0, .inr (8, [.int 0, .ref lH, .ref lB, .ref lJ, .ref aR, .ref aL, .int 0, .int 0, .int 0, .ref lC, .ref aM, .ref aP, .int 0, .int 0, .int 0, .int (-1), .int (-1), .int 0, .int 0, .long sm])), (lJ, .inr (2, [.int 0, .ref eT, .int 0]))] s.heap.size = A at hD hE ⊢
  have hA : ∀ q : Nat, s.heap.size ≤ q → A q := fun q h => by rw [← hAe]; exact Or.inr h
  have hS : va_S A s.heap s.heap [] := va_S.rf
  have hP : va_P D vwCl [(h0, .inr (8, [.int 0, .ref lH, .ref lB, .ref lJ, .ref aR, .ref aL, .int 0, .int 0, .int 0, .ref lC, .ref aM, .ref aP, .int 0, .int 0, .int 0, .int (-1), .int (-1), .int 0, .int 0, .long sm])), (lJ, .inr (2, [.int 0, .ref eT, .int 0]))] s.heap := hP
  have hl := lv_entry ([.ref h0, .int p0, .int p1]) (n := 3) (Nat.le_of_ble_eq_true rfl)
  rw [lg_entry_eq]
  generalize (lg_sl ([.ref h0, .int p0, .int p1]) ++ List.replicate (3 - (lg_sl ([.ref h0, .int p0, .int p1])).length) Slot.unset).toArray = ls at hl ⊢
  have hl : lv_has ls 3 [(0, .ref h0), (1, .int p0), (2, .int p1)] := hl
  refine lv_aload_n hx hb dX5_mark_0 rfl (lv_at hl 0 rfl) ?_
  refine lv_iconst (v := 0) hx hb dX5_mark_1 (by decide) ?_
  refine va_put (D := D) (ci := 8) (v := .int 0) (C := RX5) (T := TX5) (N := 20) hx hb hts (by decide +kernel) tyX5 tyX5_ok nmX5 hown hK hP hD hS 0 rfl rfl 0 (by decide) (hts (.fieldLink RX5 50 "PrizeHouseModel" "thrown" "I") (by decide +kernel)) (fun _ h9 => h9) rfl (tyX5_ok 0 (by decide)) rfl rfl (Nat.le_of_ble_eq_true rfl) dX5_mark_2 (fun H locs hP hD hS => ?_)
  have hP : va_P D vwCl [(h0, .inr (8, [.int 0, .ref lH, .ref lB, .ref lJ, .ref aR, .ref aL, .int 0, .int 0, .int 0, .ref lC, .ref aM, .ref aP, .int 0, .int 0, .int 0, .int (-1), .int (-1), .int 0, .int 0, .long sm])), (lJ, .inr (2, [.int 0, .ref eT, .int 0]))] H := hP
  have hD : va_D A [(h0, .inr (8, [.int 0, .ref lH, .ref lB, .ref lJ, .ref aR, .ref aL, .int 0, .int 0, .int 0, .ref lC, .ref aM, .ref aP, .int 0, .int 0, .int 0, .int (-1), .int (-1), .int 0, .int 0, .long sm])), (lJ, .inr (2, [.int 0, .ref eT, .int 0]))] := hD
  refine lv_aload_n hx hb dX5_mark_5 rfl (lv_at hl 0 rfl) ?_
  refine lv_iload_n hx hb dX5_mark_6 rfl (lv_at hl 1 rfl) ?_
  have hPc := hP.sub (ws' := [(h0, .inr (8, [.int 0, .ref lH, .ref lB, .ref lJ, .ref aR, .ref aL, .int 0, .int 0, .int 0, .ref lC, .ref aM, .ref aP, .int 0, .int 0, .int 0, .int (-1), .int (-1), .int 0, .int 0, .long sm])), (lJ, .inr (2, [.int 0, .ref eT, .int 0]))]) [0, 1] rfl
  have hKc := hK.sub (tys' := []) [] rfl
  refine va_calli (va_runV (As := [.int p0]) (rest := []) ⟨hx, hb, hml, hown, hts⟩ (r_isJudge l D eT h0 lH lB lJ aR aL lC aM aP sm p0 H.size ) (cwV 1 hts gX5_mark_X5_isJudge rfl rfl rfl (by decide +kernel) ⟨Nat.le_of_ble_eq_true rfl, Nat.le_of_ble_eq_true rfl⟩) (pr_v (ci := 8) (q0 := 0) rfl rfl hPc hKc hE hS hA) rfl rfl hl.1 rfl (lv_room (Nat.le_of_ble_eq_true rfl)) dX5_mark_7 ⟨Nat.le_of_ble_eq_true rfl, Nat.le_of_ble_eq_true rfl⟩) hS (fun q h1 h2 => ro_A h1 h2) (fun q h => ro_F hS hA q h) (fun r u t H1 locs ht hvm hw hB hz1 hk1 hS => ?_)
  have hw : r = 0 := hw
  rw [hw]
  have hP := ro_P hP hk1
  generalize H1 = H at hP hS ⊢
  refine lv_if_eq (tgt := 32) hx hb dX5_mark_10 (by decide) (fun _ => ?_) (fun h => absurd (by decide) h)
  refine lv_aload_n hx hb dX5_mark_32 rfl (lv_at hl 0 rfl) ?_
  refine lv_iconst (v := 1) hx hb dX5_mark_33 (by decide) ?_
  have hPc := hP.sub (ws' := [(h0, .inr (8, [.int 0, .ref lH, .ref lB, .ref lJ, .ref aR, .ref aL, .int 0, .int 0, .int 0, .ref lC, .ref aM, .ref aP, .int 0, .int 0, .int 0, .int (-1), .int (-1), .int 0, .int 0, .long sm]))]) [0] rfl
  have hKc := hK.sub (tys' := []) [] rfl
  have hDc := hD.sub (ws' := [(h0, .inr (8, [.int 0, .ref lH, .ref lB, .ref lJ, .ref aR, .ref aL, .int 0, .int 0, .int 0, .ref lC, .ref aM, .ref aP, .int 0, .int 0, .int 0, .int (-1), .int (-1), .int 0, .int 0, .long sm]))]) [0] (by decide) rfl
  have hFc := va_free (wc := [(h0, .inr (8, [.int 0, .ref lH, .ref lB, .ref lJ, .ref aR, .ref aL, .int 0, .int 0, .int 0, .ref lC, .ref aM, .ref aP, .int 0, .int 0, .int 0, .int (-1), .int (-1), .int 0, .int 0, .long sm]))]) hD hS hA [0] rfl
  refine va_calli (va_runV (As := [.int 1]) (rest := []) ⟨hx, hb, hml, hown, hts⟩ (r_refuse l D eT h0 lH lB lJ aR aL lC aM aP sm 1 H.size ) (cwV 1 hts gX5_mark_X5_refuse rfl rfl rfl (by decide +kernel) ⟨Nat.le_of_ble_eq_true rfl, Nat.le_of_ble_eq_true rfl⟩) (pc_v (ci := 8) (q0 := 0) rfl rfl hPc hDc hKc hE hS hFc) rfl rfl hl.1 rfl (lv_room (Nat.le_of_ble_eq_true rfl)) dX5_mark_34 ⟨Nat.le_of_ble_eq_true rfl, Nat.le_of_ble_eq_true rfl⟩) hS (fun q _ h => hFc q h) hFc (fun r u t H1 locs ht hvm hw hB hz1 hk1 hS => ?_)
  have hw : r = 0 := hw
  rw [hw]
  obtain ⟨hP1, hK1, hD1⟩ := hB
  rw [ht] at hP1
  have hK1 := va_K.moved hvm.symm hK1
  obtain ⟨hP, hD⟩ := va_join (wr := [(lJ, .inr (2, [.int 0, .ref eT, .int 0]))]) (w1 := [(h0, .inr (8, [.int 1, .ref lH, .ref lB, .ref lJ, .ref aR, .ref aL, .int 0, .int 0, .int 0, .ref lC, .ref aM, .ref aP, .int 0, .int 0, .int 0, .int (-1), .int (-1), .int 0, .int 0, .long sm]))]) hP hD [0] [1] rfl rfl (by decide) (by decide) hk1 hFc hP1 hD1
  generalize H1 = H at hP hS ⊢
  have hP : va_P D vwCl [(lJ, .inr (2, [.int 0, .ref eT, .int 0])), (h0, .inr (8, [.int 1, .ref lH, .ref lB, .ref lJ, .ref aR, .ref aL, .int 0, .int 0, .int 0, .ref lC, .ref aM, .ref aP, .int 0, .int 0, .int 0, .int (-1), .int (-1), .int 0, .int 0, .long sm]))] H := hP
  have hD : va_D A [(lJ, .inr (2, [.int 0, .ref eT, .int 0])), (h0, .inr (8, [.int 1, .ref lH, .ref lB, .ref lJ, .ref aR, .ref aL, .int 0, .int 0, .int 0, .ref lC, .ref aM, .ref aP, .int 0, .int 0, .int 0, .int (-1), .int (-1), .int 0, .int 0, .long sm]))] := hD
  have hP9 := hP.sub (ws' := [(h0, .inr (8, [.int 1, .ref lH, .ref lB, .ref lJ, .ref aR, .ref aL, .int 0, .int 0, .int 0, .ref lC, .ref aM, .ref aP, .int 0, .int 0, .int 0, .int (-1), .int (-1), .int 0, .int 0, .long sm]))]) [1] rfl
  have hD9 := hD.sub (ws' := [(h0, .inr (8, [.int 1, .ref lH, .ref lB, .ref lJ, .ref aR, .ref aL, .int 0, .int 0, .int 0, .ref lC, .ref aM, .ref aP, .int 0, .int 0, .int 0, .int (-1), .int (-1), .int 0, .int 0, .long sm]))]) [1] (by decide) rfl
  have hK9 := hK.sub (tys' := []) [] rfl
  exact W.iret (v := 0) hx hb hr (fun t ht hW => ⟨⟨0, (), rfl, rfl, ⟨by rw [ht]; exact hP9, va_K.moved hW.alike hK9, hD9⟩⟩, hS.F ht⟩) hS.2.2 dX5_mark_37
set_option maxHeartbeats 4000000 in
set_option maxRecDepth 100000 in
theorem r_spoiled (l : Launch) (D : va_G) (eT : Nat) (h0 : Nat) (lH : Nat) (lB : Nat) (lJ : Nat) (aR : Nat) (aL : Nat) (lC : Nat) (aM : Nat) (aP : Nat) (sm : Int64) (p0 : Int32) (sz : Nat) : Met l yX5_spoiled wsX5_spoiled ({ frames := 2, cells := 0, slots := 0, locals := 43 }) (va_Pc [.ref h0, .int p0] (pc D eT sz [(h0, .inr (8, [.int 0, .ref lH, .ref lB, .ref lJ, .ref aR, .ref aL, .int 0, .int 0, .int 0, .ref lC, .ref aM, .ref aP, .int 0, .int 0, .int 0, .int (-1), .int (-1), .int 0, .int 0, .long sm])), (lB, .inr (2, [.int 0, .ref eT, .int 0]))] [])) (va_Qi (fun (r : Int32) (_ : Unit) => r = 0) (fun _ t => va_P D vwCl [(h0, .inr (8, [.int 1, .ref lH, .ref lB, .ref lJ, .ref aR, .ref aL, .int 0, .int 0, .int 0, .ref lC, .ref aM, .ref aP, .int 0, .int 0, .int 0, .int (-1), .int (-1), .int 0, .int 0, .long sm]))] t.heap ∧ va_K D vwCl [] t ∧ va_D (va_A [(h0, .inr (8, [.int 0, .ref lH, .ref lB, .ref lJ, .ref aR, .ref aL, .int 0, .int 0, .int 0, .ref lC, .ref aM, .ref aP, .int 0, .int 0, .int 0, .int (-1), .int (-1), .int 0, .int 0, .long sm])), (lB, .inr (2, [.int 0, .ref eT, .int 0]))] sz) [(h0, .inr (8, [.int 1, .ref lH, .ref lB, .ref lJ, .ref aR, .ref aL, .int 0, .int 0, .int 0, .ref lC, .ref aM, .ref aP, .int 0, .int 0, .int 0, .int (-1), .int (-1), .int 0, .int 0, .long sm]))]) (va_A [(h0, .inr (8, [.int 0, .ref lH, .ref lB, .ref lJ, .ref aR, .ref aL, .int 0, .int 0, .int 0, .ref lC, .ref aM, .ref aP, .int 0, .int 0, .int 0, .int (-1), .int (-1), .int 0, .int 0, .long sm])), (lB, .inr (2, [.int 0, .ref eT, .int 0]))] sz)) 0 0 (va_A [(h0, .inr (8, [.int 0, .ref lH, .ref lB, .ref lJ, .ref aR, .ref aL, .int 0, .int 0, .int 0, .ref lC, .ref aM, .ref aP, .int 0, .int 0, .int 0, .int (-1), .int (-1), .int 0, .int 0, .long sm])), (lB, .inr (2, [.int 0, .ref eT, .int 0]))] sz) := by
  refine Met.ofW (cc := cX5_spoiled) (maxL := 2) (ret := (some .int)) (by decide +kernel) rfl ?_
  intro p e s m args below meth c s₁ B hml hv
  obtain ⟨rfl, hsz, hP, hK, hD0, hE⟩ := hv
  have hx := B.exec
  have hb := B.bytes
  have hr := B.returns
  have hts := atoms_spec (ws := wsX5_spoiled) B.pre
  have hown : s.vm.findClass RX5 = some m.cls := findClass_of_methodNamed B.named
  have hlocks := B.notSynchronized
  subst hsz
  have hD := hD0.self (sz := s.heap.size)
  generalize hAe : va_A [(h0, .inr (8, [.int 0, .ref lH, .ref lB, .ref lJ, .ref aR, .ref aL, .int 0, .int 0, .int 0, .ref lC, .ref aM, .ref aP, .int 0, .int 0, .int 0, .int (-1), .int (-1), .int 0, .int 0, .long sm])), (lB, .inr (2, [.int 0, .ref eT, .int 0]))] s.heap.size = A at hD hE ⊢
  have hA : ∀ q : Nat, s.heap.size ≤ q → A q := fun q h => by rw [← hAe]; exact Or.inr h
  have hS : va_S A s.heap s.heap [] := va_S.rf
  have hP : va_P D vwCl [(h0, .inr (8, [.int 0, .ref lH, .ref lB, .ref lJ, .ref aR, .ref aL, .int 0, .int 0, .int 0, .ref lC, .ref aM, .ref aP, .int 0, .int 0, .int 0, .int (-1), .int (-1), .int 0, .int 0, .long sm])), (lB, .inr (2, [.int 0, .ref eT, .int 0]))] s.heap := hP
  have hl := lv_entry ([.ref h0, .int p0]) (n := 2) (Nat.le_of_ble_eq_true rfl)
  rw [lg_entry_eq]
  generalize (lg_sl ([.ref h0, .int p0]) ++ List.replicate (2 - (lg_sl ([.ref h0, .int p0])).length) Slot.unset).toArray = ls at hl ⊢
  have hl : lv_has ls 2 [(0, .ref h0), (1, .int p0)] := hl
  refine lv_aload_n hx hb dX5_spoiled_0 rfl (lv_at hl 0 rfl) ?_
  refine lv_iconst (v := 0) hx hb dX5_spoiled_1 (by decide) ?_
  refine va_put (D := D) (ci := 8) (v := .int 0) (C := RX5) (T := TX5) (N := 20) hx hb hts (by decide +kernel) tyX5 tyX5_ok nmX5 hown hK hP hD hS 0 rfl rfl 0 (by decide) (hts (.fieldLink RX5 50 "PrizeHouseModel" "thrown" "I") (by decide +kernel)) (fun _ h9 => h9) rfl (tyX5_ok 0 (by decide)) rfl rfl (Nat.le_of_ble_eq_true rfl) dX5_spoiled_2 (fun H locs hP hD hS => ?_)
  have hP : va_P D vwCl [(h0, .inr (8, [.int 0, .ref lH, .ref lB, .ref lJ, .ref aR, .ref aL, .int 0, .int 0, .int 0, .ref lC, .ref aM, .ref aP, .int 0, .int 0, .int 0, .int (-1), .int (-1), .int 0, .int 0, .long sm])), (lB, .inr (2, [.int 0, .ref eT, .int 0]))] H := hP
  have hD : va_D A [(h0, .inr (8, [.int 0, .ref lH, .ref lB, .ref lJ, .ref aR, .ref aL, .int 0, .int 0, .int 0, .ref lC, .ref aM, .ref aP, .int 0, .int 0, .int 0, .int (-1), .int (-1), .int 0, .int 0, .long sm])), (lB, .inr (2, [.int 0, .ref eT, .int 0]))] := hD
  refine lv_aload_n hx hb dX5_spoiled_5 rfl (lv_at hl 0 rfl) ?_
  refine lv_iload_n hx hb dX5_spoiled_6 rfl (lv_at hl 1 rfl) ?_
  have hPc := hP.sub (ws' := [(h0, .inr (8, [.int 0, .ref lH, .ref lB, .ref lJ, .ref aR, .ref aL, .int 0, .int 0, .int 0, .ref lC, .ref aM, .ref aP, .int 0, .int 0, .int 0, .int (-1), .int (-1), .int 0, .int 0, .long sm])), (lB, .inr (2, [.int 0, .ref eT, .int 0]))]) [0, 1] rfl
  have hKc := hK.sub (tys' := []) [] rfl
  refine va_calli (va_runV (As := [.int p0]) (rest := []) ⟨hx, hb, hml, hown, hts⟩ (r_isBook l D eT h0 lH lB lJ aR aL lC aM aP sm p0 H.size ) (cwV 1 hts gX5_spoiled_X5_isBook rfl rfl rfl (by decide +kernel) ⟨Nat.le_of_ble_eq_true rfl, Nat.le_of_ble_eq_true rfl⟩) (pr_v (ci := 8) (q0 := 0) rfl rfl hPc hKc hE hS hA) rfl rfl hl.1 rfl (lv_room (Nat.le_of_ble_eq_true rfl)) dX5_spoiled_7 ⟨Nat.le_of_ble_eq_true rfl, Nat.le_of_ble_eq_true rfl⟩) hS (fun q h1 h2 => ro_A h1 h2) (fun q h => ro_F hS hA q h) (fun r u t H1 locs ht hvm hw hB hz1 hk1 hS => ?_)
  have hw : r = 0 := hw
  rw [hw]
  have hP := ro_P hP hk1
  generalize H1 = H at hP hS ⊢
  refine lv_if_eq (tgt := 21) hx hb dX5_spoiled_10 (by decide) (fun _ => ?_) (fun h => absurd (by decide) h)
  refine lv_aload_n hx hb dX5_spoiled_21 rfl (lv_at hl 0 rfl) ?_
  refine lv_iconst (v := 1) hx hb dX5_spoiled_22 (by decide) ?_
  have hPc := hP.sub (ws' := [(h0, .inr (8, [.int 0, .ref lH, .ref lB, .ref lJ, .ref aR, .ref aL, .int 0, .int 0, .int 0, .ref lC, .ref aM, .ref aP, .int 0, .int 0, .int 0, .int (-1), .int (-1), .int 0, .int 0, .long sm]))]) [0] rfl
  have hKc := hK.sub (tys' := []) [] rfl
  have hDc := hD.sub (ws' := [(h0, .inr (8, [.int 0, .ref lH, .ref lB, .ref lJ, .ref aR, .ref aL, .int 0, .int 0, .int 0, .ref lC, .ref aM, .ref aP, .int 0, .int 0, .int 0, .int (-1), .int (-1), .int 0, .int 0, .long sm]))]) [0] (by decide) rfl
  have hFc := va_free (wc := [(h0, .inr (8, [.int 0, .ref lH, .ref lB, .ref lJ, .ref aR, .ref aL, .int 0, .int 0, .int 0, .ref lC, .ref aM, .ref aP, .int 0, .int 0, .int 0, .int (-1), .int (-1), .int 0, .int 0, .long sm]))]) hD hS hA [0] rfl
  refine va_calli (va_runV (As := [.int 1]) (rest := []) ⟨hx, hb, hml, hown, hts⟩ (r_refuse l D eT h0 lH lB lJ aR aL lC aM aP sm 1 H.size ) (cwV 1 hts gX5_spoiled_X5_refuse rfl rfl rfl (by decide +kernel) ⟨Nat.le_of_ble_eq_true rfl, Nat.le_of_ble_eq_true rfl⟩) (pc_v (ci := 8) (q0 := 0) rfl rfl hPc hDc hKc hE hS hFc) rfl rfl hl.1 rfl (lv_room (Nat.le_of_ble_eq_true rfl)) dX5_spoiled_23 ⟨Nat.le_of_ble_eq_true rfl, Nat.le_of_ble_eq_true rfl⟩) hS (fun q _ h => hFc q h) hFc (fun r u t H1 locs ht hvm hw hB hz1 hk1 hS => ?_)
  have hw : r = 0 := hw
  rw [hw]
  obtain ⟨hP1, hK1, hD1⟩ := hB
  rw [ht] at hP1
  have hK1 := va_K.moved hvm.symm hK1
  obtain ⟨hP, hD⟩ := va_join (wr := [(lB, .inr (2, [.int 0, .ref eT, .int 0]))]) (w1 := [(h0, .inr (8, [.int 1, .ref lH, .ref lB, .ref lJ, .ref aR, .ref aL, .int 0, .int 0, .int 0, .ref lC, .ref aM, .ref aP, .int 0, .int 0, .int 0, .int (-1), .int (-1), .int 0, .int 0, .long sm]))]) hP hD [0] [1] rfl rfl (by decide) (by decide) hk1 hFc hP1 hD1
  generalize H1 = H at hP hS ⊢
  have hP : va_P D vwCl [(lB, .inr (2, [.int 0, .ref eT, .int 0])), (h0, .inr (8, [.int 1, .ref lH, .ref lB, .ref lJ, .ref aR, .ref aL, .int 0, .int 0, .int 0, .ref lC, .ref aM, .ref aP, .int 0, .int 0, .int 0, .int (-1), .int (-1), .int 0, .int 0, .long sm]))] H := hP
  have hD : va_D A [(lB, .inr (2, [.int 0, .ref eT, .int 0])), (h0, .inr (8, [.int 1, .ref lH, .ref lB, .ref lJ, .ref aR, .ref aL, .int 0, .int 0, .int 0, .ref lC, .ref aM, .ref aP, .int 0, .int 0, .int 0, .int (-1), .int (-1), .int 0, .int 0, .long sm]))] := hD
  have hP9 := hP.sub (ws' := [(h0, .inr (8, [.int 1, .ref lH, .ref lB, .ref lJ, .ref aR, .ref aL, .int 0, .int 0, .int 0, .ref lC, .ref aM, .ref aP, .int 0, .int 0, .int 0, .int (-1), .int (-1), .int 0, .int 0, .long sm]))]) [1] rfl
  have hD9 := hD.sub (ws' := [(h0, .inr (8, [.int 1, .ref lH, .ref lB, .ref lJ, .ref aR, .ref aL, .int 0, .int 0, .int 0, .ref lC, .ref aM, .ref aP, .int 0, .int 0, .int 0, .int (-1), .int (-1), .int 0, .int 0, .long sm]))]) [1] (by decide) rfl
  have hK9 := hK.sub (tys' := []) [] rfl
  exact W.iret (v := 0) hx hb hr (fun t ht hW => ⟨⟨0, (), rfl, rfl, ⟨by rw [ht]; exact hP9, va_K.moved hW.alike hK9, hD9⟩⟩, hS.F ht⟩) hS.2.2 dX5_spoiled_26
set_option maxHeartbeats 4000000 in
set_option maxRecDepth 100000 in
theorem r_read (l : Launch) (D : va_G) (eT : Nat) (h0 : Nat) (lH : Nat) (lB : Nat) (lJ : Nat) (aR : Nat) (aL : Nat) (lC : Nat) (aM : Nat) (aP : Nat) (sm : Int64) (sz : Nat) : Met l yX5_read wsX5_read ({ frames := 1, cells := 0, slots := 0, locals := 21 }) (va_Pc [.ref h0] (pc D eT sz [(h0, .inr (8, [.int 0, .ref lH, .ref lB, .ref lJ, .ref aR, .ref aL, .int 0, .int 0, .int 0, .ref lC, .ref aM, .ref aP, .int 0, .int 0, .int 0, .int (-1), .int (-1), .int 0, .int 0, .long sm])), (lJ, .inr (2, [.int 0, .ref eT, .int 0]))] [])) (va_Qi (fun (r : Int32) (_ : Unit) => r = 0) (fun _ t => va_P D vwCl [(h0, .inr (8, [.int 1, .ref lH, .ref lB, .ref lJ, .ref aR, .ref aL, .int 0, .int 0, .int 0, .ref lC, .ref aM, .ref aP, .int 0, .int 0, .int 0, .int (-1), .int (-1), .int 0, .int 0, .long sm]))] t.heap ∧ va_K D vwCl [] t ∧ va_D (va_A [(h0, .inr (8, [.int 0, .ref lH, .ref lB, .ref lJ, .ref aR, .ref aL, .int 0, .int 0, .int 0, .ref lC, .ref aM, .ref aP, .int 0, .int 0, .int 0, .int (-1), .int (-1), .int 0, .int 0, .long sm])), (lJ, .inr (2, [.int 0, .ref eT, .int 0]))] sz) [(h0, .inr (8, [.int 1, .ref lH, .ref lB, .ref lJ, .ref aR, .ref aL, .int 0, .int 0, .int 0, .ref lC, .ref aM, .ref aP, .int 0, .int 0, .int 0, .int (-1), .int (-1), .int 0, .int 0, .long sm]))]) (va_A [(h0, .inr (8, [.int 0, .ref lH, .ref lB, .ref lJ, .ref aR, .ref aL, .int 0, .int 0, .int 0, .ref lC, .ref aM, .ref aP, .int 0, .int 0, .int 0, .int (-1), .int (-1), .int 0, .int 0, .long sm])), (lJ, .inr (2, [.int 0, .ref eT, .int 0]))] sz)) 0 0 (va_A [(h0, .inr (8, [.int 0, .ref lH, .ref lB, .ref lJ, .ref aR, .ref aL, .int 0, .int 0, .int 0, .ref lC, .ref aM, .ref aP, .int 0, .int 0, .int 0, .int (-1), .int (-1), .int 0, .int 0, .long sm])), (lJ, .inr (2, [.int 0, .ref eT, .int 0]))] sz) := by
  refine Met.ofW (cc := cX5_read) (maxL := 7) (ret := (some .int)) (by decide +kernel) rfl ?_
  intro p e s m args below meth c s₁ B hml hv
  obtain ⟨rfl, hsz, hP, hK, hD0, hE⟩ := hv
  have hx := B.exec
  have hb := B.bytes
  have hr := B.returns
  have hts := atoms_spec (ws := wsX5_read) B.pre
  have hown : s.vm.findClass RX5 = some m.cls := findClass_of_methodNamed B.named
  have hlocks := B.notSynchronized
  subst hsz
  have hD := hD0.self (sz := s.heap.size)
  generalize hAe : va_A [(h0, .inr (8, [.int 0, .ref lH, .ref lB, .ref lJ, .ref aR, .ref aL, .int 0, .int 0, .int 0, .ref lC, .ref aM, .ref aP, .int 0, .int 0, .int 0, .int (-1), .int (-1), .int 0, .int 0, .long sm])), (lJ, .inr (2, [.int 0, .ref eT, .int 0]))] s.heap.size = A at hD hE ⊢
  have hA : ∀ q : Nat, s.heap.size ≤ q → A q := fun q h => by rw [← hAe]; exact Or.inr h
  have hS : va_S A s.heap s.heap [] := va_S.rf
  have hP : va_P D vwCl [(h0, .inr (8, [.int 0, .ref lH, .ref lB, .ref lJ, .ref aR, .ref aL, .int 0, .int 0, .int 0, .ref lC, .ref aM, .ref aP, .int 0, .int 0, .int 0, .int (-1), .int (-1), .int 0, .int 0, .long sm])), (lJ, .inr (2, [.int 0, .ref eT, .int 0]))] s.heap := hP
  have hl := lv_entry ([.ref h0]) (n := 7) (Nat.le_of_ble_eq_true rfl)
  rw [lg_entry_eq]
  generalize (lg_sl ([.ref h0]) ++ List.replicate (7 - (lg_sl ([.ref h0])).length) Slot.unset).toArray = ls at hl ⊢
  have hl : lv_has ls 7 [(0, .ref h0)] := hl
  refine lv_aload_n hx hb dX5_read_0 rfl (lv_at hl 0 rfl) ?_
  refine lv_iconst (v := 0) hx hb dX5_read_1 (by decide) ?_
  refine va_put (D := D) (ci := 8) (v := .int 0) (C := RX5) (T := TX5) (N := 20) hx hb hts (by decide +kernel) tyX5 tyX5_ok nmX5 hown hK hP hD hS 0 rfl rfl 0 (by decide) (hts (.fieldLink RX5 50 "PrizeHouseModel" "thrown" "I") (by decide +kernel)) (fun _ h9 => h9) rfl (tyX5_ok 0 (by decide)) rfl rfl (Nat.le_of_ble_eq_true rfl) dX5_read_2 (fun H locs hP hD hS => ?_)
  have hP : va_P D vwCl [(h0, .inr (8, [.int 0, .ref lH, .ref lB, .ref lJ, .ref aR, .ref aL, .int 0, .int 0, .int 0, .ref lC, .ref aM, .ref aP, .int 0, .int 0, .int 0, .int (-1), .int (-1), .int 0, .int 0, .long sm])), (lJ, .inr (2, [.int 0, .ref eT, .int 0]))] H := hP
  have hD : va_D A [(h0, .inr (8, [.int 0, .ref lH, .ref lB, .ref lJ, .ref aR, .ref aL, .int 0, .int 0, .int 0, .ref lC, .ref aM, .ref aP, .int 0, .int 0, .int 0, .int (-1), .int (-1), .int 0, .int 0, .long sm])), (lJ, .inr (2, [.int 0, .ref eT, .int 0]))] := hD
  refine lv_aload_n hx hb dX5_read_5 rfl (lv_at hl 0 rfl) ?_
  refine va_get (D := D) (ci := 8) (v := .int 0) (C := RX5) (T := TX5) (N := 20) hx hb hts (by decide +kernel) hown hK hP 0 rfl rfl 7 (by decide) (hts (.fieldLink RX5 101 "PrizeHouseModel" "phase" "I") (by decide +kernel)) (fun _ h9 => h9) rfl dX5_read_6 ?_
  refine lv_if_ne (tgt := 31) hx hb dX5_read_9 (by decide) (fun h => absurd (by decide) h) (fun _ => ?_)
  refine lv_aload_n hx hb dX5_read_12 rfl (lv_at hl 0 rfl) ?_
  refine va_get (D := D) (ci := 8) (v := .ref lJ) (C := RX5) (T := TX5) (N := 20) hx hb hts (by decide +kernel) hown hK hP 0 rfl rfl 3 (by decide) (hts (.fieldLink RX5 19 "PrizeHouseModel" "judges" "Ljava/util/ArrayList;") (by decide +kernel)) (fun _ h9 => h9) rfl dX5_read_13 ?_
  have hPc := hP.sub (ws' := [(lJ, .inr (2, [.int 0, .ref eT, .int 0]))]) [1] rfl
  have hKc := hK.sub (tys' := []) [] rfl
  refine va_calli (va_runV (As := []) (rest := []) ⟨hx, hb, hml, hown, hts⟩ (k_size l D eT lJ eT 0 0 H.size ) (cwV 0 hts gX5_read_Jx4a65c_size_8abf5 rfl rfl rfl (by decide +kernel) ⟨Nat.le_of_ble_eq_true rfl, Nat.le_of_ble_eq_true rfl⟩) (pr_v (ci := 2) (q0 := 0) rfl rfl hPc hKc hE hS hA) rfl rfl hl.1 rfl (lv_room (Nat.le_of_ble_eq_true rfl)) dX5_read_16 ⟨Nat.le_of_ble_eq_true rfl, Nat.le_of_ble_eq_true rfl⟩) hS (fun q h1 h2 => ro_A h1 h2) (fun q h => ro_F hS hA q h) (fun r u t H1 locs ht hvm hw hB hz1 hk1 hS => ?_)
  have hw : r = 0 := hw
  rw [hw]
  have hP := ro_P hP hk1
  generalize H1 = H at hP hS ⊢
  refine lv_iconst (v := 3) hx hb dX5_read_19 (by decide) ?_
  refine lv_icmp_lt (tgt := 31) hx hb dX5_read_20 (by decide) (fun _ => ?_) (fun h => absurd (by decide) h)
  refine lv_aload_n hx hb dX5_read_31 rfl (lv_at hl 0 rfl) ?_
  refine lv_iconst (v := 1) hx hb dX5_read_32 (by decide) ?_
  have hPc := hP.sub (ws' := [(h0, .inr (8, [.int 0, .ref lH, .ref lB, .ref lJ, .ref aR, .ref aL, .int 0, .int 0, .int 0, .ref lC, .ref aM, .ref aP, .int 0, .int 0, .int 0, .int (-1), .int (-1), .int 0, .int 0, .long sm]))]) [0] rfl
  have hKc := hK.sub (tys' := []) [] rfl
  have hDc := hD.sub (ws' := [(h0, .inr (8, [.int 0, .ref lH, .ref lB, .ref lJ, .ref aR, .ref aL, .int 0, .int 0, .int 0, .ref lC, .ref aM, .ref aP, .int 0, .int 0, .int 0, .int (-1), .int (-1), .int 0, .int 0, .long sm]))]) [0] (by decide) rfl
  have hFc := va_free (wc := [(h0, .inr (8, [.int 0, .ref lH, .ref lB, .ref lJ, .ref aR, .ref aL, .int 0, .int 0, .int 0, .ref lC, .ref aM, .ref aP, .int 0, .int 0, .int 0, .int (-1), .int (-1), .int 0, .int 0, .long sm]))]) hD hS hA [0] rfl
  refine va_calli (va_runV (As := [.int 1]) (rest := []) ⟨hx, hb, hml, hown, hts⟩ (r_refuse l D eT h0 lH lB lJ aR aL lC aM aP sm 1 H.size ) (cwV 1 hts gX5_read_X5_refuse rfl rfl rfl (by decide +kernel) ⟨Nat.le_of_ble_eq_true rfl, Nat.le_of_ble_eq_true rfl⟩) (pc_v (ci := 8) (q0 := 0) rfl rfl hPc hDc hKc hE hS hFc) rfl rfl hl.1 rfl (lv_room (Nat.le_of_ble_eq_true rfl)) dX5_read_33 ⟨Nat.le_of_ble_eq_true rfl, Nat.le_of_ble_eq_true rfl⟩) hS (fun q _ h => hFc q h) hFc (fun r u t H1 locs ht hvm hw hB hz1 hk1 hS => ?_)
  have hw : r = 0 := hw
  rw [hw]
  obtain ⟨hP1, hK1, hD1⟩ := hB
  rw [ht] at hP1
  have hK1 := va_K.moved hvm.symm hK1
  obtain ⟨hP, hD⟩ := va_join (wr := [(lJ, .inr (2, [.int 0, .ref eT, .int 0]))]) (w1 := [(h0, .inr (8, [.int 1, .ref lH, .ref lB, .ref lJ, .ref aR, .ref aL, .int 0, .int 0, .int 0, .ref lC, .ref aM, .ref aP, .int 0, .int 0, .int 0, .int (-1), .int (-1), .int 0, .int 0, .long sm]))]) hP hD [0] [1] rfl rfl (by decide) (by decide) hk1 hFc hP1 hD1
  generalize H1 = H at hP hS ⊢
  have hP : va_P D vwCl [(lJ, .inr (2, [.int 0, .ref eT, .int 0])), (h0, .inr (8, [.int 1, .ref lH, .ref lB, .ref lJ, .ref aR, .ref aL, .int 0, .int 0, .int 0, .ref lC, .ref aM, .ref aP, .int 0, .int 0, .int 0, .int (-1), .int (-1), .int 0, .int 0, .long sm]))] H := hP
  have hD : va_D A [(lJ, .inr (2, [.int 0, .ref eT, .int 0])), (h0, .inr (8, [.int 1, .ref lH, .ref lB, .ref lJ, .ref aR, .ref aL, .int 0, .int 0, .int 0, .ref lC, .ref aM, .ref aP, .int 0, .int 0, .int 0, .int (-1), .int (-1), .int 0, .int 0, .long sm]))] := hD
  have hP9 := hP.sub (ws' := [(h0, .inr (8, [.int 1, .ref lH, .ref lB, .ref lJ, .ref aR, .ref aL, .int 0, .int 0, .int 0, .ref lC, .ref aM, .ref aP, .int 0, .int 0, .int 0, .int (-1), .int (-1), .int 0, .int 0, .long sm]))]) [1] rfl
  have hD9 := hD.sub (ws' := [(h0, .inr (8, [.int 1, .ref lH, .ref lB, .ref lJ, .ref aR, .ref aL, .int 0, .int 0, .int 0, .ref lC, .ref aM, .ref aP, .int 0, .int 0, .int 0, .int (-1), .int (-1), .int 0, .int 0, .long sm]))]) [1] (by decide) rfl
  have hK9 := hK.sub (tys' := []) [] rfl
  exact W.iret (v := 0) hx hb hr (fun t ht hW => ⟨⟨0, (), rfl, rfl, ⟨by rw [ht]; exact hP9, va_K.moved hW.alike hK9, hD9⟩⟩, hS.F ht⟩) hS.2.2 dX5_read_36
set_option maxHeartbeats 4000000 in
set_option maxRecDepth 100000 in
theorem r_end (l : Launch) (D : va_G) (eT : Nat) (h0 : Nat) (lH : Nat) (lB : Nat) (lJ : Nat) (aR : Nat) (aL : Nat) (lC : Nat) (aM : Nat) (aP : Nat) (sm : Int64) (sz : Nat) : Met l yX5_end wsX5_end ({ frames := 1, cells := 0, slots := 0, locals := 21 }) (va_Pc [.ref h0] (pc D eT sz [(h0, .inr (8, [.int 0, .ref lH, .ref lB, .ref lJ, .ref aR, .ref aL, .int 0, .int 0, .int 0, .ref lC, .ref aM, .ref aP, .int 0, .int 0, .int 0, .int (-1), .int (-1), .int 0, .int 0, .long sm]))] [])) (va_Qi (fun (r : Int32) (_ : Unit) => r = 0) (fun _ t => va_P D vwCl [(h0, .inr (8, [.int 1, .ref lH, .ref lB, .ref lJ, .ref aR, .ref aL, .int 0, .int 0, .int 0, .ref lC, .ref aM, .ref aP, .int 0, .int 0, .int 0, .int (-1), .int (-1), .int 0, .int 0, .long sm]))] t.heap ∧ va_K D vwCl [] t ∧ va_D (va_A [(h0, .inr (8, [.int 0, .ref lH, .ref lB, .ref lJ, .ref aR, .ref aL, .int 0, .int 0, .int 0, .ref lC, .ref aM, .ref aP, .int 0, .int 0, .int 0, .int (-1), .int (-1), .int 0, .int 0, .long sm]))] sz) [(h0, .inr (8, [.int 1, .ref lH, .ref lB, .ref lJ, .ref aR, .ref aL, .int 0, .int 0, .int 0, .ref lC, .ref aM, .ref aP, .int 0, .int 0, .int 0, .int (-1), .int (-1), .int 0, .int 0, .long sm]))]) (va_A [(h0, .inr (8, [.int 0, .ref lH, .ref lB, .ref lJ, .ref aR, .ref aL, .int 0, .int 0, .int 0, .ref lC, .ref aM, .ref aP, .int 0, .int 0, .int 0, .int (-1), .int (-1), .int 0, .int 0, .long sm]))] sz)) 0 0 (va_A [(h0, .inr (8, [.int 0, .ref lH, .ref lB, .ref lJ, .ref aR, .ref aL, .int 0, .int 0, .int 0, .ref lC, .ref aM, .ref aP, .int 0, .int 0, .int 0, .int (-1), .int (-1), .int 0, .int 0, .long sm]))] sz) := by
  refine Met.ofW (cc := cX5_end) (maxL := 1) (ret := (some .int)) (by decide +kernel) rfl ?_
  intro p e s m args below meth c s₁ B hml hv
  obtain ⟨rfl, hsz, hP, hK, hD0, hE⟩ := hv
  have hx := B.exec
  have hb := B.bytes
  have hr := B.returns
  have hts := atoms_spec (ws := wsX5_end) B.pre
  have hown : s.vm.findClass RX5 = some m.cls := findClass_of_methodNamed B.named
  have hlocks := B.notSynchronized
  subst hsz
  have hD := hD0.self (sz := s.heap.size)
  generalize hAe : va_A [(h0, .inr (8, [.int 0, .ref lH, .ref lB, .ref lJ, .ref aR, .ref aL, .int 0, .int 0, .int 0, .ref lC, .ref aM, .ref aP, .int 0, .int 0, .int 0, .int (-1), .int (-1), .int 0, .int 0, .long sm]))] s.heap.size = A at hD hE ⊢
  have hA : ∀ q : Nat, s.heap.size ≤ q → A q := fun q h => by rw [← hAe]; exact Or.inr h
  have hS : va_S A s.heap s.heap [] := va_S.rf
  have hP : va_P D vwCl [(h0, .inr (8, [.int 0, .ref lH, .ref lB, .ref lJ, .ref aR, .ref aL, .int 0, .int 0, .int 0, .ref lC, .ref aM, .ref aP, .int 0, .int 0, .int 0, .int (-1), .int (-1), .int 0, .int 0, .long sm]))] s.heap := hP
  have hl := lv_entry ([.ref h0]) (n := 1) (Nat.le_of_ble_eq_true rfl)
  rw [lg_entry_eq]
  generalize (lg_sl ([.ref h0]) ++ List.replicate (1 - (lg_sl ([.ref h0])).length) Slot.unset).toArray = ls at hl ⊢
  have hl : lv_has ls 1 [(0, .ref h0)] := hl
  refine lv_aload_n hx hb dX5_end_0 rfl (lv_at hl 0 rfl) ?_
  refine lv_iconst (v := 0) hx hb dX5_end_1 (by decide) ?_
  refine va_put (D := D) (ci := 8) (v := .int 0) (C := RX5) (T := TX5) (N := 20) hx hb hts (by decide +kernel) tyX5 tyX5_ok nmX5 hown hK hP hD hS 0 rfl rfl 0 (by decide) (hts (.fieldLink RX5 50 "PrizeHouseModel" "thrown" "I") (by decide +kernel)) (fun _ h9 => h9) rfl (tyX5_ok 0 (by decide)) rfl rfl (Nat.le_of_ble_eq_true rfl) dX5_end_2 (fun H locs hP hD hS => ?_)
  have hP : va_P D vwCl [(h0, .inr (8, [.int 0, .ref lH, .ref lB, .ref lJ, .ref aR, .ref aL, .int 0, .int 0, .int 0, .ref lC, .ref aM, .ref aP, .int 0, .int 0, .int 0, .int (-1), .int (-1), .int 0, .int 0, .long sm]))] H := hP
  have hD : va_D A [(h0, .inr (8, [.int 0, .ref lH, .ref lB, .ref lJ, .ref aR, .ref aL, .int 0, .int 0, .int 0, .ref lC, .ref aM, .ref aP, .int 0, .int 0, .int 0, .int (-1), .int (-1), .int 0, .int 0, .long sm]))] := hD
  refine lv_aload_n hx hb dX5_end_5 rfl (lv_at hl 0 rfl) ?_
  refine va_get (D := D) (ci := 8) (v := .int 0) (C := RX5) (T := TX5) (N := 20) hx hb hts (by decide +kernel) hown hK hP 0 rfl rfl 7 (by decide) (hts (.fieldLink RX5 101 "PrizeHouseModel" "phase" "I") (by decide +kernel)) (fun _ h9 => h9) rfl dX5_end_6 ?_
  refine lv_iconst (v := 3) hx hb dX5_end_9 (by decide) ?_
  refine lv_icmp_eq (tgt := 19) hx hb dX5_end_10 (by decide) (fun h => absurd h (by decide)) (fun _ => ?_)
  refine lv_aload_n hx hb dX5_end_13 rfl (lv_at hl 0 rfl) ?_
  refine lv_iconst (v := 1) hx hb dX5_end_14 (by decide) ?_
  have hPc := hP.sub (ws' := [(h0, .inr (8, [.int 0, .ref lH, .ref lB, .ref lJ, .ref aR, .ref aL, .int 0, .int 0, .int 0, .ref lC, .ref aM, .ref aP, .int 0, .int 0, .int 0, .int (-1), .int (-1), .int 0, .int 0, .long sm]))]) [0] rfl
  have hKc := hK.sub (tys' := []) [] rfl
  have hDc := hD.sub (ws' := [(h0, .inr (8, [.int 0, .ref lH, .ref lB, .ref lJ, .ref aR, .ref aL, .int 0, .int 0, .int 0, .ref lC, .ref aM, .ref aP, .int 0, .int 0, .int 0, .int (-1), .int (-1), .int 0, .int 0, .long sm]))]) [0] (by decide) rfl
  have hFc := va_free (wc := [(h0, .inr (8, [.int 0, .ref lH, .ref lB, .ref lJ, .ref aR, .ref aL, .int 0, .int 0, .int 0, .ref lC, .ref aM, .ref aP, .int 0, .int 0, .int 0, .int (-1), .int (-1), .int 0, .int 0, .long sm]))]) hD hS hA [0] rfl
  refine va_calli (va_runV (As := [.int 1]) (rest := []) ⟨hx, hb, hml, hown, hts⟩ (r_refuse l D eT h0 lH lB lJ aR aL lC aM aP sm 1 H.size ) (cwV 1 hts gX5_end_X5_refuse rfl rfl rfl (by decide +kernel) ⟨Nat.le_of_ble_eq_true rfl, Nat.le_of_ble_eq_true rfl⟩) (pc_v (ci := 8) (q0 := 0) rfl rfl hPc hDc hKc hE hS hFc) rfl rfl hl.1 rfl (lv_room (Nat.le_of_ble_eq_true rfl)) dX5_end_15 ⟨Nat.le_of_ble_eq_true rfl, Nat.le_of_ble_eq_true rfl⟩) hS (fun q _ h => hFc q h) hFc (fun r u t H1 locs ht hvm hw hB hz1 hk1 hS => ?_)
  have hw : r = 0 := hw
  rw [hw]
  obtain ⟨hP1, hK1, hD1⟩ := hB
  rw [ht] at hP1
  have hK1 := va_K.moved hvm.symm hK1
  obtain ⟨hP, hD⟩ := va_join (wr := []) (w1 := [(h0, .inr (8, [.int 1, .ref lH, .ref lB, .ref lJ, .ref aR, .ref aL, .int 0, .int 0, .int 0, .ref lC, .ref aM, .ref aP, .int 0, .int 0, .int 0, .int (-1), .int (-1), .int 0, .int 0, .long sm]))]) hP hD [0] [] rfl rfl (by decide) (by decide) hk1 hFc hP1 hD1
  generalize H1 = H at hP hS ⊢
  have hP : va_P D vwCl [(h0, .inr (8, [.int 1, .ref lH, .ref lB, .ref lJ, .ref aR, .ref aL, .int 0, .int 0, .int 0, .ref lC, .ref aM, .ref aP, .int 0, .int 0, .int 0, .int (-1), .int (-1), .int 0, .int 0, .long sm]))] H := hP
  have hD : va_D A [(h0, .inr (8, [.int 1, .ref lH, .ref lB, .ref lJ, .ref aR, .ref aL, .int 0, .int 0, .int 0, .ref lC, .ref aM, .ref aP, .int 0, .int 0, .int 0, .int (-1), .int (-1), .int 0, .int 0, .long sm]))] := hD
  have hP9 := hP.sub (ws' := [(h0, .inr (8, [.int 1, .ref lH, .ref lB, .ref lJ, .ref aR, .ref aL, .int 0, .int 0, .int 0, .ref lC, .ref aM, .ref aP, .int 0, .int 0, .int 0, .int (-1), .int (-1), .int 0, .int 0, .long sm]))]) [0] rfl
  have hD9 := hD.sub (ws' := [(h0, .inr (8, [.int 1, .ref lH, .ref lB, .ref lJ, .ref aR, .ref aL, .int 0, .int 0, .int 0, .ref lC, .ref aM, .ref aP, .int 0, .int 0, .int 0, .int (-1), .int (-1), .int 0, .int 0, .long sm]))]) [0] (by decide) rfl
  have hK9 := hK.sub (tys' := []) [] rfl
  exact W.iret (v := 0) hx hb hr (fun t ht hW => ⟨⟨0, (), rfl, rfl, ⟨by rw [ht]; exact hP9, va_K.moved hW.alike hK9, hD9⟩⟩, hS.F ht⟩) hS.2.2 dX5_end_18
set_option maxHeartbeats 4000000 in
set_option maxRecDepth 100000 in
theorem r_strip (l : Launch) (D : va_G) (eT : Nat) (h0 : Nat) (lH : Nat) (lB : Nat) (lJ : Nat) (aR : Nat) (aL : Nat) (lC : Nat) (aM : Nat) (aP : Nat) (sm : Int64) (sz : Nat) : Met l yX5_strip wsX5_strip ({ frames := 1, cells := 0, slots := 0, locals := 21 }) (va_Pc [.ref h0] (pc D eT sz [(h0, .inr (8, [.int 0, .ref lH, .ref lB, .ref lJ, .ref aR, .ref aL, .int 0, .int 0, .int 0, .ref lC, .ref aM, .ref aP, .int 0, .int 0, .int 0, .int (-1), .int (-1), .int 0, .int 0, .long sm]))] [])) (va_Qi (fun (r : Int32) (_ : Unit) => r = 0) (fun _ t => va_P D vwCl [(h0, .inr (8, [.int 1, .ref lH, .ref lB, .ref lJ, .ref aR, .ref aL, .int 0, .int 0, .int 0, .ref lC, .ref aM, .ref aP, .int 0, .int 0, .int 0, .int (-1), .int (-1), .int 0, .int 0, .long sm]))] t.heap ∧ va_K D vwCl [] t ∧ va_D (va_A [(h0, .inr (8, [.int 0, .ref lH, .ref lB, .ref lJ, .ref aR, .ref aL, .int 0, .int 0, .int 0, .ref lC, .ref aM, .ref aP, .int 0, .int 0, .int 0, .int (-1), .int (-1), .int 0, .int 0, .long sm]))] sz) [(h0, .inr (8, [.int 1, .ref lH, .ref lB, .ref lJ, .ref aR, .ref aL, .int 0, .int 0, .int 0, .ref lC, .ref aM, .ref aP, .int 0, .int 0, .int 0, .int (-1), .int (-1), .int 0, .int 0, .long sm]))]) (va_A [(h0, .inr (8, [.int 0, .ref lH, .ref lB, .ref lJ, .ref aR, .ref aL, .int 0, .int 0, .int 0, .ref lC, .ref aM, .ref aP, .int 0, .int 0, .int 0, .int (-1), .int (-1), .int 0, .int 0, .long sm]))] sz)) 0 0 (va_A [(h0, .inr (8, [.int 0, .ref lH, .ref lB, .ref lJ, .ref aR, .ref aL, .int 0, .int 0, .int 0, .ref lC, .ref aM, .ref aP, .int 0, .int 0, .int 0, .int (-1), .int (-1), .int 0, .int 0, .long sm]))] sz) := by
  refine Met.ofW (cc := cX5_strip) (maxL := 1) (ret := (some .int)) (by decide +kernel) rfl ?_
  intro p e s m args below meth c s₁ B hml hv
  obtain ⟨rfl, hsz, hP, hK, hD0, hE⟩ := hv
  have hx := B.exec
  have hb := B.bytes
  have hr := B.returns
  have hts := atoms_spec (ws := wsX5_strip) B.pre
  have hown : s.vm.findClass RX5 = some m.cls := findClass_of_methodNamed B.named
  have hlocks := B.notSynchronized
  subst hsz
  have hD := hD0.self (sz := s.heap.size)
  generalize hAe : va_A [(h0, .inr (8, [.int 0, .ref lH, .ref lB, .ref lJ, .ref aR, .ref aL, .int 0, .int 0, .int 0, .ref lC, .ref aM, .ref aP, .int 0, .int 0, .int 0, .int (-1), .int (-1), .int 0, .int 0, .long sm]))] s.heap.size = A at hD hE ⊢
  have hA : ∀ q : Nat, s.heap.size ≤ q → A q := fun q h => by rw [← hAe]; exact Or.inr h
  have hS : va_S A s.heap s.heap [] := va_S.rf
  have hP : va_P D vwCl [(h0, .inr (8, [.int 0, .ref lH, .ref lB, .ref lJ, .ref aR, .ref aL, .int 0, .int 0, .int 0, .ref lC, .ref aM, .ref aP, .int 0, .int 0, .int 0, .int (-1), .int (-1), .int 0, .int 0, .long sm]))] s.heap := hP
  have hl := lv_entry ([.ref h0]) (n := 1) (Nat.le_of_ble_eq_true rfl)
  rw [lg_entry_eq]
  generalize (lg_sl ([.ref h0]) ++ List.replicate (1 - (lg_sl ([.ref h0])).length) Slot.unset).toArray = ls at hl ⊢
  have hl : lv_has ls 1 [(0, .ref h0)] := hl
  refine lv_aload_n hx hb dX5_strip_0 rfl (lv_at hl 0 rfl) ?_
  refine lv_iconst (v := 0) hx hb dX5_strip_1 (by decide) ?_
  refine va_put (D := D) (ci := 8) (v := .int 0) (C := RX5) (T := TX5) (N := 20) hx hb hts (by decide +kernel) tyX5 tyX5_ok nmX5 hown hK hP hD hS 0 rfl rfl 0 (by decide) (hts (.fieldLink RX5 50 "PrizeHouseModel" "thrown" "I") (by decide +kernel)) (fun _ h9 => h9) rfl (tyX5_ok 0 (by decide)) rfl rfl (Nat.le_of_ble_eq_true rfl) dX5_strip_2 (fun H locs hP hD hS => ?_)
  have hP : va_P D vwCl [(h0, .inr (8, [.int 0, .ref lH, .ref lB, .ref lJ, .ref aR, .ref aL, .int 0, .int 0, .int 0, .ref lC, .ref aM, .ref aP, .int 0, .int 0, .int 0, .int (-1), .int (-1), .int 0, .int 0, .long sm]))] H := hP
  have hD : va_D A [(h0, .inr (8, [.int 0, .ref lH, .ref lB, .ref lJ, .ref aR, .ref aL, .int 0, .int 0, .int 0, .ref lC, .ref aM, .ref aP, .int 0, .int 0, .int 0, .int (-1), .int (-1), .int 0, .int 0, .long sm]))] := hD
  refine lv_aload_n hx hb dX5_strip_5 rfl (lv_at hl 0 rfl) ?_
  refine va_get (D := D) (ci := 8) (v := .int 0) (C := RX5) (T := TX5) (N := 20) hx hb hts (by decide +kernel) hown hK hP 0 rfl rfl 7 (by decide) (hts (.fieldLink RX5 101 "PrizeHouseModel" "phase" "I") (by decide +kernel)) (fun _ h9 => h9) rfl dX5_strip_6 ?_
  refine lv_iconst (v := 4) hx hb dX5_strip_9 (by decide) ?_
  refine lv_icmp_ne (tgt := 21) hx hb dX5_strip_10 (by decide) (fun _ => ?_) (fun h => absurd h (by decide))
  refine lv_aload_n hx hb dX5_strip_21 rfl (lv_at hl 0 rfl) ?_
  refine lv_iconst (v := 1) hx hb dX5_strip_22 (by decide) ?_
  have hPc := hP.sub (ws' := [(h0, .inr (8, [.int 0, .ref lH, .ref lB, .ref lJ, .ref aR, .ref aL, .int 0, .int 0, .int 0, .ref lC, .ref aM, .ref aP, .int 0, .int 0, .int 0, .int (-1), .int (-1), .int 0, .int 0, .long sm]))]) [0] rfl
  have hKc := hK.sub (tys' := []) [] rfl
  have hDc := hD.sub (ws' := [(h0, .inr (8, [.int 0, .ref lH, .ref lB, .ref lJ, .ref aR, .ref aL, .int 0, .int 0, .int 0, .ref lC, .ref aM, .ref aP, .int 0, .int 0, .int 0, .int (-1), .int (-1), .int 0, .int 0, .long sm]))]) [0] (by decide) rfl
  have hFc := va_free (wc := [(h0, .inr (8, [.int 0, .ref lH, .ref lB, .ref lJ, .ref aR, .ref aL, .int 0, .int 0, .int 0, .ref lC, .ref aM, .ref aP, .int 0, .int 0, .int 0, .int (-1), .int (-1), .int 0, .int 0, .long sm]))]) hD hS hA [0] rfl
  refine va_calli (va_runV (As := [.int 1]) (rest := []) ⟨hx, hb, hml, hown, hts⟩ (r_refuse l D eT h0 lH lB lJ aR aL lC aM aP sm 1 H.size ) (cwV 1 hts gX5_strip_X5_refuse rfl rfl rfl (by decide +kernel) ⟨Nat.le_of_ble_eq_true rfl, Nat.le_of_ble_eq_true rfl⟩) (pc_v (ci := 8) (q0 := 0) rfl rfl hPc hDc hKc hE hS hFc) rfl rfl hl.1 rfl (lv_room (Nat.le_of_ble_eq_true rfl)) dX5_strip_23 ⟨Nat.le_of_ble_eq_true rfl, Nat.le_of_ble_eq_true rfl⟩) hS (fun q _ h => hFc q h) hFc (fun r u t H1 locs ht hvm hw hB hz1 hk1 hS => ?_)
  have hw : r = 0 := hw
  rw [hw]
  obtain ⟨hP1, hK1, hD1⟩ := hB
  rw [ht] at hP1
  have hK1 := va_K.moved hvm.symm hK1
  obtain ⟨hP, hD⟩ := va_join (wr := []) (w1 := [(h0, .inr (8, [.int 1, .ref lH, .ref lB, .ref lJ, .ref aR, .ref aL, .int 0, .int 0, .int 0, .ref lC, .ref aM, .ref aP, .int 0, .int 0, .int 0, .int (-1), .int (-1), .int 0, .int 0, .long sm]))]) hP hD [0] [] rfl rfl (by decide) (by decide) hk1 hFc hP1 hD1
  generalize H1 = H at hP hS ⊢
  have hP : va_P D vwCl [(h0, .inr (8, [.int 1, .ref lH, .ref lB, .ref lJ, .ref aR, .ref aL, .int 0, .int 0, .int 0, .ref lC, .ref aM, .ref aP, .int 0, .int 0, .int 0, .int (-1), .int (-1), .int 0, .int 0, .long sm]))] H := hP
  have hD : va_D A [(h0, .inr (8, [.int 1, .ref lH, .ref lB, .ref lJ, .ref aR, .ref aL, .int 0, .int 0, .int 0, .ref lC, .ref aM, .ref aP, .int 0, .int 0, .int 0, .int (-1), .int (-1), .int 0, .int 0, .long sm]))] := hD
  have hP9 := hP.sub (ws' := [(h0, .inr (8, [.int 1, .ref lH, .ref lB, .ref lJ, .ref aR, .ref aL, .int 0, .int 0, .int 0, .ref lC, .ref aM, .ref aP, .int 0, .int 0, .int 0, .int (-1), .int (-1), .int 0, .int 0, .long sm]))]) [0] rfl
  have hD9 := hD.sub (ws' := [(h0, .inr (8, [.int 1, .ref lH, .ref lB, .ref lJ, .ref aR, .ref aL, .int 0, .int 0, .int 0, .ref lC, .ref aM, .ref aP, .int 0, .int 0, .int 0, .int (-1), .int (-1), .int 0, .int 0, .long sm]))]) [0] (by decide) rfl
  have hK9 := hK.sub (tys' := []) [] rfl
  exact W.iret (v := 0) hx hb hr (fun t ht hW => ⟨⟨0, (), rfl, rfl, ⟨by rw [ht]; exact hP9, va_K.moved hW.alike hK9, hD9⟩⟩, hS.F ht⟩) hS.2.2 dX5_strip_26
set_option maxHeartbeats 4000000 in
set_option maxRecDepth 100000 in
theorem r_next (l : Launch) (D : va_G) (eT : Nat) (h0 : Nat) (lH : Nat) (lB : Nat) (lJ : Nat) (aR : Nat) (aL : Nat) (lC : Nat) (aM : Nat) (aP : Nat) (sm : Int64) (sz : Nat) : Met l yX5_next wsX5_next ({ frames := 1, cells := 0, slots := 0, locals := 21 }) (va_Pc [.ref h0] (pc D eT sz [(h0, .inr (8, [.int 0, .ref lH, .ref lB, .ref lJ, .ref aR, .ref aL, .int 0, .int 0, .int 0, .ref lC, .ref aM, .ref aP, .int 0, .int 0, .int 0, .int (-1), .int (-1), .int 0, .int 0, .long sm]))] [])) (va_Qi (fun (r : Int32) (_ : Unit) => r = 0) (fun _ t => va_P D vwCl [(h0, .inr (8, [.int 1, .ref lH, .ref lB, .ref lJ, .ref aR, .ref aL, .int 0, .int 0, .int 0, .ref lC, .ref aM, .ref aP, .int 0, .int 0, .int 0, .int (-1), .int (-1), .int 0, .int 0, .long sm]))] t.heap ∧ va_K D vwCl [] t ∧ va_D (va_A [(h0, .inr (8, [.int 0, .ref lH, .ref lB, .ref lJ, .ref aR, .ref aL, .int 0, .int 0, .int 0, .ref lC, .ref aM, .ref aP, .int 0, .int 0, .int 0, .int (-1), .int (-1), .int 0, .int 0, .long sm]))] sz) [(h0, .inr (8, [.int 1, .ref lH, .ref lB, .ref lJ, .ref aR, .ref aL, .int 0, .int 0, .int 0, .ref lC, .ref aM, .ref aP, .int 0, .int 0, .int 0, .int (-1), .int (-1), .int 0, .int 0, .long sm]))]) (va_A [(h0, .inr (8, [.int 0, .ref lH, .ref lB, .ref lJ, .ref aR, .ref aL, .int 0, .int 0, .int 0, .ref lC, .ref aM, .ref aP, .int 0, .int 0, .int 0, .int (-1), .int (-1), .int 0, .int 0, .long sm]))] sz)) 0 0 (va_A [(h0, .inr (8, [.int 0, .ref lH, .ref lB, .ref lJ, .ref aR, .ref aL, .int 0, .int 0, .int 0, .ref lC, .ref aM, .ref aP, .int 0, .int 0, .int 0, .int (-1), .int (-1), .int 0, .int 0, .long sm]))] sz) := by
  refine Met.ofW (cc := cX5_next) (maxL := 1) (ret := (some .int)) (by decide +kernel) rfl ?_
  intro p e s m args below meth c s₁ B hml hv
  obtain ⟨rfl, hsz, hP, hK, hD0, hE⟩ := hv
  have hx := B.exec
  have hb := B.bytes
  have hr := B.returns
  have hts := atoms_spec (ws := wsX5_next) B.pre
  have hown : s.vm.findClass RX5 = some m.cls := findClass_of_methodNamed B.named
  have hlocks := B.notSynchronized
  subst hsz
  have hD := hD0.self (sz := s.heap.size)
  generalize hAe : va_A [(h0, .inr (8, [.int 0, .ref lH, .ref lB, .ref lJ, .ref aR, .ref aL, .int 0, .int 0, .int 0, .ref lC, .ref aM, .ref aP, .int 0, .int 0, .int 0, .int (-1), .int (-1), .int 0, .int 0, .long sm]))] s.heap.size = A at hD hE ⊢
  have hA : ∀ q : Nat, s.heap.size ≤ q → A q := fun q h => by rw [← hAe]; exact Or.inr h
  have hS : va_S A s.heap s.heap [] := va_S.rf
  have hP : va_P D vwCl [(h0, .inr (8, [.int 0, .ref lH, .ref lB, .ref lJ, .ref aR, .ref aL, .int 0, .int 0, .int 0, .ref lC, .ref aM, .ref aP, .int 0, .int 0, .int 0, .int (-1), .int (-1), .int 0, .int 0, .long sm]))] s.heap := hP
  have hl := lv_entry ([.ref h0]) (n := 1) (Nat.le_of_ble_eq_true rfl)
  rw [lg_entry_eq]
  generalize (lg_sl ([.ref h0]) ++ List.replicate (1 - (lg_sl ([.ref h0])).length) Slot.unset).toArray = ls at hl ⊢
  have hl : lv_has ls 1 [(0, .ref h0)] := hl
  refine lv_aload_n hx hb dX5_next_0 rfl (lv_at hl 0 rfl) ?_
  refine lv_iconst (v := 0) hx hb dX5_next_1 (by decide) ?_
  refine va_put (D := D) (ci := 8) (v := .int 0) (C := RX5) (T := TX5) (N := 20) hx hb hts (by decide +kernel) tyX5 tyX5_ok nmX5 hown hK hP hD hS 0 rfl rfl 0 (by decide) (hts (.fieldLink RX5 50 "PrizeHouseModel" "thrown" "I") (by decide +kernel)) (fun _ h9 => h9) rfl (tyX5_ok 0 (by decide)) rfl rfl (Nat.le_of_ble_eq_true rfl) dX5_next_2 (fun H locs hP hD hS => ?_)
  have hP : va_P D vwCl [(h0, .inr (8, [.int 0, .ref lH, .ref lB, .ref lJ, .ref aR, .ref aL, .int 0, .int 0, .int 0, .ref lC, .ref aM, .ref aP, .int 0, .int 0, .int 0, .int (-1), .int (-1), .int 0, .int 0, .long sm]))] H := hP
  have hD : va_D A [(h0, .inr (8, [.int 0, .ref lH, .ref lB, .ref lJ, .ref aR, .ref aL, .int 0, .int 0, .int 0, .ref lC, .ref aM, .ref aP, .int 0, .int 0, .int 0, .int (-1), .int (-1), .int 0, .int 0, .long sm]))] := hD
  refine lv_aload_n hx hb dX5_next_5 rfl (lv_at hl 0 rfl) ?_
  refine va_get (D := D) (ci := 8) (v := .int 0) (C := RX5) (T := TX5) (N := 20) hx hb hts (by decide +kernel) hown hK hP 0 rfl rfl 7 (by decide) (hts (.fieldLink RX5 101 "PrizeHouseModel" "phase" "I") (by decide +kernel)) (fun _ h9 => h9) rfl dX5_next_6 ?_
  refine lv_iconst (v := 4) hx hb dX5_next_9 (by decide) ?_
  refine lv_icmp_ne (tgt := 22) hx hb dX5_next_10 (by decide) (fun _ => ?_) (fun h => absurd h (by decide))
  refine lv_aload_n hx hb dX5_next_22 rfl (lv_at hl 0 rfl) ?_
  refine lv_iconst (v := 1) hx hb dX5_next_23 (by decide) ?_
  have hPc := hP.sub (ws' := [(h0, .inr (8, [.int 0, .ref lH, .ref lB, .ref lJ, .ref aR, .ref aL, .int 0, .int 0, .int 0, .ref lC, .ref aM, .ref aP, .int 0, .int 0, .int 0, .int (-1), .int (-1), .int 0, .int 0, .long sm]))]) [0] rfl
  have hKc := hK.sub (tys' := []) [] rfl
  have hDc := hD.sub (ws' := [(h0, .inr (8, [.int 0, .ref lH, .ref lB, .ref lJ, .ref aR, .ref aL, .int 0, .int 0, .int 0, .ref lC, .ref aM, .ref aP, .int 0, .int 0, .int 0, .int (-1), .int (-1), .int 0, .int 0, .long sm]))]) [0] (by decide) rfl
  have hFc := va_free (wc := [(h0, .inr (8, [.int 0, .ref lH, .ref lB, .ref lJ, .ref aR, .ref aL, .int 0, .int 0, .int 0, .ref lC, .ref aM, .ref aP, .int 0, .int 0, .int 0, .int (-1), .int (-1), .int 0, .int 0, .long sm]))]) hD hS hA [0] rfl
  refine va_calli (va_runV (As := [.int 1]) (rest := []) ⟨hx, hb, hml, hown, hts⟩ (r_refuse l D eT h0 lH lB lJ aR aL lC aM aP sm 1 H.size ) (cwV 1 hts gX5_next_X5_refuse rfl rfl rfl (by decide +kernel) ⟨Nat.le_of_ble_eq_true rfl, Nat.le_of_ble_eq_true rfl⟩) (pc_v (ci := 8) (q0 := 0) rfl rfl hPc hDc hKc hE hS hFc) rfl rfl hl.1 rfl (lv_room (Nat.le_of_ble_eq_true rfl)) dX5_next_24 ⟨Nat.le_of_ble_eq_true rfl, Nat.le_of_ble_eq_true rfl⟩) hS (fun q _ h => hFc q h) hFc (fun r u t H1 locs ht hvm hw hB hz1 hk1 hS => ?_)
  have hw : r = 0 := hw
  rw [hw]
  obtain ⟨hP1, hK1, hD1⟩ := hB
  rw [ht] at hP1
  have hK1 := va_K.moved hvm.symm hK1
  obtain ⟨hP, hD⟩ := va_join (wr := []) (w1 := [(h0, .inr (8, [.int 1, .ref lH, .ref lB, .ref lJ, .ref aR, .ref aL, .int 0, .int 0, .int 0, .ref lC, .ref aM, .ref aP, .int 0, .int 0, .int 0, .int (-1), .int (-1), .int 0, .int 0, .long sm]))]) hP hD [0] [] rfl rfl (by decide) (by decide) hk1 hFc hP1 hD1
  generalize H1 = H at hP hS ⊢
  have hP : va_P D vwCl [(h0, .inr (8, [.int 1, .ref lH, .ref lB, .ref lJ, .ref aR, .ref aL, .int 0, .int 0, .int 0, .ref lC, .ref aM, .ref aP, .int 0, .int 0, .int 0, .int (-1), .int (-1), .int 0, .int 0, .long sm]))] H := hP
  have hD : va_D A [(h0, .inr (8, [.int 1, .ref lH, .ref lB, .ref lJ, .ref aR, .ref aL, .int 0, .int 0, .int 0, .ref lC, .ref aM, .ref aP, .int 0, .int 0, .int 0, .int (-1), .int (-1), .int 0, .int 0, .long sm]))] := hD
  have hP9 := hP.sub (ws' := [(h0, .inr (8, [.int 1, .ref lH, .ref lB, .ref lJ, .ref aR, .ref aL, .int 0, .int 0, .int 0, .ref lC, .ref aM, .ref aP, .int 0, .int 0, .int 0, .int (-1), .int (-1), .int 0, .int 0, .long sm]))]) [0] rfl
  have hD9 := hD.sub (ws' := [(h0, .inr (8, [.int 1, .ref lH, .ref lB, .ref lJ, .ref aR, .ref aL, .int 0, .int 0, .int 0, .ref lC, .ref aM, .ref aP, .int 0, .int 0, .int 0, .int (-1), .int (-1), .int 0, .int 0, .long sm]))]) [0] (by decide) rfl
  have hK9 := hK.sub (tys' := []) [] rfl
  exact W.iret (v := 0) hx hb hr (fun t ht hW => ⟨⟨0, (), rfl, rfl, ⟨by rw [ht]; exact hP9, va_K.moved hW.alike hK9, hD9⟩⟩, hS.F ht⟩) hS.2.2 dX5_next_27
set_option maxHeartbeats 4000000 in
set_option maxRecDepth 100000 in
theorem r_longList_f (l : Launch) (D : va_G) (eT : Nat) (h0 : Nat) (lH : Nat) (lB : Nat) (lJ : Nat) (aR : Nat) (aL : Nat) (lC : Nat) (aM : Nat) (aP : Nat) (sm : Int64) (p0 : Int32) (sz : Nat) (hn : ¬ (3 ≤ p0 ∧ p0 ≤ 8)) : Met l yX5_longList wsX5_longList ({ frames := 1, cells := 0, slots := 0, locals := 22 }) (va_Pc [.ref h0, .int p0] (pc D eT sz [(h0, .inr (8, [.int 0, .ref lH, .ref lB, .ref lJ, .ref aR, .ref aL, .int 0, .int 0, .int 0, .ref lC, .ref aM, .ref aP, .int 0, .int 0, .int 0, .int (-1), .int (-1), .int 0, .int 0, .long sm]))] [])) (va_Qi (fun (r : Int32) (_ : Unit) => r = 0) (fun _ t => va_P D vwCl [(h0, .inr (8, [.int 1, .ref lH, .ref lB, .ref lJ, .ref aR, .ref aL, .int 0, .int 0, .int 0, .ref lC, .ref aM, .ref aP, .int 0, .int 0, .int 0, .int (-1), .int (-1), .int 0, .int 0, .long sm]))] t.heap ∧ va_K D vwCl [] t ∧ va_D (va_A [(h0, .inr (8, [.int 0, .ref lH, .ref lB, .ref lJ, .ref aR, .ref aL, .int 0, .int 0, .int 0, .ref lC, .ref aM, .ref aP, .int 0, .int 0, .int 0, .int (-1), .int (-1), .int 0, .int 0, .long sm]))] sz) [(h0, .inr (8, [.int 1, .ref lH, .ref lB, .ref lJ, .ref aR, .ref aL, .int 0, .int 0, .int 0, .ref lC, .ref aM, .ref aP, .int 0, .int 0, .int 0, .int (-1), .int (-1), .int 0, .int 0, .long sm]))]) (va_A [(h0, .inr (8, [.int 0, .ref lH, .ref lB, .ref lJ, .ref aR, .ref aL, .int 0, .int 0, .int 0, .ref lC, .ref aM, .ref aP, .int 0, .int 0, .int 0, .int (-1), .int (-1), .int 0, .int 0, .long sm]))] sz)) 0 0 (va_A [(h0, .inr (8, [.int 0, .ref lH, .ref lB, .ref lJ, .ref aR, .ref aL, .int 0, .int 0, .int 0, .ref lC, .ref aM, .ref aP, .int 0, .int 0, .int 0, .int (-1), .int (-1), .int 0, .int 0, .long sm]))] sz) := by
  refine Met.ofW (cc := cX5_longList) (maxL := 7) (ret := (some .int)) (by decide +kernel) rfl ?_
  intro p e s m args below meth c s₁ B hml hv
  obtain ⟨rfl, hsz, hP, hK, hD0, hE⟩ := hv
  have hx := B.exec
  have hb := B.bytes
  have hr := B.returns
  have hts := atoms_spec (ws := wsX5_longList) B.pre
  have hown : s.vm.findClass RX5 = some m.cls := findClass_of_methodNamed B.named
  have hlocks := B.notSynchronized
  subst hsz
  have hD := hD0.self (sz := s.heap.size)
  generalize hAe : va_A [(h0, .inr (8, [.int 0, .ref lH, .ref lB, .ref lJ, .ref aR, .ref aL, .int 0, .int 0, .int 0, .ref lC, .ref aM, .ref aP, .int 0, .int 0, .int 0, .int (-1), .int (-1), .int 0, .int 0, .long sm]))] s.heap.size = A at hD hE ⊢
  have hA : ∀ q : Nat, s.heap.size ≤ q → A q := fun q h => by rw [← hAe]; exact Or.inr h
  have hS : va_S A s.heap s.heap [] := va_S.rf
  have hP : va_P D vwCl [(h0, .inr (8, [.int 0, .ref lH, .ref lB, .ref lJ, .ref aR, .ref aL, .int 0, .int 0, .int 0, .ref lC, .ref aM, .ref aP, .int 0, .int 0, .int 0, .int (-1), .int (-1), .int 0, .int 0, .long sm]))] s.heap := hP
  have hl := lv_entry ([.ref h0, .int p0]) (n := 7) (Nat.le_of_ble_eq_true rfl)
  rw [lg_entry_eq]
  generalize (lg_sl ([.ref h0, .int p0]) ++ List.replicate (7 - (lg_sl ([.ref h0, .int p0])).length) Slot.unset).toArray = ls at hl ⊢
  have hl : lv_has ls 7 [(0, .ref h0), (1, .int p0)] := hl
  refine lv_aload_n hx hb dX5_longList_0 rfl (lv_at hl 0 rfl) ?_
  refine lv_iconst (v := 0) hx hb dX5_longList_1 (by decide) ?_
  refine va_put (D := D) (ci := 8) (v := .int 0) (C := RX5) (T := TX5) (N := 20) hx hb hts (by decide +kernel) tyX5 tyX5_ok nmX5 hown hK hP hD hS 0 rfl rfl 0 (by decide) (hts (.fieldLink RX5 50 "PrizeHouseModel" "thrown" "I") (by decide +kernel)) (fun _ h9 => h9) rfl (tyX5_ok 0 (by decide)) rfl rfl (Nat.le_of_ble_eq_true rfl) dX5_longList_2 (fun H locs hP hD hS => ?_)
  have hP : va_P D vwCl [(h0, .inr (8, [.int 0, .ref lH, .ref lB, .ref lJ, .ref aR, .ref aL, .int 0, .int 0, .int 0, .ref lC, .ref aM, .ref aP, .int 0, .int 0, .int 0, .int (-1), .int (-1), .int 0, .int 0, .long sm]))] H := hP
  have hD : va_D A [(h0, .inr (8, [.int 0, .ref lH, .ref lB, .ref lJ, .ref aR, .ref aL, .int 0, .int 0, .int 0, .ref lC, .ref aM, .ref aP, .int 0, .int 0, .int 0, .int (-1), .int (-1), .int 0, .int 0, .long sm]))] := hD
  refine lv_iload_n hx hb dX5_longList_5 rfl (lv_at hl 1 rfl) ?_
  refine lv_iconst (v := 3) hx hb dX5_longList_6 (by decide) ?_
  refine lv_bipush (v := 8) hx hb dX5_longList_7 (by decide) ?_
  have hPc := hP.sub (ws' := []) [] rfl
  have hKc := hK.sub (tys' := []) [] rfl
  refine va_calli (va_runS (As := [.int p0, .int 3, .int 8]) (rest := []) ⟨hx, hb, hml, hown, hts⟩ (k_is_f l D eT p0 3 8 H.size hn) (va_cwS 3 hts gX5_longList_X5_is rfl rfl rfl (by decide +kernel) ⟨Nat.le_of_ble_eq_true rfl, Nat.le_of_ble_eq_true rfl⟩) (pr_s hPc hKc hE hS hA) rfl rfl hl.1 rfl (lv_room (Nat.le_of_ble_eq_true rfl)) dX5_longList_9 ⟨Nat.le_of_ble_eq_true rfl, Nat.le_of_ble_eq_true rfl⟩) hS (fun q h1 h2 => ro_A h1 h2) (fun q h => ro_F hS hA q h) (fun r u t H1 locs ht hvm hw hB hz1 hk1 hS => ?_)
  have hw : r = 0 := hw
  rw [hw]
  have hP := ro_P hP hk1
  generalize H1 = H at hP hS ⊢
  refine lv_if_ne (tgt := 21) hx hb dX5_longList_12 (by decide) (fun h => absurd (by decide) h) (fun _ => ?_)
  refine lv_aload_n hx hb dX5_longList_15 rfl (lv_at hl 0 rfl) ?_
  refine lv_iconst (v := 1) hx hb dX5_longList_16 (by decide) ?_
  have hPc := hP.sub (ws' := [(h0, .inr (8, [.int 0, .ref lH, .ref lB, .ref lJ, .ref aR, .ref aL, .int 0, .int 0, .int 0, .ref lC, .ref aM, .ref aP, .int 0, .int 0, .int 0, .int (-1), .int (-1), .int 0, .int 0, .long sm]))]) [0] rfl
  have hKc := hK.sub (tys' := []) [] rfl
  have hDc := hD.sub (ws' := [(h0, .inr (8, [.int 0, .ref lH, .ref lB, .ref lJ, .ref aR, .ref aL, .int 0, .int 0, .int 0, .ref lC, .ref aM, .ref aP, .int 0, .int 0, .int 0, .int (-1), .int (-1), .int 0, .int 0, .long sm]))]) [0] (by decide) rfl
  have hFc := va_free (wc := [(h0, .inr (8, [.int 0, .ref lH, .ref lB, .ref lJ, .ref aR, .ref aL, .int 0, .int 0, .int 0, .ref lC, .ref aM, .ref aP, .int 0, .int 0, .int 0, .int (-1), .int (-1), .int 0, .int 0, .long sm]))]) hD hS hA [0] rfl
  refine va_calli (va_runV (As := [.int 1]) (rest := []) ⟨hx, hb, hml, hown, hts⟩ (r_refuse l D eT h0 lH lB lJ aR aL lC aM aP sm 1 H.size ) (cwV 1 hts gX5_longList_X5_refuse rfl rfl rfl (by decide +kernel) ⟨Nat.le_of_ble_eq_true rfl, Nat.le_of_ble_eq_true rfl⟩) (pc_v (ci := 8) (q0 := 0) rfl rfl hPc hDc hKc hE hS hFc) rfl rfl hl.1 rfl (lv_room (Nat.le_of_ble_eq_true rfl)) dX5_longList_17 ⟨Nat.le_of_ble_eq_true rfl, Nat.le_of_ble_eq_true rfl⟩) hS (fun q _ h => hFc q h) hFc (fun r u t H1 locs ht hvm hw hB hz1 hk1 hS => ?_)
  have hw : r = 0 := hw
  rw [hw]
  obtain ⟨hP1, hK1, hD1⟩ := hB
  rw [ht] at hP1
  have hK1 := va_K.moved hvm.symm hK1
  obtain ⟨hP, hD⟩ := va_join (wr := []) (w1 := [(h0, .inr (8, [.int 1, .ref lH, .ref lB, .ref lJ, .ref aR, .ref aL, .int 0, .int 0, .int 0, .ref lC, .ref aM, .ref aP, .int 0, .int 0, .int 0, .int (-1), .int (-1), .int 0, .int 0, .long sm]))]) hP hD [0] [] rfl rfl (by decide) (by decide) hk1 hFc hP1 hD1
  generalize H1 = H at hP hS ⊢
  have hP : va_P D vwCl [(h0, .inr (8, [.int 1, .ref lH, .ref lB, .ref lJ, .ref aR, .ref aL, .int 0, .int 0, .int 0, .ref lC, .ref aM, .ref aP, .int 0, .int 0, .int 0, .int (-1), .int (-1), .int 0, .int 0, .long sm]))] H := hP
  have hD : va_D A [(h0, .inr (8, [.int 1, .ref lH, .ref lB, .ref lJ, .ref aR, .ref aL, .int 0, .int 0, .int 0, .ref lC, .ref aM, .ref aP, .int 0, .int 0, .int 0, .int (-1), .int (-1), .int 0, .int 0, .long sm]))] := hD
  have hP9 := hP.sub (ws' := [(h0, .inr (8, [.int 1, .ref lH, .ref lB, .ref lJ, .ref aR, .ref aL, .int 0, .int 0, .int 0, .ref lC, .ref aM, .ref aP, .int 0, .int 0, .int 0, .int (-1), .int (-1), .int 0, .int 0, .long sm]))]) [0] rfl
  have hD9 := hD.sub (ws' := [(h0, .inr (8, [.int 1, .ref lH, .ref lB, .ref lJ, .ref aR, .ref aL, .int 0, .int 0, .int 0, .ref lC, .ref aM, .ref aP, .int 0, .int 0, .int 0, .int (-1), .int (-1), .int 0, .int 0, .long sm]))]) [0] (by decide) rfl
  have hK9 := hK.sub (tys' := []) [] rfl
  exact W.iret (v := 0) hx hb hr (fun t ht hW => ⟨⟨0, (), rfl, rfl, ⟨by rw [ht]; exact hP9, va_K.moved hW.alike hK9, hD9⟩⟩, hS.F ht⟩) hS.2.2 dX5_longList_20
set_option maxHeartbeats 4000000 in
set_option maxRecDepth 100000 in
theorem r_longList_t (l : Launch) (D : va_G) (eT : Nat) (h0 : Nat) (lH : Nat) (lB : Nat) (lJ : Nat) (aR : Nat) (aL : Nat) (lC : Nat) (aM : Nat) (aP : Nat) (sm : Int64) (p0 : Int32) (sz : Nat) (h1 : 3 ≤ p0) (h2 : p0 ≤ 8) : Met l yX5_longList wsX5_longList ({ frames := 1, cells := 0, slots := 0, locals := 22 }) (va_Pc [.ref h0, .int p0] (pc D eT sz [(h0, .inr (8, [.int 0, .ref lH, .ref lB, .ref lJ, .ref aR, .ref aL, .int 0, .int 0, .int 0, .ref lC, .ref aM, .ref aP, .int 0, .int 0, .int 0, .int (-1), .int (-1), .int 0, .int 0, .long sm])), (lJ, .inr (2, [.int 0, .ref eT, .int 0]))] [])) (va_Qi (fun (r : Int32) (_ : Unit) => r = 0) (fun _ t => va_P D vwCl [(h0, .inr (8, [.int 2, .ref lH, .ref lB, .ref lJ, .ref aR, .ref aL, .int 0, .int 0, .int 0, .ref lC, .ref aM, .ref aP, .int 0, .int 0, .int 0, .int (-1), .int (-1), .int 0, .int 0, .long sm]))] t.heap ∧ va_K D vwCl [] t ∧ va_D (va_A [(h0, .inr (8, [.int 0, .ref lH, .ref lB, .ref lJ, .ref aR, .ref aL, .int 0, .int 0, .int 0, .ref lC, .ref aM, .ref aP, .int 0, .int 0, .int 0, .int (-1), .int (-1), .int 0, .int 0, .long sm])), (lJ, .inr (2, [.int 0, .ref eT, .int 0]))] sz) [(h0, .inr (8, [.int 2, .ref lH, .ref lB, .ref lJ, .ref aR, .ref aL, .int 0, .int 0, .int 0, .ref lC, .ref aM, .ref aP, .int 0, .int 0, .int 0, .int (-1), .int (-1), .int 0, .int 0, .long sm]))]) (va_A [(h0, .inr (8, [.int 0, .ref lH, .ref lB, .ref lJ, .ref aR, .ref aL, .int 0, .int 0, .int 0, .ref lC, .ref aM, .ref aP, .int 0, .int 0, .int 0, .int (-1), .int (-1), .int 0, .int 0, .long sm])), (lJ, .inr (2, [.int 0, .ref eT, .int 0]))] sz)) 0 0 (va_A [(h0, .inr (8, [.int 0, .ref lH, .ref lB, .ref lJ, .ref aR, .ref aL, .int 0, .int 0, .int 0, .ref lC, .ref aM, .ref aP, .int 0, .int 0, .int 0, .int (-1), .int (-1), .int 0, .int 0, .long sm])), (lJ, .inr (2, [.int 0, .ref eT, .int 0]))] sz) := by
  refine Met.ofW (cc := cX5_longList) (maxL := 7) (ret := (some .int)) (by decide +kernel) rfl ?_
  intro p e s m args below meth c s₁ B hml hv
  obtain ⟨rfl, hsz, hP, hK, hD0, hE⟩ := hv
  have hx := B.exec
  have hb := B.bytes
  have hr := B.returns
  have hts := atoms_spec (ws := wsX5_longList) B.pre
  have hown : s.vm.findClass RX5 = some m.cls := findClass_of_methodNamed B.named
  have hlocks := B.notSynchronized
  subst hsz
  have hD := hD0.self (sz := s.heap.size)
  generalize hAe : va_A [(h0, .inr (8, [.int 0, .ref lH, .ref lB, .ref lJ, .ref aR, .ref aL, .int 0, .int 0, .int 0, .ref lC, .ref aM, .ref aP, .int 0, .int 0, .int 0, .int (-1), .int (-1), .int 0, .int 0, .long sm])), (lJ, .inr (2, [.int 0, .ref eT, .int 0]))] s.heap.size = A at hD hE ⊢
  have hA : ∀ q : Nat, s.heap.size ≤ q → A q := fun q h => by rw [← hAe]; exact Or.inr h
  have hS : va_S A s.heap s.heap [] := va_S.rf
  have hP : va_P D vwCl [(h0, .inr (8, [.int 0, .ref lH, .ref lB, .ref lJ, .ref aR, .ref aL, .int 0, .int 0, .int 0, .ref lC, .ref aM, .ref aP, .int 0, .int 0, .int 0, .int (-1), .int (-1), .int 0, .int 0, .long sm])), (lJ, .inr (2, [.int 0, .ref eT, .int 0]))] s.heap := hP
  have hl := lv_entry ([.ref h0, .int p0]) (n := 7) (Nat.le_of_ble_eq_true rfl)
  rw [lg_entry_eq]
  generalize (lg_sl ([.ref h0, .int p0]) ++ List.replicate (7 - (lg_sl ([.ref h0, .int p0])).length) Slot.unset).toArray = ls at hl ⊢
  have hl : lv_has ls 7 [(0, .ref h0), (1, .int p0)] := hl
  refine lv_aload_n hx hb dX5_longList_0 rfl (lv_at hl 0 rfl) ?_
  refine lv_iconst (v := 0) hx hb dX5_longList_1 (by decide) ?_
  refine va_put (D := D) (ci := 8) (v := .int 0) (C := RX5) (T := TX5) (N := 20) hx hb hts (by decide +kernel) tyX5 tyX5_ok nmX5 hown hK hP hD hS 0 rfl rfl 0 (by decide) (hts (.fieldLink RX5 50 "PrizeHouseModel" "thrown" "I") (by decide +kernel)) (fun _ h9 => h9) rfl (tyX5_ok 0 (by decide)) rfl rfl (Nat.le_of_ble_eq_true rfl) dX5_longList_2 (fun H locs hP hD hS => ?_)
  have hP : va_P D vwCl [(h0, .inr (8, [.int 0, .ref lH, .ref lB, .ref lJ, .ref aR, .ref aL, .int 0, .int 0, .int 0, .ref lC, .ref aM, .ref aP, .int 0, .int 0, .int 0, .int (-1), .int (-1), .int 0, .int 0, .long sm])), (lJ, .inr (2, [.int 0, .ref eT, .int 0]))] H := hP
  have hD : va_D A [(h0, .inr (8, [.int 0, .ref lH, .ref lB, .ref lJ, .ref aR, .ref aL, .int 0, .int 0, .int 0, .ref lC, .ref aM, .ref aP, .int 0, .int 0, .int 0, .int (-1), .int (-1), .int 0, .int 0, .long sm])), (lJ, .inr (2, [.int 0, .ref eT, .int 0]))] := hD
  refine lv_iload_n hx hb dX5_longList_5 rfl (lv_at hl 1 rfl) ?_
  refine lv_iconst (v := 3) hx hb dX5_longList_6 (by decide) ?_
  refine lv_bipush (v := 8) hx hb dX5_longList_7 (by decide) ?_
  have hPc := hP.sub (ws' := []) [] rfl
  have hKc := hK.sub (tys' := []) [] rfl
  refine va_calli (va_runS (As := [.int p0, .int 3, .int 8]) (rest := []) ⟨hx, hb, hml, hown, hts⟩ (k_is_t l D eT p0 3 8 H.size h1 h2) (va_cwS 3 hts gX5_longList_X5_is rfl rfl rfl (by decide +kernel) ⟨Nat.le_of_ble_eq_true rfl, Nat.le_of_ble_eq_true rfl⟩) (pr_s hPc hKc hE hS hA) rfl rfl hl.1 rfl (lv_room (Nat.le_of_ble_eq_true rfl)) dX5_longList_9 ⟨Nat.le_of_ble_eq_true rfl, Nat.le_of_ble_eq_true rfl⟩) hS (fun q h1 h2 => ro_A h1 h2) (fun q h => ro_F hS hA q h) (fun r u t H1 locs ht hvm hw hB hz1 hk1 hS => ?_)
  have hw : r = 1 := hw
  rw [hw]
  have hP := ro_P hP hk1
  generalize H1 = H at hP hS ⊢
  refine lv_if_ne (tgt := 21) hx hb dX5_longList_12 (by decide) (fun _ => ?_) (fun h => absurd h (by decide))
  refine lv_aload_n hx hb dX5_longList_21 rfl (lv_at hl 0 rfl) ?_
  refine va_get (D := D) (ci := 8) (v := .int 0) (C := RX5) (T := TX5) (N := 20) hx hb hts (by decide +kernel) hown hK hP 0 rfl rfl 7 (by decide) (hts (.fieldLink RX5 101 "PrizeHouseModel" "phase" "I") (by decide +kernel)) (fun _ h9 => h9) rfl dX5_longList_22 ?_
  refine lv_iconst (v := 1) hx hb dX5_longList_25 (by decide) ?_
  refine lv_icmp_ne (tgt := 33) hx hb dX5_longList_26 (by decide) (fun _ => ?_) (fun h => absurd h (by decide))
  refine lv_iconst (v := 0) hx hb dX5_longList_33 (by decide) ?_
  refine lv_istore_n (lv' := [(2, .int 0), (0, .ref h0), (1, .int p0)]) hx hb dX5_longList_34 rfl hl (by decide) rfl (fun ls hl => ?_)
  refine lv_iconst (v := 0) hx hb dX5_longList_35 (by decide) ?_
  refine lv_istore_n (lv' := [(3, .int 0), (2, .int 0), (0, .ref h0), (1, .int p0)]) hx hb dX5_longList_36 rfl hl (by decide) rfl (fun ls hl => ?_)
  refine lv_iload_n hx hb dX5_longList_37 rfl (lv_at hl 0 rfl) ?_
  refine lv_aload_n hx hb dX5_longList_38 rfl (lv_at hl 2 rfl) ?_
  refine va_get (D := D) (ci := 8) (v := .ref lJ) (C := RX5) (T := TX5) (N := 20) hx hb hts (by decide +kernel) hown hK hP 0 rfl rfl 3 (by decide) (hts (.fieldLink RX5 19 "PrizeHouseModel" "judges" "Ljava/util/ArrayList;") (by decide +kernel)) (fun _ h9 => h9) rfl dX5_longList_39 ?_
  have hPc := hP.sub (ws' := [(lJ, .inr (2, [.int 0, .ref eT, .int 0]))]) [1] rfl
  have hKc := hK.sub (tys' := []) [] rfl
  refine va_calli (va_runV (As := []) (rest := [.int 0]) ⟨hx, hb, hml, hown, hts⟩ (k_size l D eT lJ eT 0 0 H.size ) (cwV 0 hts gX5_longList_Jx4a65c_size_8abf5 rfl rfl rfl (by decide +kernel) ⟨Nat.le_of_ble_eq_true rfl, Nat.le_of_ble_eq_true rfl⟩) (pr_v (ci := 2) (q0 := 0) rfl rfl hPc hKc hE hS hA) rfl rfl hl.1 rfl (lv_room (Nat.le_of_ble_eq_true rfl)) dX5_longList_42 ⟨Nat.le_of_ble_eq_true rfl, Nat.le_of_ble_eq_true rfl⟩) hS (fun q h1 h2 => ro_A h1 h2) (fun q h => ro_F hS hA q h) (fun r u t H1 locs ht hvm hw hB hz1 hk1 hS => ?_)
  have hw : r = 0 := hw
  rw [hw]
  have hP := ro_P hP hk1
  generalize H1 = H at hP hS ⊢
  refine lv_icmp_ge (tgt := 70) hx hb dX5_longList_45 (by decide) (fun _ => ?_) (fun h => absurd (by decide) h)
  refine lv_iload_n hx hb dX5_longList_70 rfl (lv_at hl 1 rfl) ?_
  refine lv_if_ne (tgt := 80) hx hb dX5_longList_71 (by decide) (fun h => absurd (by decide) h) (fun _ => ?_)
  refine lv_aload_n hx hb dX5_longList_74 rfl (lv_at hl 2 rfl) ?_
  refine lv_iconst (v := 2) hx hb dX5_longList_75 (by decide) ?_
  have hPc := hP.sub (ws' := [(h0, .inr (8, [.int 0, .ref lH, .ref lB, .ref lJ, .ref aR, .ref aL, .int 0, .int 0, .int 0, .ref lC, .ref aM, .ref aP, .int 0, .int 0, .int 0, .int (-1), .int (-1), .int 0, .int 0, .long sm]))]) [0] rfl
  have hKc := hK.sub (tys' := []) [] rfl
  have hDc := hD.sub (ws' := [(h0, .inr (8, [.int 0, .ref lH, .ref lB, .ref lJ, .ref aR, .ref aL, .int 0, .int 0, .int 0, .ref lC, .ref aM, .ref aP, .int 0, .int 0, .int 0, .int (-1), .int (-1), .int 0, .int 0, .long sm]))]) [0] (by decide) rfl
  have hFc := va_free (wc := [(h0, .inr (8, [.int 0, .ref lH, .ref lB, .ref lJ, .ref aR, .ref aL, .int 0, .int 0, .int 0, .ref lC, .ref aM, .ref aP, .int 0, .int 0, .int 0, .int (-1), .int (-1), .int 0, .int 0, .long sm]))]) hD hS hA [0] rfl
  refine va_calli (va_runV (As := [.int 2]) (rest := []) ⟨hx, hb, hml, hown, hts⟩ (r_refuse l D eT h0 lH lB lJ aR aL lC aM aP sm 2 H.size ) (cwV 1 hts gX5_longList_X5_refuse rfl rfl rfl (by decide +kernel) ⟨Nat.le_of_ble_eq_true rfl, Nat.le_of_ble_eq_true rfl⟩) (pc_v (ci := 8) (q0 := 0) rfl rfl hPc hDc hKc hE hS hFc) rfl rfl hl.1 rfl (lv_room (Nat.le_of_ble_eq_true rfl)) dX5_longList_76 ⟨Nat.le_of_ble_eq_true rfl, Nat.le_of_ble_eq_true rfl⟩) hS (fun q _ h => hFc q h) hFc (fun r u t H1 locs ht hvm hw hB hz1 hk1 hS => ?_)
  have hw : r = 0 := hw
  rw [hw]
  obtain ⟨hP1, hK1, hD1⟩ := hB
  rw [ht] at hP1
  have hK1 := va_K.moved hvm.symm hK1
  obtain ⟨hP, hD⟩ := va_join (wr := [(lJ, .inr (2, [.int 0, .ref eT, .int 0]))]) (w1 := [(h0, .inr (8, [.int 2, .ref lH, .ref lB, .ref lJ, .ref aR, .ref aL, .int 0, .int 0, .int 0, .ref lC, .ref aM, .ref aP, .int 0, .int 0, .int 0, .int (-1), .int (-1), .int 0, .int 0, .long sm]))]) hP hD [0] [1] rfl rfl (by decide) (by decide) hk1 hFc hP1 hD1
  generalize H1 = H at hP hS ⊢
  have hP : va_P D vwCl [(lJ, .inr (2, [.int 0, .ref eT, .int 0])), (h0, .inr (8, [.int 2, .ref lH, .ref lB, .ref lJ, .ref aR, .ref aL, .int 0, .int 0, .int 0, .ref lC, .ref aM, .ref aP, .int 0, .int 0, .int 0, .int (-1), .int (-1), .int 0, .int 0, .long sm]))] H := hP
  have hD : va_D A [(lJ, .inr (2, [.int 0, .ref eT, .int 0])), (h0, .inr (8, [.int 2, .ref lH, .ref lB, .ref lJ, .ref aR, .ref aL, .int 0, .int 0, .int 0, .ref lC, .ref aM, .ref aP, .int 0, .int 0, .int 0, .int (-1), .int (-1), .int 0, .int 0, .long sm]))] := hD
  have hP9 := hP.sub (ws' := [(h0, .inr (8, [.int 2, .ref lH, .ref lB, .ref lJ, .ref aR, .ref aL, .int 0, .int 0, .int 0, .ref lC, .ref aM, .ref aP, .int 0, .int 0, .int 0, .int (-1), .int (-1), .int 0, .int 0, .long sm]))]) [1] rfl
  have hD9 := hD.sub (ws' := [(h0, .inr (8, [.int 2, .ref lH, .ref lB, .ref lJ, .ref aR, .ref aL, .int 0, .int 0, .int 0, .ref lC, .ref aM, .ref aP, .int 0, .int 0, .int 0, .int (-1), .int (-1), .int 0, .int 0, .long sm]))]) [1] (by decide) rfl
  have hK9 := hK.sub (tys' := []) [] rfl
  exact W.iret (v := 0) hx hb hr (fun t ht hW => ⟨⟨0, (), rfl, rfl, ⟨by rw [ht]; exact hP9, va_K.moved hW.alike hK9, hD9⟩⟩, hS.F ht⟩) hS.2.2 dX5_longList_79
set_option maxHeartbeats 4000000 in
set_option maxRecDepth 100000 in
theorem r_shortList_f (l : Launch) (D : va_G) (eT : Nat) (h0 : Nat) (lH : Nat) (lB : Nat) (lJ : Nat) (aR : Nat) (aL : Nat) (lC : Nat) (aM : Nat) (aP : Nat) (sm : Int64) (p0 : Int32) (sz : Nat) (hn : ¬ (2 ≤ p0 ∧ p0 ≤ 5)) : Met l yX5_shortList wsX5_shortList ({ frames := 1, cells := 0, slots := 0, locals := 22 }) (va_Pc [.ref h0, .int p0] (pc D eT sz [(h0, .inr (8, [.int 0, .ref lH, .ref lB, .ref lJ, .ref aR, .ref aL, .int 0, .int 0, .int 0, .ref lC, .ref aM, .ref aP, .int 0, .int 0, .int 0, .int (-1), .int (-1), .int 0, .int 0, .long sm]))] [])) (va_Qi (fun (r : Int32) (_ : Unit) => r = 0) (fun _ t => va_P D vwCl [(h0, .inr (8, [.int 1, .ref lH, .ref lB, .ref lJ, .ref aR, .ref aL, .int 0, .int 0, .int 0, .ref lC, .ref aM, .ref aP, .int 0, .int 0, .int 0, .int (-1), .int (-1), .int 0, .int 0, .long sm]))] t.heap ∧ va_K D vwCl [] t ∧ va_D (va_A [(h0, .inr (8, [.int 0, .ref lH, .ref lB, .ref lJ, .ref aR, .ref aL, .int 0, .int 0, .int 0, .ref lC, .ref aM, .ref aP, .int 0, .int 0, .int 0, .int (-1), .int (-1), .int 0, .int 0, .long sm]))] sz) [(h0, .inr (8, [.int 1, .ref lH, .ref lB, .ref lJ, .ref aR, .ref aL, .int 0, .int 0, .int 0, .ref lC, .ref aM, .ref aP, .int 0, .int 0, .int 0, .int (-1), .int (-1), .int 0, .int 0, .long sm]))]) (va_A [(h0, .inr (8, [.int 0, .ref lH, .ref lB, .ref lJ, .ref aR, .ref aL, .int 0, .int 0, .int 0, .ref lC, .ref aM, .ref aP, .int 0, .int 0, .int 0, .int (-1), .int (-1), .int 0, .int 0, .long sm]))] sz)) 0 0 (va_A [(h0, .inr (8, [.int 0, .ref lH, .ref lB, .ref lJ, .ref aR, .ref aL, .int 0, .int 0, .int 0, .ref lC, .ref aM, .ref aP, .int 0, .int 0, .int 0, .int (-1), .int (-1), .int 0, .int 0, .long sm]))] sz) := by
  refine Met.ofW (cc := cX5_shortList) (maxL := 4) (ret := (some .int)) (by decide +kernel) rfl ?_
  intro p e s m args below meth c s₁ B hml hv
  obtain ⟨rfl, hsz, hP, hK, hD0, hE⟩ := hv
  have hx := B.exec
  have hb := B.bytes
  have hr := B.returns
  have hts := atoms_spec (ws := wsX5_shortList) B.pre
  have hown : s.vm.findClass RX5 = some m.cls := findClass_of_methodNamed B.named
  have hlocks := B.notSynchronized
  subst hsz
  have hD := hD0.self (sz := s.heap.size)
  generalize hAe : va_A [(h0, .inr (8, [.int 0, .ref lH, .ref lB, .ref lJ, .ref aR, .ref aL, .int 0, .int 0, .int 0, .ref lC, .ref aM, .ref aP, .int 0, .int 0, .int 0, .int (-1), .int (-1), .int 0, .int 0, .long sm]))] s.heap.size = A at hD hE ⊢
  have hA : ∀ q : Nat, s.heap.size ≤ q → A q := fun q h => by rw [← hAe]; exact Or.inr h
  have hS : va_S A s.heap s.heap [] := va_S.rf
  have hP : va_P D vwCl [(h0, .inr (8, [.int 0, .ref lH, .ref lB, .ref lJ, .ref aR, .ref aL, .int 0, .int 0, .int 0, .ref lC, .ref aM, .ref aP, .int 0, .int 0, .int 0, .int (-1), .int (-1), .int 0, .int 0, .long sm]))] s.heap := hP
  have hl := lv_entry ([.ref h0, .int p0]) (n := 4) (Nat.le_of_ble_eq_true rfl)
  rw [lg_entry_eq]
  generalize (lg_sl ([.ref h0, .int p0]) ++ List.replicate (4 - (lg_sl ([.ref h0, .int p0])).length) Slot.unset).toArray = ls at hl ⊢
  have hl : lv_has ls 4 [(0, .ref h0), (1, .int p0)] := hl
  refine lv_aload_n hx hb dX5_shortList_0 rfl (lv_at hl 0 rfl) ?_
  refine lv_iconst (v := 0) hx hb dX5_shortList_1 (by decide) ?_
  refine va_put (D := D) (ci := 8) (v := .int 0) (C := RX5) (T := TX5) (N := 20) hx hb hts (by decide +kernel) tyX5 tyX5_ok nmX5 hown hK hP hD hS 0 rfl rfl 0 (by decide) (hts (.fieldLink RX5 50 "PrizeHouseModel" "thrown" "I") (by decide +kernel)) (fun _ h9 => h9) rfl (tyX5_ok 0 (by decide)) rfl rfl (Nat.le_of_ble_eq_true rfl) dX5_shortList_2 (fun H locs hP hD hS => ?_)
  have hP : va_P D vwCl [(h0, .inr (8, [.int 0, .ref lH, .ref lB, .ref lJ, .ref aR, .ref aL, .int 0, .int 0, .int 0, .ref lC, .ref aM, .ref aP, .int 0, .int 0, .int 0, .int (-1), .int (-1), .int 0, .int 0, .long sm]))] H := hP
  have hD : va_D A [(h0, .inr (8, [.int 0, .ref lH, .ref lB, .ref lJ, .ref aR, .ref aL, .int 0, .int 0, .int 0, .ref lC, .ref aM, .ref aP, .int 0, .int 0, .int 0, .int (-1), .int (-1), .int 0, .int 0, .long sm]))] := hD
  refine lv_iload_n hx hb dX5_shortList_5 rfl (lv_at hl 1 rfl) ?_
  refine lv_iconst (v := 2) hx hb dX5_shortList_6 (by decide) ?_
  refine lv_iconst (v := 5) hx hb dX5_shortList_7 (by decide) ?_
  have hPc := hP.sub (ws' := []) [] rfl
  have hKc := hK.sub (tys' := []) [] rfl
  refine va_calli (va_runS (As := [.int p0, .int 2, .int 5]) (rest := []) ⟨hx, hb, hml, hown, hts⟩ (k_is_f l D eT p0 2 5 H.size hn) (va_cwS 3 hts gX5_shortList_X5_is rfl rfl rfl (by decide +kernel) ⟨Nat.le_of_ble_eq_true rfl, Nat.le_of_ble_eq_true rfl⟩) (pr_s hPc hKc hE hS hA) rfl rfl hl.1 rfl (lv_room (Nat.le_of_ble_eq_true rfl)) dX5_shortList_8 ⟨Nat.le_of_ble_eq_true rfl, Nat.le_of_ble_eq_true rfl⟩) hS (fun q h1 h2 => ro_A h1 h2) (fun q h => ro_F hS hA q h) (fun r u t H1 locs ht hvm hw hB hz1 hk1 hS => ?_)
  have hw : r = 0 := hw
  rw [hw]
  have hP := ro_P hP hk1
  generalize H1 = H at hP hS ⊢
  refine lv_if_ne (tgt := 20) hx hb dX5_shortList_11 (by decide) (fun h => absurd (by decide) h) (fun _ => ?_)
  refine lv_aload_n hx hb dX5_shortList_14 rfl (lv_at hl 0 rfl) ?_
  refine lv_iconst (v := 1) hx hb dX5_shortList_15 (by decide) ?_
  have hPc := hP.sub (ws' := [(h0, .inr (8, [.int 0, .ref lH, .ref lB, .ref lJ, .ref aR, .ref aL, .int 0, .int 0, .int 0, .ref lC, .ref aM, .ref aP, .int 0, .int 0, .int 0, .int (-1), .int (-1), .int 0, .int 0, .long sm]))]) [0] rfl
  have hKc := hK.sub (tys' := []) [] rfl
  have hDc := hD.sub (ws' := [(h0, .inr (8, [.int 0, .ref lH, .ref lB, .ref lJ, .ref aR, .ref aL, .int 0, .int 0, .int 0, .ref lC, .ref aM, .ref aP, .int 0, .int 0, .int 0, .int (-1), .int (-1), .int 0, .int 0, .long sm]))]) [0] (by decide) rfl
  have hFc := va_free (wc := [(h0, .inr (8, [.int 0, .ref lH, .ref lB, .ref lJ, .ref aR, .ref aL, .int 0, .int 0, .int 0, .ref lC, .ref aM, .ref aP, .int 0, .int 0, .int 0, .int (-1), .int (-1), .int 0, .int 0, .long sm]))]) hD hS hA [0] rfl
  refine va_calli (va_runV (As := [.int 1]) (rest := []) ⟨hx, hb, hml, hown, hts⟩ (r_refuse l D eT h0 lH lB lJ aR aL lC aM aP sm 1 H.size ) (cwV 1 hts gX5_shortList_X5_refuse rfl rfl rfl (by decide +kernel) ⟨Nat.le_of_ble_eq_true rfl, Nat.le_of_ble_eq_true rfl⟩) (pc_v (ci := 8) (q0 := 0) rfl rfl hPc hDc hKc hE hS hFc) rfl rfl hl.1 rfl (lv_room (Nat.le_of_ble_eq_true rfl)) dX5_shortList_16 ⟨Nat.le_of_ble_eq_true rfl, Nat.le_of_ble_eq_true rfl⟩) hS (fun q _ h => hFc q h) hFc (fun r u t H1 locs ht hvm hw hB hz1 hk1 hS => ?_)
  have hw : r = 0 := hw
  rw [hw]
  obtain ⟨hP1, hK1, hD1⟩ := hB
  rw [ht] at hP1
  have hK1 := va_K.moved hvm.symm hK1
  obtain ⟨hP, hD⟩ := va_join (wr := []) (w1 := [(h0, .inr (8, [.int 1, .ref lH, .ref lB, .ref lJ, .ref aR, .ref aL, .int 0, .int 0, .int 0, .ref lC, .ref aM, .ref aP, .int 0, .int 0, .int 0, .int (-1), .int (-1), .int 0, .int 0, .long sm]))]) hP hD [0] [] rfl rfl (by decide) (by decide) hk1 hFc hP1 hD1
  generalize H1 = H at hP hS ⊢
  have hP : va_P D vwCl [(h0, .inr (8, [.int 1, .ref lH, .ref lB, .ref lJ, .ref aR, .ref aL, .int 0, .int 0, .int 0, .ref lC, .ref aM, .ref aP, .int 0, .int 0, .int 0, .int (-1), .int (-1), .int 0, .int 0, .long sm]))] H := hP
  have hD : va_D A [(h0, .inr (8, [.int 1, .ref lH, .ref lB, .ref lJ, .ref aR, .ref aL, .int 0, .int 0, .int 0, .ref lC, .ref aM, .ref aP, .int 0, .int 0, .int 0, .int (-1), .int (-1), .int 0, .int 0, .long sm]))] := hD
  have hP9 := hP.sub (ws' := [(h0, .inr (8, [.int 1, .ref lH, .ref lB, .ref lJ, .ref aR, .ref aL, .int 0, .int 0, .int 0, .ref lC, .ref aM, .ref aP, .int 0, .int 0, .int 0, .int (-1), .int (-1), .int 0, .int 0, .long sm]))]) [0] rfl
  have hD9 := hD.sub (ws' := [(h0, .inr (8, [.int 1, .ref lH, .ref lB, .ref lJ, .ref aR, .ref aL, .int 0, .int 0, .int 0, .ref lC, .ref aM, .ref aP, .int 0, .int 0, .int 0, .int (-1), .int (-1), .int 0, .int 0, .long sm]))]) [0] (by decide) rfl
  have hK9 := hK.sub (tys' := []) [] rfl
  exact W.iret (v := 0) hx hb hr (fun t ht hW => ⟨⟨0, (), rfl, rfl, ⟨by rw [ht]; exact hP9, va_K.moved hW.alike hK9, hD9⟩⟩, hS.F ht⟩) hS.2.2 dX5_shortList_19
set_option maxHeartbeats 4000000 in
set_option maxRecDepth 100000 in
theorem r_shortList_t (l : Launch) (D : va_G) (eT : Nat) (h0 : Nat) (lH : Nat) (lB : Nat) (lJ : Nat) (aR : Nat) (aL : Nat) (lC : Nat) (aM : Nat) (aP : Nat) (sm : Int64) (p0 : Int32) (sz : Nat) (h1 : 2 ≤ p0) (h2 : p0 ≤ 5) : Met l yX5_shortList wsX5_shortList ({ frames := 1, cells := 0, slots := 0, locals := 22 }) (va_Pc [.ref h0, .int p0] (pc D eT sz [(h0, .inr (8, [.int 0, .ref lH, .ref lB, .ref lJ, .ref aR, .ref aL, .int 0, .int 0, .int 0, .ref lC, .ref aM, .ref aP, .int 0, .int 0, .int 0, .int (-1), .int (-1), .int 0, .int 0, .long sm]))] [])) (va_Qi (fun (r : Int32) (_ : Unit) => r = 0) (fun _ t => va_P D vwCl [(h0, .inr (8, [.int 2, .ref lH, .ref lB, .ref lJ, .ref aR, .ref aL, .int 0, .int 0, .int 0, .ref lC, .ref aM, .ref aP, .int 0, .int 0, .int 0, .int (-1), .int (-1), .int 0, .int 0, .long sm]))] t.heap ∧ va_K D vwCl [] t ∧ va_D (va_A [(h0, .inr (8, [.int 0, .ref lH, .ref lB, .ref lJ, .ref aR, .ref aL, .int 0, .int 0, .int 0, .ref lC, .ref aM, .ref aP, .int 0, .int 0, .int 0, .int (-1), .int (-1), .int 0, .int 0, .long sm]))] sz) [(h0, .inr (8, [.int 2, .ref lH, .ref lB, .ref lJ, .ref aR, .ref aL, .int 0, .int 0, .int 0, .ref lC, .ref aM, .ref aP, .int 0, .int 0, .int 0, .int (-1), .int (-1), .int 0, .int 0, .long sm]))]) (va_A [(h0, .inr (8, [.int 0, .ref lH, .ref lB, .ref lJ, .ref aR, .ref aL, .int 0, .int 0, .int 0, .ref lC, .ref aM, .ref aP, .int 0, .int 0, .int 0, .int (-1), .int (-1), .int 0, .int 0, .long sm]))] sz)) 0 0 (va_A [(h0, .inr (8, [.int 0, .ref lH, .ref lB, .ref lJ, .ref aR, .ref aL, .int 0, .int 0, .int 0, .ref lC, .ref aM, .ref aP, .int 0, .int 0, .int 0, .int (-1), .int (-1), .int 0, .int 0, .long sm]))] sz) := by
  refine Met.ofW (cc := cX5_shortList) (maxL := 4) (ret := (some .int)) (by decide +kernel) rfl ?_
  intro p e s m args below meth c s₁ B hml hv
  obtain ⟨rfl, hsz, hP, hK, hD0, hE⟩ := hv
  have hx := B.exec
  have hb := B.bytes
  have hr := B.returns
  have hts := atoms_spec (ws := wsX5_shortList) B.pre
  have hown : s.vm.findClass RX5 = some m.cls := findClass_of_methodNamed B.named
  have hlocks := B.notSynchronized
  subst hsz
  have hD := hD0.self (sz := s.heap.size)
  generalize hAe : va_A [(h0, .inr (8, [.int 0, .ref lH, .ref lB, .ref lJ, .ref aR, .ref aL, .int 0, .int 0, .int 0, .ref lC, .ref aM, .ref aP, .int 0, .int 0, .int 0, .int (-1), .int (-1), .int 0, .int 0, .long sm]))] s.heap.size = A at hD hE ⊢
  have hA : ∀ q : Nat, s.heap.size ≤ q → A q := fun q h => by rw [← hAe]; exact Or.inr h
  have hS : va_S A s.heap s.heap [] := va_S.rf
  have hP : va_P D vwCl [(h0, .inr (8, [.int 0, .ref lH, .ref lB, .ref lJ, .ref aR, .ref aL, .int 0, .int 0, .int 0, .ref lC, .ref aM, .ref aP, .int 0, .int 0, .int 0, .int (-1), .int (-1), .int 0, .int 0, .long sm]))] s.heap := hP
  have hl := lv_entry ([.ref h0, .int p0]) (n := 4) (Nat.le_of_ble_eq_true rfl)
  rw [lg_entry_eq]
  generalize (lg_sl ([.ref h0, .int p0]) ++ List.replicate (4 - (lg_sl ([.ref h0, .int p0])).length) Slot.unset).toArray = ls at hl ⊢
  have hl : lv_has ls 4 [(0, .ref h0), (1, .int p0)] := hl
  refine lv_aload_n hx hb dX5_shortList_0 rfl (lv_at hl 0 rfl) ?_
  refine lv_iconst (v := 0) hx hb dX5_shortList_1 (by decide) ?_
  refine va_put (D := D) (ci := 8) (v := .int 0) (C := RX5) (T := TX5) (N := 20) hx hb hts (by decide +kernel) tyX5 tyX5_ok nmX5 hown hK hP hD hS 0 rfl rfl 0 (by decide) (hts (.fieldLink RX5 50 "PrizeHouseModel" "thrown" "I") (by decide +kernel)) (fun _ h9 => h9) rfl (tyX5_ok 0 (by decide)) rfl rfl (Nat.le_of_ble_eq_true rfl) dX5_shortList_2 (fun H locs hP hD hS => ?_)
  have hP : va_P D vwCl [(h0, .inr (8, [.int 0, .ref lH, .ref lB, .ref lJ, .ref aR, .ref aL, .int 0, .int 0, .int 0, .ref lC, .ref aM, .ref aP, .int 0, .int 0, .int 0, .int (-1), .int (-1), .int 0, .int 0, .long sm]))] H := hP
  have hD : va_D A [(h0, .inr (8, [.int 0, .ref lH, .ref lB, .ref lJ, .ref aR, .ref aL, .int 0, .int 0, .int 0, .ref lC, .ref aM, .ref aP, .int 0, .int 0, .int 0, .int (-1), .int (-1), .int 0, .int 0, .long sm]))] := hD
  refine lv_iload_n hx hb dX5_shortList_5 rfl (lv_at hl 1 rfl) ?_
  refine lv_iconst (v := 2) hx hb dX5_shortList_6 (by decide) ?_
  refine lv_iconst (v := 5) hx hb dX5_shortList_7 (by decide) ?_
  have hPc := hP.sub (ws' := []) [] rfl
  have hKc := hK.sub (tys' := []) [] rfl
  refine va_calli (va_runS (As := [.int p0, .int 2, .int 5]) (rest := []) ⟨hx, hb, hml, hown, hts⟩ (k_is_t l D eT p0 2 5 H.size h1 h2) (va_cwS 3 hts gX5_shortList_X5_is rfl rfl rfl (by decide +kernel) ⟨Nat.le_of_ble_eq_true rfl, Nat.le_of_ble_eq_true rfl⟩) (pr_s hPc hKc hE hS hA) rfl rfl hl.1 rfl (lv_room (Nat.le_of_ble_eq_true rfl)) dX5_shortList_8 ⟨Nat.le_of_ble_eq_true rfl, Nat.le_of_ble_eq_true rfl⟩) hS (fun q h1 h2 => ro_A h1 h2) (fun q h => ro_F hS hA q h) (fun r u t H1 locs ht hvm hw hB hz1 hk1 hS => ?_)
  have hw : r = 1 := hw
  rw [hw]
  have hP := ro_P hP hk1
  generalize H1 = H at hP hS ⊢
  refine lv_if_ne (tgt := 20) hx hb dX5_shortList_11 (by decide) (fun _ => ?_) (fun h => absurd h (by decide))
  refine lv_aload_n hx hb dX5_shortList_20 rfl (lv_at hl 0 rfl) ?_
  refine va_get (D := D) (ci := 8) (v := .int 0) (C := RX5) (T := TX5) (N := 20) hx hb hts (by decide +kernel) hown hK hP 0 rfl rfl 7 (by decide) (hts (.fieldLink RX5 101 "PrizeHouseModel" "phase" "I") (by decide +kernel)) (fun _ h9 => h9) rfl dX5_shortList_21 ?_
  refine lv_iconst (v := 2) hx hb dX5_shortList_24 (by decide) ?_
  refine lv_icmp_eq (tgt := 34) hx hb dX5_shortList_25 (by decide) (fun h => absurd h (by decide)) (fun _ => ?_)
  refine lv_aload_n hx hb dX5_shortList_28 rfl (lv_at hl 0 rfl) ?_
  refine lv_iconst (v := 2) hx hb dX5_shortList_29 (by decide) ?_
  have hPc := hP.sub (ws' := [(h0, .inr (8, [.int 0, .ref lH, .ref lB, .ref lJ, .ref aR, .ref aL, .int 0, .int 0, .int 0, .ref lC, .ref aM, .ref aP, .int 0, .int 0, .int 0, .int (-1), .int (-1), .int 0, .int 0, .long sm]))]) [0] rfl
  have hKc := hK.sub (tys' := []) [] rfl
  have hDc := hD.sub (ws' := [(h0, .inr (8, [.int 0, .ref lH, .ref lB, .ref lJ, .ref aR, .ref aL, .int 0, .int 0, .int 0, .ref lC, .ref aM, .ref aP, .int 0, .int 0, .int 0, .int (-1), .int (-1), .int 0, .int 0, .long sm]))]) [0] (by decide) rfl
  have hFc := va_free (wc := [(h0, .inr (8, [.int 0, .ref lH, .ref lB, .ref lJ, .ref aR, .ref aL, .int 0, .int 0, .int 0, .ref lC, .ref aM, .ref aP, .int 0, .int 0, .int 0, .int (-1), .int (-1), .int 0, .int 0, .long sm]))]) hD hS hA [0] rfl
  refine va_calli (va_runV (As := [.int 2]) (rest := []) ⟨hx, hb, hml, hown, hts⟩ (r_refuse l D eT h0 lH lB lJ aR aL lC aM aP sm 2 H.size ) (cwV 1 hts gX5_shortList_X5_refuse rfl rfl rfl (by decide +kernel) ⟨Nat.le_of_ble_eq_true rfl, Nat.le_of_ble_eq_true rfl⟩) (pc_v (ci := 8) (q0 := 0) rfl rfl hPc hDc hKc hE hS hFc) rfl rfl hl.1 rfl (lv_room (Nat.le_of_ble_eq_true rfl)) dX5_shortList_30 ⟨Nat.le_of_ble_eq_true rfl, Nat.le_of_ble_eq_true rfl⟩) hS (fun q _ h => hFc q h) hFc (fun r u t H1 locs ht hvm hw hB hz1 hk1 hS => ?_)
  have hw : r = 0 := hw
  rw [hw]
  obtain ⟨hP1, hK1, hD1⟩ := hB
  rw [ht] at hP1
  have hK1 := va_K.moved hvm.symm hK1
  obtain ⟨hP, hD⟩ := va_join (wr := []) (w1 := [(h0, .inr (8, [.int 2, .ref lH, .ref lB, .ref lJ, .ref aR, .ref aL, .int 0, .int 0, .int 0, .ref lC, .ref aM, .ref aP, .int 0, .int 0, .int 0, .int (-1), .int (-1), .int 0, .int 0, .long sm]))]) hP hD [0] [] rfl rfl (by decide) (by decide) hk1 hFc hP1 hD1
  generalize H1 = H at hP hS ⊢
  have hP : va_P D vwCl [(h0, .inr (8, [.int 2, .ref lH, .ref lB, .ref lJ, .ref aR, .ref aL, .int 0, .int 0, .int 0, .ref lC, .ref aM, .ref aP, .int 0, .int 0, .int 0, .int (-1), .int (-1), .int 0, .int 0, .long sm]))] H := hP
  have hD : va_D A [(h0, .inr (8, [.int 2, .ref lH, .ref lB, .ref lJ, .ref aR, .ref aL, .int 0, .int 0, .int 0, .ref lC, .ref aM, .ref aP, .int 0, .int 0, .int 0, .int (-1), .int (-1), .int 0, .int 0, .long sm]))] := hD
  have hP9 := hP.sub (ws' := [(h0, .inr (8, [.int 2, .ref lH, .ref lB, .ref lJ, .ref aR, .ref aL, .int 0, .int 0, .int 0, .ref lC, .ref aM, .ref aP, .int 0, .int 0, .int 0, .int (-1), .int (-1), .int 0, .int 0, .long sm]))]) [0] rfl
  have hD9 := hD.sub (ws' := [(h0, .inr (8, [.int 2, .ref lH, .ref lB, .ref lJ, .ref aR, .ref aL, .int 0, .int 0, .int 0, .ref lC, .ref aM, .ref aP, .int 0, .int 0, .int 0, .int (-1), .int (-1), .int 0, .int 0, .long sm]))]) [0] (by decide) rfl
  have hK9 := hK.sub (tys' := []) [] rfl
  exact W.iret (v := 0) hx hb hr (fun t ht hW => ⟨⟨0, (), rfl, rfl, ⟨by rw [ht]; exact hP9, va_K.moved hW.alike hK9, hD9⟩⟩, hS.F ht⟩) hS.2.2 dX5_shortList_33
set_option maxHeartbeats 4000000 in
set_option maxRecDepth 100000 in
theorem r_pass_f (l : Launch) (D : va_G) (eT : Nat) (h0 : Nat) (lH : Nat) (lB : Nat) (lJ : Nat) (aR : Nat) (aL : Nat) (lC : Nat) (aM : Nat) (aP : Nat) (sm : Int64) (p0 : Int32) (sz : Nat) (hn : ¬ (1 ≤ p0 ∧ p0 ≤ 60)) : Met l yX5_pass wsX5_pass ({ frames := 1, cells := 0, slots := 0, locals := 22 }) (va_Pc [.ref h0, .int p0] (pc D eT sz [(h0, .inr (8, [.int 0, .ref lH, .ref lB, .ref lJ, .ref aR, .ref aL, .int 0, .int 0, .int 0, .ref lC, .ref aM, .ref aP, .int 0, .int 0, .int 0, .int (-1), .int (-1), .int 0, .int 0, .long sm]))] [])) (va_Qi (fun (r : Int32) (_ : Unit) => r = 0) (fun _ t => va_P D vwCl [(h0, .inr (8, [.int 1, .ref lH, .ref lB, .ref lJ, .ref aR, .ref aL, .int 0, .int 0, .int 0, .ref lC, .ref aM, .ref aP, .int 0, .int 0, .int 0, .int (-1), .int (-1), .int 0, .int 0, .long sm]))] t.heap ∧ va_K D vwCl [] t ∧ va_D (va_A [(h0, .inr (8, [.int 0, .ref lH, .ref lB, .ref lJ, .ref aR, .ref aL, .int 0, .int 0, .int 0, .ref lC, .ref aM, .ref aP, .int 0, .int 0, .int 0, .int (-1), .int (-1), .int 0, .int 0, .long sm]))] sz) [(h0, .inr (8, [.int 1, .ref lH, .ref lB, .ref lJ, .ref aR, .ref aL, .int 0, .int 0, .int 0, .ref lC, .ref aM, .ref aP, .int 0, .int 0, .int 0, .int (-1), .int (-1), .int 0, .int 0, .long sm]))]) (va_A [(h0, .inr (8, [.int 0, .ref lH, .ref lB, .ref lJ, .ref aR, .ref aL, .int 0, .int 0, .int 0, .ref lC, .ref aM, .ref aP, .int 0, .int 0, .int 0, .int (-1), .int (-1), .int 0, .int 0, .long sm]))] sz)) 0 0 (va_A [(h0, .inr (8, [.int 0, .ref lH, .ref lB, .ref lJ, .ref aR, .ref aL, .int 0, .int 0, .int 0, .ref lC, .ref aM, .ref aP, .int 0, .int 0, .int 0, .int (-1), .int (-1), .int 0, .int 0, .long sm]))] sz) := by
  refine Met.ofW (cc := cX5_pass) (maxL := 5) (ret := (some .int)) (by decide +kernel) rfl ?_
  intro p e s m args below meth c s₁ B hml hv
  obtain ⟨rfl, hsz, hP, hK, hD0, hE⟩ := hv
  have hx := B.exec
  have hb := B.bytes
  have hr := B.returns
  have hts := atoms_spec (ws := wsX5_pass) B.pre
  have hown : s.vm.findClass RX5 = some m.cls := findClass_of_methodNamed B.named
  have hlocks := B.notSynchronized
  subst hsz
  have hD := hD0.self (sz := s.heap.size)
  generalize hAe : va_A [(h0, .inr (8, [.int 0, .ref lH, .ref lB, .ref lJ, .ref aR, .ref aL, .int 0, .int 0, .int 0, .ref lC, .ref aM, .ref aP, .int 0, .int 0, .int 0, .int (-1), .int (-1), .int 0, .int 0, .long sm]))] s.heap.size = A at hD hE ⊢
  have hA : ∀ q : Nat, s.heap.size ≤ q → A q := fun q h => by rw [← hAe]; exact Or.inr h
  have hS : va_S A s.heap s.heap [] := va_S.rf
  have hP : va_P D vwCl [(h0, .inr (8, [.int 0, .ref lH, .ref lB, .ref lJ, .ref aR, .ref aL, .int 0, .int 0, .int 0, .ref lC, .ref aM, .ref aP, .int 0, .int 0, .int 0, .int (-1), .int (-1), .int 0, .int 0, .long sm]))] s.heap := hP
  have hl := lv_entry ([.ref h0, .int p0]) (n := 5) (Nat.le_of_ble_eq_true rfl)
  rw [lg_entry_eq]
  generalize (lg_sl ([.ref h0, .int p0]) ++ List.replicate (5 - (lg_sl ([.ref h0, .int p0])).length) Slot.unset).toArray = ls at hl ⊢
  have hl : lv_has ls 5 [(0, .ref h0), (1, .int p0)] := hl
  refine lv_aload_n hx hb dX5_pass_0 rfl (lv_at hl 0 rfl) ?_
  refine lv_iconst (v := 0) hx hb dX5_pass_1 (by decide) ?_
  refine va_put (D := D) (ci := 8) (v := .int 0) (C := RX5) (T := TX5) (N := 20) hx hb hts (by decide +kernel) tyX5 tyX5_ok nmX5 hown hK hP hD hS 0 rfl rfl 0 (by decide) (hts (.fieldLink RX5 50 "PrizeHouseModel" "thrown" "I") (by decide +kernel)) (fun _ h9 => h9) rfl (tyX5_ok 0 (by decide)) rfl rfl (Nat.le_of_ble_eq_true rfl) dX5_pass_2 (fun H locs hP hD hS => ?_)
  have hP : va_P D vwCl [(h0, .inr (8, [.int 0, .ref lH, .ref lB, .ref lJ, .ref aR, .ref aL, .int 0, .int 0, .int 0, .ref lC, .ref aM, .ref aP, .int 0, .int 0, .int 0, .int (-1), .int (-1), .int 0, .int 0, .long sm]))] H := hP
  have hD : va_D A [(h0, .inr (8, [.int 0, .ref lH, .ref lB, .ref lJ, .ref aR, .ref aL, .int 0, .int 0, .int 0, .ref lC, .ref aM, .ref aP, .int 0, .int 0, .int 0, .int (-1), .int (-1), .int 0, .int 0, .long sm]))] := hD
  refine lv_iload_n hx hb dX5_pass_5 rfl (lv_at hl 1 rfl) ?_
  refine lv_iconst (v := 1) hx hb dX5_pass_6 (by decide) ?_
  refine lv_bipush (v := 60) hx hb dX5_pass_7 (by decide) ?_
  have hPc := hP.sub (ws' := []) [] rfl
  have hKc := hK.sub (tys' := []) [] rfl
  refine va_calli (va_runS (As := [.int p0, .int 1, .int 60]) (rest := []) ⟨hx, hb, hml, hown, hts⟩ (k_is_f l D eT p0 1 60 H.size hn) (va_cwS 3 hts gX5_pass_X5_is rfl rfl rfl (by decide +kernel) ⟨Nat.le_of_ble_eq_true rfl, Nat.le_of_ble_eq_true rfl⟩) (pr_s hPc hKc hE hS hA) rfl rfl hl.1 rfl (lv_room (Nat.le_of_ble_eq_true rfl)) dX5_pass_9 ⟨Nat.le_of_ble_eq_true rfl, Nat.le_of_ble_eq_true rfl⟩) hS (fun q h1 h2 => ro_A h1 h2) (fun q h => ro_F hS hA q h) (fun r u t H1 locs ht hvm hw hB hz1 hk1 hS => ?_)
  have hw : r = 0 := hw
  rw [hw]
  have hP := ro_P hP hk1
  generalize H1 = H at hP hS ⊢
  refine lv_if_ne (tgt := 21) hx hb dX5_pass_12 (by decide) (fun h => absurd (by decide) h) (fun _ => ?_)
  refine lv_aload_n hx hb dX5_pass_15 rfl (lv_at hl 0 rfl) ?_
  refine lv_iconst (v := 1) hx hb dX5_pass_16 (by decide) ?_
  have hPc := hP.sub (ws' := [(h0, .inr (8, [.int 0, .ref lH, .ref lB, .ref lJ, .ref aR, .ref aL, .int 0, .int 0, .int 0, .ref lC, .ref aM, .ref aP, .int 0, .int 0, .int 0, .int (-1), .int (-1), .int 0, .int 0, .long sm]))]) [0] rfl
  have hKc := hK.sub (tys' := []) [] rfl
  have hDc := hD.sub (ws' := [(h0, .inr (8, [.int 0, .ref lH, .ref lB, .ref lJ, .ref aR, .ref aL, .int 0, .int 0, .int 0, .ref lC, .ref aM, .ref aP, .int 0, .int 0, .int 0, .int (-1), .int (-1), .int 0, .int 0, .long sm]))]) [0] (by decide) rfl
  have hFc := va_free (wc := [(h0, .inr (8, [.int 0, .ref lH, .ref lB, .ref lJ, .ref aR, .ref aL, .int 0, .int 0, .int 0, .ref lC, .ref aM, .ref aP, .int 0, .int 0, .int 0, .int (-1), .int (-1), .int 0, .int 0, .long sm]))]) hD hS hA [0] rfl
  refine va_calli (va_runV (As := [.int 1]) (rest := []) ⟨hx, hb, hml, hown, hts⟩ (r_refuse l D eT h0 lH lB lJ aR aL lC aM aP sm 1 H.size ) (cwV 1 hts gX5_pass_X5_refuse rfl rfl rfl (by decide +kernel) ⟨Nat.le_of_ble_eq_true rfl, Nat.le_of_ble_eq_true rfl⟩) (pc_v (ci := 8) (q0 := 0) rfl rfl hPc hDc hKc hE hS hFc) rfl rfl hl.1 rfl (lv_room (Nat.le_of_ble_eq_true rfl)) dX5_pass_17 ⟨Nat.le_of_ble_eq_true rfl, Nat.le_of_ble_eq_true rfl⟩) hS (fun q _ h => hFc q h) hFc (fun r u t H1 locs ht hvm hw hB hz1 hk1 hS => ?_)
  have hw : r = 0 := hw
  rw [hw]
  obtain ⟨hP1, hK1, hD1⟩ := hB
  rw [ht] at hP1
  have hK1 := va_K.moved hvm.symm hK1
  obtain ⟨hP, hD⟩ := va_join (wr := []) (w1 := [(h0, .inr (8, [.int 1, .ref lH, .ref lB, .ref lJ, .ref aR, .ref aL, .int 0, .int 0, .int 0, .ref lC, .ref aM, .ref aP, .int 0, .int 0, .int 0, .int (-1), .int (-1), .int 0, .int 0, .long sm]))]) hP hD [0] [] rfl rfl (by decide) (by decide) hk1 hFc hP1 hD1
  generalize H1 = H at hP hS ⊢
  have hP : va_P D vwCl [(h0, .inr (8, [.int 1, .ref lH, .ref lB, .ref lJ, .ref aR, .ref aL, .int 0, .int 0, .int 0, .ref lC, .ref aM, .ref aP, .int 0, .int 0, .int 0, .int (-1), .int (-1), .int 0, .int 0, .long sm]))] H := hP
  have hD : va_D A [(h0, .inr (8, [.int 1, .ref lH, .ref lB, .ref lJ, .ref aR, .ref aL, .int 0, .int 0, .int 0, .ref lC, .ref aM, .ref aP, .int 0, .int 0, .int 0, .int (-1), .int (-1), .int 0, .int 0, .long sm]))] := hD
  have hP9 := hP.sub (ws' := [(h0, .inr (8, [.int 1, .ref lH, .ref lB, .ref lJ, .ref aR, .ref aL, .int 0, .int 0, .int 0, .ref lC, .ref aM, .ref aP, .int 0, .int 0, .int 0, .int (-1), .int (-1), .int 0, .int 0, .long sm]))]) [0] rfl
  have hD9 := hD.sub (ws' := [(h0, .inr (8, [.int 1, .ref lH, .ref lB, .ref lJ, .ref aR, .ref aL, .int 0, .int 0, .int 0, .ref lC, .ref aM, .ref aP, .int 0, .int 0, .int 0, .int (-1), .int (-1), .int 0, .int 0, .long sm]))]) [0] (by decide) rfl
  have hK9 := hK.sub (tys' := []) [] rfl
  exact W.iret (v := 0) hx hb hr (fun t ht hW => ⟨⟨0, (), rfl, rfl, ⟨by rw [ht]; exact hP9, va_K.moved hW.alike hK9, hD9⟩⟩, hS.F ht⟩) hS.2.2 dX5_pass_20
set_option maxHeartbeats 4000000 in
set_option maxRecDepth 100000 in
theorem r_wins_f (l : Launch) (D : va_G) (eT : Nat) (h0 : Nat) (lH : Nat) (lB : Nat) (lJ : Nat) (aR : Nat) (aL : Nat) (lC : Nat) (aM : Nat) (aP : Nat) (sm : Int64) (p0 : Int32) (sz : Nat) (hn : ¬ (0 ≤ p0 ∧ p0 ≤ 31)) : Met l yX5_wins wsX5_wins ({ frames := 1, cells := 0, slots := 0, locals := 22 }) (va_Pc [.ref h0, .int p0] (pc D eT sz [(h0, .inr (8, [.int 0, .ref lH, .ref lB, .ref lJ, .ref aR, .ref aL, .int 0, .int 0, .int 0, .ref lC, .ref aM, .ref aP, .int 0, .int 0, .int 0, .int (-1), .int (-1), .int 0, .int 0, .long sm]))] [])) (va_Qi (fun (r : Int32) (_ : Unit) => r = 0) (fun _ t => va_P D vwCl [(h0, .inr (8, [.int 1, .ref lH, .ref lB, .ref lJ, .ref aR, .ref aL, .int 0, .int 0, .int 0, .ref lC, .ref aM, .ref aP, .int 0, .int 0, .int 0, .int (-1), .int (-1), .int 0, .int 0, .long sm]))] t.heap ∧ va_K D vwCl [] t ∧ va_D (va_A [(h0, .inr (8, [.int 0, .ref lH, .ref lB, .ref lJ, .ref aR, .ref aL, .int 0, .int 0, .int 0, .ref lC, .ref aM, .ref aP, .int 0, .int 0, .int 0, .int (-1), .int (-1), .int 0, .int 0, .long sm]))] sz) [(h0, .inr (8, [.int 1, .ref lH, .ref lB, .ref lJ, .ref aR, .ref aL, .int 0, .int 0, .int 0, .ref lC, .ref aM, .ref aP, .int 0, .int 0, .int 0, .int (-1), .int (-1), .int 0, .int 0, .long sm]))]) (va_A [(h0, .inr (8, [.int 0, .ref lH, .ref lB, .ref lJ, .ref aR, .ref aL, .int 0, .int 0, .int 0, .ref lC, .ref aM, .ref aP, .int 0, .int 0, .int 0, .int (-1), .int (-1), .int 0, .int 0, .long sm]))] sz)) 0 0 (va_A [(h0, .inr (8, [.int 0, .ref lH, .ref lB, .ref lJ, .ref aR, .ref aL, .int 0, .int 0, .int 0, .ref lC, .ref aM, .ref aP, .int 0, .int 0, .int 0, .int (-1), .int (-1), .int 0, .int 0, .long sm]))] sz) := by
  refine Met.ofW (cc := cX5_wins) (maxL := 2) (ret := (some .int)) (by decide +kernel) rfl ?_
  intro p e s m args below meth c s₁ B hml hv
  obtain ⟨rfl, hsz, hP, hK, hD0, hE⟩ := hv
  have hx := B.exec
  have hb := B.bytes
  have hr := B.returns
  have hts := atoms_spec (ws := wsX5_wins) B.pre
  have hown : s.vm.findClass RX5 = some m.cls := findClass_of_methodNamed B.named
  have hlocks := B.notSynchronized
  subst hsz
  have hD := hD0.self (sz := s.heap.size)
  generalize hAe : va_A [(h0, .inr (8, [.int 0, .ref lH, .ref lB, .ref lJ, .ref aR, .ref aL, .int 0, .int 0, .int 0, .ref lC, .ref aM, .ref aP, .int 0, .int 0, .int 0, .int (-1), .int (-1), .int 0, .int 0, .long sm]))] s.heap.size = A at hD hE ⊢
  have hA : ∀ q : Nat, s.heap.size ≤ q → A q := fun q h => by rw [← hAe]; exact Or.inr h
  have hS : va_S A s.heap s.heap [] := va_S.rf
  have hP : va_P D vwCl [(h0, .inr (8, [.int 0, .ref lH, .ref lB, .ref lJ, .ref aR, .ref aL, .int 0, .int 0, .int 0, .ref lC, .ref aM, .ref aP, .int 0, .int 0, .int 0, .int (-1), .int (-1), .int 0, .int 0, .long sm]))] s.heap := hP
  have hl := lv_entry ([.ref h0, .int p0]) (n := 2) (Nat.le_of_ble_eq_true rfl)
  rw [lg_entry_eq]
  generalize (lg_sl ([.ref h0, .int p0]) ++ List.replicate (2 - (lg_sl ([.ref h0, .int p0])).length) Slot.unset).toArray = ls at hl ⊢
  have hl : lv_has ls 2 [(0, .ref h0), (1, .int p0)] := hl
  refine lv_aload_n hx hb dX5_wins_0 rfl (lv_at hl 0 rfl) ?_
  refine lv_iconst (v := 0) hx hb dX5_wins_1 (by decide) ?_
  refine va_put (D := D) (ci := 8) (v := .int 0) (C := RX5) (T := TX5) (N := 20) hx hb hts (by decide +kernel) tyX5 tyX5_ok nmX5 hown hK hP hD hS 0 rfl rfl 0 (by decide) (hts (.fieldLink RX5 50 "PrizeHouseModel" "thrown" "I") (by decide +kernel)) (fun _ h9 => h9) rfl (tyX5_ok 0 (by decide)) rfl rfl (Nat.le_of_ble_eq_true rfl) dX5_wins_2 (fun H locs hP hD hS => ?_)
  have hP : va_P D vwCl [(h0, .inr (8, [.int 0, .ref lH, .ref lB, .ref lJ, .ref aR, .ref aL, .int 0, .int 0, .int 0, .ref lC, .ref aM, .ref aP, .int 0, .int 0, .int 0, .int (-1), .int (-1), .int 0, .int 0, .long sm]))] H := hP
  have hD : va_D A [(h0, .inr (8, [.int 0, .ref lH, .ref lB, .ref lJ, .ref aR, .ref aL, .int 0, .int 0, .int 0, .ref lC, .ref aM, .ref aP, .int 0, .int 0, .int 0, .int (-1), .int (-1), .int 0, .int 0, .long sm]))] := hD
  refine lv_iload_n hx hb dX5_wins_5 rfl (lv_at hl 1 rfl) ?_
  refine lv_iconst (v := 0) hx hb dX5_wins_6 (by decide) ?_
  refine lv_bipush (v := 31) hx hb dX5_wins_7 (by decide) ?_
  have hPc := hP.sub (ws' := []) [] rfl
  have hKc := hK.sub (tys' := []) [] rfl
  refine va_calli (va_runS (As := [.int p0, .int 0, .int 31]) (rest := []) ⟨hx, hb, hml, hown, hts⟩ (k_is_f l D eT p0 0 31 H.size hn) (va_cwS 3 hts gX5_wins_X5_is rfl rfl rfl (by decide +kernel) ⟨Nat.le_of_ble_eq_true rfl, Nat.le_of_ble_eq_true rfl⟩) (pr_s hPc hKc hE hS hA) rfl rfl hl.1 rfl (lv_room (Nat.le_of_ble_eq_true rfl)) dX5_wins_9 ⟨Nat.le_of_ble_eq_true rfl, Nat.le_of_ble_eq_true rfl⟩) hS (fun q h1 h2 => ro_A h1 h2) (fun q h => ro_F hS hA q h) (fun r u t H1 locs ht hvm hw hB hz1 hk1 hS => ?_)
  have hw : r = 0 := hw
  rw [hw]
  have hP := ro_P hP hk1
  generalize H1 = H at hP hS ⊢
  refine lv_if_eq (tgt := 24) hx hb dX5_wins_12 (by decide) (fun _ => ?_) (fun h => absurd (by decide) h)
  refine lv_aload_n hx hb dX5_wins_24 rfl (lv_at hl 0 rfl) ?_
  refine lv_iconst (v := 1) hx hb dX5_wins_25 (by decide) ?_
  have hPc := hP.sub (ws' := [(h0, .inr (8, [.int 0, .ref lH, .ref lB, .ref lJ, .ref aR, .ref aL, .int 0, .int 0, .int 0, .ref lC, .ref aM, .ref aP, .int 0, .int 0, .int 0, .int (-1), .int (-1), .int 0, .int 0, .long sm]))]) [0] rfl
  have hKc := hK.sub (tys' := []) [] rfl
  have hDc := hD.sub (ws' := [(h0, .inr (8, [.int 0, .ref lH, .ref lB, .ref lJ, .ref aR, .ref aL, .int 0, .int 0, .int 0, .ref lC, .ref aM, .ref aP, .int 0, .int 0, .int 0, .int (-1), .int (-1), .int 0, .int 0, .long sm]))]) [0] (by decide) rfl
  have hFc := va_free (wc := [(h0, .inr (8, [.int 0, .ref lH, .ref lB, .ref lJ, .ref aR, .ref aL, .int 0, .int 0, .int 0, .ref lC, .ref aM, .ref aP, .int 0, .int 0, .int 0, .int (-1), .int (-1), .int 0, .int 0, .long sm]))]) hD hS hA [0] rfl
  refine va_calli (va_runV (As := [.int 1]) (rest := []) ⟨hx, hb, hml, hown, hts⟩ (r_refuse l D eT h0 lH lB lJ aR aL lC aM aP sm 1 H.size ) (cwV 1 hts gX5_wins_X5_refuse rfl rfl rfl (by decide +kernel) ⟨Nat.le_of_ble_eq_true rfl, Nat.le_of_ble_eq_true rfl⟩) (pc_v (ci := 8) (q0 := 0) rfl rfl hPc hDc hKc hE hS hFc) rfl rfl hl.1 rfl (lv_room (Nat.le_of_ble_eq_true rfl)) dX5_wins_26 ⟨Nat.le_of_ble_eq_true rfl, Nat.le_of_ble_eq_true rfl⟩) hS (fun q _ h => hFc q h) hFc (fun r u t H1 locs ht hvm hw hB hz1 hk1 hS => ?_)
  have hw : r = 0 := hw
  rw [hw]
  obtain ⟨hP1, hK1, hD1⟩ := hB
  rw [ht] at hP1
  have hK1 := va_K.moved hvm.symm hK1
  obtain ⟨hP, hD⟩ := va_join (wr := []) (w1 := [(h0, .inr (8, [.int 1, .ref lH, .ref lB, .ref lJ, .ref aR, .ref aL, .int 0, .int 0, .int 0, .ref lC, .ref aM, .ref aP, .int 0, .int 0, .int 0, .int (-1), .int (-1), .int 0, .int 0, .long sm]))]) hP hD [0] [] rfl rfl (by decide) (by decide) hk1 hFc hP1 hD1
  generalize H1 = H at hP hS ⊢
  have hP : va_P D vwCl [(h0, .inr (8, [.int 1, .ref lH, .ref lB, .ref lJ, .ref aR, .ref aL, .int 0, .int 0, .int 0, .ref lC, .ref aM, .ref aP, .int 0, .int 0, .int 0, .int (-1), .int (-1), .int 0, .int 0, .long sm]))] H := hP
  have hD : va_D A [(h0, .inr (8, [.int 1, .ref lH, .ref lB, .ref lJ, .ref aR, .ref aL, .int 0, .int 0, .int 0, .ref lC, .ref aM, .ref aP, .int 0, .int 0, .int 0, .int (-1), .int (-1), .int 0, .int 0, .long sm]))] := hD
  have hP9 := hP.sub (ws' := [(h0, .inr (8, [.int 1, .ref lH, .ref lB, .ref lJ, .ref aR, .ref aL, .int 0, .int 0, .int 0, .ref lC, .ref aM, .ref aP, .int 0, .int 0, .int 0, .int (-1), .int (-1), .int 0, .int 0, .long sm]))]) [0] rfl
  have hD9 := hD.sub (ws' := [(h0, .inr (8, [.int 1, .ref lH, .ref lB, .ref lJ, .ref aR, .ref aL, .int 0, .int 0, .int 0, .ref lC, .ref aM, .ref aP, .int 0, .int 0, .int 0, .int (-1), .int (-1), .int 0, .int 0, .long sm]))]) [0] (by decide) rfl
  have hK9 := hK.sub (tys' := []) [] rfl
  exact W.iret (v := 0) hx hb hr (fun t ht hW => ⟨⟨0, (), rfl, rfl, ⟨by rw [ht]; exact hP9, va_K.moved hW.alike hK9, hD9⟩⟩, hS.F ht⟩) hS.2.2 dX5_wins_29
set_option maxHeartbeats 4000000 in
set_option maxRecDepth 100000 in
theorem r_wouldMiss_f (l : Launch) (D : va_G) (eT : Nat) (h0 : Nat) (lH : Nat) (lB : Nat) (lJ : Nat) (aR : Nat) (aL : Nat) (lC : Nat) (aM : Nat) (aP : Nat) (sm : Int64) (p0 : Int32) (sz : Nat) (hn : ¬ (1 ≤ p0 ∧ p0 ≤ 60)) : Met l yX5_wouldMiss wsX5_wouldMiss ({ frames := 1, cells := 0, slots := 0, locals := 22 }) (va_Pc [.ref h0, .int p0] (pc D eT sz [(h0, .inr (8, [.int 0, .ref lH, .ref lB, .ref lJ, .ref aR, .ref aL, .int 0, .int 0, .int 0, .ref lC, .ref aM, .ref aP, .int 0, .int 0, .int 0, .int (-1), .int (-1), .int 0, .int 0, .long sm]))] [])) (va_Qi (fun (r : Int32) (_ : Unit) => r = 0) (fun _ t => va_P D vwCl [(h0, .inr (8, [.int 1, .ref lH, .ref lB, .ref lJ, .ref aR, .ref aL, .int 0, .int 0, .int 0, .ref lC, .ref aM, .ref aP, .int 0, .int 0, .int 0, .int (-1), .int (-1), .int 0, .int 0, .long sm]))] t.heap ∧ va_K D vwCl [] t ∧ va_D (va_A [(h0, .inr (8, [.int 0, .ref lH, .ref lB, .ref lJ, .ref aR, .ref aL, .int 0, .int 0, .int 0, .ref lC, .ref aM, .ref aP, .int 0, .int 0, .int 0, .int (-1), .int (-1), .int 0, .int 0, .long sm]))] sz) [(h0, .inr (8, [.int 1, .ref lH, .ref lB, .ref lJ, .ref aR, .ref aL, .int 0, .int 0, .int 0, .ref lC, .ref aM, .ref aP, .int 0, .int 0, .int 0, .int (-1), .int (-1), .int 0, .int 0, .long sm]))]) (va_A [(h0, .inr (8, [.int 0, .ref lH, .ref lB, .ref lJ, .ref aR, .ref aL, .int 0, .int 0, .int 0, .ref lC, .ref aM, .ref aP, .int 0, .int 0, .int 0, .int (-1), .int (-1), .int 0, .int 0, .long sm]))] sz)) 0 0 (va_A [(h0, .inr (8, [.int 0, .ref lH, .ref lB, .ref lJ, .ref aR, .ref aL, .int 0, .int 0, .int 0, .ref lC, .ref aM, .ref aP, .int 0, .int 0, .int 0, .int (-1), .int (-1), .int 0, .int 0, .long sm]))] sz) := by
  refine Met.ofW (cc := cX5_wouldMiss) (maxL := 2) (ret := (some .int)) (by decide +kernel) rfl ?_
  intro p e s m args below meth c s₁ B hml hv
  obtain ⟨rfl, hsz, hP, hK, hD0, hE⟩ := hv
  have hx := B.exec
  have hb := B.bytes
  have hr := B.returns
  have hts := atoms_spec (ws := wsX5_wouldMiss) B.pre
  have hown : s.vm.findClass RX5 = some m.cls := findClass_of_methodNamed B.named
  have hlocks := B.notSynchronized
  subst hsz
  have hD := hD0.self (sz := s.heap.size)
  generalize hAe : va_A [(h0, .inr (8, [.int 0, .ref lH, .ref lB, .ref lJ, .ref aR, .ref aL, .int 0, .int 0, .int 0, .ref lC, .ref aM, .ref aP, .int 0, .int 0, .int 0, .int (-1), .int (-1), .int 0, .int 0, .long sm]))] s.heap.size = A at hD hE ⊢
  have hA : ∀ q : Nat, s.heap.size ≤ q → A q := fun q h => by rw [← hAe]; exact Or.inr h
  have hS : va_S A s.heap s.heap [] := va_S.rf
  have hP : va_P D vwCl [(h0, .inr (8, [.int 0, .ref lH, .ref lB, .ref lJ, .ref aR, .ref aL, .int 0, .int 0, .int 0, .ref lC, .ref aM, .ref aP, .int 0, .int 0, .int 0, .int (-1), .int (-1), .int 0, .int 0, .long sm]))] s.heap := hP
  have hl := lv_entry ([.ref h0, .int p0]) (n := 2) (Nat.le_of_ble_eq_true rfl)
  rw [lg_entry_eq]
  generalize (lg_sl ([.ref h0, .int p0]) ++ List.replicate (2 - (lg_sl ([.ref h0, .int p0])).length) Slot.unset).toArray = ls at hl ⊢
  have hl : lv_has ls 2 [(0, .ref h0), (1, .int p0)] := hl
  refine lv_aload_n hx hb dX5_wouldMiss_0 rfl (lv_at hl 0 rfl) ?_
  refine lv_iconst (v := 0) hx hb dX5_wouldMiss_1 (by decide) ?_
  refine va_put (D := D) (ci := 8) (v := .int 0) (C := RX5) (T := TX5) (N := 20) hx hb hts (by decide +kernel) tyX5 tyX5_ok nmX5 hown hK hP hD hS 0 rfl rfl 0 (by decide) (hts (.fieldLink RX5 50 "PrizeHouseModel" "thrown" "I") (by decide +kernel)) (fun _ h9 => h9) rfl (tyX5_ok 0 (by decide)) rfl rfl (Nat.le_of_ble_eq_true rfl) dX5_wouldMiss_2 (fun H locs hP hD hS => ?_)
  have hP : va_P D vwCl [(h0, .inr (8, [.int 0, .ref lH, .ref lB, .ref lJ, .ref aR, .ref aL, .int 0, .int 0, .int 0, .ref lC, .ref aM, .ref aP, .int 0, .int 0, .int 0, .int (-1), .int (-1), .int 0, .int 0, .long sm]))] H := hP
  have hD : va_D A [(h0, .inr (8, [.int 0, .ref lH, .ref lB, .ref lJ, .ref aR, .ref aL, .int 0, .int 0, .int 0, .ref lC, .ref aM, .ref aP, .int 0, .int 0, .int 0, .int (-1), .int (-1), .int 0, .int 0, .long sm]))] := hD
  refine lv_iload_n hx hb dX5_wouldMiss_5 rfl (lv_at hl 1 rfl) ?_
  refine lv_iconst (v := 1) hx hb dX5_wouldMiss_6 (by decide) ?_
  refine lv_bipush (v := 60) hx hb dX5_wouldMiss_7 (by decide) ?_
  have hPc := hP.sub (ws' := []) [] rfl
  have hKc := hK.sub (tys' := []) [] rfl
  refine va_calli (va_runS (As := [.int p0, .int 1, .int 60]) (rest := []) ⟨hx, hb, hml, hown, hts⟩ (k_is_f l D eT p0 1 60 H.size hn) (va_cwS 3 hts gX5_wouldMiss_X5_is rfl rfl rfl (by decide +kernel) ⟨Nat.le_of_ble_eq_true rfl, Nat.le_of_ble_eq_true rfl⟩) (pr_s hPc hKc hE hS hA) rfl rfl hl.1 rfl (lv_room (Nat.le_of_ble_eq_true rfl)) dX5_wouldMiss_9 ⟨Nat.le_of_ble_eq_true rfl, Nat.le_of_ble_eq_true rfl⟩) hS (fun q h1 h2 => ro_A h1 h2) (fun q h => ro_F hS hA q h) (fun r u t H1 locs ht hvm hw hB hz1 hk1 hS => ?_)
  have hw : r = 0 := hw
  rw [hw]
  have hP := ro_P hP hk1
  generalize H1 = H at hP hS ⊢
  refine lv_if_eq (tgt := 23) hx hb dX5_wouldMiss_12 (by decide) (fun _ => ?_) (fun h => absurd (by decide) h)
  refine lv_aload_n hx hb dX5_wouldMiss_23 rfl (lv_at hl 0 rfl) ?_
  refine lv_iconst (v := 1) hx hb dX5_wouldMiss_24 (by decide) ?_
  have hPc := hP.sub (ws' := [(h0, .inr (8, [.int 0, .ref lH, .ref lB, .ref lJ, .ref aR, .ref aL, .int 0, .int 0, .int 0, .ref lC, .ref aM, .ref aP, .int 0, .int 0, .int 0, .int (-1), .int (-1), .int 0, .int 0, .long sm]))]) [0] rfl
  have hKc := hK.sub (tys' := []) [] rfl
  have hDc := hD.sub (ws' := [(h0, .inr (8, [.int 0, .ref lH, .ref lB, .ref lJ, .ref aR, .ref aL, .int 0, .int 0, .int 0, .ref lC, .ref aM, .ref aP, .int 0, .int 0, .int 0, .int (-1), .int (-1), .int 0, .int 0, .long sm]))]) [0] (by decide) rfl
  have hFc := va_free (wc := [(h0, .inr (8, [.int 0, .ref lH, .ref lB, .ref lJ, .ref aR, .ref aL, .int 0, .int 0, .int 0, .ref lC, .ref aM, .ref aP, .int 0, .int 0, .int 0, .int (-1), .int (-1), .int 0, .int 0, .long sm]))]) hD hS hA [0] rfl
  refine va_calli (va_runV (As := [.int 1]) (rest := []) ⟨hx, hb, hml, hown, hts⟩ (r_refuse l D eT h0 lH lB lJ aR aL lC aM aP sm 1 H.size ) (cwV 1 hts gX5_wouldMiss_X5_refuse rfl rfl rfl (by decide +kernel) ⟨Nat.le_of_ble_eq_true rfl, Nat.le_of_ble_eq_true rfl⟩) (pc_v (ci := 8) (q0 := 0) rfl rfl hPc hDc hKc hE hS hFc) rfl rfl hl.1 rfl (lv_room (Nat.le_of_ble_eq_true rfl)) dX5_wouldMiss_25 ⟨Nat.le_of_ble_eq_true rfl, Nat.le_of_ble_eq_true rfl⟩) hS (fun q _ h => hFc q h) hFc (fun r u t H1 locs ht hvm hw hB hz1 hk1 hS => ?_)
  have hw : r = 0 := hw
  rw [hw]
  obtain ⟨hP1, hK1, hD1⟩ := hB
  rw [ht] at hP1
  have hK1 := va_K.moved hvm.symm hK1
  obtain ⟨hP, hD⟩ := va_join (wr := []) (w1 := [(h0, .inr (8, [.int 1, .ref lH, .ref lB, .ref lJ, .ref aR, .ref aL, .int 0, .int 0, .int 0, .ref lC, .ref aM, .ref aP, .int 0, .int 0, .int 0, .int (-1), .int (-1), .int 0, .int 0, .long sm]))]) hP hD [0] [] rfl rfl (by decide) (by decide) hk1 hFc hP1 hD1
  generalize H1 = H at hP hS ⊢
  have hP : va_P D vwCl [(h0, .inr (8, [.int 1, .ref lH, .ref lB, .ref lJ, .ref aR, .ref aL, .int 0, .int 0, .int 0, .ref lC, .ref aM, .ref aP, .int 0, .int 0, .int 0, .int (-1), .int (-1), .int 0, .int 0, .long sm]))] H := hP
  have hD : va_D A [(h0, .inr (8, [.int 1, .ref lH, .ref lB, .ref lJ, .ref aR, .ref aL, .int 0, .int 0, .int 0, .ref lC, .ref aM, .ref aP, .int 0, .int 0, .int 0, .int (-1), .int (-1), .int 0, .int 0, .long sm]))] := hD
  have hP9 := hP.sub (ws' := [(h0, .inr (8, [.int 1, .ref lH, .ref lB, .ref lJ, .ref aR, .ref aL, .int 0, .int 0, .int 0, .ref lC, .ref aM, .ref aP, .int 0, .int 0, .int 0, .int (-1), .int (-1), .int 0, .int 0, .long sm]))]) [0] rfl
  have hD9 := hD.sub (ws' := [(h0, .inr (8, [.int 1, .ref lH, .ref lB, .ref lJ, .ref aR, .ref aL, .int 0, .int 0, .int 0, .ref lC, .ref aM, .ref aP, .int 0, .int 0, .int 0, .int (-1), .int (-1), .int 0, .int 0, .long sm]))]) [0] (by decide) rfl
  have hK9 := hK.sub (tys' := []) [] rfl
  exact W.iret (v := 0) hx hb hr (fun t ht hW => ⟨⟨0, (), rfl, rfl, ⟨by rw [ht]; exact hP9, va_K.moved hW.alike hK9, hD9⟩⟩, hS.F ht⟩) hS.2.2 dX5_wouldMiss_28
set_option maxHeartbeats 4000000 in
set_option maxRecDepth 100000 in
theorem r_many_f (l : Launch) (D : va_G) (eT : Nat) (h0 : Nat) (lH : Nat) (lB : Nat) (lJ : Nat) (aR : Nat) (aL : Nat) (lC : Nat) (aM : Nat) (aP : Nat) (sm : Int64) (p0 : Int32) (sz : Nat) (hn : ¬ (0 ≤ p0 ∧ p0 ≤ 14)) : Met l yX5_many wsX5_many ({ frames := 1, cells := 0, slots := 0, locals := 22 }) (va_Pc [.ref h0, .int p0] (pc D eT sz [(h0, .inr (8, [.int 0, .ref lH, .ref lB, .ref lJ, .ref aR, .ref aL, .int 0, .int 0, .int 0, .ref lC, .ref aM, .ref aP, .int 0, .int 0, .int 0, .int (-1), .int (-1), .int 0, .int 0, .long sm]))] [])) (va_Qi (fun (r : Int32) (_ : Unit) => r = 0) (fun _ t => va_P D vwCl [(h0, .inr (8, [.int 1, .ref lH, .ref lB, .ref lJ, .ref aR, .ref aL, .int 0, .int 0, .int 0, .ref lC, .ref aM, .ref aP, .int 0, .int 0, .int 0, .int (-1), .int (-1), .int 0, .int 0, .long sm]))] t.heap ∧ va_K D vwCl [] t ∧ va_D (va_A [(h0, .inr (8, [.int 0, .ref lH, .ref lB, .ref lJ, .ref aR, .ref aL, .int 0, .int 0, .int 0, .ref lC, .ref aM, .ref aP, .int 0, .int 0, .int 0, .int (-1), .int (-1), .int 0, .int 0, .long sm]))] sz) [(h0, .inr (8, [.int 1, .ref lH, .ref lB, .ref lJ, .ref aR, .ref aL, .int 0, .int 0, .int 0, .ref lC, .ref aM, .ref aP, .int 0, .int 0, .int 0, .int (-1), .int (-1), .int 0, .int 0, .long sm]))]) (va_A [(h0, .inr (8, [.int 0, .ref lH, .ref lB, .ref lJ, .ref aR, .ref aL, .int 0, .int 0, .int 0, .ref lC, .ref aM, .ref aP, .int 0, .int 0, .int 0, .int (-1), .int (-1), .int 0, .int 0, .long sm]))] sz)) 0 0 (va_A [(h0, .inr (8, [.int 0, .ref lH, .ref lB, .ref lJ, .ref aR, .ref aL, .int 0, .int 0, .int 0, .ref lC, .ref aM, .ref aP, .int 0, .int 0, .int 0, .int (-1), .int (-1), .int 0, .int 0, .long sm]))] sz) := by
  refine Met.ofW (cc := cX5_many) (maxL := 2) (ret := (some .int)) (by decide +kernel) rfl ?_
  intro p e s m args below meth c s₁ B hml hv
  obtain ⟨rfl, hsz, hP, hK, hD0, hE⟩ := hv
  have hx := B.exec
  have hb := B.bytes
  have hr := B.returns
  have hts := atoms_spec (ws := wsX5_many) B.pre
  have hown : s.vm.findClass RX5 = some m.cls := findClass_of_methodNamed B.named
  have hlocks := B.notSynchronized
  subst hsz
  have hD := hD0.self (sz := s.heap.size)
  generalize hAe : va_A [(h0, .inr (8, [.int 0, .ref lH, .ref lB, .ref lJ, .ref aR, .ref aL, .int 0, .int 0, .int 0, .ref lC, .ref aM, .ref aP, .int 0, .int 0, .int 0, .int (-1), .int (-1), .int 0, .int 0, .long sm]))] s.heap.size = A at hD hE ⊢
  have hA : ∀ q : Nat, s.heap.size ≤ q → A q := fun q h => by rw [← hAe]; exact Or.inr h
  have hS : va_S A s.heap s.heap [] := va_S.rf
  have hP : va_P D vwCl [(h0, .inr (8, [.int 0, .ref lH, .ref lB, .ref lJ, .ref aR, .ref aL, .int 0, .int 0, .int 0, .ref lC, .ref aM, .ref aP, .int 0, .int 0, .int 0, .int (-1), .int (-1), .int 0, .int 0, .long sm]))] s.heap := hP
  have hl := lv_entry ([.ref h0, .int p0]) (n := 2) (Nat.le_of_ble_eq_true rfl)
  rw [lg_entry_eq]
  generalize (lg_sl ([.ref h0, .int p0]) ++ List.replicate (2 - (lg_sl ([.ref h0, .int p0])).length) Slot.unset).toArray = ls at hl ⊢
  have hl : lv_has ls 2 [(0, .ref h0), (1, .int p0)] := hl
  refine lv_aload_n hx hb dX5_many_0 rfl (lv_at hl 0 rfl) ?_
  refine lv_iconst (v := 0) hx hb dX5_many_1 (by decide) ?_
  refine va_put (D := D) (ci := 8) (v := .int 0) (C := RX5) (T := TX5) (N := 20) hx hb hts (by decide +kernel) tyX5 tyX5_ok nmX5 hown hK hP hD hS 0 rfl rfl 0 (by decide) (hts (.fieldLink RX5 50 "PrizeHouseModel" "thrown" "I") (by decide +kernel)) (fun _ h9 => h9) rfl (tyX5_ok 0 (by decide)) rfl rfl (Nat.le_of_ble_eq_true rfl) dX5_many_2 (fun H locs hP hD hS => ?_)
  have hP : va_P D vwCl [(h0, .inr (8, [.int 0, .ref lH, .ref lB, .ref lJ, .ref aR, .ref aL, .int 0, .int 0, .int 0, .ref lC, .ref aM, .ref aP, .int 0, .int 0, .int 0, .int (-1), .int (-1), .int 0, .int 0, .long sm]))] H := hP
  have hD : va_D A [(h0, .inr (8, [.int 0, .ref lH, .ref lB, .ref lJ, .ref aR, .ref aL, .int 0, .int 0, .int 0, .ref lC, .ref aM, .ref aP, .int 0, .int 0, .int 0, .int (-1), .int (-1), .int 0, .int 0, .long sm]))] := hD
  refine lv_iload_n hx hb dX5_many_5 rfl (lv_at hl 1 rfl) ?_
  refine lv_iconst (v := 0) hx hb dX5_many_6 (by decide) ?_
  refine lv_bipush (v := 14) hx hb dX5_many_7 (by decide) ?_
  have hPc := hP.sub (ws' := []) [] rfl
  have hKc := hK.sub (tys' := []) [] rfl
  refine va_calli (va_runS (As := [.int p0, .int 0, .int 14]) (rest := []) ⟨hx, hb, hml, hown, hts⟩ (k_is_f l D eT p0 0 14 H.size hn) (va_cwS 3 hts gX5_many_X5_is rfl rfl rfl (by decide +kernel) ⟨Nat.le_of_ble_eq_true rfl, Nat.le_of_ble_eq_true rfl⟩) (pr_s hPc hKc hE hS hA) rfl rfl hl.1 rfl (lv_room (Nat.le_of_ble_eq_true rfl)) dX5_many_9 ⟨Nat.le_of_ble_eq_true rfl, Nat.le_of_ble_eq_true rfl⟩) hS (fun q h1 h2 => ro_A h1 h2) (fun q h => ro_F hS hA q h) (fun r u t H1 locs ht hvm hw hB hz1 hk1 hS => ?_)
  have hw : r = 0 := hw
  rw [hw]
  have hP := ro_P hP hk1
  generalize H1 = H at hP hS ⊢
  refine lv_if_eq (tgt := 23) hx hb dX5_many_12 (by decide) (fun _ => ?_) (fun h => absurd (by decide) h)
  refine lv_aload_n hx hb dX5_many_23 rfl (lv_at hl 0 rfl) ?_
  refine lv_iconst (v := 1) hx hb dX5_many_24 (by decide) ?_
  have hPc := hP.sub (ws' := [(h0, .inr (8, [.int 0, .ref lH, .ref lB, .ref lJ, .ref aR, .ref aL, .int 0, .int 0, .int 0, .ref lC, .ref aM, .ref aP, .int 0, .int 0, .int 0, .int (-1), .int (-1), .int 0, .int 0, .long sm]))]) [0] rfl
  have hKc := hK.sub (tys' := []) [] rfl
  have hDc := hD.sub (ws' := [(h0, .inr (8, [.int 0, .ref lH, .ref lB, .ref lJ, .ref aR, .ref aL, .int 0, .int 0, .int 0, .ref lC, .ref aM, .ref aP, .int 0, .int 0, .int 0, .int (-1), .int (-1), .int 0, .int 0, .long sm]))]) [0] (by decide) rfl
  have hFc := va_free (wc := [(h0, .inr (8, [.int 0, .ref lH, .ref lB, .ref lJ, .ref aR, .ref aL, .int 0, .int 0, .int 0, .ref lC, .ref aM, .ref aP, .int 0, .int 0, .int 0, .int (-1), .int (-1), .int 0, .int 0, .long sm]))]) hD hS hA [0] rfl
  refine va_calli (va_runV (As := [.int 1]) (rest := []) ⟨hx, hb, hml, hown, hts⟩ (r_refuse l D eT h0 lH lB lJ aR aL lC aM aP sm 1 H.size ) (cwV 1 hts gX5_many_X5_refuse rfl rfl rfl (by decide +kernel) ⟨Nat.le_of_ble_eq_true rfl, Nat.le_of_ble_eq_true rfl⟩) (pc_v (ci := 8) (q0 := 0) rfl rfl hPc hDc hKc hE hS hFc) rfl rfl hl.1 rfl (lv_room (Nat.le_of_ble_eq_true rfl)) dX5_many_25 ⟨Nat.le_of_ble_eq_true rfl, Nat.le_of_ble_eq_true rfl⟩) hS (fun q _ h => hFc q h) hFc (fun r u t H1 locs ht hvm hw hB hz1 hk1 hS => ?_)
  have hw : r = 0 := hw
  rw [hw]
  obtain ⟨hP1, hK1, hD1⟩ := hB
  rw [ht] at hP1
  have hK1 := va_K.moved hvm.symm hK1
  obtain ⟨hP, hD⟩ := va_join (wr := []) (w1 := [(h0, .inr (8, [.int 1, .ref lH, .ref lB, .ref lJ, .ref aR, .ref aL, .int 0, .int 0, .int 0, .ref lC, .ref aM, .ref aP, .int 0, .int 0, .int 0, .int (-1), .int (-1), .int 0, .int 0, .long sm]))]) hP hD [0] [] rfl rfl (by decide) (by decide) hk1 hFc hP1 hD1
  generalize H1 = H at hP hS ⊢
  have hP : va_P D vwCl [(h0, .inr (8, [.int 1, .ref lH, .ref lB, .ref lJ, .ref aR, .ref aL, .int 0, .int 0, .int 0, .ref lC, .ref aM, .ref aP, .int 0, .int 0, .int 0, .int (-1), .int (-1), .int 0, .int 0, .long sm]))] H := hP
  have hD : va_D A [(h0, .inr (8, [.int 1, .ref lH, .ref lB, .ref lJ, .ref aR, .ref aL, .int 0, .int 0, .int 0, .ref lC, .ref aM, .ref aP, .int 0, .int 0, .int 0, .int (-1), .int (-1), .int 0, .int 0, .long sm]))] := hD
  have hP9 := hP.sub (ws' := [(h0, .inr (8, [.int 1, .ref lH, .ref lB, .ref lJ, .ref aR, .ref aL, .int 0, .int 0, .int 0, .ref lC, .ref aM, .ref aP, .int 0, .int 0, .int 0, .int (-1), .int (-1), .int 0, .int 0, .long sm]))]) [0] rfl
  have hD9 := hD.sub (ws' := [(h0, .inr (8, [.int 1, .ref lH, .ref lB, .ref lJ, .ref aR, .ref aL, .int 0, .int 0, .int 0, .ref lC, .ref aM, .ref aP, .int 0, .int 0, .int 0, .int (-1), .int (-1), .int 0, .int 0, .long sm]))]) [0] (by decide) rfl
  have hK9 := hK.sub (tys' := []) [] rfl
  exact W.iret (v := 0) hx hb hr (fun t ht hW => ⟨⟨0, (), rfl, rfl, ⟨by rw [ht]; exact hP9, va_K.moved hW.alike hK9, hD9⟩⟩, hS.F ht⟩) hS.2.2 dX5_many_28
set_option maxHeartbeats 4000000 in
set_option maxRecDepth 100000 in
theorem r_winsNow (l : Launch) (D : va_G) (eT : Nat) (h0 : Nat) (lH : Nat) (lB : Nat) (lJ : Nat) (aR : Nat) (aL : Nat) (lC : Nat) (aM : Nat) (aP : Nat) (sm : Int64) (p0 : Int32) (p1 : Int32) (sz : Nat) : Met l yX5_winsNow wsX5_winsNow ({ frames := 0, cells := 0, slots := 0, locals := 0 }) (va_Pc [.ref h0, .int p0, .int p1] (pr D eT sz [(h0, .inr (8, [.int 0, .ref lH, .ref lB, .ref lJ, .ref aR, .ref aL, .int 0, .int 0, .int 0, .ref lC, .ref aM, .ref aP, .int 0, .int 0, .int 0, .int (-1), .int (-1), .int 0, .int 0, .long sm]))] [])) (va_Qi (fun (r : Int32) (_ : Unit) => r = (-1)) (fun _ _ => True) (fun q => sz ≤ q)) 0 0 (fun q => sz ≤ q) := by
  refine Met.ofW (cc := cX5_winsNow) (maxL := 3) (ret := (some .int)) (by decide +kernel) rfl ?_
  intro p e s m args below meth c s₁ B hml hv
  obtain ⟨rfl, hsz, hP, hK, hE⟩ := hv
  have hx := B.exec
  have hb := B.bytes
  have hr := B.returns
  have hts := atoms_spec (ws := wsX5_winsNow) B.pre
  have hown : s.vm.findClass RX5 = some m.cls := findClass_of_methodNamed B.named
  have hlocks := B.notSynchronized
  subst hsz
  have hA : ∀ q : Nat, s.heap.size ≤ q → (fun q : Nat => s.heap.size ≤ q) q := fun _ h => h
  have hS : va_S (fun q : Nat => s.heap.size ≤ q) s.heap s.heap [] := va_S.rf
  have hP : va_P D vwCl [(h0, .inr (8, [.int 0, .ref lH, .ref lB, .ref lJ, .ref aR, .ref aL, .int 0, .int 0, .int 0, .ref lC, .ref aM, .ref aP, .int 0, .int 0, .int 0, .int (-1), .int (-1), .int 0, .int 0, .long sm]))] s.heap := hP
  have hl := lv_entry ([.ref h0, .int p0, .int p1]) (n := 3) (Nat.le_of_ble_eq_true rfl)
  rw [lg_entry_eq]
  generalize (lg_sl ([.ref h0, .int p0, .int p1]) ++ List.replicate (3 - (lg_sl ([.ref h0, .int p0, .int p1])).length) Slot.unset).toArray = ls at hl ⊢
  have hl : lv_has ls 3 [(0, .ref h0), (1, .int p0), (2, .int p1)] := hl
  refine lv_aload_n hx hb dX5_winsNow_0 rfl (lv_at hl 0 rfl) ?_
  refine va_get (D := D) (ci := 8) (v := .int 0) (C := RX5) (T := TX5) (N := 20) hx hb hts (by decide +kernel) hown hK hP 0 rfl rfl 7 (by decide) (hts (.fieldLink RX5 101 "PrizeHouseModel" "phase" "I") (by decide +kernel)) (fun _ h9 => h9) rfl dX5_winsNow_1 ?_
  refine lv_iconst (v := 3) hx hb dX5_winsNow_4 (by decide) ?_
  refine lv_icmp_ge (tgt := 12) hx hb dX5_winsNow_5 (by decide) (fun h => absurd h (by decide)) (fun _ => ?_)
  refine lv_iconst (v := (-1)) hx hb dX5_winsNow_8 (by decide) ?_
  refine lv_goto (tgt := 32) hx hb dX5_winsNow_9 (by decide) ?_
  exact W.iret (v := (-1)) hx hb hr (fun t ht hW => ⟨⟨(-1), (), rfl, rfl, trivial⟩, hS.F ht⟩) hS.2.2 dX5_winsNow_32
set_option maxHeartbeats 4000000 in
set_option maxRecDepth 100000 in
theorem r_wins (l : Launch) (D : va_G) (eT : Nat) (h0 : Nat) (lH : Nat) (lB : Nat) (lJ : Nat) (aR : Nat) (aL : Nat) (lC : Nat) (aM : Nat) (aP : Nat) (sm : Int64) (p0 : Int32) (sz : Nat) (h1 : 0 ≤ p0) (h2 : p0 ≤ 31) : Met l yX5_wins wsX5_wins ({ frames := 1, cells := 0, slots := 0, locals := 22 }) (va_Pc [.ref h0, .int p0] (pc D eT sz [(h0, .inr (8, [.int 0, .ref lH, .ref lB, .ref lJ, .ref aR, .ref aL, .int 0, .int 0, .int 0, .ref lC, .ref aM, .ref aP, .int 0, .int 0, .int 0, .int (-1), .int (-1), .int 0, .int 0, .long sm]))] [])) (va_Qi (fun (r : Int32) (_ : Unit) => r = (-1)) (fun _ t => va_P D vwCl [(h0, .inr (8, [.int 0, .ref lH, .ref lB, .ref lJ, .ref aR, .ref aL, .int 0, .int 0, .int 0, .ref lC, .ref aM, .ref aP, .int 0, .int 0, .int 0, .int (-1), .int (-1), .int 0, .int 0, .long sm]))] t.heap ∧ va_K D vwCl [] t ∧ va_D (va_A [(h0, .inr (8, [.int 0, .ref lH, .ref lB, .ref lJ, .ref aR, .ref aL, .int 0, .int 0, .int 0, .ref lC, .ref aM, .ref aP, .int 0, .int 0, .int 0, .int (-1), .int (-1), .int 0, .int 0, .long sm]))] sz) [(h0, .inr (8, [.int 0, .ref lH, .ref lB, .ref lJ, .ref aR, .ref aL, .int 0, .int 0, .int 0, .ref lC, .ref aM, .ref aP, .int 0, .int 0, .int 0, .int (-1), .int (-1), .int 0, .int 0, .long sm]))]) (va_A [(h0, .inr (8, [.int 0, .ref lH, .ref lB, .ref lJ, .ref aR, .ref aL, .int 0, .int 0, .int 0, .ref lC, .ref aM, .ref aP, .int 0, .int 0, .int 0, .int (-1), .int (-1), .int 0, .int 0, .long sm]))] sz)) 0 0 (va_A [(h0, .inr (8, [.int 0, .ref lH, .ref lB, .ref lJ, .ref aR, .ref aL, .int 0, .int 0, .int 0, .ref lC, .ref aM, .ref aP, .int 0, .int 0, .int 0, .int (-1), .int (-1), .int 0, .int 0, .long sm]))] sz) := by
  refine Met.ofW (cc := cX5_wins) (maxL := 2) (ret := (some .int)) (by decide +kernel) rfl ?_
  intro p e s m args below meth c s₁ B hml hv
  obtain ⟨rfl, hsz, hP, hK, hD0, hE⟩ := hv
  have hx := B.exec
  have hb := B.bytes
  have hr := B.returns
  have hts := atoms_spec (ws := wsX5_wins) B.pre
  have hown : s.vm.findClass RX5 = some m.cls := findClass_of_methodNamed B.named
  have hlocks := B.notSynchronized
  subst hsz
  have hD := hD0.self (sz := s.heap.size)
  generalize hAe : va_A [(h0, .inr (8, [.int 0, .ref lH, .ref lB, .ref lJ, .ref aR, .ref aL, .int 0, .int 0, .int 0, .ref lC, .ref aM, .ref aP, .int 0, .int 0, .int 0, .int (-1), .int (-1), .int 0, .int 0, .long sm]))] s.heap.size = A at hD hE ⊢
  have hA : ∀ q : Nat, s.heap.size ≤ q → A q := fun q h => by rw [← hAe]; exact Or.inr h
  have hS : va_S A s.heap s.heap [] := va_S.rf
  have hP : va_P D vwCl [(h0, .inr (8, [.int 0, .ref lH, .ref lB, .ref lJ, .ref aR, .ref aL, .int 0, .int 0, .int 0, .ref lC, .ref aM, .ref aP, .int 0, .int 0, .int 0, .int (-1), .int (-1), .int 0, .int 0, .long sm]))] s.heap := hP
  have hl := lv_entry ([.ref h0, .int p0]) (n := 2) (Nat.le_of_ble_eq_true rfl)
  rw [lg_entry_eq]
  generalize (lg_sl ([.ref h0, .int p0]) ++ List.replicate (2 - (lg_sl ([.ref h0, .int p0])).length) Slot.unset).toArray = ls at hl ⊢
  have hl : lv_has ls 2 [(0, .ref h0), (1, .int p0)] := hl
  refine lv_aload_n hx hb dX5_wins_0 rfl (lv_at hl 0 rfl) ?_
  refine lv_iconst (v := 0) hx hb dX5_wins_1 (by decide) ?_
  refine va_put (D := D) (ci := 8) (v := .int 0) (C := RX5) (T := TX5) (N := 20) hx hb hts (by decide +kernel) tyX5 tyX5_ok nmX5 hown hK hP hD hS 0 rfl rfl 0 (by decide) (hts (.fieldLink RX5 50 "PrizeHouseModel" "thrown" "I") (by decide +kernel)) (fun _ h9 => h9) rfl (tyX5_ok 0 (by decide)) rfl rfl (Nat.le_of_ble_eq_true rfl) dX5_wins_2 (fun H locs hP hD hS => ?_)
  have hP : va_P D vwCl [(h0, .inr (8, [.int 0, .ref lH, .ref lB, .ref lJ, .ref aR, .ref aL, .int 0, .int 0, .int 0, .ref lC, .ref aM, .ref aP, .int 0, .int 0, .int 0, .int (-1), .int (-1), .int 0, .int 0, .long sm]))] H := hP
  have hD : va_D A [(h0, .inr (8, [.int 0, .ref lH, .ref lB, .ref lJ, .ref aR, .ref aL, .int 0, .int 0, .int 0, .ref lC, .ref aM, .ref aP, .int 0, .int 0, .int 0, .int (-1), .int (-1), .int 0, .int 0, .long sm]))] := hD
  refine lv_iload_n hx hb dX5_wins_5 rfl (lv_at hl 1 rfl) ?_
  refine lv_iconst (v := 0) hx hb dX5_wins_6 (by decide) ?_
  refine lv_bipush (v := 31) hx hb dX5_wins_7 (by decide) ?_
  have hPc := hP.sub (ws' := []) [] rfl
  have hKc := hK.sub (tys' := []) [] rfl
  refine va_calli (va_runS (As := [.int p0, .int 0, .int 31]) (rest := []) ⟨hx, hb, hml, hown, hts⟩ (k_is_t l D eT p0 0 31 H.size h1 h2) (va_cwS 3 hts gX5_wins_X5_is rfl rfl rfl (by decide +kernel) ⟨Nat.le_of_ble_eq_true rfl, Nat.le_of_ble_eq_true rfl⟩) (pr_s hPc hKc hE hS hA) rfl rfl hl.1 rfl (lv_room (Nat.le_of_ble_eq_true rfl)) dX5_wins_9 ⟨Nat.le_of_ble_eq_true rfl, Nat.le_of_ble_eq_true rfl⟩) hS (fun q h1 h2 => ro_A h1 h2) (fun q h => ro_F hS hA q h) (fun r u t H1 locs ht hvm hw hB hz1 hk1 hS => ?_)
  have hw : r = 1 := hw
  rw [hw]
  have hP := ro_P hP hk1
  generalize H1 = H at hP hS ⊢
  refine lv_if_eq (tgt := 24) hx hb dX5_wins_12 (by decide) (fun h => absurd h (by decide)) (fun _ => ?_)
  refine lv_aload_n hx hb dX5_wins_15 rfl (lv_at hl 0 rfl) ?_
  refine lv_iload_n hx hb dX5_wins_16 rfl (lv_at hl 1 rfl) ?_
  refine lv_iconst (v := 0) hx hb dX5_wins_17 (by decide) ?_
  have hPc := hP.sub (ws' := [(h0, .inr (8, [.int 0, .ref lH, .ref lB, .ref lJ, .ref aR, .ref aL, .int 0, .int 0, .int 0, .ref lC, .ref aM, .ref aP, .int 0, .int 0, .int 0, .int (-1), .int (-1), .int 0, .int 0, .long sm]))]) [0] rfl
  have hKc := hK.sub (tys' := []) [] rfl
  refine va_calli (va_runV (As := [.int p0, .int 0]) (rest := []) ⟨hx, hb, hml, hown, hts⟩ (r_winsNow l D eT h0 lH lB lJ aR aL lC aM aP sm p0 0 H.size ) (cwV 2 hts gX5_wins_X5_winsNow rfl rfl rfl (by decide +kernel) ⟨Nat.le_of_ble_eq_true rfl, Nat.le_of_ble_eq_true rfl⟩) (pr_v (ci := 8) (q0 := 0) rfl rfl hPc hKc hE hS hA) rfl rfl hl.1 rfl (lv_room (Nat.le_of_ble_eq_true rfl)) dX5_wins_18 ⟨Nat.le_of_ble_eq_true rfl, Nat.le_of_ble_eq_true rfl⟩) hS (fun q h1 h2 => ro_A h1 h2) (fun q h => ro_F hS hA q h) (fun r u t H1 locs ht hvm hw hB hz1 hk1 hS => ?_)
  have hw : r = (-1) := hw
  rw [hw]
  have hP := ro_P hP hk1
  generalize H1 = H at hP hS ⊢
  refine lv_goto (tgt := 29) hx hb dX5_wins_21 (by decide) ?_
  have hP9 := hP.sub (ws' := [(h0, .inr (8, [.int 0, .ref lH, .ref lB, .ref lJ, .ref aR, .ref aL, .int 0, .int 0, .int 0, .ref lC, .ref aM, .ref aP, .int 0, .int 0, .int 0, .int (-1), .int (-1), .int 0, .int 0, .long sm]))]) [0] rfl
  have hD9 := hD.sub (ws' := [(h0, .inr (8, [.int 0, .ref lH, .ref lB, .ref lJ, .ref aR, .ref aL, .int 0, .int 0, .int 0, .ref lC, .ref aM, .ref aP, .int 0, .int 0, .int 0, .int (-1), .int (-1), .int 0, .int 0, .long sm]))]) [0] (by decide) rfl
  have hK9 := hK.sub (tys' := []) [] rfl
  exact W.iret (v := (-1)) hx hb hr (fun t ht hW => ⟨⟨(-1), (), rfl, rfl, ⟨by rw [ht]; exact hP9, va_K.moved hW.alike hK9, hD9⟩⟩, hS.F ht⟩) hS.2.2 dX5_wins_29
set_option maxHeartbeats 4000000 in
set_option maxRecDepth 100000 in
theorem r_beatsNow (l : Launch) (D : va_G) (eT : Nat) (h0 : Nat) (lH : Nat) (lB : Nat) (lJ : Nat) (aR : Nat) (aL : Nat) (lC : Nat) (aM : Nat) (aP : Nat) (sm : Int64) (sz : Nat) : Met l yX5_beatsNow wsX5_beatsNow ({ frames := 1, cells := 0, slots := 0, locals := 20 }) (va_Pc [.ref h0] (pr D eT sz [(h0, .inr (8, [.int 0, .ref lH, .ref lB, .ref lJ, .ref aR, .ref aL, .int 0, .int 0, .int 0, .ref lC, .ref aM, .ref aP, .int 0, .int 0, .int 0, .int (-1), .int (-1), .int 0, .int 0, .long sm])), (lB, .inr (2, [.int 0, .ref eT, .int 0]))] [])) (va_Qi (fun (r : Int32) (_ : Unit) => r = (-1)) (fun _ _ => True) (fun q => sz ≤ q)) 0 0 (fun q => sz ≤ q) := by
  refine Met.ofW (cc := cX5_beatsNow) (maxL := 4) (ret := (some .int)) (by decide +kernel) rfl ?_
  intro p e s m args below meth c s₁ B hml hv
  obtain ⟨rfl, hsz, hP, hK, hE⟩ := hv
  have hx := B.exec
  have hb := B.bytes
  have hr := B.returns
  have hts := atoms_spec (ws := wsX5_beatsNow) B.pre
  have hown : s.vm.findClass RX5 = some m.cls := findClass_of_methodNamed B.named
  have hlocks := B.notSynchronized
  subst hsz
  have hA : ∀ q : Nat, s.heap.size ≤ q → (fun q : Nat => s.heap.size ≤ q) q := fun _ h => h
  have hS : va_S (fun q : Nat => s.heap.size ≤ q) s.heap s.heap [] := va_S.rf
  have hP : va_P D vwCl [(h0, .inr (8, [.int 0, .ref lH, .ref lB, .ref lJ, .ref aR, .ref aL, .int 0, .int 0, .int 0, .ref lC, .ref aM, .ref aP, .int 0, .int 0, .int 0, .int (-1), .int (-1), .int 0, .int 0, .long sm])), (lB, .inr (2, [.int 0, .ref eT, .int 0]))] s.heap := hP
  have hl := lv_entry ([.ref h0]) (n := 4) (Nat.le_of_ble_eq_true rfl)
  rw [lg_entry_eq]
  generalize (lg_sl ([.ref h0]) ++ List.replicate (4 - (lg_sl ([.ref h0])).length) Slot.unset).toArray = ls at hl ⊢
  have hl : lv_has ls 4 [(0, .ref h0)] := hl
  refine lv_iconst (v := 0) hx hb dX5_beatsNow_0 (by decide) ?_
  refine lv_istore_n (lv' := [(1, .int 0), (0, .ref h0)]) hx hb dX5_beatsNow_1 rfl hl (by decide) rfl (fun ls hl => ?_)
  refine lv_iload_n hx hb dX5_beatsNow_2 rfl (lv_at hl 0 rfl) ?_
  refine lv_aload_n hx hb dX5_beatsNow_3 rfl (lv_at hl 1 rfl) ?_
  refine va_get (D := D) (ci := 8) (v := .ref lB) (C := RX5) (T := TX5) (N := 20) hx hb hts (by decide +kernel) hown hK hP 0 rfl rfl 2 (by decide) (hts (.fieldLink RX5 16 "PrizeHouseModel" "books" "Ljava/util/ArrayList;") (by decide +kernel)) (fun _ h9 => h9) rfl dX5_beatsNow_4 ?_
  have hPc := hP.sub (ws' := [(lB, .inr (2, [.int 0, .ref eT, .int 0]))]) [1] rfl
  have hKc := hK.sub (tys' := []) [] rfl
  refine va_calli (va_runV (As := []) (rest := [.int 0]) ⟨hx, hb, hml, hown, hts⟩ (k_size l D eT lB eT 0 0 s.heap.size ) (cwV 0 hts gX5_beatsNow_Jx4a65c_size_8abf5 rfl rfl rfl (by decide +kernel) ⟨Nat.le_of_ble_eq_true rfl, Nat.le_of_ble_eq_true rfl⟩) (pr_v (ci := 2) (q0 := 0) rfl rfl hPc hKc hE hS hA) rfl rfl hl.1 rfl (lv_room (Nat.le_of_ble_eq_true rfl)) dX5_beatsNow_7 ⟨Nat.le_of_ble_eq_true rfl, Nat.le_of_ble_eq_true rfl⟩) hS (fun q h1 h2 => ro_A h1 h2) (fun q h => ro_F hS hA q h) (fun r u t H1 locs ht hvm hw hB hz1 hk1 hS => ?_)
  have hw : r = 0 := hw
  rw [hw]
  have hP := ro_P hP hk1
  generalize H1 = H at hP hS ⊢
  refine lv_icmp_ge (tgt := 105) hx hb dX5_beatsNow_10 (by decide) (fun _ => ?_) (fun h => absurd (by decide) h)
  refine lv_iconst (v := (-1)) hx hb dX5_beatsNow_105 (by decide) ?_
  exact W.iret (v := (-1)) hx hb hr (fun t ht hW => ⟨⟨(-1), (), rfl, rfl, trivial⟩, hS.F ht⟩) hS.2.2 dX5_beatsNow_106
set_option maxHeartbeats 4000000 in
set_option maxRecDepth 100000 in
theorem r_beatsAll (l : Launch) (D : va_G) (eT : Nat) (h0 : Nat) (lH : Nat) (lB : Nat) (lJ : Nat) (aR : Nat) (aL : Nat) (lC : Nat) (aM : Nat) (aP : Nat) (sm : Int64) (sz : Nat) : Met l yX5_beatsAll wsX5_beatsAll ({ frames := 2, cells := 0, slots := 0, locals := 43 }) (va_Pc [.ref h0] (pc D eT sz [(h0, .inr (8, [.int 0, .ref lH, .ref lB, .ref lJ, .ref aR, .ref aL, .int 0, .int 0, .int 0, .ref lC, .ref aM, .ref aP, .int 0, .int 0, .int 0, .int (-1), .int (-1), .int 0, .int 0, .long sm])), (lB, .inr (2, [.int 0, .ref eT, .int 0]))] [])) (va_Qi (fun (r : Int32) (_ : Unit) => r = (-1)) (fun _ t => va_P D vwCl [(h0, .inr (8, [.int 0, .ref lH, .ref lB, .ref lJ, .ref aR, .ref aL, .int 0, .int 0, .int 0, .ref lC, .ref aM, .ref aP, .int 0, .int 0, .int 0, .int (-1), .int (-1), .int 0, .int 0, .long sm]))] t.heap ∧ va_K D vwCl [] t ∧ va_D (va_A [(h0, .inr (8, [.int 0, .ref lH, .ref lB, .ref lJ, .ref aR, .ref aL, .int 0, .int 0, .int 0, .ref lC, .ref aM, .ref aP, .int 0, .int 0, .int 0, .int (-1), .int (-1), .int 0, .int 0, .long sm])), (lB, .inr (2, [.int 0, .ref eT, .int 0]))] sz) [(h0, .inr (8, [.int 0, .ref lH, .ref lB, .ref lJ, .ref aR, .ref aL, .int 0, .int 0, .int 0, .ref lC, .ref aM, .ref aP, .int 0, .int 0, .int 0, .int (-1), .int (-1), .int 0, .int 0, .long sm]))]) (va_A [(h0, .inr (8, [.int 0, .ref lH, .ref lB, .ref lJ, .ref aR, .ref aL, .int 0, .int 0, .int 0, .ref lC, .ref aM, .ref aP, .int 0, .int 0, .int 0, .int (-1), .int (-1), .int 0, .int 0, .long sm])), (lB, .inr (2, [.int 0, .ref eT, .int 0]))] sz)) 0 0 (va_A [(h0, .inr (8, [.int 0, .ref lH, .ref lB, .ref lJ, .ref aR, .ref aL, .int 0, .int 0, .int 0, .ref lC, .ref aM, .ref aP, .int 0, .int 0, .int 0, .int (-1), .int (-1), .int 0, .int 0, .long sm])), (lB, .inr (2, [.int 0, .ref eT, .int 0]))] sz) := by
  refine Met.ofW (cc := cX5_beatsAll) (maxL := 1) (ret := (some .int)) (by decide +kernel) rfl ?_
  intro p e s m args below meth c s₁ B hml hv
  obtain ⟨rfl, hsz, hP, hK, hD0, hE⟩ := hv
  have hx := B.exec
  have hb := B.bytes
  have hr := B.returns
  have hts := atoms_spec (ws := wsX5_beatsAll) B.pre
  have hown : s.vm.findClass RX5 = some m.cls := findClass_of_methodNamed B.named
  have hlocks := B.notSynchronized
  subst hsz
  have hD := hD0.self (sz := s.heap.size)
  generalize hAe : va_A [(h0, .inr (8, [.int 0, .ref lH, .ref lB, .ref lJ, .ref aR, .ref aL, .int 0, .int 0, .int 0, .ref lC, .ref aM, .ref aP, .int 0, .int 0, .int 0, .int (-1), .int (-1), .int 0, .int 0, .long sm])), (lB, .inr (2, [.int 0, .ref eT, .int 0]))] s.heap.size = A at hD hE ⊢
  have hA : ∀ q : Nat, s.heap.size ≤ q → A q := fun q h => by rw [← hAe]; exact Or.inr h
  have hS : va_S A s.heap s.heap [] := va_S.rf
  have hP : va_P D vwCl [(h0, .inr (8, [.int 0, .ref lH, .ref lB, .ref lJ, .ref aR, .ref aL, .int 0, .int 0, .int 0, .ref lC, .ref aM, .ref aP, .int 0, .int 0, .int 0, .int (-1), .int (-1), .int 0, .int 0, .long sm])), (lB, .inr (2, [.int 0, .ref eT, .int 0]))] s.heap := hP
  have hl := lv_entry ([.ref h0]) (n := 1) (Nat.le_of_ble_eq_true rfl)
  rw [lg_entry_eq]
  generalize (lg_sl ([.ref h0]) ++ List.replicate (1 - (lg_sl ([.ref h0])).length) Slot.unset).toArray = ls at hl ⊢
  have hl : lv_has ls 1 [(0, .ref h0)] := hl
  refine lv_aload_n hx hb dX5_beatsAll_0 rfl (lv_at hl 0 rfl) ?_
  refine lv_iconst (v := 0) hx hb dX5_beatsAll_1 (by decide) ?_
  refine va_put (D := D) (ci := 8) (v := .int 0) (C := RX5) (T := TX5) (N := 20) hx hb hts (by decide +kernel) tyX5 tyX5_ok nmX5 hown hK hP hD hS 0 rfl rfl 0 (by decide) (hts (.fieldLink RX5 50 "PrizeHouseModel" "thrown" "I") (by decide +kernel)) (fun _ h9 => h9) rfl (tyX5_ok 0 (by decide)) rfl rfl (Nat.le_of_ble_eq_true rfl) dX5_beatsAll_2 (fun H locs hP hD hS => ?_)
  have hP : va_P D vwCl [(h0, .inr (8, [.int 0, .ref lH, .ref lB, .ref lJ, .ref aR, .ref aL, .int 0, .int 0, .int 0, .ref lC, .ref aM, .ref aP, .int 0, .int 0, .int 0, .int (-1), .int (-1), .int 0, .int 0, .long sm])), (lB, .inr (2, [.int 0, .ref eT, .int 0]))] H := hP
  have hD : va_D A [(h0, .inr (8, [.int 0, .ref lH, .ref lB, .ref lJ, .ref aR, .ref aL, .int 0, .int 0, .int 0, .ref lC, .ref aM, .ref aP, .int 0, .int 0, .int 0, .int (-1), .int (-1), .int 0, .int 0, .long sm])), (lB, .inr (2, [.int 0, .ref eT, .int 0]))] := hD
  refine lv_aload_n hx hb dX5_beatsAll_5 rfl (lv_at hl 0 rfl) ?_
  have hPc := hP.sub (ws' := [(h0, .inr (8, [.int 0, .ref lH, .ref lB, .ref lJ, .ref aR, .ref aL, .int 0, .int 0, .int 0, .ref lC, .ref aM, .ref aP, .int 0, .int 0, .int 0, .int (-1), .int (-1), .int 0, .int 0, .long sm])), (lB, .inr (2, [.int 0, .ref eT, .int 0]))]) [0, 1] rfl
  have hKc := hK.sub (tys' := []) [] rfl
  refine va_calli (va_runV (As := []) (rest := []) ⟨hx, hb, hml, hown, hts⟩ (r_beatsNow l D eT h0 lH lB lJ aR aL lC aM aP sm H.size ) (cwV 0 hts gX5_beatsAll_X5_beatsNow rfl rfl rfl (by decide +kernel) ⟨Nat.le_of_ble_eq_true rfl, Nat.le_of_ble_eq_true rfl⟩) (pr_v (ci := 8) (q0 := 0) rfl rfl hPc hKc hE hS hA) rfl rfl hl.1 rfl (lv_room (Nat.le_of_ble_eq_true rfl)) dX5_beatsAll_6 ⟨Nat.le_of_ble_eq_true rfl, Nat.le_of_ble_eq_true rfl⟩) hS (fun q h1 h2 => ro_A h1 h2) (fun q h => ro_F hS hA q h) (fun r u t H1 locs ht hvm hw hB hz1 hk1 hS => ?_)
  have hw : r = (-1) := hw
  rw [hw]
  have hP := ro_P hP hk1
  generalize H1 = H at hP hS ⊢
  have hP9 := hP.sub (ws' := [(h0, .inr (8, [.int 0, .ref lH, .ref lB, .ref lJ, .ref aR, .ref aL, .int 0, .int 0, .int 0, .ref lC, .ref aM, .ref aP, .int 0, .int 0, .int 0, .int (-1), .int (-1), .int 0, .int 0, .long sm]))]) [0] rfl
  have hD9 := hD.sub (ws' := [(h0, .inr (8, [.int 0, .ref lH, .ref lB, .ref lJ, .ref aR, .ref aL, .int 0, .int 0, .int 0, .ref lC, .ref aM, .ref aP, .int 0, .int 0, .int 0, .int (-1), .int (-1), .int 0, .int 0, .long sm]))]) [0] (by decide) rfl
  have hK9 := hK.sub (tys' := []) [] rfl
  exact W.iret (v := (-1)) hx hb hr (fun t ht hW => ⟨⟨(-1), (), rfl, rfl, ⟨by rw [ht]; exact hP9, va_K.moved hW.alike hK9, hD9⟩⟩, hS.F ht⟩) hS.2.2 dX5_beatsAll_9
set_option maxHeartbeats 4000000 in
set_option maxRecDepth 100000 in
theorem r_readInNow (l : Launch) (D : va_G) (eT : Nat) (h0 : Nat) (lH : Nat) (lB : Nat) (lJ : Nat) (aR : Nat) (aL : Nat) (lC : Nat) (aM : Nat) (aP : Nat) (sm : Int64) (sz : Nat) : Met l yX5_readInNow wsX5_readInNow ({ frames := 0, cells := 0, slots := 0, locals := 0 }) (va_Pc [.ref h0] (pr D eT sz [(h0, .inr (8, [.int 0, .ref lH, .ref lB, .ref lJ, .ref aR, .ref aL, .int 0, .int 0, .int 0, .ref lC, .ref aM, .ref aP, .int 0, .int 0, .int 0, .int (-1), .int (-1), .int 0, .int 0, .long sm]))] [])) (va_Qi (fun (r : Int32) (_ : Unit) => r = (-1)) (fun _ _ => True) (fun q => sz ≤ q)) 0 0 (fun q => sz ≤ q) := by
  refine Met.ofW (cc := cX5_readInNow) (maxL := 5) (ret := (some .int)) (by decide +kernel) rfl ?_
  intro p e s m args below meth c s₁ B hml hv
  obtain ⟨rfl, hsz, hP, hK, hE⟩ := hv
  have hx := B.exec
  have hb := B.bytes
  have hr := B.returns
  have hts := atoms_spec (ws := wsX5_readInNow) B.pre
  have hown : s.vm.findClass RX5 = some m.cls := findClass_of_methodNamed B.named
  have hlocks := B.notSynchronized
  subst hsz
  have hA : ∀ q : Nat, s.heap.size ≤ q → (fun q : Nat => s.heap.size ≤ q) q := fun _ h => h
  have hS : va_S (fun q : Nat => s.heap.size ≤ q) s.heap s.heap [] := va_S.rf
  have hP : va_P D vwCl [(h0, .inr (8, [.int 0, .ref lH, .ref lB, .ref lJ, .ref aR, .ref aL, .int 0, .int 0, .int 0, .ref lC, .ref aM, .ref aP, .int 0, .int 0, .int 0, .int (-1), .int (-1), .int 0, .int 0, .long sm]))] s.heap := hP
  have hl := lv_entry ([.ref h0]) (n := 5) (Nat.le_of_ble_eq_true rfl)
  rw [lg_entry_eq]
  generalize (lg_sl ([.ref h0]) ++ List.replicate (5 - (lg_sl ([.ref h0])).length) Slot.unset).toArray = ls at hl ⊢
  have hl : lv_has ls 5 [(0, .ref h0)] := hl
  refine lv_aload_n hx hb dX5_readInNow_0 rfl (lv_at hl 0 rfl) ?_
  refine va_get (D := D) (ci := 8) (v := .int 0) (C := RX5) (T := TX5) (N := 20) hx hb hts (by decide +kernel) hown hK hP 0 rfl rfl 7 (by decide) (hts (.fieldLink RX5 101 "PrizeHouseModel" "phase" "I") (by decide +kernel)) (fun _ h9 => h9) rfl dX5_readInNow_1 ?_
  refine lv_iconst (v := 1) hx hb dX5_readInNow_4 (by decide) ?_
  refine lv_icmp_eq (tgt := 10) hx hb dX5_readInNow_5 (by decide) (fun h => absurd h (by decide)) (fun _ => ?_)
  refine lv_iconst (v := (-1)) hx hb dX5_readInNow_8 (by decide) ?_
  exact W.iret (v := (-1)) hx hb hr (fun t ht hW => ⟨⟨(-1), (), rfl, rfl, trivial⟩, hS.F ht⟩) hS.2.2 dX5_readInNow_9
set_option maxHeartbeats 4000000 in
set_option maxRecDepth 100000 in
theorem r_readIn (l : Launch) (D : va_G) (eT : Nat) (h0 : Nat) (lH : Nat) (lB : Nat) (lJ : Nat) (aR : Nat) (aL : Nat) (lC : Nat) (aM : Nat) (aP : Nat) (sm : Int64) (sz : Nat) : Met l yX5_readIn wsX5_readIn ({ frames := 1, cells := 0, slots := 0, locals := 24 }) (va_Pc [.ref h0] (pc D eT sz [(h0, .inr (8, [.int 0, .ref lH, .ref lB, .ref lJ, .ref aR, .ref aL, .int 0, .int 0, .int 0, .ref lC, .ref aM, .ref aP, .int 0, .int 0, .int 0, .int (-1), .int (-1), .int 0, .int 0, .long sm]))] [])) (va_Qi (fun (r : Int32) (_ : Unit) => r = (-1)) (fun _ t => va_P D vwCl [(h0, .inr (8, [.int 0, .ref lH, .ref lB, .ref lJ, .ref aR, .ref aL, .int 0, .int 0, .int 0, .ref lC, .ref aM, .ref aP, .int 0, .int 0, .int 0, .int (-1), .int (-1), .int 0, .int 0, .long sm]))] t.heap ∧ va_K D vwCl [] t ∧ va_D (va_A [(h0, .inr (8, [.int 0, .ref lH, .ref lB, .ref lJ, .ref aR, .ref aL, .int 0, .int 0, .int 0, .ref lC, .ref aM, .ref aP, .int 0, .int 0, .int 0, .int (-1), .int (-1), .int 0, .int 0, .long sm]))] sz) [(h0, .inr (8, [.int 0, .ref lH, .ref lB, .ref lJ, .ref aR, .ref aL, .int 0, .int 0, .int 0, .ref lC, .ref aM, .ref aP, .int 0, .int 0, .int 0, .int (-1), .int (-1), .int 0, .int 0, .long sm]))]) (va_A [(h0, .inr (8, [.int 0, .ref lH, .ref lB, .ref lJ, .ref aR, .ref aL, .int 0, .int 0, .int 0, .ref lC, .ref aM, .ref aP, .int 0, .int 0, .int 0, .int (-1), .int (-1), .int 0, .int 0, .long sm]))] sz)) 0 0 (va_A [(h0, .inr (8, [.int 0, .ref lH, .ref lB, .ref lJ, .ref aR, .ref aL, .int 0, .int 0, .int 0, .ref lC, .ref aM, .ref aP, .int 0, .int 0, .int 0, .int (-1), .int (-1), .int 0, .int 0, .long sm]))] sz) := by
  refine Met.ofW (cc := cX5_readIn) (maxL := 1) (ret := (some .int)) (by decide +kernel) rfl ?_
  intro p e s m args below meth c s₁ B hml hv
  obtain ⟨rfl, hsz, hP, hK, hD0, hE⟩ := hv
  have hx := B.exec
  have hb := B.bytes
  have hr := B.returns
  have hts := atoms_spec (ws := wsX5_readIn) B.pre
  have hown : s.vm.findClass RX5 = some m.cls := findClass_of_methodNamed B.named
  have hlocks := B.notSynchronized
  subst hsz
  have hD := hD0.self (sz := s.heap.size)
  generalize hAe : va_A [(h0, .inr (8, [.int 0, .ref lH, .ref lB, .ref lJ, .ref aR, .ref aL, .int 0, .int 0, .int 0, .ref lC, .ref aM, .ref aP, .int 0, .int 0, .int 0, .int (-1), .int (-1), .int 0, .int 0, .long sm]))] s.heap.size = A at hD hE ⊢
  have hA : ∀ q : Nat, s.heap.size ≤ q → A q := fun q h => by rw [← hAe]; exact Or.inr h
  have hS : va_S A s.heap s.heap [] := va_S.rf
  have hP : va_P D vwCl [(h0, .inr (8, [.int 0, .ref lH, .ref lB, .ref lJ, .ref aR, .ref aL, .int 0, .int 0, .int 0, .ref lC, .ref aM, .ref aP, .int 0, .int 0, .int 0, .int (-1), .int (-1), .int 0, .int 0, .long sm]))] s.heap := hP
  have hl := lv_entry ([.ref h0]) (n := 1) (Nat.le_of_ble_eq_true rfl)
  rw [lg_entry_eq]
  generalize (lg_sl ([.ref h0]) ++ List.replicate (1 - (lg_sl ([.ref h0])).length) Slot.unset).toArray = ls at hl ⊢
  have hl : lv_has ls 1 [(0, .ref h0)] := hl
  refine lv_aload_n hx hb dX5_readIn_0 rfl (lv_at hl 0 rfl) ?_
  refine lv_iconst (v := 0) hx hb dX5_readIn_1 (by decide) ?_
  refine va_put (D := D) (ci := 8) (v := .int 0) (C := RX5) (T := TX5) (N := 20) hx hb hts (by decide +kernel) tyX5 tyX5_ok nmX5 hown hK hP hD hS 0 rfl rfl 0 (by decide) (hts (.fieldLink RX5 50 "PrizeHouseModel" "thrown" "I") (by decide +kernel)) (fun _ h9 => h9) rfl (tyX5_ok 0 (by decide)) rfl rfl (Nat.le_of_ble_eq_true rfl) dX5_readIn_2 (fun H locs hP hD hS => ?_)
  have hP : va_P D vwCl [(h0, .inr (8, [.int 0, .ref lH, .ref lB, .ref lJ, .ref aR, .ref aL, .int 0, .int 0, .int 0, .ref lC, .ref aM, .ref aP, .int 0, .int 0, .int 0, .int (-1), .int (-1), .int 0, .int 0, .long sm]))] H := hP
  have hD : va_D A [(h0, .inr (8, [.int 0, .ref lH, .ref lB, .ref lJ, .ref aR, .ref aL, .int 0, .int 0, .int 0, .ref lC, .ref aM, .ref aP, .int 0, .int 0, .int 0, .int (-1), .int (-1), .int 0, .int 0, .long sm]))] := hD
  refine lv_aload_n hx hb dX5_readIn_5 rfl (lv_at hl 0 rfl) ?_
  have hPc := hP.sub (ws' := [(h0, .inr (8, [.int 0, .ref lH, .ref lB, .ref lJ, .ref aR, .ref aL, .int 0, .int 0, .int 0, .ref lC, .ref aM, .ref aP, .int 0, .int 0, .int 0, .int (-1), .int (-1), .int 0, .int 0, .long sm]))]) [0] rfl
  have hKc := hK.sub (tys' := []) [] rfl
  refine va_calli (va_runV (As := []) (rest := []) ⟨hx, hb, hml, hown, hts⟩ (r_readInNow l D eT h0 lH lB lJ aR aL lC aM aP sm H.size ) (cwV 0 hts gX5_readIn_X5_readInNow rfl rfl rfl (by decide +kernel) ⟨Nat.le_of_ble_eq_true rfl, Nat.le_of_ble_eq_true rfl⟩) (pr_v (ci := 8) (q0 := 0) rfl rfl hPc hKc hE hS hA) rfl rfl hl.1 rfl (lv_room (Nat.le_of_ble_eq_true rfl)) dX5_readIn_6 ⟨Nat.le_of_ble_eq_true rfl, Nat.le_of_ble_eq_true rfl⟩) hS (fun q h1 h2 => ro_A h1 h2) (fun q h => ro_F hS hA q h) (fun r u t H1 locs ht hvm hw hB hz1 hk1 hS => ?_)
  have hw : r = (-1) := hw
  rw [hw]
  have hP := ro_P hP hk1
  generalize H1 = H at hP hS ⊢
  have hP9 := hP.sub (ws' := [(h0, .inr (8, [.int 0, .ref lH, .ref lB, .ref lJ, .ref aR, .ref aL, .int 0, .int 0, .int 0, .ref lC, .ref aM, .ref aP, .int 0, .int 0, .int 0, .int (-1), .int (-1), .int 0, .int 0, .long sm]))]) [0] rfl
  have hD9 := hD.sub (ws' := [(h0, .inr (8, [.int 0, .ref lH, .ref lB, .ref lJ, .ref aR, .ref aL, .int 0, .int 0, .int 0, .ref lC, .ref aM, .ref aP, .int 0, .int 0, .int 0, .int (-1), .int (-1), .int 0, .int 0, .long sm]))]) [0] (by decide) rfl
  have hK9 := hK.sub (tys' := []) [] rfl
  exact W.iret (v := (-1)) hx hb hr (fun t ht hW => ⟨⟨(-1), (), rfl, rfl, ⟨by rw [ht]; exact hP9, va_K.moved hW.alike hK9, hD9⟩⟩, hS.F ht⟩) hS.2.2 dX5_readIn_9
set_option maxHeartbeats 4000000 in
set_option maxRecDepth 100000 in
theorem r_missNow (l : Launch) (D : va_G) (eT : Nat) (h0 : Nat) (lH : Nat) (lB : Nat) (lJ : Nat) (aR : Nat) (aL : Nat) (lC : Nat) (aM : Nat) (aP : Nat) (sm : Int64) (p0 : Int32) (sz : Nat) : Met l yX5_missNow wsX5_missNow ({ frames := 1, cells := 0, slots := 0, locals := 20 }) (va_Pc [.ref h0, .int p0] (pr D eT sz [(h0, .inr (8, [.int 0, .ref lH, .ref lB, .ref lJ, .ref aR, .ref aL, .int 0, .int 0, .int 0, .ref lC, .ref aM, .ref aP, .int 0, .int 0, .int 0, .int (-1), .int (-1), .int 0, .int 0, .long sm])), (lB, .inr (2, [.int 0, .ref eT, .int 0]))] [])) (va_Qi (fun (r : Int32) (_ : Unit) => r = 0) (fun _ _ => True) (fun q => sz ≤ q)) 0 0 (fun q => sz ≤ q) := by
  refine Met.ofW (cc := cX5_missNow) (maxL := 4) (ret := (some .int)) (by decide +kernel) rfl ?_
  intro p e s m args below meth c s₁ B hml hv
  obtain ⟨rfl, hsz, hP, hK, hE⟩ := hv
  have hx := B.exec
  have hb := B.bytes
  have hr := B.returns
  have hts := atoms_spec (ws := wsX5_missNow) B.pre
  have hown : s.vm.findClass RX5 = some m.cls := findClass_of_methodNamed B.named
  have hlocks := B.notSynchronized
  subst hsz
  have hA : ∀ q : Nat, s.heap.size ≤ q → (fun q : Nat => s.heap.size ≤ q) q := fun _ h => h
  have hS : va_S (fun q : Nat => s.heap.size ≤ q) s.heap s.heap [] := va_S.rf
  have hP : va_P D vwCl [(h0, .inr (8, [.int 0, .ref lH, .ref lB, .ref lJ, .ref aR, .ref aL, .int 0, .int 0, .int 0, .ref lC, .ref aM, .ref aP, .int 0, .int 0, .int 0, .int (-1), .int (-1), .int 0, .int 0, .long sm])), (lB, .inr (2, [.int 0, .ref eT, .int 0]))] s.heap := hP
  have hl := lv_entry ([.ref h0, .int p0]) (n := 4) (Nat.le_of_ble_eq_true rfl)
  rw [lg_entry_eq]
  generalize (lg_sl ([.ref h0, .int p0]) ++ List.replicate (4 - (lg_sl ([.ref h0, .int p0])).length) Slot.unset).toArray = ls at hl ⊢
  have hl : lv_has ls 4 [(0, .ref h0), (1, .int p0)] := hl
  refine lv_iconst (v := 0) hx hb dX5_missNow_0 (by decide) ?_
  refine lv_istore_n (lv' := [(2, .int 0), (0, .ref h0), (1, .int p0)]) hx hb dX5_missNow_1 rfl hl (by decide) rfl (fun ls hl => ?_)
  refine lv_iconst (v := 0) hx hb dX5_missNow_2 (by decide) ?_
  refine lv_istore_n (lv' := [(3, .int 0), (2, .int 0), (0, .ref h0), (1, .int p0)]) hx hb dX5_missNow_3 rfl hl (by decide) rfl (fun ls hl => ?_)
  refine lv_iload_n hx hb dX5_missNow_4 rfl (lv_at hl 0 rfl) ?_
  refine lv_aload_n hx hb dX5_missNow_5 rfl (lv_at hl 2 rfl) ?_
  refine va_get (D := D) (ci := 8) (v := .ref lB) (C := RX5) (T := TX5) (N := 20) hx hb hts (by decide +kernel) hown hK hP 0 rfl rfl 2 (by decide) (hts (.fieldLink RX5 16 "PrizeHouseModel" "books" "Ljava/util/ArrayList;") (by decide +kernel)) (fun _ h9 => h9) rfl dX5_missNow_6 ?_
  have hPc := hP.sub (ws' := [(lB, .inr (2, [.int 0, .ref eT, .int 0]))]) [1] rfl
  have hKc := hK.sub (tys' := []) [] rfl
  refine va_calli (va_runV (As := []) (rest := [.int 0]) ⟨hx, hb, hml, hown, hts⟩ (k_size l D eT lB eT 0 0 s.heap.size ) (cwV 0 hts gX5_missNow_Jx4a65c_size_8abf5 rfl rfl rfl (by decide +kernel) ⟨Nat.le_of_ble_eq_true rfl, Nat.le_of_ble_eq_true rfl⟩) (pr_v (ci := 2) (q0 := 0) rfl rfl hPc hKc hE hS hA) rfl rfl hl.1 rfl (lv_room (Nat.le_of_ble_eq_true rfl)) dX5_missNow_9 ⟨Nat.le_of_ble_eq_true rfl, Nat.le_of_ble_eq_true rfl⟩) hS (fun q h1 h2 => ro_A h1 h2) (fun q h => ro_F hS hA q h) (fun r u t H1 locs ht hvm hw hB hz1 hk1 hS => ?_)
  have hw : r = 0 := hw
  rw [hw]
  have hP := ro_P hP hk1
  generalize H1 = H at hP hS ⊢
  refine lv_icmp_ge (tgt := 50) hx hb dX5_missNow_12 (by decide) (fun _ => ?_) (fun h => absurd (by decide) h)
  refine lv_iload_n hx hb dX5_missNow_50 rfl (lv_at hl 1 rfl) ?_
  exact W.iret (v := 0) hx hb hr (fun t ht hW => ⟨⟨0, (), rfl, rfl, trivial⟩, hS.F ht⟩) hS.2.2 dX5_missNow_51
set_option maxHeartbeats 4000000 in
set_option maxRecDepth 100000 in
theorem r_wouldMiss (l : Launch) (D : va_G) (eT : Nat) (h0 : Nat) (lH : Nat) (lB : Nat) (lJ : Nat) (aR : Nat) (aL : Nat) (lC : Nat) (aM : Nat) (aP : Nat) (sm : Int64) (p0 : Int32) (sz : Nat) (h1 : 1 ≤ p0) (h2 : p0 ≤ 60) : Met l yX5_wouldMiss wsX5_wouldMiss ({ frames := 2, cells := 0, slots := 0, locals := 43 }) (va_Pc [.ref h0, .int p0] (pc D eT sz [(h0, .inr (8, [.int 0, .ref lH, .ref lB, .ref lJ, .ref aR, .ref aL, .int 0, .int 0, .int 0, .ref lC, .ref aM, .ref aP, .int 0, .int 0, .int 0, .int (-1), .int (-1), .int 0, .int 0, .long sm])), (lB, .inr (2, [.int 0, .ref eT, .int 0]))] [])) (va_Qi (fun (r : Int32) (_ : Unit) => r = 0) (fun _ t => va_P D vwCl [(h0, .inr (8, [.int 0, .ref lH, .ref lB, .ref lJ, .ref aR, .ref aL, .int 0, .int 0, .int 0, .ref lC, .ref aM, .ref aP, .int 0, .int 0, .int 0, .int (-1), .int (-1), .int 0, .int 0, .long sm]))] t.heap ∧ va_K D vwCl [] t ∧ va_D (va_A [(h0, .inr (8, [.int 0, .ref lH, .ref lB, .ref lJ, .ref aR, .ref aL, .int 0, .int 0, .int 0, .ref lC, .ref aM, .ref aP, .int 0, .int 0, .int 0, .int (-1), .int (-1), .int 0, .int 0, .long sm])), (lB, .inr (2, [.int 0, .ref eT, .int 0]))] sz) [(h0, .inr (8, [.int 0, .ref lH, .ref lB, .ref lJ, .ref aR, .ref aL, .int 0, .int 0, .int 0, .ref lC, .ref aM, .ref aP, .int 0, .int 0, .int 0, .int (-1), .int (-1), .int 0, .int 0, .long sm]))]) (va_A [(h0, .inr (8, [.int 0, .ref lH, .ref lB, .ref lJ, .ref aR, .ref aL, .int 0, .int 0, .int 0, .ref lC, .ref aM, .ref aP, .int 0, .int 0, .int 0, .int (-1), .int (-1), .int 0, .int 0, .long sm])), (lB, .inr (2, [.int 0, .ref eT, .int 0]))] sz)) 0 0 (va_A [(h0, .inr (8, [.int 0, .ref lH, .ref lB, .ref lJ, .ref aR, .ref aL, .int 0, .int 0, .int 0, .ref lC, .ref aM, .ref aP, .int 0, .int 0, .int 0, .int (-1), .int (-1), .int 0, .int 0, .long sm])), (lB, .inr (2, [.int 0, .ref eT, .int 0]))] sz) := by
  refine Met.ofW (cc := cX5_wouldMiss) (maxL := 2) (ret := (some .int)) (by decide +kernel) rfl ?_
  intro p e s m args below meth c s₁ B hml hv
  obtain ⟨rfl, hsz, hP, hK, hD0, hE⟩ := hv
  have hx := B.exec
  have hb := B.bytes
  have hr := B.returns
  have hts := atoms_spec (ws := wsX5_wouldMiss) B.pre
  have hown : s.vm.findClass RX5 = some m.cls := findClass_of_methodNamed B.named
  have hlocks := B.notSynchronized
  subst hsz
  have hD := hD0.self (sz := s.heap.size)
  generalize hAe : va_A [(h0, .inr (8, [.int 0, .ref lH, .ref lB, .ref lJ, .ref aR, .ref aL, .int 0, .int 0, .int 0, .ref lC, .ref aM, .ref aP, .int 0, .int 0, .int 0, .int (-1), .int (-1), .int 0, .int 0, .long sm])), (lB, .inr (2, [.int 0, .ref eT, .int 0]))] s.heap.size = A at hD hE ⊢
  have hA : ∀ q : Nat, s.heap.size ≤ q → A q := fun q h => by rw [← hAe]; exact Or.inr h
  have hS : va_S A s.heap s.heap [] := va_S.rf
  have hP : va_P D vwCl [(h0, .inr (8, [.int 0, .ref lH, .ref lB, .ref lJ, .ref aR, .ref aL, .int 0, .int 0, .int 0, .ref lC, .ref aM, .ref aP, .int 0, .int 0, .int 0, .int (-1), .int (-1), .int 0, .int 0, .long sm])), (lB, .inr (2, [.int 0, .ref eT, .int 0]))] s.heap := hP
  have hl := lv_entry ([.ref h0, .int p0]) (n := 2) (Nat.le_of_ble_eq_true rfl)
  rw [lg_entry_eq]
  generalize (lg_sl ([.ref h0, .int p0]) ++ List.replicate (2 - (lg_sl ([.ref h0, .int p0])).length) Slot.unset).toArray = ls at hl ⊢
  have hl : lv_has ls 2 [(0, .ref h0), (1, .int p0)] := hl
  refine lv_aload_n hx hb dX5_wouldMiss_0 rfl (lv_at hl 0 rfl) ?_
  refine lv_iconst (v := 0) hx hb dX5_wouldMiss_1 (by decide) ?_
  refine va_put (D := D) (ci := 8) (v := .int 0) (C := RX5) (T := TX5) (N := 20) hx hb hts (by decide +kernel) tyX5 tyX5_ok nmX5 hown hK hP hD hS 0 rfl rfl 0 (by decide) (hts (.fieldLink RX5 50 "PrizeHouseModel" "thrown" "I") (by decide +kernel)) (fun _ h9 => h9) rfl (tyX5_ok 0 (by decide)) rfl rfl (Nat.le_of_ble_eq_true rfl) dX5_wouldMiss_2 (fun H locs hP hD hS => ?_)
  have hP : va_P D vwCl [(h0, .inr (8, [.int 0, .ref lH, .ref lB, .ref lJ, .ref aR, .ref aL, .int 0, .int 0, .int 0, .ref lC, .ref aM, .ref aP, .int 0, .int 0, .int 0, .int (-1), .int (-1), .int 0, .int 0, .long sm])), (lB, .inr (2, [.int 0, .ref eT, .int 0]))] H := hP
  have hD : va_D A [(h0, .inr (8, [.int 0, .ref lH, .ref lB, .ref lJ, .ref aR, .ref aL, .int 0, .int 0, .int 0, .ref lC, .ref aM, .ref aP, .int 0, .int 0, .int 0, .int (-1), .int (-1), .int 0, .int 0, .long sm])), (lB, .inr (2, [.int 0, .ref eT, .int 0]))] := hD
  refine lv_iload_n hx hb dX5_wouldMiss_5 rfl (lv_at hl 1 rfl) ?_
  refine lv_iconst (v := 1) hx hb dX5_wouldMiss_6 (by decide) ?_
  refine lv_bipush (v := 60) hx hb dX5_wouldMiss_7 (by decide) ?_
  have hPc := hP.sub (ws' := []) [] rfl
  have hKc := hK.sub (tys' := []) [] rfl
  refine va_calli (va_runS (As := [.int p0, .int 1, .int 60]) (rest := []) ⟨hx, hb, hml, hown, hts⟩ (k_is_t l D eT p0 1 60 H.size h1 h2) (va_cwS 3 hts gX5_wouldMiss_X5_is rfl rfl rfl (by decide +kernel) ⟨Nat.le_of_ble_eq_true rfl, Nat.le_of_ble_eq_true rfl⟩) (pr_s hPc hKc hE hS hA) rfl rfl hl.1 rfl (lv_room (Nat.le_of_ble_eq_true rfl)) dX5_wouldMiss_9 ⟨Nat.le_of_ble_eq_true rfl, Nat.le_of_ble_eq_true rfl⟩) hS (fun q h1 h2 => ro_A h1 h2) (fun q h => ro_F hS hA q h) (fun r u t H1 locs ht hvm hw hB hz1 hk1 hS => ?_)
  have hw : r = 1 := hw
  rw [hw]
  have hP := ro_P hP hk1
  generalize H1 = H at hP hS ⊢
  refine lv_if_eq (tgt := 23) hx hb dX5_wouldMiss_12 (by decide) (fun h => absurd h (by decide)) (fun _ => ?_)
  refine lv_aload_n hx hb dX5_wouldMiss_15 rfl (lv_at hl 0 rfl) ?_
  refine lv_iload_n hx hb dX5_wouldMiss_16 rfl (lv_at hl 1 rfl) ?_
  have hPc := hP.sub (ws' := [(h0, .inr (8, [.int 0, .ref lH, .ref lB, .ref lJ, .ref aR, .ref aL, .int 0, .int 0, .int 0, .ref lC, .ref aM, .ref aP, .int 0, .int 0, .int 0, .int (-1), .int (-1), .int 0, .int 0, .long sm])), (lB, .inr (2, [.int 0, .ref eT, .int 0]))]) [0, 1] rfl
  have hKc := hK.sub (tys' := []) [] rfl
  refine va_calli (va_runV (As := [.int p0]) (rest := []) ⟨hx, hb, hml, hown, hts⟩ (r_missNow l D eT h0 lH lB lJ aR aL lC aM aP sm p0 H.size ) (cwV 1 hts gX5_wouldMiss_X5_missNow rfl rfl rfl (by decide +kernel) ⟨Nat.le_of_ble_eq_true rfl, Nat.le_of_ble_eq_true rfl⟩) (pr_v (ci := 8) (q0 := 0) rfl rfl hPc hKc hE hS hA) rfl rfl hl.1 rfl (lv_room (Nat.le_of_ble_eq_true rfl)) dX5_wouldMiss_17 ⟨Nat.le_of_ble_eq_true rfl, Nat.le_of_ble_eq_true rfl⟩) hS (fun q h1 h2 => ro_A h1 h2) (fun q h => ro_F hS hA q h) (fun r u t H1 locs ht hvm hw hB hz1 hk1 hS => ?_)
  have hw : r = 0 := hw
  rw [hw]
  have hP := ro_P hP hk1
  generalize H1 = H at hP hS ⊢
  refine lv_goto (tgt := 28) hx hb dX5_wouldMiss_20 (by decide) ?_
  have hP9 := hP.sub (ws' := [(h0, .inr (8, [.int 0, .ref lH, .ref lB, .ref lJ, .ref aR, .ref aL, .int 0, .int 0, .int 0, .ref lC, .ref aM, .ref aP, .int 0, .int 0, .int 0, .int (-1), .int (-1), .int 0, .int 0, .long sm]))]) [0] rfl
  have hD9 := hD.sub (ws' := [(h0, .inr (8, [.int 0, .ref lH, .ref lB, .ref lJ, .ref aR, .ref aL, .int 0, .int 0, .int 0, .ref lC, .ref aM, .ref aP, .int 0, .int 0, .int 0, .int (-1), .int (-1), .int 0, .int 0, .long sm]))]) [0] (by decide) rfl
  have hK9 := hK.sub (tys' := []) [] rfl
  exact W.iret (v := 0) hx hb hr (fun t ht hW => ⟨⟨0, (), rfl, rfl, ⟨by rw [ht]; exact hP9, va_K.moved hW.alike hK9, hD9⟩⟩, hS.F ht⟩) hS.2.2 dX5_wouldMiss_28
set_option maxHeartbeats 4000000 in
set_option maxRecDepth 100000 in
theorem r_entered (l : Launch) (D : va_G) (eT : Nat) (h0 : Nat) (lH : Nat) (lB : Nat) (lJ : Nat) (aR : Nat) (aL : Nat) (lC : Nat) (aM : Nat) (aP : Nat) (sm : Int64) (sz : Nat) : Met l yX5_entered wsX5_entered ({ frames := 1, cells := 0, slots := 0, locals := 20 }) (va_Pc [.ref h0] (pr D eT sz [(h0, .inr (8, [.int 0, .ref lH, .ref lB, .ref lJ, .ref aR, .ref aL, .int 0, .int 0, .int 0, .ref lC, .ref aM, .ref aP, .int 0, .int 0, .int 0, .int (-1), .int (-1), .int 0, .int 0, .long sm])), (lB, .inr (2, [.int 0, .ref eT, .int 0]))] [])) (va_Qi (fun (r : Int32) (_ : Unit) => r = 0) (fun _ _ => True) (fun q => sz ≤ q)) 0 0 (fun q => sz ≤ q) := by
  refine Met.ofW (cc := cX5_entered) (maxL := 3) (ret := (some .int)) (by decide +kernel) rfl ?_
  intro p e s m args below meth c s₁ B hml hv
  obtain ⟨rfl, hsz, hP, hK, hE⟩ := hv
  have hx := B.exec
  have hb := B.bytes
  have hr := B.returns
  have hts := atoms_spec (ws := wsX5_entered) B.pre
  have hown : s.vm.findClass RX5 = some m.cls := findClass_of_methodNamed B.named
  have hlocks := B.notSynchronized
  subst hsz
  have hA : ∀ q : Nat, s.heap.size ≤ q → (fun q : Nat => s.heap.size ≤ q) q := fun _ h => h
  have hS : va_S (fun q : Nat => s.heap.size ≤ q) s.heap s.heap [] := va_S.rf
  have hP : va_P D vwCl [(h0, .inr (8, [.int 0, .ref lH, .ref lB, .ref lJ, .ref aR, .ref aL, .int 0, .int 0, .int 0, .ref lC, .ref aM, .ref aP, .int 0, .int 0, .int 0, .int (-1), .int (-1), .int 0, .int 0, .long sm])), (lB, .inr (2, [.int 0, .ref eT, .int 0]))] s.heap := hP
  have hl := lv_entry ([.ref h0]) (n := 3) (Nat.le_of_ble_eq_true rfl)
  rw [lg_entry_eq]
  generalize (lg_sl ([.ref h0]) ++ List.replicate (3 - (lg_sl ([.ref h0])).length) Slot.unset).toArray = ls at hl ⊢
  have hl : lv_has ls 3 [(0, .ref h0)] := hl
  refine lv_iconst (v := 0) hx hb dX5_entered_0 (by decide) ?_
  refine lv_istore_n (lv' := [(1, .int 0), (0, .ref h0)]) hx hb dX5_entered_1 rfl hl (by decide) rfl (fun ls hl => ?_)
  refine lv_iconst (v := 0) hx hb dX5_entered_2 (by decide) ?_
  refine lv_istore_n (lv' := [(2, .int 0), (1, .int 0), (0, .ref h0)]) hx hb dX5_entered_3 rfl hl (by decide) rfl (fun ls hl => ?_)
  refine lv_iload_n hx hb dX5_entered_4 rfl (lv_at hl 0 rfl) ?_
  refine lv_aload_n hx hb dX5_entered_5 rfl (lv_at hl 2 rfl) ?_
  refine va_get (D := D) (ci := 8) (v := .ref lB) (C := RX5) (T := TX5) (N := 20) hx hb hts (by decide +kernel) hown hK hP 0 rfl rfl 2 (by decide) (hts (.fieldLink RX5 16 "PrizeHouseModel" "books" "Ljava/util/ArrayList;") (by decide +kernel)) (fun _ h9 => h9) rfl dX5_entered_6 ?_
  have hPc := hP.sub (ws' := [(lB, .inr (2, [.int 0, .ref eT, .int 0]))]) [1] rfl
  have hKc := hK.sub (tys' := []) [] rfl
  refine va_calli (va_runV (As := []) (rest := [.int 0]) ⟨hx, hb, hml, hown, hts⟩ (k_size l D eT lB eT 0 0 s.heap.size ) (cwV 0 hts gX5_entered_Jx4a65c_size_8abf5 rfl rfl rfl (by decide +kernel) ⟨Nat.le_of_ble_eq_true rfl, Nat.le_of_ble_eq_true rfl⟩) (pr_v (ci := 2) (q0 := 0) rfl rfl hPc hKc hE hS hA) rfl rfl hl.1 rfl (lv_room (Nat.le_of_ble_eq_true rfl)) dX5_entered_9 ⟨Nat.le_of_ble_eq_true rfl, Nat.le_of_ble_eq_true rfl⟩) hS (fun q h1 h2 => ro_A h1 h2) (fun q h => ro_F hS hA q h) (fun r u t H1 locs ht hvm hw hB hz1 hk1 hS => ?_)
  have hw : r = 0 := hw
  rw [hw]
  have hP := ro_P hP hk1
  generalize H1 = H at hP hS ⊢
  refine lv_icmp_ge (tgt := 37) hx hb dX5_entered_12 (by decide) (fun _ => ?_) (fun h => absurd (by decide) h)
  refine lv_iload_n hx hb dX5_entered_37 rfl (lv_at hl 1 rfl) ?_
  exact W.iret (v := 0) hx hb hr (fun t ht hW => ⟨⟨0, (), rfl, rfl, trivial⟩, hS.F ht⟩) hS.2.2 dX5_entered_38
set_option maxHeartbeats 4000000 in
set_option maxRecDepth 100000 in
theorem r_manyNow (l : Launch) (D : va_G) (eT : Nat) (h0 : Nat) (lH : Nat) (lB : Nat) (lJ : Nat) (aR : Nat) (aL : Nat) (lC : Nat) (aM : Nat) (aP : Nat) (sm : Int64) (cI : ClassId) (fR : Nat → Int32) (p0 : Int32) (sz : Nat) (hR : fR 3 = 10) (h1 : 0 ≤ p0) (h2 : p0 ≤ 14) : Met l yX5_manyNow wsX5_manyNow ({ frames := 3, cells := 2, slots := 19, locals := 53 }) (va_Pc [.ref h0, .int p0] (pc D eT sz [(h0, .inr (8, [.int 0, .ref lH, .ref lB, .ref lJ, .ref aR, .ref aL, .int 0, .int 0, .int 0, .ref lC, .ref aM, .ref aP, .int 0, .int 0, .int 0, .int (-1), .int (-1), .int 0, .int 0, .long sm])), (lB, .inr (2, [.int 0, .ref eT, .int 0])), (lH, .inr (2, [.int 0, .ref eT, .int 0])), (lJ, .inr (2, [.int 0, .ref eT, .int 0])), (aR, .inl (cI, 4, .inl fR))] [(cI, .int)])) (va_Qi (fun (r : Int32) (_ : Unit) => r = (mt p0)) (fun _ t => va_P D vwCl [(h0, .inr (8, [.int 0, .ref lH, .ref lB, .ref lJ, .ref aR, .ref aL, .int 0, .int 0, .int 0, .ref lC, .ref aM, .ref aP, .int 0, .int 0, .int 0, .int (-1), .int (-1), .int 0, .int 0, .long sm])), (lB, .inr (2, [.int 0, .ref eT, .int 0])), (lH, .inr (2, [.int 0, .ref eT, .int 0])), (lJ, .inr (2, [.int 0, .ref eT, .int 0])), (aR, .inl (cI, 4, .inl fR))] t.heap ∧ va_K D vwCl [] t ∧ va_D (va_A [(h0, .inr (8, [.int 0, .ref lH, .ref lB, .ref lJ, .ref aR, .ref aL, .int 0, .int 0, .int 0, .ref lC, .ref aM, .ref aP, .int 0, .int 0, .int 0, .int (-1), .int (-1), .int 0, .int 0, .long sm])), (lB, .inr (2, [.int 0, .ref eT, .int 0])), (lH, .inr (2, [.int 0, .ref eT, .int 0])), (lJ, .inr (2, [.int 0, .ref eT, .int 0])), (aR, .inl (cI, 4, .inl fR))] sz) [(h0, .inr (8, [.int 0, .ref lH, .ref lB, .ref lJ, .ref aR, .ref aL, .int 0, .int 0, .int 0, .ref lC, .ref aM, .ref aP, .int 0, .int 0, .int 0, .int (-1), .int (-1), .int 0, .int 0, .long sm])), (lB, .inr (2, [.int 0, .ref eT, .int 0])), (lH, .inr (2, [.int 0, .ref eT, .int 0])), (lJ, .inr (2, [.int 0, .ref eT, .int 0])), (aR, .inl (cI, 4, .inl fR))]) (va_A [(h0, .inr (8, [.int 0, .ref lH, .ref lB, .ref lJ, .ref aR, .ref aL, .int 0, .int 0, .int 0, .ref lC, .ref aM, .ref aP, .int 0, .int 0, .int 0, .int (-1), .int (-1), .int 0, .int 0, .long sm])), (lB, .inr (2, [.int 0, .ref eT, .int 0])), (lH, .inr (2, [.int 0, .ref eT, .int 0])), (lJ, .inr (2, [.int 0, .ref eT, .int 0])), (aR, .inl (cI, 4, .inl fR))] sz)) 2 19 (va_A [(h0, .inr (8, [.int 0, .ref lH, .ref lB, .ref lJ, .ref aR, .ref aL, .int 0, .int 0, .int 0, .ref lC, .ref aM, .ref aP, .int 0, .int 0, .int 0, .int (-1), .int (-1), .int 0, .int 0, .long sm])), (lB, .inr (2, [.int 0, .ref eT, .int 0])), (lH, .inr (2, [.int 0, .ref eT, .int 0])), (lJ, .inr (2, [.int 0, .ref eT, .int 0])), (aR, .inl (cI, 4, .inl fR))] sz) := by
  refine Met.ofW (cc := cX5_manyNow) (maxL := 6) (ret := (some .int)) (by decide +kernel) rfl ?_
  intro p e s m args below meth c s₁ B hml hv
  obtain ⟨rfl, hsz, hP, hK, hD0, hE⟩ := hv
  have hx := B.exec
  have hb := B.bytes
  have hr := B.returns
  have hts := atoms_spec (ws := wsX5_manyNow) B.pre
  have hown : s.vm.findClass RX5 = some m.cls := findClass_of_methodNamed B.named
  have hlocks := B.notSynchronized
  subst hsz
  have hD := hD0.self (sz := s.heap.size)
  generalize hAe : va_A [(h0, .inr (8, [.int 0, .ref lH, .ref lB, .ref lJ, .ref aR, .ref aL, .int 0, .int 0, .int 0, .ref lC, .ref aM, .ref aP, .int 0, .int 0, .int 0, .int (-1), .int (-1), .int 0, .int 0, .long sm])), (lB, .inr (2, [.int 0, .ref eT, .int 0])), (lH, .inr (2, [.int 0, .ref eT, .int 0])), (lJ, .inr (2, [.int 0, .ref eT, .int 0])), (aR, .inl (cI, 4, .inl fR))] s.heap.size = A at hD hE ⊢
  have hA : ∀ q : Nat, s.heap.size ≤ q → A q := fun q h => by rw [← hAe]; exact Or.inr h
  have hS : va_S A s.heap s.heap [] := va_S.rf
  have hP : va_P D vwCl [(h0, .inr (8, [.int 0, .ref lH, .ref lB, .ref lJ, .ref aR, .ref aL, .int 0, .int 0, .int 0, .ref lC, .ref aM, .ref aP, .int 0, .int 0, .int 0, .int (-1), .int (-1), .int 0, .int 0, .long sm])), (lB, .inr (2, [.int 0, .ref eT, .int 0])), (lH, .inr (2, [.int 0, .ref eT, .int 0])), (lJ, .inr (2, [.int 0, .ref eT, .int 0])), (aR, .inl (cI, 4, .inl fR))] s.heap := hP
  have hl := lv_entry ([.ref h0, .int p0]) (n := 6) (Nat.le_of_ble_eq_true rfl)
  rw [lg_entry_eq]
  generalize (lg_sl ([.ref h0, .int p0]) ++ List.replicate (6 - (lg_sl ([.ref h0, .int p0])).length) Slot.unset).toArray = ls at hl ⊢
  have hl : lv_has ls 6 [(0, .ref h0), (1, .int p0)] := hl
  refine lv_iconst (v := 0) hx hb dX5_manyNow_0 (by decide) ?_
  refine lv_istore_n (lv' := [(2, .int 0), (0, .ref h0), (1, .int p0)]) hx hb dX5_manyNow_1 rfl hl (by decide) rfl (fun ls hl => ?_)
  refine lv_iconst (v := 0) hx hb dX5_manyNow_2 (by decide) ?_
  refine lv_istore_n (lv' := [(3, .int 0), (2, .int 0), (0, .ref h0), (1, .int p0)]) hx hb dX5_manyNow_3 rfl hl (by decide) rfl (fun ls hl => ?_)
  refine lv_aload_n hx hb dX5_manyNow_4 rfl (lv_at hl 2 rfl) ?_
  refine va_get (D := D) (ci := 8) (v := .ref lB) (C := RX5) (T := TX5) (N := 20) hx hb hts (by decide +kernel) hown hK hP 0 rfl rfl 2 (by decide) (hts (.fieldLink RX5 16 "PrizeHouseModel" "books" "Ljava/util/ArrayList;") (by decide +kernel)) (fun _ h9 => h9) rfl dX5_manyNow_5 ?_
  have hPc := hP.sub (ws' := [(lB, .inr (2, [.int 0, .ref eT, .int 0]))]) [1] rfl
  have hKc := hK.sub (tys' := []) [] rfl
  have hDc := hD.sub (ws' := [(lB, .inr (2, [.int 0, .ref eT, .int 0]))]) [1] (by decide) rfl
  have hFc := va_free (wc := [(lB, .inr (2, [.int 0, .ref eT, .int 0]))]) hD hS hA [1] rfl
  refine va_callr (va_runV (As := []) (rest := []) ⟨hx, hb, hml, hown, hts⟩ (k_iter l D eT lB s.heap.size ) (cwV 0 hts gX5_manyNow_Jx4a65c_iterator_32c93 rfl rfl rfl (by decide +kernel) ⟨Nat.le_of_ble_eq_true rfl, Nat.le_of_ble_eq_true rfl⟩) (pc_v (ci := 2) (q0 := 0) rfl rfl hPc hDc hKc hE hS hFc) rfl rfl hl.1 rfl (lv_room (Nat.le_of_ble_eq_true rfl)) dX5_manyNow_8 ⟨Nat.le_of_ble_eq_true rfl, Nat.le_of_ble_eq_true rfl⟩) hS (fun q _ h => hFc q h) hFc (fun u ra t H1 locs ht hvm hw hB hz1 hk1 hS => ?_)
  obtain ⟨ra_1, rfl⟩ : ∃ z, z = ra := ⟨_, rfl⟩
  obtain ⟨hP1, hK1, hD1⟩ := hB
  rw [ht] at hP1
  have hK1 := va_K.moved hvm.symm hK1
  obtain ⟨hP, hD⟩ := va_join (wr := [(h0, .inr (8, [.int 0, .ref lH, .ref lB, .ref lJ, .ref aR, .ref aL, .int 0, .int 0, .int 0, .ref lC, .ref aM, .ref aP, .int 0, .int 0, .int 0, .int (-1), .int (-1), .int 0, .int 0, .long sm])), (lH, .inr (2, [.int 0, .ref eT, .int 0])), (lJ, .inr (2, [.int 0, .ref eT, .int 0])), (aR, .inl (cI, 4, .inl fR))]) (w1 := [(lB, .inr (2, [.int 0, .ref eT, .int 0])), (ra_1, .inr (1, [.int 0, .int (-1), .int 0, .ref lB]))]) hP hD [1] [0, 2, 3, 4] rfl rfl (by decide) (by decide) hk1 hFc hP1 hD1
  generalize H1 = H at hP hS ⊢
  have hP : va_P D vwCl [(h0, .inr (8, [.int 0, .ref lH, .ref lB, .ref lJ, .ref aR, .ref aL, .int 0, .int 0, .int 0, .ref lC, .ref aM, .ref aP, .int 0, .int 0, .int 0, .int (-1), .int (-1), .int 0, .int 0, .long sm])), (lH, .inr (2, [.int 0, .ref eT, .int 0])), (lJ, .inr (2, [.int 0, .ref eT, .int 0])), (aR, .inl (cI, 4, .inl fR)), (lB, .inr (2, [.int 0, .ref eT, .int 0])), (ra_1, .inr (1, [.int 0, .int (-1), .int 0, .ref lB]))] H := hP
  have hD : va_D A [(h0, .inr (8, [.int 0, .ref lH, .ref lB, .ref lJ, .ref aR, .ref aL, .int 0, .int 0, .int 0, .ref lC, .ref aM, .ref aP, .int 0, .int 0, .int 0, .int (-1), .int (-1), .int 0, .int 0, .long sm])), (lH, .inr (2, [.int 0, .ref eT, .int 0])), (lJ, .inr (2, [.int 0, .ref eT, .int 0])), (aR, .inl (cI, 4, .inl fR)), (lB, .inr (2, [.int 0, .ref eT, .int 0])), (ra_1, .inr (1, [.int 0, .int (-1), .int 0, .ref lB]))] := hD
  refine W.widen (k := 1) (n := 4) (Nat.le_of_ble_eq_true rfl) (Nat.le_of_ble_eq_true rfl) ?_
  refine lv_astore (lv' := [(4, .ref ra_1), (3, .int 0), (2, .int 0), (0, .ref h0), (1, .int p0)]) hx hb dX5_manyNow_11 hl (by decide) rfl (fun ls hl => ?_)
  refine lv_aload hx hb dX5_manyNow_13 (lv_at hl 0 rfl) ?_
  have hPc := hP.sub (ws' := [(ra_1, .inr (1, [.int 0, .int (-1), .int 0, .ref lB])), (lB, .inr (2, [.int 0, .ref eT, .int 0]))]) [5, 4] rfl
  have hKc := hK.sub (tys' := []) [] rfl
  refine va_callFi (va_runF (As := []) (rest := []) (hK.1 1 _ rfl).2 ⟨hx, hb, hml, hown, hts⟩ (k_hasNext l D eT ra_1 lB H.size ) (va_cwF 0 hts gX5_manyNow_Jx35411_hasNext_aae02_f65Jx35411 rfl rfl rfl hE.2.2.1.1 (by decide +kernel) ⟨Nat.le_of_ble_eq_true rfl, Nat.le_of_ble_eq_true rfl⟩) (pr_v (ci := 1) (q0 := 0) rfl rfl hPc hKc hE hS hA) rfl rfl hl.1 rfl (lv_room (Nat.le_of_ble_eq_true rfl)) dX5_manyNow_15 ⟨Nat.le_of_ble_eq_true rfl, Nat.le_of_ble_eq_true rfl⟩) hS (fun q h1 h2 => ro_A h1 h2) (fun q h => ro_F hS hA q h) (fun r u t H1 locs ht hvm hw hB hz1 hk1 hS => ?_)
  have hw : r = 0 := hw
  rw [hw]
  have hP := ro_P hP hk1
  generalize H1 = H at hP hS ⊢
  refine lv_if_eq (tgt := 54) hx hb dX5_manyNow_20 (by decide) (fun _ => ?_) (fun h => absurd (by decide) h)
  refine lv_bipush (v := 15) hx hb dX5_manyNow_54 (by decide) ?_
  refine va_newa (atype := .int) (ty := .int) (N' := 15) (a0 := (15, (.inl (fun _ => 0)))) hx hb (hts (.arrayClass .int) (by decide +kernel)) rfl hK hP hD hS hA (fun _ => rfl) (by decide) (by decide) (Nat.le_of_ble_eq_true rfl) (Nat.le_of_ble_eq_true rfl) (Nat.le_of_ble_eq_true rfl) dX5_manyNow_56 (fun q_2 cA_3 H hK hP hD hS => ?_)
  have hK : va_K D vwCl [(cI, .int), (cA_3, .int)] s := hK
  have hP : va_P D vwCl [(h0, .inr (8, [.int 0, .ref lH, .ref lB, .ref lJ, .ref aR, .ref aL, .int 0, .int 0, .int 0, .ref lC, .ref aM, .ref aP, .int 0, .int 0, .int 0, .int (-1), .int (-1), .int 0, .int 0, .long sm])), (lH, .inr (2, [.int 0, .ref eT, .int 0])), (lJ, .inr (2, [.int 0, .ref eT, .int 0])), (aR, .inl (cI, 4, .inl fR)), (lB, .inr (2, [.int 0, .ref eT, .int 0])), (ra_1, .inr (1, [.int 0, .int (-1), .int 0, .ref lB])), (q_2, .inl (cA_3, 15, .inl (fun _ => 0)))] H := hP
  have hD : va_D A [(h0, .inr (8, [.int 0, .ref lH, .ref lB, .ref lJ, .ref aR, .ref aL, .int 0, .int 0, .int 0, .ref lC, .ref aM, .ref aP, .int 0, .int 0, .int 0, .int (-1), .int (-1), .int 0, .int 0, .long sm])), (lH, .inr (2, [.int 0, .ref eT, .int 0])), (lJ, .inr (2, [.int 0, .ref eT, .int 0])), (aR, .inl (cI, 4, .inl fR)), (lB, .inr (2, [.int 0, .ref eT, .int 0])), (ra_1, .inr (1, [.int 0, .int (-1), .int 0, .ref lB])), (q_2, .inl (cA_3, 15, .inl (fun _ => 0)))] := hD
  refine W.widen (k := 2) (n := 19) (Nat.le_of_ble_eq_true rfl) (Nat.le_of_ble_eq_true rfl) ?_
  refine lv_dup hx hb dX5_manyNow_58 rfl ?_
  refine lv_iconst (v := 0) hx hb dX5_manyNow_59 (by decide) ?_
  refine lv_aload_n hx hb dX5_manyNow_60 rfl (lv_at hl 3 rfl) ?_
  refine va_get (D := D) (ci := 8) (v := .int 0) (C := RX5) (T := TX5) (N := 20) hx hb hts (by decide +kernel) hown hK hP 0 rfl rfl 6 (by decide) (hts (.fieldLink RX5 98 "PrizeHouseModel" "year" "I") (by decide +kernel)) (fun _ h9 => h9) rfl dX5_manyNow_61 ?_
  refine va_iast hx hb hK hP hD hS 6 1 rfl rfl (by unfold vp_in; decide +kernel) dX5_manyNow_64 (fun H locs hP hD hS => ?_)
  have hP : va_P D vwCl [(h0, .inr (8, [.int 0, .ref lH, .ref lB, .ref lJ, .ref aR, .ref aL, .int 0, .int 0, .int 0, .ref lC, .ref aM, .ref aP, .int 0, .int 0, .int 0, .int (-1), .int (-1), .int 0, .int 0, .long sm])), (lH, .inr (2, [.int 0, .ref eT, .int 0])), (lJ, .inr (2, [.int 0, .ref eT, .int 0])), (aR, .inl (cI, 4, .inl fR)), (lB, .inr (2, [.int 0, .ref eT, .int 0])), (ra_1, .inr (1, [.int 0, .int (-1), .int 0, .ref lB])), (q_2, .inl (cA_3, 15, .inl (upd (fun _ => 0) (Int32.toNatClampNeg 0) 0)))] H := hP
  have hD : va_D A [(h0, .inr (8, [.int 0, .ref lH, .ref lB, .ref lJ, .ref aR, .ref aL, .int 0, .int 0, .int 0, .ref lC, .ref aM, .ref aP, .int 0, .int 0, .int 0, .int (-1), .int (-1), .int 0, .int 0, .long sm])), (lH, .inr (2, [.int 0, .ref eT, .int 0])), (lJ, .inr (2, [.int 0, .ref eT, .int 0])), (aR, .inl (cI, 4, .inl fR)), (lB, .inr (2, [.int 0, .ref eT, .int 0])), (ra_1, .inr (1, [.int 0, .int (-1), .int 0, .ref lB])), (q_2, .inl (cA_3, 15, .inl (upd (fun _ => 0) (Int32.toNatClampNeg 0) 0)))] := hD
  refine lv_dup hx hb dX5_manyNow_65 rfl ?_
  refine lv_iconst (v := 1) hx hb dX5_manyNow_66 (by decide) ?_
  refine lv_aload_n hx hb dX5_manyNow_67 rfl (lv_at hl 3 rfl) ?_
  refine va_get (D := D) (ci := 8) (v := .int 0) (C := RX5) (T := TX5) (N := 20) hx hb hts (by decide +kernel) hown hK hP 0 rfl rfl 7 (by decide) (hts (.fieldLink RX5 101 "PrizeHouseModel" "phase" "I") (by decide +kernel)) (fun _ h9 => h9) rfl dX5_manyNow_68 ?_
  refine va_iast hx hb hK hP hD hS 6 1 rfl rfl (by unfold vp_in; decide +kernel) dX5_manyNow_71 (fun H locs hP hD hS => ?_)
  have hP : va_P D vwCl [(h0, .inr (8, [.int 0, .ref lH, .ref lB, .ref lJ, .ref aR, .ref aL, .int 0, .int 0, .int 0, .ref lC, .ref aM, .ref aP, .int 0, .int 0, .int 0, .int (-1), .int (-1), .int 0, .int 0, .long sm])), (lH, .inr (2, [.int 0, .ref eT, .int 0])), (lJ, .inr (2, [.int 0, .ref eT, .int 0])), (aR, .inl (cI, 4, .inl fR)), (lB, .inr (2, [.int 0, .ref eT, .int 0])), (ra_1, .inr (1, [.int 0, .int (-1), .int 0, .ref lB])), (q_2, .inl (cA_3, 15, .inl (upd (upd (fun _ => 0) (Int32.toNatClampNeg 0) 0) (Int32.toNatClampNeg 1) 0)))] H := hP
  have hD : va_D A [(h0, .inr (8, [.int 0, .ref lH, .ref lB, .ref lJ, .ref aR, .ref aL, .int 0, .int 0, .int 0, .ref lC, .ref aM, .ref aP, .int 0, .int 0, .int 0, .int (-1), .int (-1), .int 0, .int 0, .long sm])), (lH, .inr (2, [.int 0, .ref eT, .int 0])), (lJ, .inr (2, [.int 0, .ref eT, .int 0])), (aR, .inl (cI, 4, .inl fR)), (lB, .inr (2, [.int 0, .ref eT, .int 0])), (ra_1, .inr (1, [.int 0, .int (-1), .int 0, .ref lB])), (q_2, .inl (cA_3, 15, .inl (upd (upd (fun _ => 0) (Int32.toNatClampNeg 0) 0) (Int32.toNatClampNeg 1) 0)))] := hD
  refine lv_dup hx hb dX5_manyNow_72 rfl ?_
  refine lv_iconst (v := 2) hx hb dX5_manyNow_73 (by decide) ?_
  refine lv_aload_n hx hb dX5_manyNow_74 rfl (lv_at hl 3 rfl) ?_
  refine va_get (D := D) (ci := 8) (v := .int 0) (C := RX5) (T := TX5) (N := 20) hx hb hts (by decide +kernel) hown hK hP 0 rfl rfl 8 (by decide) (hts (.fieldLink RX5 182 "PrizeHouseModel" "day" "I") (by decide +kernel)) (fun _ h9 => h9) rfl dX5_manyNow_75 ?_
  refine va_iast hx hb hK hP hD hS 6 1 rfl rfl (by unfold vp_in; decide +kernel) dX5_manyNow_78 (fun H locs hP hD hS => ?_)
  have hP : va_P D vwCl [(h0, .inr (8, [.int 0, .ref lH, .ref lB, .ref lJ, .ref aR, .ref aL, .int 0, .int 0, .int 0, .ref lC, .ref aM, .ref aP, .int 0, .int 0, .int 0, .int (-1), .int (-1), .int 0, .int 0, .long sm])), (lH, .inr (2, [.int 0, .ref eT, .int 0])), (lJ, .inr (2, [.int 0, .ref eT, .int 0])), (aR, .inl (cI, 4, .inl fR)), (lB, .inr (2, [.int 0, .ref eT, .int 0])), (ra_1, .inr (1, [.int 0, .int (-1), .int 0, .ref lB])), (q_2, .inl (cA_3, 15, .inl (upd (upd (upd (fun _ => 0) (Int32.toNatClampNeg 0) 0) (Int32.toNatClampNeg 1) 0) (Int32.toNatClampNeg 2) 0)))] H := hP
  have hD : va_D A [(h0, .inr (8, [.int 0, .ref lH, .ref lB, .ref lJ, .ref aR, .ref aL, .int 0, .int 0, .int 0, .ref lC, .ref aM, .ref aP, .int 0, .int 0, .int 0, .int (-1), .int (-1), .int 0, .int 0, .long sm])), (lH, .inr (2, [.int 0, .ref eT, .int 0])), (lJ, .inr (2, [.int 0, .ref eT, .int 0])), (aR, .inl (cI, 4, .inl fR)), (lB, .inr (2, [.int 0, .ref eT, .int 0])), (ra_1, .inr (1, [.int 0, .int (-1), .int 0, .ref lB])), (q_2, .inl (cA_3, 15, .inl (upd (upd (upd (fun _ => 0) (Int32.toNatClampNeg 0) 0) (Int32.toNatClampNeg 1) 0) (Int32.toNatClampNeg 2) 0)))] := hD
  refine lv_dup hx hb dX5_manyNow_79 rfl ?_
  refine lv_iconst (v := 3) hx hb dX5_manyNow_80 (by decide) ?_
  refine lv_aload_n hx hb dX5_manyNow_81 rfl (lv_at hl 3 rfl) ?_
  refine va_get (D := D) (ci := 8) (v := .ref lH) (C := RX5) (T := TX5) (N := 20) hx hb hts (by decide +kernel) hown hK hP 0 rfl rfl 1 (by decide) (hts (.fieldLink RX5 10 "PrizeHouseModel" "houses" "Ljava/util/ArrayList;") (by decide +kernel)) (fun _ h9 => h9) rfl dX5_manyNow_82 ?_
  have hPc := hP.sub (ws' := [(lH, .inr (2, [.int 0, .ref eT, .int 0]))]) [1] rfl
  have hKc := hK.sub (tys' := []) [] rfl
  refine va_calli (va_runV (As := []) (rest := [.int 3, .ref q_2, .ref q_2]) ⟨hx, hb, hml, hown, hts⟩ (k_size l D eT lH eT 0 0 H.size ) (cwV 0 hts gX5_manyNow_Jx4a65c_size_8abf5 rfl rfl rfl (by decide +kernel) ⟨Nat.le_of_ble_eq_true rfl, Nat.le_of_ble_eq_true rfl⟩) (pr_v (ci := 2) (q0 := 0) rfl rfl hPc hKc hE hS hA) rfl rfl hl.1 rfl (lv_room (Nat.le_of_ble_eq_true rfl)) dX5_manyNow_85 ⟨Nat.le_of_ble_eq_true rfl, Nat.le_of_ble_eq_true rfl⟩) hS (fun q h1 h2 => ro_A h1 h2) (fun q h => ro_F hS hA q h) (fun r u t H1 locs ht hvm hw hB hz1 hk1 hS => ?_)
  have hw : r = 0 := hw
  rw [hw]
  have hP := ro_P hP hk1
  generalize H1 = H at hP hS ⊢
  refine va_iast hx hb hK hP hD hS 6 1 rfl rfl (by unfold vp_in; decide +kernel) dX5_manyNow_88 (fun H locs hP hD hS => ?_)
  have hP : va_P D vwCl [(h0, .inr (8, [.int 0, .ref lH, .ref lB, .ref lJ, .ref aR, .ref aL, .int 0, .int 0, .int 0, .ref lC, .ref aM, .ref aP, .int 0, .int 0, .int 0, .int (-1), .int (-1), .int 0, .int 0, .long sm])), (lH, .inr (2, [.int 0, .ref eT, .int 0])), (lJ, .inr (2, [.int 0, .ref eT, .int 0])), (aR, .inl (cI, 4, .inl fR)), (lB, .inr (2, [.int 0, .ref eT, .int 0])), (ra_1, .inr (1, [.int 0, .int (-1), .int 0, .ref lB])), (q_2, .inl (cA_3, 15, .inl (upd (upd (upd (upd (fun _ => 0) (Int32.toNatClampNeg 0) 0) (Int32.toNatClampNeg 1) 0) (Int32.toNatClampNeg 2) 0) (Int32.toNatClampNeg 3) 0)))] H := hP
  have hD : va_D A [(h0, .inr (8, [.int 0, .ref lH, .ref lB, .ref lJ, .ref aR, .ref aL, .int 0, .int 0, .int 0, .ref lC, .ref aM, .ref aP, .int 0, .int 0, .int 0, .int (-1), .int (-1), .int 0, .int 0, .long sm])), (lH, .inr (2, [.int 0, .ref eT, .int 0])), (lJ, .inr (2, [.int 0, .ref eT, .int 0])), (aR, .inl (cI, 4, .inl fR)), (lB, .inr (2, [.int 0, .ref eT, .int 0])), (ra_1, .inr (1, [.int 0, .int (-1), .int 0, .ref lB])), (q_2, .inl (cA_3, 15, .inl (upd (upd (upd (upd (fun _ => 0) (Int32.toNatClampNeg 0) 0) (Int32.toNatClampNeg 1) 0) (Int32.toNatClampNeg 2) 0) (Int32.toNatClampNeg 3) 0)))] := hD
  refine lv_dup hx hb dX5_manyNow_89 rfl ?_
  refine lv_iconst (v := 4) hx hb dX5_manyNow_90 (by decide) ?_
  refine lv_aload_n hx hb dX5_manyNow_91 rfl (lv_at hl 3 rfl) ?_
  refine va_get (D := D) (ci := 8) (v := .ref lB) (C := RX5) (T := TX5) (N := 20) hx hb hts (by decide +kernel) hown hK hP 0 rfl rfl 2 (by decide) (hts (.fieldLink RX5 16 "PrizeHouseModel" "books" "Ljava/util/ArrayList;") (by decide +kernel)) (fun _ h9 => h9) rfl dX5_manyNow_92 ?_
  have hPc := hP.sub (ws' := [(lB, .inr (2, [.int 0, .ref eT, .int 0]))]) [4] rfl
  have hKc := hK.sub (tys' := []) [] rfl
  refine va_calli (va_runV (As := []) (rest := [.int 4, .ref q_2, .ref q_2]) ⟨hx, hb, hml, hown, hts⟩ (k_size l D eT lB eT 0 0 H.size ) (cwV 0 hts gX5_manyNow_Jx4a65c_size_8abf5 rfl rfl rfl (by decide +kernel) ⟨Nat.le_of_ble_eq_true rfl, Nat.le_of_ble_eq_true rfl⟩) (pr_v (ci := 2) (q0 := 0) rfl rfl hPc hKc hE hS hA) rfl rfl hl.1 rfl (lv_room (Nat.le_of_ble_eq_true rfl)) dX5_manyNow_95 ⟨Nat.le_of_ble_eq_true rfl, Nat.le_of_ble_eq_true rfl⟩) hS (fun q h1 h2 => ro_A h1 h2) (fun q h => ro_F hS hA q h) (fun r u t H1 locs ht hvm hw hB hz1 hk1 hS => ?_)
  have hw : r = 0 := hw
  rw [hw]
  have hP := ro_P hP hk1
  generalize H1 = H at hP hS ⊢
  refine va_iast hx hb hK hP hD hS 6 1 rfl rfl (by unfold vp_in; decide +kernel) dX5_manyNow_98 (fun H locs hP hD hS => ?_)
  have hP : va_P D vwCl [(h0, .inr (8, [.int 0, .ref lH, .ref lB, .ref lJ, .ref aR, .ref aL, .int 0, .int 0, .int 0, .ref lC, .ref aM, .ref aP, .int 0, .int 0, .int 0, .int (-1), .int (-1), .int 0, .int 0, .long sm])), (lH, .inr (2, [.int 0, .ref eT, .int 0])), (lJ, .inr (2, [.int 0, .ref eT, .int 0])), (aR, .inl (cI, 4, .inl fR)), (lB, .inr (2, [.int 0, .ref eT, .int 0])), (ra_1, .inr (1, [.int 0, .int (-1), .int 0, .ref lB])), (q_2, .inl (cA_3, 15, .inl (upd (upd (upd (upd (upd (fun _ => 0) (Int32.toNatClampNeg 0) 0) (Int32.toNatClampNeg 1) 0) (Int32.toNatClampNeg 2) 0) (Int32.toNatClampNeg 3) 0) (Int32.toNatClampNeg 4) 0)))] H := hP
  have hD : va_D A [(h0, .inr (8, [.int 0, .ref lH, .ref lB, .ref lJ, .ref aR, .ref aL, .int 0, .int 0, .int 0, .ref lC, .ref aM, .ref aP, .int 0, .int 0, .int 0, .int (-1), .int (-1), .int 0, .int 0, .long sm])), (lH, .inr (2, [.int 0, .ref eT, .int 0])), (lJ, .inr (2, [.int 0, .ref eT, .int 0])), (aR, .inl (cI, 4, .inl fR)), (lB, .inr (2, [.int 0, .ref eT, .int 0])), (ra_1, .inr (1, [.int 0, .int (-1), .int 0, .ref lB])), (q_2, .inl (cA_3, 15, .inl (upd (upd (upd (upd (upd (fun _ => 0) (Int32.toNatClampNeg 0) 0) (Int32.toNatClampNeg 1) 0) (Int32.toNatClampNeg 2) 0) (Int32.toNatClampNeg 3) 0) (Int32.toNatClampNeg 4) 0)))] := hD
  refine lv_dup hx hb dX5_manyNow_99 rfl ?_
  refine lv_iconst (v := 5) hx hb dX5_manyNow_100 (by decide) ?_
  refine lv_aload_n hx hb dX5_manyNow_101 rfl (lv_at hl 3 rfl) ?_
  refine va_get (D := D) (ci := 8) (v := .ref lJ) (C := RX5) (T := TX5) (N := 20) hx hb hts (by decide +kernel) hown hK hP 0 rfl rfl 3 (by decide) (hts (.fieldLink RX5 19 "PrizeHouseModel" "judges" "Ljava/util/ArrayList;") (by decide +kernel)) (fun _ h9 => h9) rfl dX5_manyNow_102 ?_
  have hPc := hP.sub (ws' := [(lJ, .inr (2, [.int 0, .ref eT, .int 0]))]) [2] rfl
  have hKc := hK.sub (tys' := []) [] rfl
  refine va_calli (va_runV (As := []) (rest := [.int 5, .ref q_2, .ref q_2]) ⟨hx, hb, hml, hown, hts⟩ (k_size l D eT lJ eT 0 0 H.size ) (cwV 0 hts gX5_manyNow_Jx4a65c_size_8abf5 rfl rfl rfl (by decide +kernel) ⟨Nat.le_of_ble_eq_true rfl, Nat.le_of_ble_eq_true rfl⟩) (pr_v (ci := 2) (q0 := 0) rfl rfl hPc hKc hE hS hA) rfl rfl hl.1 rfl (lv_room (Nat.le_of_ble_eq_true rfl)) dX5_manyNow_105 ⟨Nat.le_of_ble_eq_true rfl, Nat.le_of_ble_eq_true rfl⟩) hS (fun q h1 h2 => ro_A h1 h2) (fun q h => ro_F hS hA q h) (fun r u t H1 locs ht hvm hw hB hz1 hk1 hS => ?_)
  have hw : r = 0 := hw
  rw [hw]
  have hP := ro_P hP hk1
  generalize H1 = H at hP hS ⊢
  refine va_iast hx hb hK hP hD hS 6 1 rfl rfl (by unfold vp_in; decide +kernel) dX5_manyNow_108 (fun H locs hP hD hS => ?_)
  have hP : va_P D vwCl [(h0, .inr (8, [.int 0, .ref lH, .ref lB, .ref lJ, .ref aR, .ref aL, .int 0, .int 0, .int 0, .ref lC, .ref aM, .ref aP, .int 0, .int 0, .int 0, .int (-1), .int (-1), .int 0, .int 0, .long sm])), (lH, .inr (2, [.int 0, .ref eT, .int 0])), (lJ, .inr (2, [.int 0, .ref eT, .int 0])), (aR, .inl (cI, 4, .inl fR)), (lB, .inr (2, [.int 0, .ref eT, .int 0])), (ra_1, .inr (1, [.int 0, .int (-1), .int 0, .ref lB])), (q_2, .inl (cA_3, 15, .inl (upd (upd (upd (upd (upd (upd (fun _ => 0) (Int32.toNatClampNeg 0) 0) (Int32.toNatClampNeg 1) 0) (Int32.toNatClampNeg 2) 0) (Int32.toNatClampNeg 3) 0) (Int32.toNatClampNeg 4) 0) (Int32.toNatClampNeg 5) 0)))] H := hP
  have hD : va_D A [(h0, .inr (8, [.int 0, .ref lH, .ref lB, .ref lJ, .ref aR, .ref aL, .int 0, .int 0, .int 0, .ref lC, .ref aM, .ref aP, .int 0, .int 0, .int 0, .int (-1), .int (-1), .int 0, .int 0, .long sm])), (lH, .inr (2, [.int 0, .ref eT, .int 0])), (lJ, .inr (2, [.int 0, .ref eT, .int 0])), (aR, .inl (cI, 4, .inl fR)), (lB, .inr (2, [.int 0, .ref eT, .int 0])), (ra_1, .inr (1, [.int 0, .int (-1), .int 0, .ref lB])), (q_2, .inl (cA_3, 15, .inl (upd (upd (upd (upd (upd (upd (fun _ => 0) (Int32.toNatClampNeg 0) 0) (Int32.toNatClampNeg 1) 0) (Int32.toNatClampNeg 2) 0) (Int32.toNatClampNeg 3) 0) (Int32.toNatClampNeg 4) 0) (Int32.toNatClampNeg 5) 0)))] := hD
  refine lv_dup hx hb dX5_manyNow_109 rfl ?_
  refine lv_bipush (v := 6) hx hb dX5_manyNow_110 (by decide) ?_
  refine lv_aload_n hx hb dX5_manyNow_112 rfl (lv_at hl 3 rfl) ?_
  have hPc := hP.sub (ws' := [(h0, .inr (8, [.int 0, .ref lH, .ref lB, .ref lJ, .ref aR, .ref aL, .int 0, .int 0, .int 0, .ref lC, .ref aM, .ref aP, .int 0, .int 0, .int 0, .int (-1), .int (-1), .int 0, .int 0, .long sm])), (lB, .inr (2, [.int 0, .ref eT, .int 0]))]) [0, 4] rfl
  have hKc := hK.sub (tys' := []) [] rfl
  refine va_calli (va_runV (As := []) (rest := [.int 6, .ref q_2, .ref q_2]) ⟨hx, hb, hml, hown, hts⟩ (r_entered l D eT h0 lH lB lJ aR aL lC aM aP sm H.size ) (cwV 0 hts gX5_manyNow_X5_entered rfl rfl rfl (by decide +kernel) ⟨Nat.le_of_ble_eq_true rfl, Nat.le_of_ble_eq_true rfl⟩) (pr_v (ci := 8) (q0 := 0) rfl rfl hPc hKc hE hS hA) rfl rfl hl.1 rfl (lv_room (Nat.le_of_ble_eq_true rfl)) dX5_manyNow_113 ⟨Nat.le_of_ble_eq_true rfl, Nat.le_of_ble_eq_true rfl⟩) hS (fun q h1 h2 => ro_A h1 h2) (fun q h => ro_F hS hA q h) (fun r u t H1 locs ht hvm hw hB hz1 hk1 hS => ?_)
  have hw : r = 0 := hw
  rw [hw]
  have hP := ro_P hP hk1
  generalize H1 = H at hP hS ⊢
  refine va_iast hx hb hK hP hD hS 6 1 rfl rfl (by unfold vp_in; decide +kernel) dX5_manyNow_116 (fun H locs hP hD hS => ?_)
  have hP : va_P D vwCl [(h0, .inr (8, [.int 0, .ref lH, .ref lB, .ref lJ, .ref aR, .ref aL, .int 0, .int 0, .int 0, .ref lC, .ref aM, .ref aP, .int 0, .int 0, .int 0, .int (-1), .int (-1), .int 0, .int 0, .long sm])), (lH, .inr (2, [.int 0, .ref eT, .int 0])), (lJ, .inr (2, [.int 0, .ref eT, .int 0])), (aR, .inl (cI, 4, .inl fR)), (lB, .inr (2, [.int 0, .ref eT, .int 0])), (ra_1, .inr (1, [.int 0, .int (-1), .int 0, .ref lB])), (q_2, .inl (cA_3, 15, .inl (upd (upd (upd (upd (upd (upd (upd (fun _ => 0) (Int32.toNatClampNeg 0) 0) (Int32.toNatClampNeg 1) 0) (Int32.toNatClampNeg 2) 0) (Int32.toNatClampNeg 3) 0) (Int32.toNatClampNeg 4) 0) (Int32.toNatClampNeg 5) 0) (Int32.toNatClampNeg 6) 0)))] H := hP
  have hD : va_D A [(h0, .inr (8, [.int 0, .ref lH, .ref lB, .ref lJ, .ref aR, .ref aL, .int 0, .int 0, .int 0, .ref lC, .ref aM, .ref aP, .int 0, .int 0, .int 0, .int (-1), .int (-1), .int 0, .int 0, .long sm])), (lH, .inr (2, [.int 0, .ref eT, .int 0])), (lJ, .inr (2, [.int 0, .ref eT, .int 0])), (aR, .inl (cI, 4, .inl fR)), (lB, .inr (2, [.int 0, .ref eT, .int 0])), (ra_1, .inr (1, [.int 0, .int (-1), .int 0, .ref lB])), (q_2, .inl (cA_3, 15, .inl (upd (upd (upd (upd (upd (upd (upd (fun _ => 0) (Int32.toNatClampNeg 0) 0) (Int32.toNatClampNeg 1) 0) (Int32.toNatClampNeg 2) 0) (Int32.toNatClampNeg 3) 0) (Int32.toNatClampNeg 4) 0) (Int32.toNatClampNeg 5) 0) (Int32.toNatClampNeg 6) 0)))] := hD
  refine lv_dup hx hb dX5_manyNow_117 rfl ?_
  refine lv_bipush (v := 7) hx hb dX5_manyNow_118 (by decide) ?_
  refine lv_aload_n hx hb dX5_manyNow_120 rfl (lv_at hl 3 rfl) ?_
  refine va_get (D := D) (ci := 8) (v := .int 0) (C := RX5) (T := TX5) (N := 20) hx hb hts (by decide +kernel) hown hK hP 0 rfl rfl 12 (by decide) (hts (.fieldLink RX5 77 "PrizeHouseModel" "longSet" "I") (by decide +kernel)) (fun _ h9 => h9) rfl dX5_manyNow_121 ?_
  refine va_iast hx hb hK hP hD hS 6 1 rfl rfl (by unfold vp_in; decide +kernel) dX5_manyNow_124 (fun H locs hP hD hS => ?_)
  have hP : va_P D vwCl [(h0, .inr (8, [.int 0, .ref lH, .ref lB, .ref lJ, .ref aR, .ref aL, .int 0, .int 0, .int 0, .ref lC, .ref aM, .ref aP, .int 0, .int 0, .int 0, .int (-1), .int (-1), .int 0, .int 0, .long sm])), (lH, .inr (2, [.int 0, .ref eT, .int 0])), (lJ, .inr (2, [.int 0, .ref eT, .int 0])), (aR, .inl (cI, 4, .inl fR)), (lB, .inr (2, [.int 0, .ref eT, .int 0])), (ra_1, .inr (1, [.int 0, .int (-1), .int 0, .ref lB])), (q_2, .inl (cA_3, 15, .inl (upd (upd (upd (upd (upd (upd (upd (upd (fun _ => 0) (Int32.toNatClampNeg 0) 0) (Int32.toNatClampNeg 1) 0) (Int32.toNatClampNeg 2) 0) (Int32.toNatClampNeg 3) 0) (Int32.toNatClampNeg 4) 0) (Int32.toNatClampNeg 5) 0) (Int32.toNatClampNeg 6) 0) (Int32.toNatClampNeg 7) 0)))] H := hP
  have hD : va_D A [(h0, .inr (8, [.int 0, .ref lH, .ref lB, .ref lJ, .ref aR, .ref aL, .int 0, .int 0, .int 0, .ref lC, .ref aM, .ref aP, .int 0, .int 0, .int 0, .int (-1), .int (-1), .int 0, .int 0, .long sm])), (lH, .inr (2, [.int 0, .ref eT, .int 0])), (lJ, .inr (2, [.int 0, .ref eT, .int 0])), (aR, .inl (cI, 4, .inl fR)), (lB, .inr (2, [.int 0, .ref eT, .int 0])), (ra_1, .inr (1, [.int 0, .int (-1), .int 0, .ref lB])), (q_2, .inl (cA_3, 15, .inl (upd (upd (upd (upd (upd (upd (upd (upd (fun _ => 0) (Int32.toNatClampNeg 0) 0) (Int32.toNatClampNeg 1) 0) (Int32.toNatClampNeg 2) 0) (Int32.toNatClampNeg 3) 0) (Int32.toNatClampNeg 4) 0) (Int32.toNatClampNeg 5) 0) (Int32.toNatClampNeg 6) 0) (Int32.toNatClampNeg 7) 0)))] := hD
  refine lv_dup hx hb dX5_manyNow_125 rfl ?_
  refine lv_bipush (v := 8) hx hb dX5_manyNow_126 (by decide) ?_
  refine lv_aload_n hx hb dX5_manyNow_128 rfl (lv_at hl 3 rfl) ?_
  refine va_get (D := D) (ci := 8) (v := .int 0) (C := RX5) (T := TX5) (N := 20) hx hb hts (by decide +kernel) hown hK hP 0 rfl rfl 13 (by decide) (hts (.fieldLink RX5 80 "PrizeHouseModel" "shortSet" "I") (by decide +kernel)) (fun _ h9 => h9) rfl dX5_manyNow_129 ?_
  refine va_iast hx hb hK hP hD hS 6 1 rfl rfl (by unfold vp_in; decide +kernel) dX5_manyNow_132 (fun H locs hP hD hS => ?_)
  have hP : va_P D vwCl [(h0, .inr (8, [.int 0, .ref lH, .ref lB, .ref lJ, .ref aR, .ref aL, .int 0, .int 0, .int 0, .ref lC, .ref aM, .ref aP, .int 0, .int 0, .int 0, .int (-1), .int (-1), .int 0, .int 0, .long sm])), (lH, .inr (2, [.int 0, .ref eT, .int 0])), (lJ, .inr (2, [.int 0, .ref eT, .int 0])), (aR, .inl (cI, 4, .inl fR)), (lB, .inr (2, [.int 0, .ref eT, .int 0])), (ra_1, .inr (1, [.int 0, .int (-1), .int 0, .ref lB])), (q_2, .inl (cA_3, 15, .inl (upd (upd (upd (upd (upd (upd (upd (upd (upd (fun _ => 0) (Int32.toNatClampNeg 0) 0) (Int32.toNatClampNeg 1) 0) (Int32.toNatClampNeg 2) 0) (Int32.toNatClampNeg 3) 0) (Int32.toNatClampNeg 4) 0) (Int32.toNatClampNeg 5) 0) (Int32.toNatClampNeg 6) 0) (Int32.toNatClampNeg 7) 0) (Int32.toNatClampNeg 8) 0)))] H := hP
  have hD : va_D A [(h0, .inr (8, [.int 0, .ref lH, .ref lB, .ref lJ, .ref aR, .ref aL, .int 0, .int 0, .int 0, .ref lC, .ref aM, .ref aP, .int 0, .int 0, .int 0, .int (-1), .int (-1), .int 0, .int 0, .long sm])), (lH, .inr (2, [.int 0, .ref eT, .int 0])), (lJ, .inr (2, [.int 0, .ref eT, .int 0])), (aR, .inl (cI, 4, .inl fR)), (lB, .inr (2, [.int 0, .ref eT, .int 0])), (ra_1, .inr (1, [.int 0, .int (-1), .int 0, .ref lB])), (q_2, .inl (cA_3, 15, .inl (upd (upd (upd (upd (upd (upd (upd (upd (upd (fun _ => 0) (Int32.toNatClampNeg 0) 0) (Int32.toNatClampNeg 1) 0) (Int32.toNatClampNeg 2) 0) (Int32.toNatClampNeg 3) 0) (Int32.toNatClampNeg 4) 0) (Int32.toNatClampNeg 5) 0) (Int32.toNatClampNeg 6) 0) (Int32.toNatClampNeg 7) 0) (Int32.toNatClampNeg 8) 0)))] := hD
  refine lv_dup hx hb dX5_manyNow_133 rfl ?_
  refine lv_bipush (v := 9) hx hb dX5_manyNow_134 (by decide) ?_
  refine lv_aload_n hx hb dX5_manyNow_136 rfl (lv_at hl 3 rfl) ?_
  refine va_get (D := D) (ci := 8) (v := .int (-1)) (C := RX5) (T := TX5) (N := 20) hx hb hts (by decide +kernel) hown hK hP 0 rfl rfl 15 (by decide) (hts (.fieldLink RX5 40 "PrizeHouseModel" "winner" "I") (by decide +kernel)) (fun _ h9 => h9) rfl dX5_manyNow_137 ?_
  refine va_iast hx hb hK hP hD hS 6 1 rfl rfl (by unfold vp_in; decide +kernel) dX5_manyNow_140 (fun H locs hP hD hS => ?_)
  have hP : va_P D vwCl [(h0, .inr (8, [.int 0, .ref lH, .ref lB, .ref lJ, .ref aR, .ref aL, .int 0, .int 0, .int 0, .ref lC, .ref aM, .ref aP, .int 0, .int 0, .int 0, .int (-1), .int (-1), .int 0, .int 0, .long sm])), (lH, .inr (2, [.int 0, .ref eT, .int 0])), (lJ, .inr (2, [.int 0, .ref eT, .int 0])), (aR, .inl (cI, 4, .inl fR)), (lB, .inr (2, [.int 0, .ref eT, .int 0])), (ra_1, .inr (1, [.int 0, .int (-1), .int 0, .ref lB])), (q_2, .inl (cA_3, 15, .inl (upd (upd (upd (upd (upd (upd (upd (upd (upd (upd (fun _ => 0) (Int32.toNatClampNeg 0) 0) (Int32.toNatClampNeg 1) 0) (Int32.toNatClampNeg 2) 0) (Int32.toNatClampNeg 3) 0) (Int32.toNatClampNeg 4) 0) (Int32.toNatClampNeg 5) 0) (Int32.toNatClampNeg 6) 0) (Int32.toNatClampNeg 7) 0) (Int32.toNatClampNeg 8) 0) (Int32.toNatClampNeg 9) (-1))))] H := hP
  have hD : va_D A [(h0, .inr (8, [.int 0, .ref lH, .ref lB, .ref lJ, .ref aR, .ref aL, .int 0, .int 0, .int 0, .ref lC, .ref aM, .ref aP, .int 0, .int 0, .int 0, .int (-1), .int (-1), .int 0, .int 0, .long sm])), (lH, .inr (2, [.int 0, .ref eT, .int 0])), (lJ, .inr (2, [.int 0, .ref eT, .int 0])), (aR, .inl (cI, 4, .inl fR)), (lB, .inr (2, [.int 0, .ref eT, .int 0])), (ra_1, .inr (1, [.int 0, .int (-1), .int 0, .ref lB])), (q_2, .inl (cA_3, 15, .inl (upd (upd (upd (upd (upd (upd (upd (upd (upd (upd (fun _ => 0) (Int32.toNatClampNeg 0) 0) (Int32.toNatClampNeg 1) 0) (Int32.toNatClampNeg 2) 0) (Int32.toNatClampNeg 3) 0) (Int32.toNatClampNeg 4) 0) (Int32.toNatClampNeg 5) 0) (Int32.toNatClampNeg 6) 0) (Int32.toNatClampNeg 7) 0) (Int32.toNatClampNeg 8) 0) (Int32.toNatClampNeg 9) (-1))))] := hD
  refine lv_dup hx hb dX5_manyNow_141 rfl ?_
  refine lv_bipush (v := 10) hx hb dX5_manyNow_142 (by decide) ?_
  refine lv_aload_n hx hb dX5_manyNow_144 rfl (lv_at hl 3 rfl) ?_
  refine va_get (D := D) (ci := 8) (v := .int (-1)) (C := RX5) (T := TX5) (N := 20) hx hb hts (by decide +kernel) hown hK hP 0 rfl rfl 16 (by decide) (hts (.fieldLink RX5 44 "PrizeHouseModel" "winnerAhead" "I") (by decide +kernel)) (fun _ h9 => h9) rfl dX5_manyNow_145 ?_
  refine va_iast hx hb hK hP hD hS 6 1 rfl rfl (by unfold vp_in; decide +kernel) dX5_manyNow_148 (fun H locs hP hD hS => ?_)
  have hP : va_P D vwCl [(h0, .inr (8, [.int 0, .ref lH, .ref lB, .ref lJ, .ref aR, .ref aL, .int 0, .int 0, .int 0, .ref lC, .ref aM, .ref aP, .int 0, .int 0, .int 0, .int (-1), .int (-1), .int 0, .int 0, .long sm])), (lH, .inr (2, [.int 0, .ref eT, .int 0])), (lJ, .inr (2, [.int 0, .ref eT, .int 0])), (aR, .inl (cI, 4, .inl fR)), (lB, .inr (2, [.int 0, .ref eT, .int 0])), (ra_1, .inr (1, [.int 0, .int (-1), .int 0, .ref lB])), (q_2, .inl (cA_3, 15, .inl (upd (upd (upd (upd (upd (upd (upd (upd (upd (upd (upd (fun _ => 0) (Int32.toNatClampNeg 0) 0) (Int32.toNatClampNeg 1) 0) (Int32.toNatClampNeg 2) 0) (Int32.toNatClampNeg 3) 0) (Int32.toNatClampNeg 4) 0) (Int32.toNatClampNeg 5) 0) (Int32.toNatClampNeg 6) 0) (Int32.toNatClampNeg 7) 0) (Int32.toNatClampNeg 8) 0) (Int32.toNatClampNeg 9) (-1)) (Int32.toNatClampNeg 10) (-1))))] H := hP
  have hD : va_D A [(h0, .inr (8, [.int 0, .ref lH, .ref lB, .ref lJ, .ref aR, .ref aL, .int 0, .int 0, .int 0, .ref lC, .ref aM, .ref aP, .int 0, .int 0, .int 0, .int (-1), .int (-1), .int 0, .int 0, .long sm])), (lH, .inr (2, [.int 0, .ref eT, .int 0])), (lJ, .inr (2, [.int 0, .ref eT, .int 0])), (aR, .inl (cI, 4, .inl fR)), (lB, .inr (2, [.int 0, .ref eT, .int 0])), (ra_1, .inr (1, [.int 0, .int (-1), .int 0, .ref lB])), (q_2, .inl (cA_3, 15, .inl (upd (upd (upd (upd (upd (upd (upd (upd (upd (upd (upd (fun _ => 0) (Int32.toNatClampNeg 0) 0) (Int32.toNatClampNeg 1) 0) (Int32.toNatClampNeg 2) 0) (Int32.toNatClampNeg 3) 0) (Int32.toNatClampNeg 4) 0) (Int32.toNatClampNeg 5) 0) (Int32.toNatClampNeg 6) 0) (Int32.toNatClampNeg 7) 0) (Int32.toNatClampNeg 8) 0) (Int32.toNatClampNeg 9) (-1)) (Int32.toNatClampNeg 10) (-1))))] := hD
  refine lv_dup hx hb dX5_manyNow_149 rfl ?_
  refine lv_bipush (v := 11) hx hb dX5_manyNow_150 (by decide) ?_
  refine lv_aload_n hx hb dX5_manyNow_152 rfl (lv_at hl 3 rfl) ?_
  refine va_get (D := D) (ci := 8) (v := .int 0) (C := RX5) (T := TX5) (N := 20) hx hb hts (by decide +kernel) hown hK hP 0 rfl rfl 18 (by decide) (hts (.fieldLink RX5 247 "PrizeHouseModel" "stripped" "I") (by decide +kernel)) (fun _ h9 => h9) rfl dX5_manyNow_153 ?_
  refine va_iast hx hb hK hP hD hS 6 1 rfl rfl (by unfold vp_in; decide +kernel) dX5_manyNow_156 (fun H locs hP hD hS => ?_)
  have hP : va_P D vwCl [(h0, .inr (8, [.int 0, .ref lH, .ref lB, .ref lJ, .ref aR, .ref aL, .int 0, .int 0, .int 0, .ref lC, .ref aM, .ref aP, .int 0, .int 0, .int 0, .int (-1), .int (-1), .int 0, .int 0, .long sm])), (lH, .inr (2, [.int 0, .ref eT, .int 0])), (lJ, .inr (2, [.int 0, .ref eT, .int 0])), (aR, .inl (cI, 4, .inl fR)), (lB, .inr (2, [.int 0, .ref eT, .int 0])), (ra_1, .inr (1, [.int 0, .int (-1), .int 0, .ref lB])), (q_2, .inl (cA_3, 15, .inl (upd (upd (upd (upd (upd (upd (upd (upd (upd (upd (upd (upd (fun _ => 0) (Int32.toNatClampNeg 0) 0) (Int32.toNatClampNeg 1) 0) (Int32.toNatClampNeg 2) 0) (Int32.toNatClampNeg 3) 0) (Int32.toNatClampNeg 4) 0) (Int32.toNatClampNeg 5) 0) (Int32.toNatClampNeg 6) 0) (Int32.toNatClampNeg 7) 0) (Int32.toNatClampNeg 8) 0) (Int32.toNatClampNeg 9) (-1)) (Int32.toNatClampNeg 10) (-1)) (Int32.toNatClampNeg 11) 0)))] H := hP
  have hD : va_D A [(h0, .inr (8, [.int 0, .ref lH, .ref lB, .ref lJ, .ref aR, .ref aL, .int 0, .int 0, .int 0, .ref lC, .ref aM, .ref aP, .int 0, .int 0, .int 0, .int (-1), .int (-1), .int 0, .int 0, .long sm])), (lH, .inr (2, [.int 0, .ref eT, .int 0])), (lJ, .inr (2, [.int 0, .ref eT, .int 0])), (aR, .inl (cI, 4, .inl fR)), (lB, .inr (2, [.int 0, .ref eT, .int 0])), (ra_1, .inr (1, [.int 0, .int (-1), .int 0, .ref lB])), (q_2, .inl (cA_3, 15, .inl (upd (upd (upd (upd (upd (upd (upd (upd (upd (upd (upd (upd (fun _ => 0) (Int32.toNatClampNeg 0) 0) (Int32.toNatClampNeg 1) 0) (Int32.toNatClampNeg 2) 0) (Int32.toNatClampNeg 3) 0) (Int32.toNatClampNeg 4) 0) (Int32.toNatClampNeg 5) 0) (Int32.toNatClampNeg 6) 0) (Int32.toNatClampNeg 7) 0) (Int32.toNatClampNeg 8) 0) (Int32.toNatClampNeg 9) (-1)) (Int32.toNatClampNeg 10) (-1)) (Int32.toNatClampNeg 11) 0)))] := hD
  refine lv_dup hx hb dX5_manyNow_157 rfl ?_
  refine lv_bipush (v := 12) hx hb dX5_manyNow_158 (by decide) ?_
  refine lv_iload_n hx hb dX5_manyNow_160 rfl (lv_at hl 2 rfl) ?_
  refine va_iast hx hb hK hP hD hS 6 1 rfl rfl (by unfold vp_in; decide +kernel) dX5_manyNow_161 (fun H locs hP hD hS => ?_)
  have hP : va_P D vwCl [(h0, .inr (8, [.int 0, .ref lH, .ref lB, .ref lJ, .ref aR, .ref aL, .int 0, .int 0, .int 0, .ref lC, .ref aM, .ref aP, .int 0, .int 0, .int 0, .int (-1), .int (-1), .int 0, .int 0, .long sm])), (lH, .inr (2, [.int 0, .ref eT, .int 0])), (lJ, .inr (2, [.int 0, .ref eT, .int 0])), (aR, .inl (cI, 4, .inl fR)), (lB, .inr (2, [.int 0, .ref eT, .int 0])), (ra_1, .inr (1, [.int 0, .int (-1), .int 0, .ref lB])), (q_2, .inl (cA_3, 15, .inl (upd (upd (upd (upd (upd (upd (upd (upd (upd (upd (upd (upd (upd (fun _ => 0) (Int32.toNatClampNeg 0) 0) (Int32.toNatClampNeg 1) 0) (Int32.toNatClampNeg 2) 0) (Int32.toNatClampNeg 3) 0) (Int32.toNatClampNeg 4) 0) (Int32.toNatClampNeg 5) 0) (Int32.toNatClampNeg 6) 0) (Int32.toNatClampNeg 7) 0) (Int32.toNatClampNeg 8) 0) (Int32.toNatClampNeg 9) (-1)) (Int32.toNatClampNeg 10) (-1)) (Int32.toNatClampNeg 11) 0) (Int32.toNatClampNeg 12) 0)))] H := hP
  have hD : va_D A [(h0, .inr (8, [.int 0, .ref lH, .ref lB, .ref lJ, .ref aR, .ref aL, .int 0, .int 0, .int 0, .ref lC, .ref aM, .ref aP, .int 0, .int 0, .int 0, .int (-1), .int (-1), .int 0, .int 0, .long sm])), (lH, .inr (2, [.int 0, .ref eT, .int 0])), (lJ, .inr (2, [.int 0, .ref eT, .int 0])), (aR, .inl (cI, 4, .inl fR)), (lB, .inr (2, [.int 0, .ref eT, .int 0])), (ra_1, .inr (1, [.int 0, .int (-1), .int 0, .ref lB])), (q_2, .inl (cA_3, 15, .inl (upd (upd (upd (upd (upd (upd (upd (upd (upd (upd (upd (upd (upd (fun _ => 0) (Int32.toNatClampNeg 0) 0) (Int32.toNatClampNeg 1) 0) (Int32.toNatClampNeg 2) 0) (Int32.toNatClampNeg 3) 0) (Int32.toNatClampNeg 4) 0) (Int32.toNatClampNeg 5) 0) (Int32.toNatClampNeg 6) 0) (Int32.toNatClampNeg 7) 0) (Int32.toNatClampNeg 8) 0) (Int32.toNatClampNeg 9) (-1)) (Int32.toNatClampNeg 10) (-1)) (Int32.toNatClampNeg 11) 0) (Int32.toNatClampNeg 12) 0)))] := hD
  refine lv_dup hx hb dX5_manyNow_162 rfl ?_
  refine lv_bipush (v := 13) hx hb dX5_manyNow_163 (by decide) ?_
  refine lv_iload_n hx hb dX5_manyNow_165 rfl (lv_at hl 1 rfl) ?_
  refine va_iast hx hb hK hP hD hS 6 1 rfl rfl (by unfold vp_in; decide +kernel) dX5_manyNow_166 (fun H locs hP hD hS => ?_)
  have hP : va_P D vwCl [(h0, .inr (8, [.int 0, .ref lH, .ref lB, .ref lJ, .ref aR, .ref aL, .int 0, .int 0, .int 0, .ref lC, .ref aM, .ref aP, .int 0, .int 0, .int 0, .int (-1), .int (-1), .int 0, .int 0, .long sm])), (lH, .inr (2, [.int 0, .ref eT, .int 0])), (lJ, .inr (2, [.int 0, .ref eT, .int 0])), (aR, .inl (cI, 4, .inl fR)), (lB, .inr (2, [.int 0, .ref eT, .int 0])), (ra_1, .inr (1, [.int 0, .int (-1), .int 0, .ref lB])), (q_2, .inl (cA_3, 15, .inl (upd (upd (upd (upd (upd (upd (upd (upd (upd (upd (upd (upd (upd (upd (fun _ => 0) (Int32.toNatClampNeg 0) 0) (Int32.toNatClampNeg 1) 0) (Int32.toNatClampNeg 2) 0) (Int32.toNatClampNeg 3) 0) (Int32.toNatClampNeg 4) 0) (Int32.toNatClampNeg 5) 0) (Int32.toNatClampNeg 6) 0) (Int32.toNatClampNeg 7) 0) (Int32.toNatClampNeg 8) 0) (Int32.toNatClampNeg 9) (-1)) (Int32.toNatClampNeg 10) (-1)) (Int32.toNatClampNeg 11) 0) (Int32.toNatClampNeg 12) 0) (Int32.toNatClampNeg 13) 0)))] H := hP
  have hD : va_D A [(h0, .inr (8, [.int 0, .ref lH, .ref lB, .ref lJ, .ref aR, .ref aL, .int 0, .int 0, .int 0, .ref lC, .ref aM, .ref aP, .int 0, .int 0, .int 0, .int (-1), .int (-1), .int 0, .int 0, .long sm])), (lH, .inr (2, [.int 0, .ref eT, .int 0])), (lJ, .inr (2, [.int 0, .ref eT, .int 0])), (aR, .inl (cI, 4, .inl fR)), (lB, .inr (2, [.int 0, .ref eT, .int 0])), (ra_1, .inr (1, [.int 0, .int (-1), .int 0, .ref lB])), (q_2, .inl (cA_3, 15, .inl (upd (upd (upd (upd (upd (upd (upd (upd (upd (upd (upd (upd (upd (upd (fun _ => 0) (Int32.toNatClampNeg 0) 0) (Int32.toNatClampNeg 1) 0) (Int32.toNatClampNeg 2) 0) (Int32.toNatClampNeg 3) 0) (Int32.toNatClampNeg 4) 0) (Int32.toNatClampNeg 5) 0) (Int32.toNatClampNeg 6) 0) (Int32.toNatClampNeg 7) 0) (Int32.toNatClampNeg 8) 0) (Int32.toNatClampNeg 9) (-1)) (Int32.toNatClampNeg 10) (-1)) (Int32.toNatClampNeg 11) 0) (Int32.toNatClampNeg 12) 0) (Int32.toNatClampNeg 13) 0)))] := hD
  refine lv_dup hx hb dX5_manyNow_167 rfl ?_
  refine lv_bipush (v := 14) hx hb dX5_manyNow_168 (by decide) ?_
  refine lv_aload_n hx hb dX5_manyNow_170 rfl (lv_at hl 3 rfl) ?_
  refine va_get (D := D) (ci := 8) (v := .ref aR) (C := RX5) (T := TX5) (N := 20) hx hb hts (by decide +kernel) hown hK hP 0 rfl rfl 4 (by decide) (hts (.fieldLink RX5 22 "PrizeHouseModel" "rules" "[I") (by decide +kernel)) (fun _ h9 => h9) rfl dX5_manyNow_171 ?_
  refine lv_iconst (v := 3) hx hb dX5_manyNow_174 (by decide) ?_
  refine va_iald hx hb hK hP 3 0 rfl rfl (by unfold vp_in; decide +kernel) dX5_manyNow_175 ?_
  refine lv_topi (fun z_4 ez_4 => ?_)
  have ez_4 : z_4 = 10 := ez_4.trans hR
  rw [ez_4]
  refine va_iast hx hb hK hP hD hS 6 1 rfl rfl (by unfold vp_in; decide +kernel) dX5_manyNow_176 (fun H locs hP hD hS => ?_)
  have hP : va_P D vwCl [(h0, .inr (8, [.int 0, .ref lH, .ref lB, .ref lJ, .ref aR, .ref aL, .int 0, .int 0, .int 0, .ref lC, .ref aM, .ref aP, .int 0, .int 0, .int 0, .int (-1), .int (-1), .int 0, .int 0, .long sm])), (lH, .inr (2, [.int 0, .ref eT, .int 0])), (lJ, .inr (2, [.int 0, .ref eT, .int 0])), (aR, .inl (cI, 4, .inl fR)), (lB, .inr (2, [.int 0, .ref eT, .int 0])), (ra_1, .inr (1, [.int 0, .int (-1), .int 0, .ref lB])), (q_2, .inl (cA_3, 15, .inl (upd (upd (upd (upd (upd (upd (upd (upd (upd (upd (upd (upd (upd (upd (upd (fun _ => 0) (Int32.toNatClampNeg 0) 0) (Int32.toNatClampNeg 1) 0) (Int32.toNatClampNeg 2) 0) (Int32.toNatClampNeg 3) 0) (Int32.toNatClampNeg 4) 0) (Int32.toNatClampNeg 5) 0) (Int32.toNatClampNeg 6) 0) (Int32.toNatClampNeg 7) 0) (Int32.toNatClampNeg 8) 0) (Int32.toNatClampNeg 9) (-1)) (Int32.toNatClampNeg 10) (-1)) (Int32.toNatClampNeg 11) 0) (Int32.toNatClampNeg 12) 0) (Int32.toNatClampNeg 13) 0) (Int32.toNatClampNeg 14) 10)))] H := hP
  have hD : va_D A [(h0, .inr (8, [.int 0, .ref lH, .ref lB, .ref lJ, .ref aR, .ref aL, .int 0, .int 0, .int 0, .ref lC, .ref aM, .ref aP, .int 0, .int 0, .int 0, .int (-1), .int (-1), .int 0, .int 0, .long sm])), (lH, .inr (2, [.int 0, .ref eT, .int 0])), (lJ, .inr (2, [.int 0, .ref eT, .int 0])), (aR, .inl (cI, 4, .inl fR)), (lB, .inr (2, [.int 0, .ref eT, .int 0])), (ra_1, .inr (1, [.int 0, .int (-1), .int 0, .ref lB])), (q_2, .inl (cA_3, 15, .inl (upd (upd (upd (upd (upd (upd (upd (upd (upd (upd (upd (upd (upd (upd (upd (fun _ => 0) (Int32.toNatClampNeg 0) 0) (Int32.toNatClampNeg 1) 0) (Int32.toNatClampNeg 2) 0) (Int32.toNatClampNeg 3) 0) (Int32.toNatClampNeg 4) 0) (Int32.toNatClampNeg 5) 0) (Int32.toNatClampNeg 6) 0) (Int32.toNatClampNeg 7) 0) (Int32.toNatClampNeg 8) 0) (Int32.toNatClampNeg 9) (-1)) (Int32.toNatClampNeg 10) (-1)) (Int32.toNatClampNeg 11) 0) (Int32.toNatClampNeg 12) 0) (Int32.toNatClampNeg 13) 0) (Int32.toNatClampNeg 14) 10)))] := hD
  refine lv_astore (lv' := [(4, .ref q_2), (3, .int 0), (2, .int 0), (0, .ref h0), (1, .int p0)]) hx hb dX5_manyNow_177 hl (by decide) rfl (fun ls hl => ?_)
  refine lv_aload hx hb dX5_manyNow_179 (lv_at hl 0 rfl) ?_
  refine lv_iload_n hx hb dX5_manyNow_181 rfl (lv_at hl 4 rfl) ?_
  refine va_iald hx hb hK hP 6 1 rfl rfl (in15 h1 h2) dX5_manyNow_182 ?_
  refine lv_topi (fun z9 ez9 => ?_)
  have ez9 : z9 = mt p0 := ez9.trans (mt_of (by decide +kernel) h1 h2)
  rw [ez9]
  have hP9 := hP.sub (ws' := [(h0, .inr (8, [.int 0, .ref lH, .ref lB, .ref lJ, .ref aR, .ref aL, .int 0, .int 0, .int 0, .ref lC, .ref aM, .ref aP, .int 0, .int 0, .int 0, .int (-1), .int (-1), .int 0, .int 0, .long sm])), (lB, .inr (2, [.int 0, .ref eT, .int 0])), (lH, .inr (2, [.int 0, .ref eT, .int 0])), (lJ, .inr (2, [.int 0, .ref eT, .int 0])), (aR, .inl (cI, 4, .inl fR))]) [0, 4, 1, 2, 3] rfl
  have hD9 := hD.sub (ws' := [(h0, .inr (8, [.int 0, .ref lH, .ref lB, .ref lJ, .ref aR, .ref aL, .int 0, .int 0, .int 0, .ref lC, .ref aM, .ref aP, .int 0, .int 0, .int 0, .int (-1), .int (-1), .int 0, .int 0, .long sm])), (lB, .inr (2, [.int 0, .ref eT, .int 0])), (lH, .inr (2, [.int 0, .ref eT, .int 0])), (lJ, .inr (2, [.int 0, .ref eT, .int 0])), (aR, .inl (cI, 4, .inl fR))]) [0, 4, 1, 2, 3] (by decide) rfl
  have hK9 := hK.sub (tys' := []) [] rfl
  exact W.iret (v := (mt p0)) hx hb hr (fun t ht hW => ⟨⟨(mt p0), (), rfl, rfl, ⟨by rw [ht]; exact hP9, va_K.moved hW.alike hK9, hD9⟩⟩, hS.F ht⟩) hS.2.2 dX5_manyNow_183
set_option maxHeartbeats 4000000 in
set_option maxRecDepth 100000 in
theorem r_many (l : Launch) (D : va_G) (eT : Nat) (h0 : Nat) (lH : Nat) (lB : Nat) (lJ : Nat) (aR : Nat) (aL : Nat) (lC : Nat) (aM : Nat) (aP : Nat) (sm : Int64) (cI : ClassId) (fR : Nat → Int32) (p0 : Int32) (sz : Nat) (hR : fR 3 = 10) (h1 : 0 ≤ p0) (h2 : p0 ≤ 14) : Met l yX5_many wsX5_many ({ frames := 4, cells := 2, slots := 19, locals := 78 }) (va_Pc [.ref h0, .int p0] (pc D eT sz [(h0, .inr (8, [.int 0, .ref lH, .ref lB, .ref lJ, .ref aR, .ref aL, .int 0, .int 0, .int 0, .ref lC, .ref aM, .ref aP, .int 0, .int 0, .int 0, .int (-1), .int (-1), .int 0, .int 0, .long sm])), (lB, .inr (2, [.int 0, .ref eT, .int 0])), (lH, .inr (2, [.int 0, .ref eT, .int 0])), (lJ, .inr (2, [.int 0, .ref eT, .int 0])), (aR, .inl (cI, 4, .inl fR))] [(cI, .int)])) (va_Qi (fun (r : Int32) (_ : Unit) => r = (mt p0)) (fun _ t => va_P D vwCl [(h0, .inr (8, [.int 0, .ref lH, .ref lB, .ref lJ, .ref aR, .ref aL, .int 0, .int 0, .int 0, .ref lC, .ref aM, .ref aP, .int 0, .int 0, .int 0, .int (-1), .int (-1), .int 0, .int 0, .long sm]))] t.heap ∧ va_K D vwCl [] t ∧ va_D (va_A [(h0, .inr (8, [.int 0, .ref lH, .ref lB, .ref lJ, .ref aR, .ref aL, .int 0, .int 0, .int 0, .ref lC, .ref aM, .ref aP, .int 0, .int 0, .int 0, .int (-1), .int (-1), .int 0, .int 0, .long sm])), (lB, .inr (2, [.int 0, .ref eT, .int 0])), (lH, .inr (2, [.int 0, .ref eT, .int 0])), (lJ, .inr (2, [.int 0, .ref eT, .int 0])), (aR, .inl (cI, 4, .inl fR))] sz) [(h0, .inr (8, [.int 0, .ref lH, .ref lB, .ref lJ, .ref aR, .ref aL, .int 0, .int 0, .int 0, .ref lC, .ref aM, .ref aP, .int 0, .int 0, .int 0, .int (-1), .int (-1), .int 0, .int 0, .long sm]))]) (va_A [(h0, .inr (8, [.int 0, .ref lH, .ref lB, .ref lJ, .ref aR, .ref aL, .int 0, .int 0, .int 0, .ref lC, .ref aM, .ref aP, .int 0, .int 0, .int 0, .int (-1), .int (-1), .int 0, .int 0, .long sm])), (lB, .inr (2, [.int 0, .ref eT, .int 0])), (lH, .inr (2, [.int 0, .ref eT, .int 0])), (lJ, .inr (2, [.int 0, .ref eT, .int 0])), (aR, .inl (cI, 4, .inl fR))] sz)) 2 19 (va_A [(h0, .inr (8, [.int 0, .ref lH, .ref lB, .ref lJ, .ref aR, .ref aL, .int 0, .int 0, .int 0, .ref lC, .ref aM, .ref aP, .int 0, .int 0, .int 0, .int (-1), .int (-1), .int 0, .int 0, .long sm])), (lB, .inr (2, [.int 0, .ref eT, .int 0])), (lH, .inr (2, [.int 0, .ref eT, .int 0])), (lJ, .inr (2, [.int 0, .ref eT, .int 0])), (aR, .inl (cI, 4, .inl fR))] sz) := by
  refine Met.ofW (cc := cX5_many) (maxL := 2) (ret := (some .int)) (by decide +kernel) rfl ?_
  intro p e s m args below meth c s₁ B hml hv
  obtain ⟨rfl, hsz, hP, hK, hD0, hE⟩ := hv
  have hx := B.exec
  have hb := B.bytes
  have hr := B.returns
  have hts := atoms_spec (ws := wsX5_many) B.pre
  have hown : s.vm.findClass RX5 = some m.cls := findClass_of_methodNamed B.named
  have hlocks := B.notSynchronized
  subst hsz
  have hD := hD0.self (sz := s.heap.size)
  generalize hAe : va_A [(h0, .inr (8, [.int 0, .ref lH, .ref lB, .ref lJ, .ref aR, .ref aL, .int 0, .int 0, .int 0, .ref lC, .ref aM, .ref aP, .int 0, .int 0, .int 0, .int (-1), .int (-1), .int 0, .int 0, .long sm])), (lB, .inr (2, [.int 0, .ref eT, .int 0])), (lH, .inr (2, [.int 0, .ref eT, .int 0])), (lJ, .inr (2, [.int 0, .ref eT, .int 0])), (aR, .inl (cI, 4, .inl fR))] s.heap.size = A at hD hE ⊢
  have hA : ∀ q : Nat, s.heap.size ≤ q → A q := fun q h => by rw [← hAe]; exact Or.inr h
  have hS : va_S A s.heap s.heap [] := va_S.rf
  have hP : va_P D vwCl [(h0, .inr (8, [.int 0, .ref lH, .ref lB, .ref lJ, .ref aR, .ref aL, .int 0, .int 0, .int 0, .ref lC, .ref aM, .ref aP, .int 0, .int 0, .int 0, .int (-1), .int (-1), .int 0, .int 0, .long sm])), (lB, .inr (2, [.int 0, .ref eT, .int 0])), (lH, .inr (2, [.int 0, .ref eT, .int 0])), (lJ, .inr (2, [.int 0, .ref eT, .int 0])), (aR, .inl (cI, 4, .inl fR))] s.heap := hP
  have hl := lv_entry ([.ref h0, .int p0]) (n := 2) (Nat.le_of_ble_eq_true rfl)
  rw [lg_entry_eq]
  generalize (lg_sl ([.ref h0, .int p0]) ++ List.replicate (2 - (lg_sl ([.ref h0, .int p0])).length) Slot.unset).toArray = ls at hl ⊢
  have hl : lv_has ls 2 [(0, .ref h0), (1, .int p0)] := hl
  refine lv_aload_n hx hb dX5_many_0 rfl (lv_at hl 0 rfl) ?_
  refine lv_iconst (v := 0) hx hb dX5_many_1 (by decide) ?_
  refine va_put (D := D) (ci := 8) (v := .int 0) (C := RX5) (T := TX5) (N := 20) hx hb hts (by decide +kernel) tyX5 tyX5_ok nmX5 hown hK hP hD hS 0 rfl rfl 0 (by decide) (hts (.fieldLink RX5 50 "PrizeHouseModel" "thrown" "I") (by decide +kernel)) (fun _ h9 => h9) rfl (tyX5_ok 0 (by decide)) rfl rfl (Nat.le_of_ble_eq_true rfl) dX5_many_2 (fun H locs hP hD hS => ?_)
  have hP : va_P D vwCl [(h0, .inr (8, [.int 0, .ref lH, .ref lB, .ref lJ, .ref aR, .ref aL, .int 0, .int 0, .int 0, .ref lC, .ref aM, .ref aP, .int 0, .int 0, .int 0, .int (-1), .int (-1), .int 0, .int 0, .long sm])), (lB, .inr (2, [.int 0, .ref eT, .int 0])), (lH, .inr (2, [.int 0, .ref eT, .int 0])), (lJ, .inr (2, [.int 0, .ref eT, .int 0])), (aR, .inl (cI, 4, .inl fR))] H := hP
  have hD : va_D A [(h0, .inr (8, [.int 0, .ref lH, .ref lB, .ref lJ, .ref aR, .ref aL, .int 0, .int 0, .int 0, .ref lC, .ref aM, .ref aP, .int 0, .int 0, .int 0, .int (-1), .int (-1), .int 0, .int 0, .long sm])), (lB, .inr (2, [.int 0, .ref eT, .int 0])), (lH, .inr (2, [.int 0, .ref eT, .int 0])), (lJ, .inr (2, [.int 0, .ref eT, .int 0])), (aR, .inl (cI, 4, .inl fR))] := hD
  refine lv_iload_n hx hb dX5_many_5 rfl (lv_at hl 1 rfl) ?_
  refine lv_iconst (v := 0) hx hb dX5_many_6 (by decide) ?_
  refine lv_bipush (v := 14) hx hb dX5_many_7 (by decide) ?_
  have hPc := hP.sub (ws' := []) [] rfl
  have hKc := hK.sub (tys' := []) [] rfl
  refine va_calli (va_runS (As := [.int p0, .int 0, .int 14]) (rest := []) ⟨hx, hb, hml, hown, hts⟩ (k_is_t l D eT p0 0 14 H.size h1 h2) (va_cwS 3 hts gX5_many_X5_is rfl rfl rfl (by decide +kernel) ⟨Nat.le_of_ble_eq_true rfl, Nat.le_of_ble_eq_true rfl⟩) (pr_s hPc hKc hE hS hA) rfl rfl hl.1 rfl (lv_room (Nat.le_of_ble_eq_true rfl)) dX5_many_9 ⟨Nat.le_of_ble_eq_true rfl, Nat.le_of_ble_eq_true rfl⟩) hS (fun q h1 h2 => ro_A h1 h2) (fun q h => ro_F hS hA q h) (fun r u t H1 locs ht hvm hw hB hz1 hk1 hS => ?_)
  have hw : r = 1 := hw
  rw [hw]
  have hP := ro_P hP hk1
  generalize H1 = H at hP hS ⊢
  refine lv_if_eq (tgt := 23) hx hb dX5_many_12 (by decide) (fun h => absurd h (by decide)) (fun _ => ?_)
  refine lv_aload_n hx hb dX5_many_15 rfl (lv_at hl 0 rfl) ?_
  refine lv_iload_n hx hb dX5_many_16 rfl (lv_at hl 1 rfl) ?_
  have hPc := hP.sub (ws' := [(h0, .inr (8, [.int 0, .ref lH, .ref lB, .ref lJ, .ref aR, .ref aL, .int 0, .int 0, .int 0, .ref lC, .ref aM, .ref aP, .int 0, .int 0, .int 0, .int (-1), .int (-1), .int 0, .int 0, .long sm])), (lB, .inr (2, [.int 0, .ref eT, .int 0])), (lH, .inr (2, [.int 0, .ref eT, .int 0])), (lJ, .inr (2, [.int 0, .ref eT, .int 0])), (aR, .inl (cI, 4, .inl fR))]) [0, 1, 2, 3, 4] rfl
  have hKc := hK.sub (tys' := [(cI, .int)]) [0] rfl
  have hDc := hD.sub (ws' := [(h0, .inr (8, [.int 0, .ref lH, .ref lB, .ref lJ, .ref aR, .ref aL, .int 0, .int 0, .int 0, .ref lC, .ref aM, .ref aP, .int 0, .int 0, .int 0, .int (-1), .int (-1), .int 0, .int 0, .long sm])), (lB, .inr (2, [.int 0, .ref eT, .int 0])), (lH, .inr (2, [.int 0, .ref eT, .int 0])), (lJ, .inr (2, [.int 0, .ref eT, .int 0])), (aR, .inl (cI, 4, .inl fR))]) [0, 1, 2, 3, 4] (by decide) rfl
  have hFc := va_free (wc := [(h0, .inr (8, [.int 0, .ref lH, .ref lB, .ref lJ, .ref aR, .ref aL, .int 0, .int 0, .int 0, .ref lC, .ref aM, .ref aP, .int 0, .int 0, .int 0, .int (-1), .int (-1), .int 0, .int 0, .long sm])), (lB, .inr (2, [.int 0, .ref eT, .int 0])), (lH, .inr (2, [.int 0, .ref eT, .int 0])), (lJ, .inr (2, [.int 0, .ref eT, .int 0])), (aR, .inl (cI, 4, .inl fR))]) hD hS hA [0, 1, 2, 3, 4] rfl
  refine va_calli (va_runV (As := [.int p0]) (rest := []) ⟨hx, hb, hml, hown, hts⟩ (r_manyNow l D eT h0 lH lB lJ aR aL lC aM aP sm cI fR p0 H.size hR h1 h2) (cwV 1 hts gX5_many_X5_manyNow rfl rfl rfl (by decide +kernel) ⟨Nat.le_of_ble_eq_true rfl, Nat.le_of_ble_eq_true rfl⟩) (pc_v (ci := 8) (q0 := 0) rfl rfl hPc hDc hKc hE hS hFc) rfl rfl hl.1 rfl (lv_room (Nat.le_of_ble_eq_true rfl)) dX5_many_17 ⟨Nat.le_of_ble_eq_true rfl, Nat.le_of_ble_eq_true rfl⟩) hS (fun q _ h => hFc q h) hFc (fun r u t H1 locs ht hvm hw hB hz1 hk1 hS => ?_)
  have hw : r = (mt p0) := hw
  rw [hw]
  obtain ⟨hP1, hK1, hD1⟩ := hB
  rw [ht] at hP1
  have hK1 := va_K.moved hvm.symm hK1
  obtain ⟨hP, hD⟩ := va_join (wr := []) (w1 := [(h0, .inr (8, [.int 0, .ref lH, .ref lB, .ref lJ, .ref aR, .ref aL, .int 0, .int 0, .int 0, .ref lC, .ref aM, .ref aP, .int 0, .int 0, .int 0, .int (-1), .int (-1), .int 0, .int 0, .long sm])), (lB, .inr (2, [.int 0, .ref eT, .int 0])), (lH, .inr (2, [.int 0, .ref eT, .int 0])), (lJ, .inr (2, [.int 0, .ref eT, .int 0])), (aR, .inl (cI, 4, .inl fR))]) hP hD [0, 1, 2, 3, 4] [] rfl rfl (by decide) (by decide) hk1 hFc hP1 hD1
  generalize H1 = H at hP hS ⊢
  have hP : va_P D vwCl [(h0, .inr (8, [.int 0, .ref lH, .ref lB, .ref lJ, .ref aR, .ref aL, .int 0, .int 0, .int 0, .ref lC, .ref aM, .ref aP, .int 0, .int 0, .int 0, .int (-1), .int (-1), .int 0, .int 0, .long sm])), (lB, .inr (2, [.int 0, .ref eT, .int 0])), (lH, .inr (2, [.int 0, .ref eT, .int 0])), (lJ, .inr (2, [.int 0, .ref eT, .int 0])), (aR, .inl (cI, 4, .inl fR))] H := hP
  have hD : va_D A [(h0, .inr (8, [.int 0, .ref lH, .ref lB, .ref lJ, .ref aR, .ref aL, .int 0, .int 0, .int 0, .ref lC, .ref aM, .ref aP, .int 0, .int 0, .int 0, .int (-1), .int (-1), .int 0, .int 0, .long sm])), (lB, .inr (2, [.int 0, .ref eT, .int 0])), (lH, .inr (2, [.int 0, .ref eT, .int 0])), (lJ, .inr (2, [.int 0, .ref eT, .int 0])), (aR, .inl (cI, 4, .inl fR))] := hD
  refine W.widen (k := 2) (n := 19) (Nat.le_of_ble_eq_true rfl) (Nat.le_of_ble_eq_true rfl) ?_
  refine lv_goto (tgt := 28) hx hb dX5_many_20 (by decide) ?_
  have hP9 := hP.sub (ws' := [(h0, .inr (8, [.int 0, .ref lH, .ref lB, .ref lJ, .ref aR, .ref aL, .int 0, .int 0, .int 0, .ref lC, .ref aM, .ref aP, .int 0, .int 0, .int 0, .int (-1), .int (-1), .int 0, .int 0, .long sm]))]) [0] rfl
  have hD9 := hD.sub (ws' := [(h0, .inr (8, [.int 0, .ref lH, .ref lB, .ref lJ, .ref aR, .ref aL, .int 0, .int 0, .int 0, .ref lC, .ref aM, .ref aP, .int 0, .int 0, .int 0, .int (-1), .int (-1), .int 0, .int 0, .long sm]))]) [0] (by decide) rfl
  have hK9 := hK.sub (tys' := []) [] rfl
  exact W.iret (v := (mt p0)) hx hb hr (fun t ht hW => ⟨⟨(mt p0), (), rfl, rfl, ⟨by rw [ht]; exact hP9, va_K.moved hW.alike hK9, hD9⟩⟩, hS.F ht⟩) hS.2.2 dX5_many_28
set_option maxHeartbeats 4000000 in
set_option maxRecDepth 100000 in
theorem r_add (l : Launch) (D : va_G) (eT : Nat) (h0 : Nat) (lH : Nat) (lB : Nat) (lJ : Nat) (aR : Nat) (aL : Nat) (lC : Nat) (aM : Nat) (aP : Nat) (sm : Int64) (sn : Int64) (p0 : Int32) (sz : Nat) (hs : sm * 31 + p0.toInt64 = sn) : Met l yX5_add wsX5_add ({ frames := 0, cells := 0, slots := 0, locals := 0 }) (va_Pc [.ref h0, .int p0] (pc D eT sz [(h0, .inr (8, [.int 0, .ref lH, .ref lB, .ref lJ, .ref aR, .ref aL, .int 0, .int 0, .int 0, .ref lC, .ref aM, .ref aP, .int 0, .int 0, .int 0, .int (-1), .int (-1), .int 0, .int 0, .long sm]))] [])) (va_Qv (fun (_ : Unit) => True) (fun _ t => va_P D vwCl [(h0, .inr (8, [.int 0, .ref lH, .ref lB, .ref lJ, .ref aR, .ref aL, .int 0, .int 0, .int 0, .ref lC, .ref aM, .ref aP, .int 0, .int 0, .int 0, .int (-1), .int (-1), .int 0, .int 0, .long sn]))] t.heap ∧ va_K D vwCl [] t ∧ va_D (va_A [(h0, .inr (8, [.int 0, .ref lH, .ref lB, .ref lJ, .ref aR, .ref aL, .int 0, .int 0, .int 0, .ref lC, .ref aM, .ref aP, .int 0, .int 0, .int 0, .int (-1), .int (-1), .int 0, .int 0, .long sm]))] sz) [(h0, .inr (8, [.int 0, .ref lH, .ref lB, .ref lJ, .ref aR, .ref aL, .int 0, .int 0, .int 0, .ref lC, .ref aM, .ref aP, .int 0, .int 0, .int 0, .int (-1), .int (-1), .int 0, .int 0, .long sn]))]) (va_A [(h0, .inr (8, [.int 0, .ref lH, .ref lB, .ref lJ, .ref aR, .ref aL, .int 0, .int 0, .int 0, .ref lC, .ref aM, .ref aP, .int 0, .int 0, .int 0, .int (-1), .int (-1), .int 0, .int 0, .long sm]))] sz)) 0 0 (va_A [(h0, .inr (8, [.int 0, .ref lH, .ref lB, .ref lJ, .ref aR, .ref aL, .int 0, .int 0, .int 0, .ref lC, .ref aM, .ref aP, .int 0, .int 0, .int 0, .int (-1), .int (-1), .int 0, .int 0, .long sm]))] sz) := by
  refine Met.ofW (cc := cX5_add) (maxL := 2) (ret := none) (by decide +kernel) rfl ?_
  intro p e s m args below meth c s₁ B hml hv
  obtain ⟨rfl, hsz, hP, hK, hD0, hE⟩ := hv
  have hx := B.exec
  have hb := B.bytes
  have hr := B.returns
  have hts := atoms_spec (ws := wsX5_add) B.pre
  have hown : s.vm.findClass RX5 = some m.cls := findClass_of_methodNamed B.named
  have hlocks := B.notSynchronized
  subst hsz
  have hD := hD0.self (sz := s.heap.size)
  generalize hAe : va_A [(h0, .inr (8, [.int 0, .ref lH, .ref lB, .ref lJ, .ref aR, .ref aL, .int 0, .int 0, .int 0, .ref lC, .ref aM, .ref aP, .int 0, .int 0, .int 0, .int (-1), .int (-1), .int 0, .int 0, .long sm]))] s.heap.size = A at hD hE ⊢
  have hA : ∀ q : Nat, s.heap.size ≤ q → A q := fun q h => by rw [← hAe]; exact Or.inr h
  have hS : va_S A s.heap s.heap [] := va_S.rf
  have hP : va_P D vwCl [(h0, .inr (8, [.int 0, .ref lH, .ref lB, .ref lJ, .ref aR, .ref aL, .int 0, .int 0, .int 0, .ref lC, .ref aM, .ref aP, .int 0, .int 0, .int 0, .int (-1), .int (-1), .int 0, .int 0, .long sm]))] s.heap := hP
  have hl := lv_entry ([.ref h0, .int p0]) (n := 2) (Nat.le_of_ble_eq_true rfl)
  rw [lg_entry_eq]
  generalize (lg_sl ([.ref h0, .int p0]) ++ List.replicate (2 - (lg_sl ([.ref h0, .int p0])).length) Slot.unset).toArray = ls at hl ⊢
  have hl : lv_has ls 2 [(0, .ref h0), (1, .int p0)] := hl
  refine lv_aload_n hx hb dX5_add_0 rfl (lv_at hl 0 rfl) ?_
  refine lv_aload_n hx hb dX5_add_1 rfl (lv_at hl 0 rfl) ?_
  refine va_get (D := D) (ci := 8) (v := .long sm) (C := RX5) (T := TX5) (N := 20) hx hb hts (by decide +kernel) hown hK hP 0 rfl rfl 19 (by decide) (hts (.fieldLink RX5 280 "PrizeHouseModel" "sum" "J") (by decide +kernel)) (fun _ h9 => h9) rfl dX5_add_2 ?_
  refine lv_ldc2 (v := 31) hx hb hown (hts (.constantLong RX5 284 (31)) (by decide +kernel)) dX5_add_5 ?_
  refine lv_lmul hx hb dX5_add_8 ?_
  refine lv_iload_n hx hb dX5_add_9 rfl (lv_at hl 1 rfl) ?_
  refine lv_i2l hx hb dX5_add_10 rfl ?_
  refine lv_ladd hx hb dX5_add_11 ?_
  refine lv_topl (fun z9 ez9 => ?_)
  have ez9 : z9 = sn := ez9.trans hs
  rw [ez9]
  refine va_put (D := D) (ci := 8) (v := .long sn) (C := RX5) (T := TX5) (N := 20) hx hb hts (by decide +kernel) tyX5 tyX5_ok nmX5 hown hK hP hD hS 0 rfl rfl 19 (by decide) (hts (.fieldLink RX5 280 "PrizeHouseModel" "sum" "J") (by decide +kernel)) (fun _ h9 => h9) rfl (tyX5_ok 19 (by decide)) rfl rfl (Nat.le_of_ble_eq_true rfl) dX5_add_12 (fun H locs hP hD hS => ?_)
  have hP : va_P D vwCl [(h0, .inr (8, [.int 0, .ref lH, .ref lB, .ref lJ, .ref aR, .ref aL, .int 0, .int 0, .int 0, .ref lC, .ref aM, .ref aP, .int 0, .int 0, .int 0, .int (-1), .int (-1), .int 0, .int 0, .long sn]))] H := hP
  have hD : va_D A [(h0, .inr (8, [.int 0, .ref lH, .ref lB, .ref lJ, .ref aR, .ref aL, .int 0, .int 0, .int 0, .ref lC, .ref aM, .ref aP, .int 0, .int 0, .int 0, .int (-1), .int (-1), .int 0, .int 0, .long sn]))] := hD
  have hP9 := hP.sub (ws' := [(h0, .inr (8, [.int 0, .ref lH, .ref lB, .ref lJ, .ref aR, .ref aL, .int 0, .int 0, .int 0, .ref lC, .ref aM, .ref aP, .int 0, .int 0, .int 0, .int (-1), .int (-1), .int 0, .int 0, .long sn]))]) [0] rfl
  have hD9 := hD.sub (ws' := [(h0, .inr (8, [.int 0, .ref lH, .ref lB, .ref lJ, .ref aR, .ref aL, .int 0, .int 0, .int 0, .ref lC, .ref aM, .ref aP, .int 0, .int 0, .int 0, .int (-1), .int (-1), .int 0, .int 0, .long sn]))]) [0] (by decide) rfl
  have hK9 := hK.sub (tys' := []) [] rfl
  exact W.vret hx hb hr (fun t ht hW => ⟨⟨(), rfl, trivial, ⟨by rw [ht]; exact hP9, va_K.moved hW.alike hK9, hD9⟩⟩, hS.F ht⟩) hS.2.2 dX5_add_15
set_option maxHeartbeats 4000000 in
set_option maxRecDepth 100000 in
theorem r_digest (l : Launch) (D : va_G) (eT : Nat) (h0 : Nat) (lH : Nat) (lB : Nat) (lJ : Nat) (aR : Nat) (aL : Nat) (lC : Nat) (aM : Nat) (aP : Nat) (sm : Int64) (cI : ClassId) (fR : Nat → Int32) (sz : Nat) (hR : fR 3 = 10) : Met l yX5_digest wsX5_digest ({ frames := 4, cells := 30, slots := 285, locals := 78 }) (va_Pc [.ref h0] (pc D eT sz [(h0, .inr (8, [.int 0, .ref lH, .ref lB, .ref lJ, .ref aR, .ref aL, .int 0, .int 0, .int 0, .ref lC, .ref aM, .ref aP, .int 0, .int 0, .int 0, .int (-1), .int (-1), .int 0, .int 0, .long sm])), (lB, .inr (2, [.int 0, .ref eT, .int 0])), (lH, .inr (2, [.int 0, .ref eT, .int 0])), (lJ, .inr (2, [.int 0, .ref eT, .int 0])), (aR, .inl (cI, 4, .inl fR))] [(cI, .int)])) (va_Ql (fun (r : Int64) (_ : Unit) => r = (-7699694265744296525)) (fun _ t => va_P D vwCl [] t.heap ∧ va_K D vwCl [] t ∧ va_D (va_A [(h0, .inr (8, [.int 0, .ref lH, .ref lB, .ref lJ, .ref aR, .ref aL, .int 0, .int 0, .int 0, .ref lC, .ref aM, .ref aP, .int 0, .int 0, .int 0, .int (-1), .int (-1), .int 0, .int 0, .long sm])), (lB, .inr (2, [.int 0, .ref eT, .int 0])), (lH, .inr (2, [.int 0, .ref eT, .int 0])), (lJ, .inr (2, [.int 0, .ref eT, .int 0])), (aR, .inl (cI, 4, .inl fR))] sz) []) (va_A [(h0, .inr (8, [.int 0, .ref lH, .ref lB, .ref lJ, .ref aR, .ref aL, .int 0, .int 0, .int 0, .ref lC, .ref aM, .ref aP, .int 0, .int 0, .int 0, .int (-1), .int (-1), .int 0, .int 0, .long sm])), (lB, .inr (2, [.int 0, .ref eT, .int 0])), (lH, .inr (2, [.int 0, .ref eT, .int 0])), (lJ, .inr (2, [.int 0, .ref eT, .int 0])), (aR, .inl (cI, 4, .inl fR))] sz)) 30 285 (va_A [(h0, .inr (8, [.int 0, .ref lH, .ref lB, .ref lJ, .ref aR, .ref aL, .int 0, .int 0, .int 0, .ref lC, .ref aM, .ref aP, .int 0, .int 0, .int 0, .int (-1), .int (-1), .int 0, .int 0, .long sm])), (lB, .inr (2, [.int 0, .ref eT, .int 0])), (lH, .inr (2, [.int 0, .ref eT, .int 0])), (lJ, .inr (2, [.int 0, .ref eT, .int 0])), (aR, .inl (cI, 4, .inl fR))] sz) := by
  refine Met.ofW (cc := cX5_digest) (maxL := 3) (ret := (some .long)) (by decide +kernel) rfl ?_
  intro p e s m args below meth c s₁ B hml hv
  obtain ⟨rfl, hsz, hP, hK, hD0, hE⟩ := hv
  have hx := B.exec
  have hb := B.bytes
  have hr := B.returns
  have hts := atoms_spec (ws := wsX5_digest) B.pre
  have hown : s.vm.findClass RX5 = some m.cls := findClass_of_methodNamed B.named
  have hlocks := B.notSynchronized
  subst hsz
  have hD := hD0.self (sz := s.heap.size)
  generalize hAe : va_A [(h0, .inr (8, [.int 0, .ref lH, .ref lB, .ref lJ, .ref aR, .ref aL, .int 0, .int 0, .int 0, .ref lC, .ref aM, .ref aP, .int 0, .int 0, .int 0, .int (-1), .int (-1), .int 0, .int 0, .long sm])), (lB, .inr (2, [.int 0, .ref eT, .int 0])), (lH, .inr (2, [.int 0, .ref eT, .int 0])), (lJ, .inr (2, [.int 0, .ref eT, .int 0])), (aR, .inl (cI, 4, .inl fR))] s.heap.size = A at hD hE ⊢
  have hA : ∀ q : Nat, s.heap.size ≤ q → A q := fun q h => by rw [← hAe]; exact Or.inr h
  have hS : va_S A s.heap s.heap [] := va_S.rf
  have hP : va_P D vwCl [(h0, .inr (8, [.int 0, .ref lH, .ref lB, .ref lJ, .ref aR, .ref aL, .int 0, .int 0, .int 0, .ref lC, .ref aM, .ref aP, .int 0, .int 0, .int 0, .int (-1), .int (-1), .int 0, .int 0, .long sm])), (lB, .inr (2, [.int 0, .ref eT, .int 0])), (lH, .inr (2, [.int 0, .ref eT, .int 0])), (lJ, .inr (2, [.int 0, .ref eT, .int 0])), (aR, .inl (cI, 4, .inl fR))] s.heap := hP
  have hl := lv_entry ([.ref h0]) (n := 3) (Nat.le_of_ble_eq_true rfl)
  rw [lg_entry_eq]
  generalize (lg_sl ([.ref h0]) ++ List.replicate (3 - (lg_sl ([.ref h0])).length) Slot.unset).toArray = ls at hl ⊢
  have hl : lv_has ls 3 [(0, .ref h0)] := hl
  refine lv_aload_n hx hb dX5_digest_0 rfl (lv_at hl 0 rfl) ?_
  refine lv_iconst (v := 0) hx hb dX5_digest_1 (by decide) ?_
  refine va_put (D := D) (ci := 8) (v := .int 0) (C := RX5) (T := TX5) (N := 20) hx hb hts (by decide +kernel) tyX5 tyX5_ok nmX5 hown hK hP hD hS 0 rfl rfl 0 (by decide) (hts (.fieldLink RX5 50 "PrizeHouseModel" "thrown" "I") (by decide +kernel)) (fun _ h9 => h9) rfl (tyX5_ok 0 (by decide)) rfl rfl (Nat.le_of_ble_eq_true rfl) dX5_digest_2 (fun H locs hP hD hS => ?_)
  have hP : va_P D vwCl [(h0, .inr (8, [.int 0, .ref lH, .ref lB, .ref lJ, .ref aR, .ref aL, .int 0, .int 0, .int 0, .ref lC, .ref aM, .ref aP, .int 0, .int 0, .int 0, .int (-1), .int (-1), .int 0, .int 0, .long sm])), (lB, .inr (2, [.int 0, .ref eT, .int 0])), (lH, .inr (2, [.int 0, .ref eT, .int 0])), (lJ, .inr (2, [.int 0, .ref eT, .int 0])), (aR, .inl (cI, 4, .inl fR))] H := hP
  have hD : va_D A [(h0, .inr (8, [.int 0, .ref lH, .ref lB, .ref lJ, .ref aR, .ref aL, .int 0, .int 0, .int 0, .ref lC, .ref aM, .ref aP, .int 0, .int 0, .int 0, .int (-1), .int (-1), .int 0, .int 0, .long sm])), (lB, .inr (2, [.int 0, .ref eT, .int 0])), (lH, .inr (2, [.int 0, .ref eT, .int 0])), (lJ, .inr (2, [.int 0, .ref eT, .int 0])), (aR, .inl (cI, 4, .inl fR))] := hD
  refine lv_aload_n hx hb dX5_digest_5 rfl (lv_at hl 0 rfl) ?_
  refine lv_ldc2 (v := 9117) hx hb hown (hts (.constantLong RX5 286 (9117)) (by decide +kernel)) dX5_digest_6 ?_
  refine va_put (D := D) (ci := 8) (v := .long 9117) (C := RX5) (T := TX5) (N := 20) hx hb hts (by decide +kernel) tyX5 tyX5_ok nmX5 hown hK hP hD hS 0 rfl rfl 19 (by decide) (hts (.fieldLink RX5 280 "PrizeHouseModel" "sum" "J") (by decide +kernel)) (fun _ h9 => h9) rfl (tyX5_ok 19 (by decide)) rfl rfl (Nat.le_of_ble_eq_true rfl) dX5_digest_9 (fun H locs hP hD hS => ?_)
  have hP : va_P D vwCl [(h0, .inr (8, [.int 0, .ref lH, .ref lB, .ref lJ, .ref aR, .ref aL, .int 0, .int 0, .int 0, .ref lC, .ref aM, .ref aP, .int 0, .int 0, .int 0, .int (-1), .int (-1), .int 0, .int 0, .long 9117])), (lB, .inr (2, [.int 0, .ref eT, .int 0])), (lH, .inr (2, [.int 0, .ref eT, .int 0])), (lJ, .inr (2, [.int 0, .ref eT, .int 0])), (aR, .inl (cI, 4, .inl fR))] H := hP
  have hD : va_D A [(h0, .inr (8, [.int 0, .ref lH, .ref lB, .ref lJ, .ref aR, .ref aL, .int 0, .int 0, .int 0, .ref lC, .ref aM, .ref aP, .int 0, .int 0, .int 0, .int (-1), .int (-1), .int 0, .int 0, .long 9117])), (lB, .inr (2, [.int 0, .ref eT, .int 0])), (lH, .inr (2, [.int 0, .ref eT, .int 0])), (lJ, .inr (2, [.int 0, .ref eT, .int 0])), (aR, .inl (cI, 4, .inl fR))] := hD
  refine lv_iconst (v := 0) hx hb dX5_digest_12 (by decide) ?_
  refine lv_istore_n (lv' := [(1, .int 0), (0, .ref h0)]) hx hb dX5_digest_13 rfl hl (by decide) rfl (fun ls hl => ?_)
  refine lv_iload_n hx hb dX5_digest_14 rfl (lv_at hl 0 rfl) ?_
  refine lv_bipush (v := 15) hx hb dX5_digest_15 (by decide) ?_
  refine lv_icmp_ge (tgt := 35) hx hb dX5_digest_17 (by decide) (fun h => absurd h (by decide)) (fun _ => ?_)
  refine lv_aload_n hx hb dX5_digest_20 rfl (lv_at hl 1 rfl) ?_
  refine lv_aload_n hx hb dX5_digest_21 rfl (lv_at hl 1 rfl) ?_
  refine lv_iload_n hx hb dX5_digest_22 rfl (lv_at hl 0 rfl) ?_
  have hPc := hP.sub (ws' := [(h0, .inr (8, [.int 0, .ref lH, .ref lB, .ref lJ, .ref aR, .ref aL, .int 0, .int 0, .int 0, .ref lC, .ref aM, .ref aP, .int 0, .int 0, .int 0, .int (-1), .int (-1), .int 0, .int 0, .long 9117])), (lB, .inr (2, [.int 0, .ref eT, .int 0])), (lH, .inr (2, [.int 0, .ref eT, .int 0])), (lJ, .inr (2, [.int 0, .ref eT, .int 0])), (aR, .inl (cI, 4, .inl fR))]) [0, 1, 2, 3, 4] rfl
  have hKc := hK.sub (tys' := [(cI, .int)]) [0] rfl
  have hDc := hD.sub (ws' := [(h0, .inr (8, [.int 0, .ref lH, .ref lB, .ref lJ, .ref aR, .ref aL, .int 0, .int 0, .int 0, .ref lC, .ref aM, .ref aP, .int 0, .int 0, .int 0, .int (-1), .int (-1), .int 0, .int 0, .long 9117])), (lB, .inr (2, [.int 0, .ref eT, .int 0])), (lH, .inr (2, [.int 0, .ref eT, .int 0])), (lJ, .inr (2, [.int 0, .ref eT, .int 0])), (aR, .inl (cI, 4, .inl fR))]) [0, 1, 2, 3, 4] (by decide) rfl
  have hFc := va_free (wc := [(h0, .inr (8, [.int 0, .ref lH, .ref lB, .ref lJ, .ref aR, .ref aL, .int 0, .int 0, .int 0, .ref lC, .ref aM, .ref aP, .int 0, .int 0, .int 0, .int (-1), .int (-1), .int 0, .int 0, .long 9117])), (lB, .inr (2, [.int 0, .ref eT, .int 0])), (lH, .inr (2, [.int 0, .ref eT, .int 0])), (lJ, .inr (2, [.int 0, .ref eT, .int 0])), (aR, .inl (cI, 4, .inl fR))]) hD hS hA [0, 1, 2, 3, 4] rfl
  refine va_calli (va_runV (As := [.int 0]) (rest := [.ref h0]) ⟨hx, hb, hml, hown, hts⟩ (r_manyNow l D eT h0 lH lB lJ aR aL lC aM aP 9117 cI fR 0 H.size hR (by decide) (by decide)) (cwV 1 hts gX5_digest_X5_manyNow rfl rfl rfl (by decide +kernel) ⟨Nat.le_of_ble_eq_true rfl, Nat.le_of_ble_eq_true rfl⟩) (pc_v (ci := 8) (q0 := 0) rfl rfl hPc hDc hKc hE hS hFc) rfl rfl hl.1 rfl (lv_room (Nat.le_of_ble_eq_true rfl)) dX5_digest_23 ⟨Nat.le_of_ble_eq_true rfl, Nat.le_of_ble_eq_true rfl⟩) hS (fun q _ h => hFc q h) hFc (fun r u t H1 locs ht hvm hw hB hz1 hk1 hS => ?_)
  have hw : r = 0 := hw.trans (by decide)
  rw [hw]
  obtain ⟨hP1, hK1, hD1⟩ := hB
  rw [ht] at hP1
  have hK1 := va_K.moved hvm.symm hK1
  obtain ⟨hP, hD⟩ := va_join (wr := []) (w1 := [(h0, .inr (8, [.int 0, .ref lH, .ref lB, .ref lJ, .ref aR, .ref aL, .int 0, .int 0, .int 0, .ref lC, .ref aM, .ref aP, .int 0, .int 0, .int 0, .int (-1), .int (-1), .int 0, .int 0, .long 9117])), (lB, .inr (2, [.int 0, .ref eT, .int 0])), (lH, .inr (2, [.int 0, .ref eT, .int 0])), (lJ, .inr (2, [.int 0, .ref eT, .int 0])), (aR, .inl (cI, 4, .inl fR))]) hP hD [0, 1, 2, 3, 4] [] rfl rfl (by decide) (by decide) hk1 hFc hP1 hD1
  generalize H1 = H at hP hS ⊢
  have hP : va_P D vwCl [(h0, .inr (8, [.int 0, .ref lH, .ref lB, .ref lJ, .ref aR, .ref aL, .int 0, .int 0, .int 0, .ref lC, .ref aM, .ref aP, .int 0, .int 0, .int 0, .int (-1), .int (-1), .int 0, .int 0, .long 9117])), (lB, .inr (2, [.int 0, .ref eT, .int 0])), (lH, .inr (2, [.int 0, .ref eT, .int 0])), (lJ, .inr (2, [.int 0, .ref eT, .int 0])), (aR, .inl (cI, 4, .inl fR))] H := hP
  have hD : va_D A [(h0, .inr (8, [.int 0, .ref lH, .ref lB, .ref lJ, .ref aR, .ref aL, .int 0, .int 0, .int 0, .ref lC, .ref aM, .ref aP, .int 0, .int 0, .int 0, .int (-1), .int (-1), .int 0, .int 0, .long 9117])), (lB, .inr (2, [.int 0, .ref eT, .int 0])), (lH, .inr (2, [.int 0, .ref eT, .int 0])), (lJ, .inr (2, [.int 0, .ref eT, .int 0])), (aR, .inl (cI, 4, .inl fR))] := hD
  refine W.widen (k := 2) (n := 19) (Nat.le_of_ble_eq_true rfl) (Nat.le_of_ble_eq_true rfl) ?_
  have hPc := hP.sub (ws' := [(h0, .inr (8, [.int 0, .ref lH, .ref lB, .ref lJ, .ref aR, .ref aL, .int 0, .int 0, .int 0, .ref lC, .ref aM, .ref aP, .int 0, .int 0, .int 0, .int (-1), .int (-1), .int 0, .int 0, .long 9117]))]) [0] rfl
  have hKc := hK.sub (tys' := []) [] rfl
  have hDc := hD.sub (ws' := [(h0, .inr (8, [.int 0, .ref lH, .ref lB, .ref lJ, .ref aR, .ref aL, .int 0, .int 0, .int 0, .ref lC, .ref aM, .ref aP, .int 0, .int 0, .int 0, .int (-1), .int (-1), .int 0, .int 0, .long 9117]))]) [0] (by decide) rfl
  have hFc := va_free (wc := [(h0, .inr (8, [.int 0, .ref lH, .ref lB, .ref lJ, .ref aR, .ref aL, .int 0, .int 0, .int 0, .ref lC, .ref aM, .ref aP, .int 0, .int 0, .int 0, .int (-1), .int (-1), .int 0, .int 0, .long 9117]))]) hD hS hA [0] rfl
  refine va_callv (va_runV (As := [.int 0]) (rest := []) ⟨hx, hb, hml, hown, hts⟩ (r_add l D eT h0 lH lB lJ aR aL lC aM aP 9117 282627 0 H.size (by decide +kernel)) (cwV 1 hts gX5_digest_X5_add rfl rfl rfl (by decide +kernel) ⟨Nat.le_of_ble_eq_true rfl, Nat.le_of_ble_eq_true rfl⟩) (pc_v (ci := 8) (q0 := 0) rfl rfl hPc hDc hKc hE hS hFc) rfl rfl hl.1 rfl (lv_room (Nat.le_of_ble_eq_true rfl)) dX5_digest_26 ⟨Nat.le_of_ble_eq_true rfl, Nat.le_of_ble_eq_true rfl⟩) hS (fun q _ h => hFc q h) hFc (fun u t H1 locs ht hvm hw hB hz1 hk1 hS => ?_)
  obtain ⟨hP1, hK1, hD1⟩ := hB
  rw [ht] at hP1
  have hK1 := va_K.moved hvm.symm hK1
  obtain ⟨hP, hD⟩ := va_join (wr := [(lB, .inr (2, [.int 0, .ref eT, .int 0])), (lH, .inr (2, [.int 0, .ref eT, .int 0])), (lJ, .inr (2, [.int 0, .ref eT, .int 0])), (aR, .inl (cI, 4, .inl fR))]) (w1 := [(h0, .inr (8, [.int 0, .ref lH, .ref lB, .ref lJ, .ref aR, .ref aL, .int 0, .int 0, .int 0, .ref lC, .ref aM, .ref aP, .int 0, .int 0, .int 0, .int (-1), .int (-1), .int 0, .int 0, .long 282627]))]) hP hD [0] [1, 2, 3, 4] rfl rfl (by decide) (by decide) hk1 hFc hP1 hD1
  generalize H1 = H at hP hS ⊢
  have hP : va_P D vwCl [(lB, .inr (2, [.int 0, .ref eT, .int 0])), (lH, .inr (2, [.int 0, .ref eT, .int 0])), (lJ, .inr (2, [.int 0, .ref eT, .int 0])), (aR, .inl (cI, 4, .inl fR)), (h0, .inr (8, [.int 0, .ref lH, .ref lB, .ref lJ, .ref aR, .ref aL, .int 0, .int 0, .int 0, .ref lC, .ref aM, .ref aP, .int 0, .int 0, .int 0, .int (-1), .int (-1), .int 0, .int 0, .long 282627]))] H := hP
  have hD : va_D A [(lB, .inr (2, [.int 0, .ref eT, .int 0])), (lH, .inr (2, [.int 0, .ref eT, .int 0])), (lJ, .inr (2, [.int 0, .ref eT, .int 0])), (aR, .inl (cI, 4, .inl fR)), (h0, .inr (8, [.int 0, .ref lH, .ref lB, .ref lJ, .ref aR, .ref aL, .int 0, .int 0, .int 0, .ref lC, .ref aM, .ref aP, .int 0, .int 0, .int 0, .int (-1), .int (-1), .int 0, .int 0, .long 282627]))] := hD
  refine lv_iinc (v := 1) (lv' := [(1, .int 1), (0, .ref h0)]) hx hb dX5_digest_29 hl (k := 0) rfl (by decide) (by decide) rfl (fun ls hl => ?_)
  refine lv_goto (tgt := 14) hx hb dX5_digest_32 (by decide) ?_
  refine lv_iload_n hx hb dX5_digest_14 rfl (lv_at hl 0 rfl) ?_
  refine lv_bipush (v := 15) hx hb dX5_digest_15 (by decide) ?_
  refine lv_icmp_ge (tgt := 35) hx hb dX5_digest_17 (by decide) (fun h => absurd h (by decide)) (fun _ => ?_)
  refine lv_aload_n hx hb dX5_digest_20 rfl (lv_at hl 1 rfl) ?_
  refine lv_aload_n hx hb dX5_digest_21 rfl (lv_at hl 1 rfl) ?_
  refine lv_iload_n hx hb dX5_digest_22 rfl (lv_at hl 0 rfl) ?_
  have hPc := hP.sub (ws' := [(h0, .inr (8, [.int 0, .ref lH, .ref lB, .ref lJ, .ref aR, .ref aL, .int 0, .int 0, .int 0, .ref lC, .ref aM, .ref aP, .int 0, .int 0, .int 0, .int (-1), .int (-1), .int 0, .int 0, .long 282627])), (lB, .inr (2, [.int 0, .ref eT, .int 0])), (lH, .inr (2, [.int 0, .ref eT, .int 0])), (lJ, .inr (2, [.int 0, .ref eT, .int 0])), (aR, .inl (cI, 4, .inl fR))]) [4, 0, 1, 2, 3] rfl
  have hKc := hK.sub (tys' := [(cI, .int)]) [0] rfl
  have hDc := hD.sub (ws' := [(h0, .inr (8, [.int 0, .ref lH, .ref lB, .ref lJ, .ref aR, .ref aL, .int 0, .int 0, .int 0, .ref lC, .ref aM, .ref aP, .int 0, .int 0, .int 0, .int (-1), .int (-1), .int 0, .int 0, .long 282627])), (lB, .inr (2, [.int 0, .ref eT, .int 0])), (lH, .inr (2, [.int 0, .ref eT, .int 0])), (lJ, .inr (2, [.int 0, .ref eT, .int 0])), (aR, .inl (cI, 4, .inl fR))]) [4, 0, 1, 2, 3] (by decide) rfl
  have hFc := va_free (wc := [(h0, .inr (8, [.int 0, .ref lH, .ref lB, .ref lJ, .ref aR, .ref aL, .int 0, .int 0, .int 0, .ref lC, .ref aM, .ref aP, .int 0, .int 0, .int 0, .int (-1), .int (-1), .int 0, .int 0, .long 282627])), (lB, .inr (2, [.int 0, .ref eT, .int 0])), (lH, .inr (2, [.int 0, .ref eT, .int 0])), (lJ, .inr (2, [.int 0, .ref eT, .int 0])), (aR, .inl (cI, 4, .inl fR))]) hD hS hA [4, 0, 1, 2, 3] rfl
  refine va_calli (va_runV (As := [.int 1]) (rest := [.ref h0]) ⟨hx, hb, hml, hown, hts⟩ (r_manyNow l D eT h0 lH lB lJ aR aL lC aM aP 282627 cI fR 1 H.size hR (by decide) (by decide)) (cwV 1 hts gX5_digest_X5_manyNow rfl rfl rfl (by decide +kernel) ⟨Nat.le_of_ble_eq_true rfl, Nat.le_of_ble_eq_true rfl⟩) (pc_v (ci := 8) (q0 := 0) rfl rfl hPc hDc hKc hE hS hFc) rfl rfl hl.1 rfl (lv_room (Nat.le_of_ble_eq_true rfl)) dX5_digest_23 ⟨Nat.le_of_ble_eq_true rfl, Nat.le_of_ble_eq_true rfl⟩) hS (fun q _ h => hFc q h) hFc (fun r u t H1 locs ht hvm hw hB hz1 hk1 hS => ?_)
  have hw : r = 0 := hw.trans (by decide)
  rw [hw]
  obtain ⟨hP1, hK1, hD1⟩ := hB
  rw [ht] at hP1
  have hK1 := va_K.moved hvm.symm hK1
  obtain ⟨hP, hD⟩ := va_join (wr := []) (w1 := [(h0, .inr (8, [.int 0, .ref lH, .ref lB, .ref lJ, .ref aR, .ref aL, .int 0, .int 0, .int 0, .ref lC, .ref aM, .ref aP, .int 0, .int 0, .int 0, .int (-1), .int (-1), .int 0, .int 0, .long 282627])), (lB, .inr (2, [.int 0, .ref eT, .int 0])), (lH, .inr (2, [.int 0, .ref eT, .int 0])), (lJ, .inr (2, [.int 0, .ref eT, .int 0])), (aR, .inl (cI, 4, .inl fR))]) hP hD [4, 0, 1, 2, 3] [] rfl rfl (by decide) (by decide) hk1 hFc hP1 hD1
  generalize H1 = H at hP hS ⊢
  have hP : va_P D vwCl [(h0, .inr (8, [.int 0, .ref lH, .ref lB, .ref lJ, .ref aR, .ref aL, .int 0, .int 0, .int 0, .ref lC, .ref aM, .ref aP, .int 0, .int 0, .int 0, .int (-1), .int (-1), .int 0, .int 0, .long 282627])), (lB, .inr (2, [.int 0, .ref eT, .int 0])), (lH, .inr (2, [.int 0, .ref eT, .int 0])), (lJ, .inr (2, [.int 0, .ref eT, .int 0])), (aR, .inl (cI, 4, .inl fR))] H := hP
  have hD : va_D A [(h0, .inr (8, [.int 0, .ref lH, .ref lB, .ref lJ, .ref aR, .ref aL, .int 0, .int 0, .int 0, .ref lC, .ref aM, .ref aP, .int 0, .int 0, .int 0, .int (-1), .int (-1), .int 0, .int 0, .long 282627])), (lB, .inr (2, [.int 0, .ref eT, .int 0])), (lH, .inr (2, [.int 0, .ref eT, .int 0])), (lJ, .inr (2, [.int 0, .ref eT, .int 0])), (aR, .inl (cI, 4, .inl fR))] := hD
  refine W.widen (k := 4) (n := 38) (Nat.le_of_ble_eq_true rfl) (Nat.le_of_ble_eq_true rfl) ?_
  have hPc := hP.sub (ws' := [(h0, .inr (8, [.int 0, .ref lH, .ref lB, .ref lJ, .ref aR, .ref aL, .int 0, .int 0, .int 0, .ref lC, .ref aM, .ref aP, .int 0, .int 0, .int 0, .int (-1), .int (-1), .int 0, .int 0, .long 282627]))]) [0] rfl
  have hKc := hK.sub (tys' := []) [] rfl
  have hDc := hD.sub (ws' := [(h0, .inr (8, [.int 0, .ref lH, .ref lB, .ref lJ, .ref aR, .ref aL, .int 0, .int 0, .int 0, .ref lC, .ref aM, .ref aP, .int 0, .int 0, .int 0, .int (-1), .int (-1), .int 0, .int 0, .long 282627]))]) [0] (by decide) rfl
  have hFc := va_free (wc := [(h0, .inr (8, [.int 0, .ref lH, .ref lB, .ref lJ, .ref aR, .ref aL, .int 0, .int 0, .int 0, .ref lC, .ref aM, .ref aP, .int 0, .int 0, .int 0, .int (-1), .int (-1), .int 0, .int 0, .long 282627]))]) hD hS hA [0] rfl
  refine va_callv (va_runV (As := [.int 0]) (rest := []) ⟨hx, hb, hml, hown, hts⟩ (r_add l D eT h0 lH lB lJ aR aL lC aM aP 282627 8761437 0 H.size (by decide +kernel)) (cwV 1 hts gX5_digest_X5_add rfl rfl rfl (by decide +kernel) ⟨Nat.le_of_ble_eq_true rfl, Nat.le_of_ble_eq_true rfl⟩) (pc_v (ci := 8) (q0 := 0) rfl rfl hPc hDc hKc hE hS hFc) rfl rfl hl.1 rfl (lv_room (Nat.le_of_ble_eq_true rfl)) dX5_digest_26 ⟨Nat.le_of_ble_eq_true rfl, Nat.le_of_ble_eq_true rfl⟩) hS (fun q _ h => hFc q h) hFc (fun u t H1 locs ht hvm hw hB hz1 hk1 hS => ?_)
  obtain ⟨hP1, hK1, hD1⟩ := hB
  rw [ht] at hP1
  have hK1 := va_K.moved hvm.symm hK1
  obtain ⟨hP, hD⟩ := va_join (wr := [(lB, .inr (2, [.int 0, .ref eT, .int 0])), (lH, .inr (2, [.int 0, .ref eT, .int 0])), (lJ, .inr (2, [.int 0, .ref eT, .int 0])), (aR, .inl (cI, 4, .inl fR))]) (w1 := [(h0, .inr (8, [.int 0, .ref lH, .ref lB, .ref lJ, .ref aR, .ref aL, .int 0, .int 0, .int 0, .ref lC, .ref aM, .ref aP, .int 0, .int 0, .int 0, .int (-1), .int (-1), .int 0, .int 0, .long 8761437]))]) hP hD [0] [1, 2, 3, 4] rfl rfl (by decide) (by decide) hk1 hFc hP1 hD1
  generalize H1 = H at hP hS ⊢
  have hP : va_P D vwCl [(lB, .inr (2, [.int 0, .ref eT, .int 0])), (lH, .inr (2, [.int 0, .ref eT, .int 0])), (lJ, .inr (2, [.int 0, .ref eT, .int 0])), (aR, .inl (cI, 4, .inl fR)), (h0, .inr (8, [.int 0, .ref lH, .ref lB, .ref lJ, .ref aR, .ref aL, .int 0, .int 0, .int 0, .ref lC, .ref aM, .ref aP, .int 0, .int 0, .int 0, .int (-1), .int (-1), .int 0, .int 0, .long 8761437]))] H := hP
  have hD : va_D A [(lB, .inr (2, [.int 0, .ref eT, .int 0])), (lH, .inr (2, [.int 0, .ref eT, .int 0])), (lJ, .inr (2, [.int 0, .ref eT, .int 0])), (aR, .inl (cI, 4, .inl fR)), (h0, .inr (8, [.int 0, .ref lH, .ref lB, .ref lJ, .ref aR, .ref aL, .int 0, .int 0, .int 0, .ref lC, .ref aM, .ref aP, .int 0, .int 0, .int 0, .int (-1), .int (-1), .int 0, .int 0, .long 8761437]))] := hD
  refine lv_iinc (v := 2) (lv' := [(1, .int 2), (0, .ref h0)]) hx hb dX5_digest_29 hl (k := 0) rfl (by decide) (by decide) rfl (fun ls hl => ?_)
  refine lv_goto (tgt := 14) hx hb dX5_digest_32 (by decide) ?_
  refine lv_iload_n hx hb dX5_digest_14 rfl (lv_at hl 0 rfl) ?_
  refine lv_bipush (v := 15) hx hb dX5_digest_15 (by decide) ?_
  refine lv_icmp_ge (tgt := 35) hx hb dX5_digest_17 (by decide) (fun h => absurd h (by decide)) (fun _ => ?_)
  refine lv_aload_n hx hb dX5_digest_20 rfl (lv_at hl 1 rfl) ?_
  refine lv_aload_n hx hb dX5_digest_21 rfl (lv_at hl 1 rfl) ?_
  refine lv_iload_n hx hb dX5_digest_22 rfl (lv_at hl 0 rfl) ?_
  have hPc := hP.sub (ws' := [(h0, .inr (8, [.int 0, .ref lH, .ref lB, .ref lJ, .ref aR, .ref aL, .int 0, .int 0, .int 0, .ref lC, .ref aM, .ref aP, .int 0, .int 0, .int 0, .int (-1), .int (-1), .int 0, .int 0, .long 8761437])), (lB, .inr (2, [.int 0, .ref eT, .int 0])), (lH, .inr (2, [.int 0, .ref eT, .int 0])), (lJ, .inr (2, [.int 0, .ref eT, .int 0])), (aR, .inl (cI, 4, .inl fR))]) [4, 0, 1, 2, 3] rfl
  have hKc := hK.sub (tys' := [(cI, .int)]) [0] rfl
  have hDc := hD.sub (ws' := [(h0, .inr (8, [.int 0, .ref lH, .ref lB, .ref lJ, .ref aR, .ref aL, .int 0, .int 0, .int 0, .ref lC, .ref aM, .ref aP, .int 0, .int 0, .int 0, .int (-1), .int (-1), .int 0, .int 0, .long 8761437])), (lB, .inr (2, [.int 0, .ref eT, .int 0])), (lH, .inr (2, [.int 0, .ref eT, .int 0])), (lJ, .inr (2, [.int 0, .ref eT, .int 0])), (aR, .inl (cI, 4, .inl fR))]) [4, 0, 1, 2, 3] (by decide) rfl
  have hFc := va_free (wc := [(h0, .inr (8, [.int 0, .ref lH, .ref lB, .ref lJ, .ref aR, .ref aL, .int 0, .int 0, .int 0, .ref lC, .ref aM, .ref aP, .int 0, .int 0, .int 0, .int (-1), .int (-1), .int 0, .int 0, .long 8761437])), (lB, .inr (2, [.int 0, .ref eT, .int 0])), (lH, .inr (2, [.int 0, .ref eT, .int 0])), (lJ, .inr (2, [.int 0, .ref eT, .int 0])), (aR, .inl (cI, 4, .inl fR))]) hD hS hA [4, 0, 1, 2, 3] rfl
  refine va_calli (va_runV (As := [.int 2]) (rest := [.ref h0]) ⟨hx, hb, hml, hown, hts⟩ (r_manyNow l D eT h0 lH lB lJ aR aL lC aM aP 8761437 cI fR 2 H.size hR (by decide) (by decide)) (cwV 1 hts gX5_digest_X5_manyNow rfl rfl rfl (by decide +kernel) ⟨Nat.le_of_ble_eq_true rfl, Nat.le_of_ble_eq_true rfl⟩) (pc_v (ci := 8) (q0 := 0) rfl rfl hPc hDc hKc hE hS hFc) rfl rfl hl.1 rfl (lv_room (Nat.le_of_ble_eq_true rfl)) dX5_digest_23 ⟨Nat.le_of_ble_eq_true rfl, Nat.le_of_ble_eq_true rfl⟩) hS (fun q _ h => hFc q h) hFc (fun r u t H1 locs ht hvm hw hB hz1 hk1 hS => ?_)
  have hw : r = 0 := hw.trans (by decide)
  rw [hw]
  obtain ⟨hP1, hK1, hD1⟩ := hB
  rw [ht] at hP1
  have hK1 := va_K.moved hvm.symm hK1
  obtain ⟨hP, hD⟩ := va_join (wr := []) (w1 := [(h0, .inr (8, [.int 0, .ref lH, .ref lB, .ref lJ, .ref aR, .ref aL, .int 0, .int 0, .int 0, .ref lC, .ref aM, .ref aP, .int 0, .int 0, .int 0, .int (-1), .int (-1), .int 0, .int 0, .long 8761437])), (lB, .inr (2, [.int 0, .ref eT, .int 0])), (lH, .inr (2, [.int 0, .ref eT, .int 0])), (lJ, .inr (2, [.int 0, .ref eT, .int 0])), (aR, .inl (cI, 4, .inl fR))]) hP hD [4, 0, 1, 2, 3] [] rfl rfl (by decide) (by decide) hk1 hFc hP1 hD1
  generalize H1 = H at hP hS ⊢
  have hP : va_P D vwCl [(h0, .inr (8, [.int 0, .ref lH, .ref lB, .ref lJ, .ref aR, .ref aL, .int 0, .int 0, .int 0, .ref lC, .ref aM, .ref aP, .int 0, .int 0, .int 0, .int (-1), .int (-1), .int 0, .int 0, .long 8761437])), (lB, .inr (2, [.int 0, .ref eT, .int 0])), (lH, .inr (2, [.int 0, .ref eT, .int 0])), (lJ, .inr (2, [.int 0, .ref eT, .int 0])), (aR, .inl (cI, 4, .inl fR))] H := hP
  have hD : va_D A [(h0, .inr (8, [.int 0, .ref lH, .ref lB, .ref lJ, .ref aR, .ref aL, .int 0, .int 0, .int 0, .ref lC, .ref aM, .ref aP, .int 0, .int 0, .int 0, .int (-1), .int (-1), .int 0, .int 0, .long 8761437])), (lB, .inr (2, [.int 0, .ref eT, .int 0])), (lH, .inr (2, [.int 0, .ref eT, .int 0])), (lJ, .inr (2, [.int 0, .ref eT, .int 0])), (aR, .inl (cI, 4, .inl fR))] := hD
  refine W.widen (k := 6) (n := 57) (Nat.le_of_ble_eq_true rfl) (Nat.le_of_ble_eq_true rfl) ?_
  have hPc := hP.sub (ws' := [(h0, .inr (8, [.int 0, .ref lH, .ref lB, .ref lJ, .ref aR, .ref aL, .int 0, .int 0, .int 0, .ref lC, .ref aM, .ref aP, .int 0, .int 0, .int 0, .int (-1), .int (-1), .int 0, .int 0, .long 8761437]))]) [0] rfl
  have hKc := hK.sub (tys' := []) [] rfl
  have hDc := hD.sub (ws' := [(h0, .inr (8, [.int 0, .ref lH, .ref lB, .ref lJ, .ref aR, .ref aL, .int 0, .int 0, .int 0, .ref lC, .ref aM, .ref aP, .int 0, .int 0, .int 0, .int (-1), .int (-1), .int 0, .int 0, .long 8761437]))]) [0] (by decide) rfl
  have hFc := va_free (wc := [(h0, .inr (8, [.int 0, .ref lH, .ref lB, .ref lJ, .ref aR, .ref aL, .int 0, .int 0, .int 0, .ref lC, .ref aM, .ref aP, .int 0, .int 0, .int 0, .int (-1), .int (-1), .int 0, .int 0, .long 8761437]))]) hD hS hA [0] rfl
  refine va_callv (va_runV (As := [.int 0]) (rest := []) ⟨hx, hb, hml, hown, hts⟩ (r_add l D eT h0 lH lB lJ aR aL lC aM aP 8761437 271604547 0 H.size (by decide +kernel)) (cwV 1 hts gX5_digest_X5_add rfl rfl rfl (by decide +kernel) ⟨Nat.le_of_ble_eq_true rfl, Nat.le_of_ble_eq_true rfl⟩) (pc_v (ci := 8) (q0 := 0) rfl rfl hPc hDc hKc hE hS hFc) rfl rfl hl.1 rfl (lv_room (Nat.le_of_ble_eq_true rfl)) dX5_digest_26 ⟨Nat.le_of_ble_eq_true rfl, Nat.le_of_ble_eq_true rfl⟩) hS (fun q _ h => hFc q h) hFc (fun u t H1 locs ht hvm hw hB hz1 hk1 hS => ?_)
  obtain ⟨hP1, hK1, hD1⟩ := hB
  rw [ht] at hP1
  have hK1 := va_K.moved hvm.symm hK1
  obtain ⟨hP, hD⟩ := va_join (wr := [(lB, .inr (2, [.int 0, .ref eT, .int 0])), (lH, .inr (2, [.int 0, .ref eT, .int 0])), (lJ, .inr (2, [.int 0, .ref eT, .int 0])), (aR, .inl (cI, 4, .inl fR))]) (w1 := [(h0, .inr (8, [.int 0, .ref lH, .ref lB, .ref lJ, .ref aR, .ref aL, .int 0, .int 0, .int 0, .ref lC, .ref aM, .ref aP, .int 0, .int 0, .int 0, .int (-1), .int (-1), .int 0, .int 0, .long 271604547]))]) hP hD [0] [1, 2, 3, 4] rfl rfl (by decide) (by decide) hk1 hFc hP1 hD1
  generalize H1 = H at hP hS ⊢
  have hP : va_P D vwCl [(lB, .inr (2, [.int 0, .ref eT, .int 0])), (lH, .inr (2, [.int 0, .ref eT, .int 0])), (lJ, .inr (2, [.int 0, .ref eT, .int 0])), (aR, .inl (cI, 4, .inl fR)), (h0, .inr (8, [.int 0, .ref lH, .ref lB, .ref lJ, .ref aR, .ref aL, .int 0, .int 0, .int 0, .ref lC, .ref aM, .ref aP, .int 0, .int 0, .int 0, .int (-1), .int (-1), .int 0, .int 0, .long 271604547]))] H := hP
  have hD : va_D A [(lB, .inr (2, [.int 0, .ref eT, .int 0])), (lH, .inr (2, [.int 0, .ref eT, .int 0])), (lJ, .inr (2, [.int 0, .ref eT, .int 0])), (aR, .inl (cI, 4, .inl fR)), (h0, .inr (8, [.int 0, .ref lH, .ref lB, .ref lJ, .ref aR, .ref aL, .int 0, .int 0, .int 0, .ref lC, .ref aM, .ref aP, .int 0, .int 0, .int 0, .int (-1), .int (-1), .int 0, .int 0, .long 271604547]))] := hD
  refine lv_iinc (v := 3) (lv' := [(1, .int 3), (0, .ref h0)]) hx hb dX5_digest_29 hl (k := 0) rfl (by decide) (by decide) rfl (fun ls hl => ?_)
  refine lv_goto (tgt := 14) hx hb dX5_digest_32 (by decide) ?_
  refine lv_iload_n hx hb dX5_digest_14 rfl (lv_at hl 0 rfl) ?_
  refine lv_bipush (v := 15) hx hb dX5_digest_15 (by decide) ?_
  refine lv_icmp_ge (tgt := 35) hx hb dX5_digest_17 (by decide) (fun h => absurd h (by decide)) (fun _ => ?_)
  refine lv_aload_n hx hb dX5_digest_20 rfl (lv_at hl 1 rfl) ?_
  refine lv_aload_n hx hb dX5_digest_21 rfl (lv_at hl 1 rfl) ?_
  refine lv_iload_n hx hb dX5_digest_22 rfl (lv_at hl 0 rfl) ?_
  have hPc := hP.sub (ws' := [(h0, .inr (8, [.int 0, .ref lH, .ref lB, .ref lJ, .ref aR, .ref aL, .int 0, .int 0, .int 0, .ref lC, .ref aM, .ref aP, .int 0, .int 0, .int 0, .int (-1), .int (-1), .int 0, .int 0, .long 271604547])), (lB, .inr (2, [.int 0, .ref eT, .int 0])), (lH, .inr (2, [.int 0, .ref eT, .int 0])), (lJ, .inr (2, [.int 0, .ref eT, .int 0])), (aR, .inl (cI, 4, .inl fR))]) [4, 0, 1, 2, 3] rfl
  have hKc := hK.sub (tys' := [(cI, .int)]) [0] rfl
  have hDc := hD.sub (ws' := [(h0, .inr (8, [.int 0, .ref lH, .ref lB, .ref lJ, .ref aR, .ref aL, .int 0, .int 0, .int 0, .ref lC, .ref aM, .ref aP, .int 0, .int 0, .int 0, .int (-1), .int (-1), .int 0, .int 0, .long 271604547])), (lB, .inr (2, [.int 0, .ref eT, .int 0])), (lH, .inr (2, [.int 0, .ref eT, .int 0])), (lJ, .inr (2, [.int 0, .ref eT, .int 0])), (aR, .inl (cI, 4, .inl fR))]) [4, 0, 1, 2, 3] (by decide) rfl
  have hFc := va_free (wc := [(h0, .inr (8, [.int 0, .ref lH, .ref lB, .ref lJ, .ref aR, .ref aL, .int 0, .int 0, .int 0, .ref lC, .ref aM, .ref aP, .int 0, .int 0, .int 0, .int (-1), .int (-1), .int 0, .int 0, .long 271604547])), (lB, .inr (2, [.int 0, .ref eT, .int 0])), (lH, .inr (2, [.int 0, .ref eT, .int 0])), (lJ, .inr (2, [.int 0, .ref eT, .int 0])), (aR, .inl (cI, 4, .inl fR))]) hD hS hA [4, 0, 1, 2, 3] rfl
  refine va_calli (va_runV (As := [.int 3]) (rest := [.ref h0]) ⟨hx, hb, hml, hown, hts⟩ (r_manyNow l D eT h0 lH lB lJ aR aL lC aM aP 271604547 cI fR 3 H.size hR (by decide) (by decide)) (cwV 1 hts gX5_digest_X5_manyNow rfl rfl rfl (by decide +kernel) ⟨Nat.le_of_ble_eq_true rfl, Nat.le_of_ble_eq_true rfl⟩) (pc_v (ci := 8) (q0 := 0) rfl rfl hPc hDc hKc hE hS hFc) rfl rfl hl.1 rfl (lv_room (Nat.le_of_ble_eq_true rfl)) dX5_digest_23 ⟨Nat.le_of_ble_eq_true rfl, Nat.le_of_ble_eq_true rfl⟩) hS (fun q _ h => hFc q h) hFc (fun r u t H1 locs ht hvm hw hB hz1 hk1 hS => ?_)
  have hw : r = 0 := hw.trans (by decide)
  rw [hw]
  obtain ⟨hP1, hK1, hD1⟩ := hB
  rw [ht] at hP1
  have hK1 := va_K.moved hvm.symm hK1
  obtain ⟨hP, hD⟩ := va_join (wr := []) (w1 := [(h0, .inr (8, [.int 0, .ref lH, .ref lB, .ref lJ, .ref aR, .ref aL, .int 0, .int 0, .int 0, .ref lC, .ref aM, .ref aP, .int 0, .int 0, .int 0, .int (-1), .int (-1), .int 0, .int 0, .long 271604547])), (lB, .inr (2, [.int 0, .ref eT, .int 0])), (lH, .inr (2, [.int 0, .ref eT, .int 0])), (lJ, .inr (2, [.int 0, .ref eT, .int 0])), (aR, .inl (cI, 4, .inl fR))]) hP hD [4, 0, 1, 2, 3] [] rfl rfl (by decide) (by decide) hk1 hFc hP1 hD1
  generalize H1 = H at hP hS ⊢
  have hP : va_P D vwCl [(h0, .inr (8, [.int 0, .ref lH, .ref lB, .ref lJ, .ref aR, .ref aL, .int 0, .int 0, .int 0, .ref lC, .ref aM, .ref aP, .int 0, .int 0, .int 0, .int (-1), .int (-1), .int 0, .int 0, .long 271604547])), (lB, .inr (2, [.int 0, .ref eT, .int 0])), (lH, .inr (2, [.int 0, .ref eT, .int 0])), (lJ, .inr (2, [.int 0, .ref eT, .int 0])), (aR, .inl (cI, 4, .inl fR))] H := hP
  have hD : va_D A [(h0, .inr (8, [.int 0, .ref lH, .ref lB, .ref lJ, .ref aR, .ref aL, .int 0, .int 0, .int 0, .ref lC, .ref aM, .ref aP, .int 0, .int 0, .int 0, .int (-1), .int (-1), .int 0, .int 0, .long 271604547])), (lB, .inr (2, [.int 0, .ref eT, .int 0])), (lH, .inr (2, [.int 0, .ref eT, .int 0])), (lJ, .inr (2, [.int 0, .ref eT, .int 0])), (aR, .inl (cI, 4, .inl fR))] := hD
  refine W.widen (k := 8) (n := 76) (Nat.le_of_ble_eq_true rfl) (Nat.le_of_ble_eq_true rfl) ?_
  have hPc := hP.sub (ws' := [(h0, .inr (8, [.int 0, .ref lH, .ref lB, .ref lJ, .ref aR, .ref aL, .int 0, .int 0, .int 0, .ref lC, .ref aM, .ref aP, .int 0, .int 0, .int 0, .int (-1), .int (-1), .int 0, .int 0, .long 271604547]))]) [0] rfl
  have hKc := hK.sub (tys' := []) [] rfl
  have hDc := hD.sub (ws' := [(h0, .inr (8, [.int 0, .ref lH, .ref lB, .ref lJ, .ref aR, .ref aL, .int 0, .int 0, .int 0, .ref lC, .ref aM, .ref aP, .int 0, .int 0, .int 0, .int (-1), .int (-1), .int 0, .int 0, .long 271604547]))]) [0] (by decide) rfl
  have hFc := va_free (wc := [(h0, .inr (8, [.int 0, .ref lH, .ref lB, .ref lJ, .ref aR, .ref aL, .int 0, .int 0, .int 0, .ref lC, .ref aM, .ref aP, .int 0, .int 0, .int 0, .int (-1), .int (-1), .int 0, .int 0, .long 271604547]))]) hD hS hA [0] rfl
  refine va_callv (va_runV (As := [.int 0]) (rest := []) ⟨hx, hb, hml, hown, hts⟩ (r_add l D eT h0 lH lB lJ aR aL lC aM aP 271604547 8419740957 0 H.size (by decide +kernel)) (cwV 1 hts gX5_digest_X5_add rfl rfl rfl (by decide +kernel) ⟨Nat.le_of_ble_eq_true rfl, Nat.le_of_ble_eq_true rfl⟩) (pc_v (ci := 8) (q0 := 0) rfl rfl hPc hDc hKc hE hS hFc) rfl rfl hl.1 rfl (lv_room (Nat.le_of_ble_eq_true rfl)) dX5_digest_26 ⟨Nat.le_of_ble_eq_true rfl, Nat.le_of_ble_eq_true rfl⟩) hS (fun q _ h => hFc q h) hFc (fun u t H1 locs ht hvm hw hB hz1 hk1 hS => ?_)
  obtain ⟨hP1, hK1, hD1⟩ := hB
  rw [ht] at hP1
  have hK1 := va_K.moved hvm.symm hK1
  obtain ⟨hP, hD⟩ := va_join (wr := [(lB, .inr (2, [.int 0, .ref eT, .int 0])), (lH, .inr (2, [.int 0, .ref eT, .int 0])), (lJ, .inr (2, [.int 0, .ref eT, .int 0])), (aR, .inl (cI, 4, .inl fR))]) (w1 := [(h0, .inr (8, [.int 0, .ref lH, .ref lB, .ref lJ, .ref aR, .ref aL, .int 0, .int 0, .int 0, .ref lC, .ref aM, .ref aP, .int 0, .int 0, .int 0, .int (-1), .int (-1), .int 0, .int 0, .long 8419740957]))]) hP hD [0] [1, 2, 3, 4] rfl rfl (by decide) (by decide) hk1 hFc hP1 hD1
  generalize H1 = H at hP hS ⊢
  have hP : va_P D vwCl [(lB, .inr (2, [.int 0, .ref eT, .int 0])), (lH, .inr (2, [.int 0, .ref eT, .int 0])), (lJ, .inr (2, [.int 0, .ref eT, .int 0])), (aR, .inl (cI, 4, .inl fR)), (h0, .inr (8, [.int 0, .ref lH, .ref lB, .ref lJ, .ref aR, .ref aL, .int 0, .int 0, .int 0, .ref lC, .ref aM, .ref aP, .int 0, .int 0, .int 0, .int (-1), .int (-1), .int 0, .int 0, .long 8419740957]))] H := hP
  have hD : va_D A [(lB, .inr (2, [.int 0, .ref eT, .int 0])), (lH, .inr (2, [.int 0, .ref eT, .int 0])), (lJ, .inr (2, [.int 0, .ref eT, .int 0])), (aR, .inl (cI, 4, .inl fR)), (h0, .inr (8, [.int 0, .ref lH, .ref lB, .ref lJ, .ref aR, .ref aL, .int 0, .int 0, .int 0, .ref lC, .ref aM, .ref aP, .int 0, .int 0, .int 0, .int (-1), .int (-1), .int 0, .int 0, .long 8419740957]))] := hD
  refine lv_iinc (v := 4) (lv' := [(1, .int 4), (0, .ref h0)]) hx hb dX5_digest_29 hl (k := 0) rfl (by decide) (by decide) rfl (fun ls hl => ?_)
  refine lv_goto (tgt := 14) hx hb dX5_digest_32 (by decide) ?_
  refine lv_iload_n hx hb dX5_digest_14 rfl (lv_at hl 0 rfl) ?_
  refine lv_bipush (v := 15) hx hb dX5_digest_15 (by decide) ?_
  refine lv_icmp_ge (tgt := 35) hx hb dX5_digest_17 (by decide) (fun h => absurd h (by decide)) (fun _ => ?_)
  refine lv_aload_n hx hb dX5_digest_20 rfl (lv_at hl 1 rfl) ?_
  refine lv_aload_n hx hb dX5_digest_21 rfl (lv_at hl 1 rfl) ?_
  refine lv_iload_n hx hb dX5_digest_22 rfl (lv_at hl 0 rfl) ?_
  have hPc := hP.sub (ws' := [(h0, .inr (8, [.int 0, .ref lH, .ref lB, .ref lJ, .ref aR, .ref aL, .int 0, .int 0, .int 0, .ref lC, .ref aM, .ref aP, .int 0, .int 0, .int 0, .int (-1), .int (-1), .int 0, .int 0, .long 8419740957])), (lB, .inr (2, [.int 0, .ref eT, .int 0])), (lH, .inr (2, [.int 0, .ref eT, .int 0])), (lJ, .inr (2, [.int 0, .ref eT, .int 0])), (aR, .inl (cI, 4, .inl fR))]) [4, 0, 1, 2, 3] rfl
  have hKc := hK.sub (tys' := [(cI, .int)]) [0] rfl
  have hDc := hD.sub (ws' := [(h0, .inr (8, [.int 0, .ref lH, .ref lB, .ref lJ, .ref aR, .ref aL, .int 0, .int 0, .int 0, .ref lC, .ref aM, .ref aP, .int 0, .int 0, .int 0, .int (-1), .int (-1), .int 0, .int 0, .long 8419740957])), (lB, .inr (2, [.int 0, .ref eT, .int 0])), (lH, .inr (2, [.int 0, .ref eT, .int 0])), (lJ, .inr (2, [.int 0, .ref eT, .int 0])), (aR, .inl (cI, 4, .inl fR))]) [4, 0, 1, 2, 3] (by decide) rfl
  have hFc := va_free (wc := [(h0, .inr (8, [.int 0, .ref lH, .ref lB, .ref lJ, .ref aR, .ref aL, .int 0, .int 0, .int 0, .ref lC, .ref aM, .ref aP, .int 0, .int 0, .int 0, .int (-1), .int (-1), .int 0, .int 0, .long 8419740957])), (lB, .inr (2, [.int 0, .ref eT, .int 0])), (lH, .inr (2, [.int 0, .ref eT, .int 0])), (lJ, .inr (2, [.int 0, .ref eT, .int 0])), (aR, .inl (cI, 4, .inl fR))]) hD hS hA [4, 0, 1, 2, 3] rfl
  refine va_calli (va_runV (As := [.int 4]) (rest := [.ref h0]) ⟨hx, hb, hml, hown, hts⟩ (r_manyNow l D eT h0 lH lB lJ aR aL lC aM aP 8419740957 cI fR 4 H.size hR (by decide) (by decide)) (cwV 1 hts gX5_digest_X5_manyNow rfl rfl rfl (by decide +kernel) ⟨Nat.le_of_ble_eq_true rfl, Nat.le_of_ble_eq_true rfl⟩) (pc_v (ci := 8) (q0 := 0) rfl rfl hPc hDc hKc hE hS hFc) rfl rfl hl.1 rfl (lv_room (Nat.le_of_ble_eq_true rfl)) dX5_digest_23 ⟨Nat.le_of_ble_eq_true rfl, Nat.le_of_ble_eq_true rfl⟩) hS (fun q _ h => hFc q h) hFc (fun r u t H1 locs ht hvm hw hB hz1 hk1 hS => ?_)
  have hw : r = 0 := hw.trans (by decide)
  rw [hw]
  obtain ⟨hP1, hK1, hD1⟩ := hB
  rw [ht] at hP1
  have hK1 := va_K.moved hvm.symm hK1
  obtain ⟨hP, hD⟩ := va_join (wr := []) (w1 := [(h0, .inr (8, [.int 0, .ref lH, .ref lB, .ref lJ, .ref aR, .ref aL, .int 0, .int 0, .int 0, .ref lC, .ref aM, .ref aP, .int 0, .int 0, .int 0, .int (-1), .int (-1), .int 0, .int 0, .long 8419740957])), (lB, .inr (2, [.int 0, .ref eT, .int 0])), (lH, .inr (2, [.int 0, .ref eT, .int 0])), (lJ, .inr (2, [.int 0, .ref eT, .int 0])), (aR, .inl (cI, 4, .inl fR))]) hP hD [4, 0, 1, 2, 3] [] rfl rfl (by decide) (by decide) hk1 hFc hP1 hD1
  generalize H1 = H at hP hS ⊢
  have hP : va_P D vwCl [(h0, .inr (8, [.int 0, .ref lH, .ref lB, .ref lJ, .ref aR, .ref aL, .int 0, .int 0, .int 0, .ref lC, .ref aM, .ref aP, .int 0, .int 0, .int 0, .int (-1), .int (-1), .int 0, .int 0, .long 8419740957])), (lB, .inr (2, [.int 0, .ref eT, .int 0])), (lH, .inr (2, [.int 0, .ref eT, .int 0])), (lJ, .inr (2, [.int 0, .ref eT, .int 0])), (aR, .inl (cI, 4, .inl fR))] H := hP
  have hD : va_D A [(h0, .inr (8, [.int 0, .ref lH, .ref lB, .ref lJ, .ref aR, .ref aL, .int 0, .int 0, .int 0, .ref lC, .ref aM, .ref aP, .int 0, .int 0, .int 0, .int (-1), .int (-1), .int 0, .int 0, .long 8419740957])), (lB, .inr (2, [.int 0, .ref eT, .int 0])), (lH, .inr (2, [.int 0, .ref eT, .int 0])), (lJ, .inr (2, [.int 0, .ref eT, .int 0])), (aR, .inl (cI, 4, .inl fR))] := hD
  refine W.widen (k := 10) (n := 95) (Nat.le_of_ble_eq_true rfl) (Nat.le_of_ble_eq_true rfl) ?_
  have hPc := hP.sub (ws' := [(h0, .inr (8, [.int 0, .ref lH, .ref lB, .ref lJ, .ref aR, .ref aL, .int 0, .int 0, .int 0, .ref lC, .ref aM, .ref aP, .int 0, .int 0, .int 0, .int (-1), .int (-1), .int 0, .int 0, .long 8419740957]))]) [0] rfl
  have hKc := hK.sub (tys' := []) [] rfl
  have hDc := hD.sub (ws' := [(h0, .inr (8, [.int 0, .ref lH, .ref lB, .ref lJ, .ref aR, .ref aL, .int 0, .int 0, .int 0, .ref lC, .ref aM, .ref aP, .int 0, .int 0, .int 0, .int (-1), .int (-1), .int 0, .int 0, .long 8419740957]))]) [0] (by decide) rfl
  have hFc := va_free (wc := [(h0, .inr (8, [.int 0, .ref lH, .ref lB, .ref lJ, .ref aR, .ref aL, .int 0, .int 0, .int 0, .ref lC, .ref aM, .ref aP, .int 0, .int 0, .int 0, .int (-1), .int (-1), .int 0, .int 0, .long 8419740957]))]) hD hS hA [0] rfl
  refine va_callv (va_runV (As := [.int 0]) (rest := []) ⟨hx, hb, hml, hown, hts⟩ (r_add l D eT h0 lH lB lJ aR aL lC aM aP 8419740957 261011969667 0 H.size (by decide +kernel)) (cwV 1 hts gX5_digest_X5_add rfl rfl rfl (by decide +kernel) ⟨Nat.le_of_ble_eq_true rfl, Nat.le_of_ble_eq_true rfl⟩) (pc_v (ci := 8) (q0 := 0) rfl rfl hPc hDc hKc hE hS hFc) rfl rfl hl.1 rfl (lv_room (Nat.le_of_ble_eq_true rfl)) dX5_digest_26 ⟨Nat.le_of_ble_eq_true rfl, Nat.le_of_ble_eq_true rfl⟩) hS (fun q _ h => hFc q h) hFc (fun u t H1 locs ht hvm hw hB hz1 hk1 hS => ?_)
  obtain ⟨hP1, hK1, hD1⟩ := hB
  rw [ht] at hP1
  have hK1 := va_K.moved hvm.symm hK1
  obtain ⟨hP, hD⟩ := va_join (wr := [(lB, .inr (2, [.int 0, .ref eT, .int 0])), (lH, .inr (2, [.int 0, .ref eT, .int 0])), (lJ, .inr (2, [.int 0, .ref eT, .int 0])), (aR, .inl (cI, 4, .inl fR))]) (w1 := [(h0, .inr (8, [.int 0, .ref lH, .ref lB, .ref lJ, .ref aR, .ref aL, .int 0, .int 0, .int 0, .ref lC, .ref aM, .ref aP, .int 0, .int 0, .int 0, .int (-1), .int (-1), .int 0, .int 0, .long 261011969667]))]) hP hD [0] [1, 2, 3, 4] rfl rfl (by decide) (by decide) hk1 hFc hP1 hD1
  generalize H1 = H at hP hS ⊢
  have hP : va_P D vwCl [(lB, .inr (2, [.int 0, .ref eT, .int 0])), (lH, .inr (2, [.int 0, .ref eT, .int 0])), (lJ, .inr (2, [.int 0, .ref eT, .int 0])), (aR, .inl (cI, 4, .inl fR)), (h0, .inr (8, [.int 0, .ref lH, .ref lB, .ref lJ, .ref aR, .ref aL, .int 0, .int 0, .int 0, .ref lC, .ref aM, .ref aP, .int 0, .int 0, .int 0, .int (-1), .int (-1), .int 0, .int 0, .long 261011969667]))] H := hP
  have hD : va_D A [(lB, .inr (2, [.int 0, .ref eT, .int 0])), (lH, .inr (2, [.int 0, .ref eT, .int 0])), (lJ, .inr (2, [.int 0, .ref eT, .int 0])), (aR, .inl (cI, 4, .inl fR)), (h0, .inr (8, [.int 0, .ref lH, .ref lB, .ref lJ, .ref aR, .ref aL, .int 0, .int 0, .int 0, .ref lC, .ref aM, .ref aP, .int 0, .int 0, .int 0, .int (-1), .int (-1), .int 0, .int 0, .long 261011969667]))] := hD
  refine lv_iinc (v := 5) (lv' := [(1, .int 5), (0, .ref h0)]) hx hb dX5_digest_29 hl (k := 0) rfl (by decide) (by decide) rfl (fun ls hl => ?_)
  refine lv_goto (tgt := 14) hx hb dX5_digest_32 (by decide) ?_
  refine lv_iload_n hx hb dX5_digest_14 rfl (lv_at hl 0 rfl) ?_
  refine lv_bipush (v := 15) hx hb dX5_digest_15 (by decide) ?_
  refine lv_icmp_ge (tgt := 35) hx hb dX5_digest_17 (by decide) (fun h => absurd h (by decide)) (fun _ => ?_)
  refine lv_aload_n hx hb dX5_digest_20 rfl (lv_at hl 1 rfl) ?_
  refine lv_aload_n hx hb dX5_digest_21 rfl (lv_at hl 1 rfl) ?_
  refine lv_iload_n hx hb dX5_digest_22 rfl (lv_at hl 0 rfl) ?_
  have hPc := hP.sub (ws' := [(h0, .inr (8, [.int 0, .ref lH, .ref lB, .ref lJ, .ref aR, .ref aL, .int 0, .int 0, .int 0, .ref lC, .ref aM, .ref aP, .int 0, .int 0, .int 0, .int (-1), .int (-1), .int 0, .int 0, .long 261011969667])), (lB, .inr (2, [.int 0, .ref eT, .int 0])), (lH, .inr (2, [.int 0, .ref eT, .int 0])), (lJ, .inr (2, [.int 0, .ref eT, .int 0])), (aR, .inl (cI, 4, .inl fR))]) [4, 0, 1, 2, 3] rfl
  have hKc := hK.sub (tys' := [(cI, .int)]) [0] rfl
  have hDc := hD.sub (ws' := [(h0, .inr (8, [.int 0, .ref lH, .ref lB, .ref lJ, .ref aR, .ref aL, .int 0, .int 0, .int 0, .ref lC, .ref aM, .ref aP, .int 0, .int 0, .int 0, .int (-1), .int (-1), .int 0, .int 0, .long 261011969667])), (lB, .inr (2, [.int 0, .ref eT, .int 0])), (lH, .inr (2, [.int 0, .ref eT, .int 0])), (lJ, .inr (2, [.int 0, .ref eT, .int 0])), (aR, .inl (cI, 4, .inl fR))]) [4, 0, 1, 2, 3] (by decide) rfl
  have hFc := va_free (wc := [(h0, .inr (8, [.int 0, .ref lH, .ref lB, .ref lJ, .ref aR, .ref aL, .int 0, .int 0, .int 0, .ref lC, .ref aM, .ref aP, .int 0, .int 0, .int 0, .int (-1), .int (-1), .int 0, .int 0, .long 261011969667])), (lB, .inr (2, [.int 0, .ref eT, .int 0])), (lH, .inr (2, [.int 0, .ref eT, .int 0])), (lJ, .inr (2, [.int 0, .ref eT, .int 0])), (aR, .inl (cI, 4, .inl fR))]) hD hS hA [4, 0, 1, 2, 3] rfl
  refine va_calli (va_runV (As := [.int 5]) (rest := [.ref h0]) ⟨hx, hb, hml, hown, hts⟩ (r_manyNow l D eT h0 lH lB lJ aR aL lC aM aP 261011969667 cI fR 5 H.size hR (by decide) (by decide)) (cwV 1 hts gX5_digest_X5_manyNow rfl rfl rfl (by decide +kernel) ⟨Nat.le_of_ble_eq_true rfl, Nat.le_of_ble_eq_true rfl⟩) (pc_v (ci := 8) (q0 := 0) rfl rfl hPc hDc hKc hE hS hFc) rfl rfl hl.1 rfl (lv_room (Nat.le_of_ble_eq_true rfl)) dX5_digest_23 ⟨Nat.le_of_ble_eq_true rfl, Nat.le_of_ble_eq_true rfl⟩) hS (fun q _ h => hFc q h) hFc (fun r u t H1 locs ht hvm hw hB hz1 hk1 hS => ?_)
  have hw : r = 0 := hw.trans (by decide)
  rw [hw]
  obtain ⟨hP1, hK1, hD1⟩ := hB
  rw [ht] at hP1
  have hK1 := va_K.moved hvm.symm hK1
  obtain ⟨hP, hD⟩ := va_join (wr := []) (w1 := [(h0, .inr (8, [.int 0, .ref lH, .ref lB, .ref lJ, .ref aR, .ref aL, .int 0, .int 0, .int 0, .ref lC, .ref aM, .ref aP, .int 0, .int 0, .int 0, .int (-1), .int (-1), .int 0, .int 0, .long 261011969667])), (lB, .inr (2, [.int 0, .ref eT, .int 0])), (lH, .inr (2, [.int 0, .ref eT, .int 0])), (lJ, .inr (2, [.int 0, .ref eT, .int 0])), (aR, .inl (cI, 4, .inl fR))]) hP hD [4, 0, 1, 2, 3] [] rfl rfl (by decide) (by decide) hk1 hFc hP1 hD1
  generalize H1 = H at hP hS ⊢
  have hP : va_P D vwCl [(h0, .inr (8, [.int 0, .ref lH, .ref lB, .ref lJ, .ref aR, .ref aL, .int 0, .int 0, .int 0, .ref lC, .ref aM, .ref aP, .int 0, .int 0, .int 0, .int (-1), .int (-1), .int 0, .int 0, .long 261011969667])), (lB, .inr (2, [.int 0, .ref eT, .int 0])), (lH, .inr (2, [.int 0, .ref eT, .int 0])), (lJ, .inr (2, [.int 0, .ref eT, .int 0])), (aR, .inl (cI, 4, .inl fR))] H := hP
  have hD : va_D A [(h0, .inr (8, [.int 0, .ref lH, .ref lB, .ref lJ, .ref aR, .ref aL, .int 0, .int 0, .int 0, .ref lC, .ref aM, .ref aP, .int 0, .int 0, .int 0, .int (-1), .int (-1), .int 0, .int 0, .long 261011969667])), (lB, .inr (2, [.int 0, .ref eT, .int 0])), (lH, .inr (2, [.int 0, .ref eT, .int 0])), (lJ, .inr (2, [.int 0, .ref eT, .int 0])), (aR, .inl (cI, 4, .inl fR))] := hD
  refine W.widen (k := 12) (n := 114) (Nat.le_of_ble_eq_true rfl) (Nat.le_of_ble_eq_true rfl) ?_
  have hPc := hP.sub (ws' := [(h0, .inr (8, [.int 0, .ref lH, .ref lB, .ref lJ, .ref aR, .ref aL, .int 0, .int 0, .int 0, .ref lC, .ref aM, .ref aP, .int 0, .int 0, .int 0, .int (-1), .int (-1), .int 0, .int 0, .long 261011969667]))]) [0] rfl
  have hKc := hK.sub (tys' := []) [] rfl
  have hDc := hD.sub (ws' := [(h0, .inr (8, [.int 0, .ref lH, .ref lB, .ref lJ, .ref aR, .ref aL, .int 0, .int 0, .int 0, .ref lC, .ref aM, .ref aP, .int 0, .int 0, .int 0, .int (-1), .int (-1), .int 0, .int 0, .long 261011969667]))]) [0] (by decide) rfl
  have hFc := va_free (wc := [(h0, .inr (8, [.int 0, .ref lH, .ref lB, .ref lJ, .ref aR, .ref aL, .int 0, .int 0, .int 0, .ref lC, .ref aM, .ref aP, .int 0, .int 0, .int 0, .int (-1), .int (-1), .int 0, .int 0, .long 261011969667]))]) hD hS hA [0] rfl
  refine va_callv (va_runV (As := [.int 0]) (rest := []) ⟨hx, hb, hml, hown, hts⟩ (r_add l D eT h0 lH lB lJ aR aL lC aM aP 261011969667 8091371059677 0 H.size (by decide +kernel)) (cwV 1 hts gX5_digest_X5_add rfl rfl rfl (by decide +kernel) ⟨Nat.le_of_ble_eq_true rfl, Nat.le_of_ble_eq_true rfl⟩) (pc_v (ci := 8) (q0 := 0) rfl rfl hPc hDc hKc hE hS hFc) rfl rfl hl.1 rfl (lv_room (Nat.le_of_ble_eq_true rfl)) dX5_digest_26 ⟨Nat.le_of_ble_eq_true rfl, Nat.le_of_ble_eq_true rfl⟩) hS (fun q _ h => hFc q h) hFc (fun u t H1 locs ht hvm hw hB hz1 hk1 hS => ?_)
  obtain ⟨hP1, hK1, hD1⟩ := hB
  rw [ht] at hP1
  have hK1 := va_K.moved hvm.symm hK1
  obtain ⟨hP, hD⟩ := va_join (wr := [(lB, .inr (2, [.int 0, .ref eT, .int 0])), (lH, .inr (2, [.int 0, .ref eT, .int 0])), (lJ, .inr (2, [.int 0, .ref eT, .int 0])), (aR, .inl (cI, 4, .inl fR))]) (w1 := [(h0, .inr (8, [.int 0, .ref lH, .ref lB, .ref lJ, .ref aR, .ref aL, .int 0, .int 0, .int 0, .ref lC, .ref aM, .ref aP, .int 0, .int 0, .int 0, .int (-1), .int (-1), .int 0, .int 0, .long 8091371059677]))]) hP hD [0] [1, 2, 3, 4] rfl rfl (by decide) (by decide) hk1 hFc hP1 hD1
  generalize H1 = H at hP hS ⊢
  have hP : va_P D vwCl [(lB, .inr (2, [.int 0, .ref eT, .int 0])), (lH, .inr (2, [.int 0, .ref eT, .int 0])), (lJ, .inr (2, [.int 0, .ref eT, .int 0])), (aR, .inl (cI, 4, .inl fR)), (h0, .inr (8, [.int 0, .ref lH, .ref lB, .ref lJ, .ref aR, .ref aL, .int 0, .int 0, .int 0, .ref lC, .ref aM, .ref aP, .int 0, .int 0, .int 0, .int (-1), .int (-1), .int 0, .int 0, .long 8091371059677]))] H := hP
  have hD : va_D A [(lB, .inr (2, [.int 0, .ref eT, .int 0])), (lH, .inr (2, [.int 0, .ref eT, .int 0])), (lJ, .inr (2, [.int 0, .ref eT, .int 0])), (aR, .inl (cI, 4, .inl fR)), (h0, .inr (8, [.int 0, .ref lH, .ref lB, .ref lJ, .ref aR, .ref aL, .int 0, .int 0, .int 0, .ref lC, .ref aM, .ref aP, .int 0, .int 0, .int 0, .int (-1), .int (-1), .int 0, .int 0, .long 8091371059677]))] := hD
  refine lv_iinc (v := 6) (lv' := [(1, .int 6), (0, .ref h0)]) hx hb dX5_digest_29 hl (k := 0) rfl (by decide) (by decide) rfl (fun ls hl => ?_)
  refine lv_goto (tgt := 14) hx hb dX5_digest_32 (by decide) ?_
  refine lv_iload_n hx hb dX5_digest_14 rfl (lv_at hl 0 rfl) ?_
  refine lv_bipush (v := 15) hx hb dX5_digest_15 (by decide) ?_
  refine lv_icmp_ge (tgt := 35) hx hb dX5_digest_17 (by decide) (fun h => absurd h (by decide)) (fun _ => ?_)
  refine lv_aload_n hx hb dX5_digest_20 rfl (lv_at hl 1 rfl) ?_
  refine lv_aload_n hx hb dX5_digest_21 rfl (lv_at hl 1 rfl) ?_
  refine lv_iload_n hx hb dX5_digest_22 rfl (lv_at hl 0 rfl) ?_
  have hPc := hP.sub (ws' := [(h0, .inr (8, [.int 0, .ref lH, .ref lB, .ref lJ, .ref aR, .ref aL, .int 0, .int 0, .int 0, .ref lC, .ref aM, .ref aP, .int 0, .int 0, .int 0, .int (-1), .int (-1), .int 0, .int 0, .long 8091371059677])), (lB, .inr (2, [.int 0, .ref eT, .int 0])), (lH, .inr (2, [.int 0, .ref eT, .int 0])), (lJ, .inr (2, [.int 0, .ref eT, .int 0])), (aR, .inl (cI, 4, .inl fR))]) [4, 0, 1, 2, 3] rfl
  have hKc := hK.sub (tys' := [(cI, .int)]) [0] rfl
  have hDc := hD.sub (ws' := [(h0, .inr (8, [.int 0, .ref lH, .ref lB, .ref lJ, .ref aR, .ref aL, .int 0, .int 0, .int 0, .ref lC, .ref aM, .ref aP, .int 0, .int 0, .int 0, .int (-1), .int (-1), .int 0, .int 0, .long 8091371059677])), (lB, .inr (2, [.int 0, .ref eT, .int 0])), (lH, .inr (2, [.int 0, .ref eT, .int 0])), (lJ, .inr (2, [.int 0, .ref eT, .int 0])), (aR, .inl (cI, 4, .inl fR))]) [4, 0, 1, 2, 3] (by decide) rfl
  have hFc := va_free (wc := [(h0, .inr (8, [.int 0, .ref lH, .ref lB, .ref lJ, .ref aR, .ref aL, .int 0, .int 0, .int 0, .ref lC, .ref aM, .ref aP, .int 0, .int 0, .int 0, .int (-1), .int (-1), .int 0, .int 0, .long 8091371059677])), (lB, .inr (2, [.int 0, .ref eT, .int 0])), (lH, .inr (2, [.int 0, .ref eT, .int 0])), (lJ, .inr (2, [.int 0, .ref eT, .int 0])), (aR, .inl (cI, 4, .inl fR))]) hD hS hA [4, 0, 1, 2, 3] rfl
  refine va_calli (va_runV (As := [.int 6]) (rest := [.ref h0]) ⟨hx, hb, hml, hown, hts⟩ (r_manyNow l D eT h0 lH lB lJ aR aL lC aM aP 8091371059677 cI fR 6 H.size hR (by decide) (by decide)) (cwV 1 hts gX5_digest_X5_manyNow rfl rfl rfl (by decide +kernel) ⟨Nat.le_of_ble_eq_true rfl, Nat.le_of_ble_eq_true rfl⟩) (pc_v (ci := 8) (q0 := 0) rfl rfl hPc hDc hKc hE hS hFc) rfl rfl hl.1 rfl (lv_room (Nat.le_of_ble_eq_true rfl)) dX5_digest_23 ⟨Nat.le_of_ble_eq_true rfl, Nat.le_of_ble_eq_true rfl⟩) hS (fun q _ h => hFc q h) hFc (fun r u t H1 locs ht hvm hw hB hz1 hk1 hS => ?_)
  have hw : r = 0 := hw.trans (by decide)
  rw [hw]
  obtain ⟨hP1, hK1, hD1⟩ := hB
  rw [ht] at hP1
  have hK1 := va_K.moved hvm.symm hK1
  obtain ⟨hP, hD⟩ := va_join (wr := []) (w1 := [(h0, .inr (8, [.int 0, .ref lH, .ref lB, .ref lJ, .ref aR, .ref aL, .int 0, .int 0, .int 0, .ref lC, .ref aM, .ref aP, .int 0, .int 0, .int 0, .int (-1), .int (-1), .int 0, .int 0, .long 8091371059677])), (lB, .inr (2, [.int 0, .ref eT, .int 0])), (lH, .inr (2, [.int 0, .ref eT, .int 0])), (lJ, .inr (2, [.int 0, .ref eT, .int 0])), (aR, .inl (cI, 4, .inl fR))]) hP hD [4, 0, 1, 2, 3] [] rfl rfl (by decide) (by decide) hk1 hFc hP1 hD1
  generalize H1 = H at hP hS ⊢
  have hP : va_P D vwCl [(h0, .inr (8, [.int 0, .ref lH, .ref lB, .ref lJ, .ref aR, .ref aL, .int 0, .int 0, .int 0, .ref lC, .ref aM, .ref aP, .int 0, .int 0, .int 0, .int (-1), .int (-1), .int 0, .int 0, .long 8091371059677])), (lB, .inr (2, [.int 0, .ref eT, .int 0])), (lH, .inr (2, [.int 0, .ref eT, .int 0])), (lJ, .inr (2, [.int 0, .ref eT, .int 0])), (aR, .inl (cI, 4, .inl fR))] H := hP
  have hD : va_D A [(h0, .inr (8, [.int 0, .ref lH, .ref lB, .ref lJ, .ref aR, .ref aL, .int 0, .int 0, .int 0, .ref lC, .ref aM, .ref aP, .int 0, .int 0, .int 0, .int (-1), .int (-1), .int 0, .int 0, .long 8091371059677])), (lB, .inr (2, [.int 0, .ref eT, .int 0])), (lH, .inr (2, [.int 0, .ref eT, .int 0])), (lJ, .inr (2, [.int 0, .ref eT, .int 0])), (aR, .inl (cI, 4, .inl fR))] := hD
  refine W.widen (k := 14) (n := 133) (Nat.le_of_ble_eq_true rfl) (Nat.le_of_ble_eq_true rfl) ?_
  have hPc := hP.sub (ws' := [(h0, .inr (8, [.int 0, .ref lH, .ref lB, .ref lJ, .ref aR, .ref aL, .int 0, .int 0, .int 0, .ref lC, .ref aM, .ref aP, .int 0, .int 0, .int 0, .int (-1), .int (-1), .int 0, .int 0, .long 8091371059677]))]) [0] rfl
  have hKc := hK.sub (tys' := []) [] rfl
  have hDc := hD.sub (ws' := [(h0, .inr (8, [.int 0, .ref lH, .ref lB, .ref lJ, .ref aR, .ref aL, .int 0, .int 0, .int 0, .ref lC, .ref aM, .ref aP, .int 0, .int 0, .int 0, .int (-1), .int (-1), .int 0, .int 0, .long 8091371059677]))]) [0] (by decide) rfl
  have hFc := va_free (wc := [(h0, .inr (8, [.int 0, .ref lH, .ref lB, .ref lJ, .ref aR, .ref aL, .int 0, .int 0, .int 0, .ref lC, .ref aM, .ref aP, .int 0, .int 0, .int 0, .int (-1), .int (-1), .int 0, .int 0, .long 8091371059677]))]) hD hS hA [0] rfl
  refine va_callv (va_runV (As := [.int 0]) (rest := []) ⟨hx, hb, hml, hown, hts⟩ (r_add l D eT h0 lH lB lJ aR aL lC aM aP 8091371059677 250832502849987 0 H.size (by decide +kernel)) (cwV 1 hts gX5_digest_X5_add rfl rfl rfl (by decide +kernel) ⟨Nat.le_of_ble_eq_true rfl, Nat.le_of_ble_eq_true rfl⟩) (pc_v (ci := 8) (q0 := 0) rfl rfl hPc hDc hKc hE hS hFc) rfl rfl hl.1 rfl (lv_room (Nat.le_of_ble_eq_true rfl)) dX5_digest_26 ⟨Nat.le_of_ble_eq_true rfl, Nat.le_of_ble_eq_true rfl⟩) hS (fun q _ h => hFc q h) hFc (fun u t H1 locs ht hvm hw hB hz1 hk1 hS => ?_)
  obtain ⟨hP1, hK1, hD1⟩ := hB
  rw [ht] at hP1
  have hK1 := va_K.moved hvm.symm hK1
  obtain ⟨hP, hD⟩ := va_join (wr := [(lB, .inr (2, [.int 0, .ref eT, .int 0])), (lH, .inr (2, [.int 0, .ref eT, .int 0])), (lJ, .inr (2, [.int 0, .ref eT, .int 0])), (aR, .inl (cI, 4, .inl fR))]) (w1 := [(h0, .inr (8, [.int 0, .ref lH, .ref lB, .ref lJ, .ref aR, .ref aL, .int 0, .int 0, .int 0, .ref lC, .ref aM, .ref aP, .int 0, .int 0, .int 0, .int (-1), .int (-1), .int 0, .int 0, .long 250832502849987]))]) hP hD [0] [1, 2, 3, 4] rfl rfl (by decide) (by decide) hk1 hFc hP1 hD1
  generalize H1 = H at hP hS ⊢
  have hP : va_P D vwCl [(lB, .inr (2, [.int 0, .ref eT, .int 0])), (lH, .inr (2, [.int 0, .ref eT, .int 0])), (lJ, .inr (2, [.int 0, .ref eT, .int 0])), (aR, .inl (cI, 4, .inl fR)), (h0, .inr (8, [.int 0, .ref lH, .ref lB, .ref lJ, .ref aR, .ref aL, .int 0, .int 0, .int 0, .ref lC, .ref aM, .ref aP, .int 0, .int 0, .int 0, .int (-1), .int (-1), .int 0, .int 0, .long 250832502849987]))] H := hP
  have hD : va_D A [(lB, .inr (2, [.int 0, .ref eT, .int 0])), (lH, .inr (2, [.int 0, .ref eT, .int 0])), (lJ, .inr (2, [.int 0, .ref eT, .int 0])), (aR, .inl (cI, 4, .inl fR)), (h0, .inr (8, [.int 0, .ref lH, .ref lB, .ref lJ, .ref aR, .ref aL, .int 0, .int 0, .int 0, .ref lC, .ref aM, .ref aP, .int 0, .int 0, .int 0, .int (-1), .int (-1), .int 0, .int 0, .long 250832502849987]))] := hD
  refine lv_iinc (v := 7) (lv' := [(1, .int 7), (0, .ref h0)]) hx hb dX5_digest_29 hl (k := 0) rfl (by decide) (by decide) rfl (fun ls hl => ?_)
  refine lv_goto (tgt := 14) hx hb dX5_digest_32 (by decide) ?_
  refine lv_iload_n hx hb dX5_digest_14 rfl (lv_at hl 0 rfl) ?_
  refine lv_bipush (v := 15) hx hb dX5_digest_15 (by decide) ?_
  refine lv_icmp_ge (tgt := 35) hx hb dX5_digest_17 (by decide) (fun h => absurd h (by decide)) (fun _ => ?_)
  refine lv_aload_n hx hb dX5_digest_20 rfl (lv_at hl 1 rfl) ?_
  refine lv_aload_n hx hb dX5_digest_21 rfl (lv_at hl 1 rfl) ?_
  refine lv_iload_n hx hb dX5_digest_22 rfl (lv_at hl 0 rfl) ?_
  have hPc := hP.sub (ws' := [(h0, .inr (8, [.int 0, .ref lH, .ref lB, .ref lJ, .ref aR, .ref aL, .int 0, .int 0, .int 0, .ref lC, .ref aM, .ref aP, .int 0, .int 0, .int 0, .int (-1), .int (-1), .int 0, .int 0, .long 250832502849987])), (lB, .inr (2, [.int 0, .ref eT, .int 0])), (lH, .inr (2, [.int 0, .ref eT, .int 0])), (lJ, .inr (2, [.int 0, .ref eT, .int 0])), (aR, .inl (cI, 4, .inl fR))]) [4, 0, 1, 2, 3] rfl
  have hKc := hK.sub (tys' := [(cI, .int)]) [0] rfl
  have hDc := hD.sub (ws' := [(h0, .inr (8, [.int 0, .ref lH, .ref lB, .ref lJ, .ref aR, .ref aL, .int 0, .int 0, .int 0, .ref lC, .ref aM, .ref aP, .int 0, .int 0, .int 0, .int (-1), .int (-1), .int 0, .int 0, .long 250832502849987])), (lB, .inr (2, [.int 0, .ref eT, .int 0])), (lH, .inr (2, [.int 0, .ref eT, .int 0])), (lJ, .inr (2, [.int 0, .ref eT, .int 0])), (aR, .inl (cI, 4, .inl fR))]) [4, 0, 1, 2, 3] (by decide) rfl
  have hFc := va_free (wc := [(h0, .inr (8, [.int 0, .ref lH, .ref lB, .ref lJ, .ref aR, .ref aL, .int 0, .int 0, .int 0, .ref lC, .ref aM, .ref aP, .int 0, .int 0, .int 0, .int (-1), .int (-1), .int 0, .int 0, .long 250832502849987])), (lB, .inr (2, [.int 0, .ref eT, .int 0])), (lH, .inr (2, [.int 0, .ref eT, .int 0])), (lJ, .inr (2, [.int 0, .ref eT, .int 0])), (aR, .inl (cI, 4, .inl fR))]) hD hS hA [4, 0, 1, 2, 3] rfl
  refine va_calli (va_runV (As := [.int 7]) (rest := [.ref h0]) ⟨hx, hb, hml, hown, hts⟩ (r_manyNow l D eT h0 lH lB lJ aR aL lC aM aP 250832502849987 cI fR 7 H.size hR (by decide) (by decide)) (cwV 1 hts gX5_digest_X5_manyNow rfl rfl rfl (by decide +kernel) ⟨Nat.le_of_ble_eq_true rfl, Nat.le_of_ble_eq_true rfl⟩) (pc_v (ci := 8) (q0 := 0) rfl rfl hPc hDc hKc hE hS hFc) rfl rfl hl.1 rfl (lv_room (Nat.le_of_ble_eq_true rfl)) dX5_digest_23 ⟨Nat.le_of_ble_eq_true rfl, Nat.le_of_ble_eq_true rfl⟩) hS (fun q _ h => hFc q h) hFc (fun r u t H1 locs ht hvm hw hB hz1 hk1 hS => ?_)
  have hw : r = 0 := hw.trans (by decide)
  rw [hw]
  obtain ⟨hP1, hK1, hD1⟩ := hB
  rw [ht] at hP1
  have hK1 := va_K.moved hvm.symm hK1
  obtain ⟨hP, hD⟩ := va_join (wr := []) (w1 := [(h0, .inr (8, [.int 0, .ref lH, .ref lB, .ref lJ, .ref aR, .ref aL, .int 0, .int 0, .int 0, .ref lC, .ref aM, .ref aP, .int 0, .int 0, .int 0, .int (-1), .int (-1), .int 0, .int 0, .long 250832502849987])), (lB, .inr (2, [.int 0, .ref eT, .int 0])), (lH, .inr (2, [.int 0, .ref eT, .int 0])), (lJ, .inr (2, [.int 0, .ref eT, .int 0])), (aR, .inl (cI, 4, .inl fR))]) hP hD [4, 0, 1, 2, 3] [] rfl rfl (by decide) (by decide) hk1 hFc hP1 hD1
  generalize H1 = H at hP hS ⊢
  have hP : va_P D vwCl [(h0, .inr (8, [.int 0, .ref lH, .ref lB, .ref lJ, .ref aR, .ref aL, .int 0, .int 0, .int 0, .ref lC, .ref aM, .ref aP, .int 0, .int 0, .int 0, .int (-1), .int (-1), .int 0, .int 0, .long 250832502849987])), (lB, .inr (2, [.int 0, .ref eT, .int 0])), (lH, .inr (2, [.int 0, .ref eT, .int 0])), (lJ, .inr (2, [.int 0, .ref eT, .int 0])), (aR, .inl (cI, 4, .inl fR))] H := hP
  have hD : va_D A [(h0, .inr (8, [.int 0, .ref lH, .ref lB, .ref lJ, .ref aR, .ref aL, .int 0, .int 0, .int 0, .ref lC, .ref aM, .ref aP, .int 0, .int 0, .int 0, .int (-1), .int (-1), .int 0, .int 0, .long 250832502849987])), (lB, .inr (2, [.int 0, .ref eT, .int 0])), (lH, .inr (2, [.int 0, .ref eT, .int 0])), (lJ, .inr (2, [.int 0, .ref eT, .int 0])), (aR, .inl (cI, 4, .inl fR))] := hD
  refine W.widen (k := 16) (n := 152) (Nat.le_of_ble_eq_true rfl) (Nat.le_of_ble_eq_true rfl) ?_
  have hPc := hP.sub (ws' := [(h0, .inr (8, [.int 0, .ref lH, .ref lB, .ref lJ, .ref aR, .ref aL, .int 0, .int 0, .int 0, .ref lC, .ref aM, .ref aP, .int 0, .int 0, .int 0, .int (-1), .int (-1), .int 0, .int 0, .long 250832502849987]))]) [0] rfl
  have hKc := hK.sub (tys' := []) [] rfl
  have hDc := hD.sub (ws' := [(h0, .inr (8, [.int 0, .ref lH, .ref lB, .ref lJ, .ref aR, .ref aL, .int 0, .int 0, .int 0, .ref lC, .ref aM, .ref aP, .int 0, .int 0, .int 0, .int (-1), .int (-1), .int 0, .int 0, .long 250832502849987]))]) [0] (by decide) rfl
  have hFc := va_free (wc := [(h0, .inr (8, [.int 0, .ref lH, .ref lB, .ref lJ, .ref aR, .ref aL, .int 0, .int 0, .int 0, .ref lC, .ref aM, .ref aP, .int 0, .int 0, .int 0, .int (-1), .int (-1), .int 0, .int 0, .long 250832502849987]))]) hD hS hA [0] rfl
  refine va_callv (va_runV (As := [.int 0]) (rest := []) ⟨hx, hb, hml, hown, hts⟩ (r_add l D eT h0 lH lB lJ aR aL lC aM aP 250832502849987 7775807588349597 0 H.size (by decide +kernel)) (cwV 1 hts gX5_digest_X5_add rfl rfl rfl (by decide +kernel) ⟨Nat.le_of_ble_eq_true rfl, Nat.le_of_ble_eq_true rfl⟩) (pc_v (ci := 8) (q0 := 0) rfl rfl hPc hDc hKc hE hS hFc) rfl rfl hl.1 rfl (lv_room (Nat.le_of_ble_eq_true rfl)) dX5_digest_26 ⟨Nat.le_of_ble_eq_true rfl, Nat.le_of_ble_eq_true rfl⟩) hS (fun q _ h => hFc q h) hFc (fun u t H1 locs ht hvm hw hB hz1 hk1 hS => ?_)
  obtain ⟨hP1, hK1, hD1⟩ := hB
  rw [ht] at hP1
  have hK1 := va_K.moved hvm.symm hK1
  obtain ⟨hP, hD⟩ := va_join (wr := [(lB, .inr (2, [.int 0, .ref eT, .int 0])), (lH, .inr (2, [.int 0, .ref eT, .int 0])), (lJ, .inr (2, [.int 0, .ref eT, .int 0])), (aR, .inl (cI, 4, .inl fR))]) (w1 := [(h0, .inr (8, [.int 0, .ref lH, .ref lB, .ref lJ, .ref aR, .ref aL, .int 0, .int 0, .int 0, .ref lC, .ref aM, .ref aP, .int 0, .int 0, .int 0, .int (-1), .int (-1), .int 0, .int 0, .long 7775807588349597]))]) hP hD [0] [1, 2, 3, 4] rfl rfl (by decide) (by decide) hk1 hFc hP1 hD1
  generalize H1 = H at hP hS ⊢
  have hP : va_P D vwCl [(lB, .inr (2, [.int 0, .ref eT, .int 0])), (lH, .inr (2, [.int 0, .ref eT, .int 0])), (lJ, .inr (2, [.int 0, .ref eT, .int 0])), (aR, .inl (cI, 4, .inl fR)), (h0, .inr (8, [.int 0, .ref lH, .ref lB, .ref lJ, .ref aR, .ref aL, .int 0, .int 0, .int 0, .ref lC, .ref aM, .ref aP, .int 0, .int 0, .int 0, .int (-1), .int (-1), .int 0, .int 0, .long 7775807588349597]))] H := hP
  have hD : va_D A [(lB, .inr (2, [.int 0, .ref eT, .int 0])), (lH, .inr (2, [.int 0, .ref eT, .int 0])), (lJ, .inr (2, [.int 0, .ref eT, .int 0])), (aR, .inl (cI, 4, .inl fR)), (h0, .inr (8, [.int 0, .ref lH, .ref lB, .ref lJ, .ref aR, .ref aL, .int 0, .int 0, .int 0, .ref lC, .ref aM, .ref aP, .int 0, .int 0, .int 0, .int (-1), .int (-1), .int 0, .int 0, .long 7775807588349597]))] := hD
  refine lv_iinc (v := 8) (lv' := [(1, .int 8), (0, .ref h0)]) hx hb dX5_digest_29 hl (k := 0) rfl (by decide) (by decide) rfl (fun ls hl => ?_)
  refine lv_goto (tgt := 14) hx hb dX5_digest_32 (by decide) ?_
  refine lv_iload_n hx hb dX5_digest_14 rfl (lv_at hl 0 rfl) ?_
  refine lv_bipush (v := 15) hx hb dX5_digest_15 (by decide) ?_
  refine lv_icmp_ge (tgt := 35) hx hb dX5_digest_17 (by decide) (fun h => absurd h (by decide)) (fun _ => ?_)
  refine lv_aload_n hx hb dX5_digest_20 rfl (lv_at hl 1 rfl) ?_
  refine lv_aload_n hx hb dX5_digest_21 rfl (lv_at hl 1 rfl) ?_
  refine lv_iload_n hx hb dX5_digest_22 rfl (lv_at hl 0 rfl) ?_
  have hPc := hP.sub (ws' := [(h0, .inr (8, [.int 0, .ref lH, .ref lB, .ref lJ, .ref aR, .ref aL, .int 0, .int 0, .int 0, .ref lC, .ref aM, .ref aP, .int 0, .int 0, .int 0, .int (-1), .int (-1), .int 0, .int 0, .long 7775807588349597])), (lB, .inr (2, [.int 0, .ref eT, .int 0])), (lH, .inr (2, [.int 0, .ref eT, .int 0])), (lJ, .inr (2, [.int 0, .ref eT, .int 0])), (aR, .inl (cI, 4, .inl fR))]) [4, 0, 1, 2, 3] rfl
  have hKc := hK.sub (tys' := [(cI, .int)]) [0] rfl
  have hDc := hD.sub (ws' := [(h0, .inr (8, [.int 0, .ref lH, .ref lB, .ref lJ, .ref aR, .ref aL, .int 0, .int 0, .int 0, .ref lC, .ref aM, .ref aP, .int 0, .int 0, .int 0, .int (-1), .int (-1), .int 0, .int 0, .long 7775807588349597])), (lB, .inr (2, [.int 0, .ref eT, .int 0])), (lH, .inr (2, [.int 0, .ref eT, .int 0])), (lJ, .inr (2, [.int 0, .ref eT, .int 0])), (aR, .inl (cI, 4, .inl fR))]) [4, 0, 1, 2, 3] (by decide) rfl
  have hFc := va_free (wc := [(h0, .inr (8, [.int 0, .ref lH, .ref lB, .ref lJ, .ref aR, .ref aL, .int 0, .int 0, .int 0, .ref lC, .ref aM, .ref aP, .int 0, .int 0, .int 0, .int (-1), .int (-1), .int 0, .int 0, .long 7775807588349597])), (lB, .inr (2, [.int 0, .ref eT, .int 0])), (lH, .inr (2, [.int 0, .ref eT, .int 0])), (lJ, .inr (2, [.int 0, .ref eT, .int 0])), (aR, .inl (cI, 4, .inl fR))]) hD hS hA [4, 0, 1, 2, 3] rfl
  refine va_calli (va_runV (As := [.int 8]) (rest := [.ref h0]) ⟨hx, hb, hml, hown, hts⟩ (r_manyNow l D eT h0 lH lB lJ aR aL lC aM aP 7775807588349597 cI fR 8 H.size hR (by decide) (by decide)) (cwV 1 hts gX5_digest_X5_manyNow rfl rfl rfl (by decide +kernel) ⟨Nat.le_of_ble_eq_true rfl, Nat.le_of_ble_eq_true rfl⟩) (pc_v (ci := 8) (q0 := 0) rfl rfl hPc hDc hKc hE hS hFc) rfl rfl hl.1 rfl (lv_room (Nat.le_of_ble_eq_true rfl)) dX5_digest_23 ⟨Nat.le_of_ble_eq_true rfl, Nat.le_of_ble_eq_true rfl⟩) hS (fun q _ h => hFc q h) hFc (fun r u t H1 locs ht hvm hw hB hz1 hk1 hS => ?_)
  have hw : r = 0 := hw.trans (by decide)
  rw [hw]
  obtain ⟨hP1, hK1, hD1⟩ := hB
  rw [ht] at hP1
  have hK1 := va_K.moved hvm.symm hK1
  obtain ⟨hP, hD⟩ := va_join (wr := []) (w1 := [(h0, .inr (8, [.int 0, .ref lH, .ref lB, .ref lJ, .ref aR, .ref aL, .int 0, .int 0, .int 0, .ref lC, .ref aM, .ref aP, .int 0, .int 0, .int 0, .int (-1), .int (-1), .int 0, .int 0, .long 7775807588349597])), (lB, .inr (2, [.int 0, .ref eT, .int 0])), (lH, .inr (2, [.int 0, .ref eT, .int 0])), (lJ, .inr (2, [.int 0, .ref eT, .int 0])), (aR, .inl (cI, 4, .inl fR))]) hP hD [4, 0, 1, 2, 3] [] rfl rfl (by decide) (by decide) hk1 hFc hP1 hD1
  generalize H1 = H at hP hS ⊢
  have hP : va_P D vwCl [(h0, .inr (8, [.int 0, .ref lH, .ref lB, .ref lJ, .ref aR, .ref aL, .int 0, .int 0, .int 0, .ref lC, .ref aM, .ref aP, .int 0, .int 0, .int 0, .int (-1), .int (-1), .int 0, .int 0, .long 7775807588349597])), (lB, .inr (2, [.int 0, .ref eT, .int 0])), (lH, .inr (2, [.int 0, .ref eT, .int 0])), (lJ, .inr (2, [.int 0, .ref eT, .int 0])), (aR, .inl (cI, 4, .inl fR))] H := hP
  have hD : va_D A [(h0, .inr (8, [.int 0, .ref lH, .ref lB, .ref lJ, .ref aR, .ref aL, .int 0, .int 0, .int 0, .ref lC, .ref aM, .ref aP, .int 0, .int 0, .int 0, .int (-1), .int (-1), .int 0, .int 0, .long 7775807588349597])), (lB, .inr (2, [.int 0, .ref eT, .int 0])), (lH, .inr (2, [.int 0, .ref eT, .int 0])), (lJ, .inr (2, [.int 0, .ref eT, .int 0])), (aR, .inl (cI, 4, .inl fR))] := hD
  refine W.widen (k := 18) (n := 171) (Nat.le_of_ble_eq_true rfl) (Nat.le_of_ble_eq_true rfl) ?_
  have hPc := hP.sub (ws' := [(h0, .inr (8, [.int 0, .ref lH, .ref lB, .ref lJ, .ref aR, .ref aL, .int 0, .int 0, .int 0, .ref lC, .ref aM, .ref aP, .int 0, .int 0, .int 0, .int (-1), .int (-1), .int 0, .int 0, .long 7775807588349597]))]) [0] rfl
  have hKc := hK.sub (tys' := []) [] rfl
  have hDc := hD.sub (ws' := [(h0, .inr (8, [.int 0, .ref lH, .ref lB, .ref lJ, .ref aR, .ref aL, .int 0, .int 0, .int 0, .ref lC, .ref aM, .ref aP, .int 0, .int 0, .int 0, .int (-1), .int (-1), .int 0, .int 0, .long 7775807588349597]))]) [0] (by decide) rfl
  have hFc := va_free (wc := [(h0, .inr (8, [.int 0, .ref lH, .ref lB, .ref lJ, .ref aR, .ref aL, .int 0, .int 0, .int 0, .ref lC, .ref aM, .ref aP, .int 0, .int 0, .int 0, .int (-1), .int (-1), .int 0, .int 0, .long 7775807588349597]))]) hD hS hA [0] rfl
  refine va_callv (va_runV (As := [.int 0]) (rest := []) ⟨hx, hb, hml, hown, hts⟩ (r_add l D eT h0 lH lB lJ aR aL lC aM aP 7775807588349597 241050035238837507 0 H.size (by decide +kernel)) (cwV 1 hts gX5_digest_X5_add rfl rfl rfl (by decide +kernel) ⟨Nat.le_of_ble_eq_true rfl, Nat.le_of_ble_eq_true rfl⟩) (pc_v (ci := 8) (q0 := 0) rfl rfl hPc hDc hKc hE hS hFc) rfl rfl hl.1 rfl (lv_room (Nat.le_of_ble_eq_true rfl)) dX5_digest_26 ⟨Nat.le_of_ble_eq_true rfl, Nat.le_of_ble_eq_true rfl⟩) hS (fun q _ h => hFc q h) hFc (fun u t H1 locs ht hvm hw hB hz1 hk1 hS => ?_)
  obtain ⟨hP1, hK1, hD1⟩ := hB
  rw [ht] at hP1
  have hK1 := va_K.moved hvm.symm hK1
  obtain ⟨hP, hD⟩ := va_join (wr := [(lB, .inr (2, [.int 0, .ref eT, .int 0])), (lH, .inr (2, [.int 0, .ref eT, .int 0])), (lJ, .inr (2, [.int 0, .ref eT, .int 0])), (aR, .inl (cI, 4, .inl fR))]) (w1 := [(h0, .inr (8, [.int 0, .ref lH, .ref lB, .ref lJ, .ref aR, .ref aL, .int 0, .int 0, .int 0, .ref lC, .ref aM, .ref aP, .int 0, .int 0, .int 0, .int (-1), .int (-1), .int 0, .int 0, .long 241050035238837507]))]) hP hD [0] [1, 2, 3, 4] rfl rfl (by decide) (by decide) hk1 hFc hP1 hD1
  generalize H1 = H at hP hS ⊢
  have hP : va_P D vwCl [(lB, .inr (2, [.int 0, .ref eT, .int 0])), (lH, .inr (2, [.int 0, .ref eT, .int 0])), (lJ, .inr (2, [.int 0, .ref eT, .int 0])), (aR, .inl (cI, 4, .inl fR)), (h0, .inr (8, [.int 0, .ref lH, .ref lB, .ref lJ, .ref aR, .ref aL, .int 0, .int 0, .int 0, .ref lC, .ref aM, .ref aP, .int 0, .int 0, .int 0, .int (-1), .int (-1), .int 0, .int 0, .long 241050035238837507]))] H := hP
  have hD : va_D A [(lB, .inr (2, [.int 0, .ref eT, .int 0])), (lH, .inr (2, [.int 0, .ref eT, .int 0])), (lJ, .inr (2, [.int 0, .ref eT, .int 0])), (aR, .inl (cI, 4, .inl fR)), (h0, .inr (8, [.int 0, .ref lH, .ref lB, .ref lJ, .ref aR, .ref aL, .int 0, .int 0, .int 0, .ref lC, .ref aM, .ref aP, .int 0, .int 0, .int 0, .int (-1), .int (-1), .int 0, .int 0, .long 241050035238837507]))] := hD
  refine lv_iinc (v := 9) (lv' := [(1, .int 9), (0, .ref h0)]) hx hb dX5_digest_29 hl (k := 0) rfl (by decide) (by decide) rfl (fun ls hl => ?_)
  refine lv_goto (tgt := 14) hx hb dX5_digest_32 (by decide) ?_
  refine lv_iload_n hx hb dX5_digest_14 rfl (lv_at hl 0 rfl) ?_
  refine lv_bipush (v := 15) hx hb dX5_digest_15 (by decide) ?_
  refine lv_icmp_ge (tgt := 35) hx hb dX5_digest_17 (by decide) (fun h => absurd h (by decide)) (fun _ => ?_)
  refine lv_aload_n hx hb dX5_digest_20 rfl (lv_at hl 1 rfl) ?_
  refine lv_aload_n hx hb dX5_digest_21 rfl (lv_at hl 1 rfl) ?_
  refine lv_iload_n hx hb dX5_digest_22 rfl (lv_at hl 0 rfl) ?_
  have hPc := hP.sub (ws' := [(h0, .inr (8, [.int 0, .ref lH, .ref lB, .ref lJ, .ref aR, .ref aL, .int 0, .int 0, .int 0, .ref lC, .ref aM, .ref aP, .int 0, .int 0, .int 0, .int (-1), .int (-1), .int 0, .int 0, .long 241050035238837507])), (lB, .inr (2, [.int 0, .ref eT, .int 0])), (lH, .inr (2, [.int 0, .ref eT, .int 0])), (lJ, .inr (2, [.int 0, .ref eT, .int 0])), (aR, .inl (cI, 4, .inl fR))]) [4, 0, 1, 2, 3] rfl
  have hKc := hK.sub (tys' := [(cI, .int)]) [0] rfl
  have hDc := hD.sub (ws' := [(h0, .inr (8, [.int 0, .ref lH, .ref lB, .ref lJ, .ref aR, .ref aL, .int 0, .int 0, .int 0, .ref lC, .ref aM, .ref aP, .int 0, .int 0, .int 0, .int (-1), .int (-1), .int 0, .int 0, .long 241050035238837507])), (lB, .inr (2, [.int 0, .ref eT, .int 0])), (lH, .inr (2, [.int 0, .ref eT, .int 0])), (lJ, .inr (2, [.int 0, .ref eT, .int 0])), (aR, .inl (cI, 4, .inl fR))]) [4, 0, 1, 2, 3] (by decide) rfl
  have hFc := va_free (wc := [(h0, .inr (8, [.int 0, .ref lH, .ref lB, .ref lJ, .ref aR, .ref aL, .int 0, .int 0, .int 0, .ref lC, .ref aM, .ref aP, .int 0, .int 0, .int 0, .int (-1), .int (-1), .int 0, .int 0, .long 241050035238837507])), (lB, .inr (2, [.int 0, .ref eT, .int 0])), (lH, .inr (2, [.int 0, .ref eT, .int 0])), (lJ, .inr (2, [.int 0, .ref eT, .int 0])), (aR, .inl (cI, 4, .inl fR))]) hD hS hA [4, 0, 1, 2, 3] rfl
  refine va_calli (va_runV (As := [.int 9]) (rest := [.ref h0]) ⟨hx, hb, hml, hown, hts⟩ (r_manyNow l D eT h0 lH lB lJ aR aL lC aM aP 241050035238837507 cI fR 9 H.size hR (by decide) (by decide)) (cwV 1 hts gX5_digest_X5_manyNow rfl rfl rfl (by decide +kernel) ⟨Nat.le_of_ble_eq_true rfl, Nat.le_of_ble_eq_true rfl⟩) (pc_v (ci := 8) (q0 := 0) rfl rfl hPc hDc hKc hE hS hFc) rfl rfl hl.1 rfl (lv_room (Nat.le_of_ble_eq_true rfl)) dX5_digest_23 ⟨Nat.le_of_ble_eq_true rfl, Nat.le_of_ble_eq_true rfl⟩) hS (fun q _ h => hFc q h) hFc (fun r u t H1 locs ht hvm hw hB hz1 hk1 hS => ?_)
  have hw : r = (-1) := hw.trans (by decide)
  rw [hw]
  obtain ⟨hP1, hK1, hD1⟩ := hB
  rw [ht] at hP1
  have hK1 := va_K.moved hvm.symm hK1
  obtain ⟨hP, hD⟩ := va_join (wr := []) (w1 := [(h0, .inr (8, [.int 0, .ref lH, .ref lB, .ref lJ, .ref aR, .ref aL, .int 0, .int 0, .int 0, .ref lC, .ref aM, .ref aP, .int 0, .int 0, .int 0, .int (-1), .int (-1), .int 0, .int 0, .long 241050035238837507])), (lB, .inr (2, [.int 0, .ref eT, .int 0])), (lH, .inr (2, [.int 0, .ref eT, .int 0])), (lJ, .inr (2, [.int 0, .ref eT, .int 0])), (aR, .inl (cI, 4, .inl fR))]) hP hD [4, 0, 1, 2, 3] [] rfl rfl (by decide) (by decide) hk1 hFc hP1 hD1
  generalize H1 = H at hP hS ⊢
  have hP : va_P D vwCl [(h0, .inr (8, [.int 0, .ref lH, .ref lB, .ref lJ, .ref aR, .ref aL, .int 0, .int 0, .int 0, .ref lC, .ref aM, .ref aP, .int 0, .int 0, .int 0, .int (-1), .int (-1), .int 0, .int 0, .long 241050035238837507])), (lB, .inr (2, [.int 0, .ref eT, .int 0])), (lH, .inr (2, [.int 0, .ref eT, .int 0])), (lJ, .inr (2, [.int 0, .ref eT, .int 0])), (aR, .inl (cI, 4, .inl fR))] H := hP
  have hD : va_D A [(h0, .inr (8, [.int 0, .ref lH, .ref lB, .ref lJ, .ref aR, .ref aL, .int 0, .int 0, .int 0, .ref lC, .ref aM, .ref aP, .int 0, .int 0, .int 0, .int (-1), .int (-1), .int 0, .int 0, .long 241050035238837507])), (lB, .inr (2, [.int 0, .ref eT, .int 0])), (lH, .inr (2, [.int 0, .ref eT, .int 0])), (lJ, .inr (2, [.int 0, .ref eT, .int 0])), (aR, .inl (cI, 4, .inl fR))] := hD
  refine W.widen (k := 20) (n := 190) (Nat.le_of_ble_eq_true rfl) (Nat.le_of_ble_eq_true rfl) ?_
  have hPc := hP.sub (ws' := [(h0, .inr (8, [.int 0, .ref lH, .ref lB, .ref lJ, .ref aR, .ref aL, .int 0, .int 0, .int 0, .ref lC, .ref aM, .ref aP, .int 0, .int 0, .int 0, .int (-1), .int (-1), .int 0, .int 0, .long 241050035238837507]))]) [0] rfl
  have hKc := hK.sub (tys' := []) [] rfl
  have hDc := hD.sub (ws' := [(h0, .inr (8, [.int 0, .ref lH, .ref lB, .ref lJ, .ref aR, .ref aL, .int 0, .int 0, .int 0, .ref lC, .ref aM, .ref aP, .int 0, .int 0, .int 0, .int (-1), .int (-1), .int 0, .int 0, .long 241050035238837507]))]) [0] (by decide) rfl
  have hFc := va_free (wc := [(h0, .inr (8, [.int 0, .ref lH, .ref lB, .ref lJ, .ref aR, .ref aL, .int 0, .int 0, .int 0, .ref lC, .ref aM, .ref aP, .int 0, .int 0, .int 0, .int (-1), .int (-1), .int 0, .int 0, .long 241050035238837507]))]) hD hS hA [0] rfl
  refine va_callv (va_runV (As := [.int (-1)]) (rest := []) ⟨hx, hb, hml, hown, hts⟩ (r_add l D eT h0 lH lB lJ aR aL lC aM aP 241050035238837507 7472551092403962716 (-1) H.size (by decide +kernel)) (cwV 1 hts gX5_digest_X5_add rfl rfl rfl (by decide +kernel) ⟨Nat.le_of_ble_eq_true rfl, Nat.le_of_ble_eq_true rfl⟩) (pc_v (ci := 8) (q0 := 0) rfl rfl hPc hDc hKc hE hS hFc) rfl rfl hl.1 rfl (lv_room (Nat.le_of_ble_eq_true rfl)) dX5_digest_26 ⟨Nat.le_of_ble_eq_true rfl, Nat.le_of_ble_eq_true rfl⟩) hS (fun q _ h => hFc q h) hFc (fun u t H1 locs ht hvm hw hB hz1 hk1 hS => ?_)
  obtain ⟨hP1, hK1, hD1⟩ := hB
  rw [ht] at hP1
  have hK1 := va_K.moved hvm.symm hK1
  obtain ⟨hP, hD⟩ := va_join (wr := [(lB, .inr (2, [.int 0, .ref eT, .int 0])), (lH, .inr (2, [.int 0, .ref eT, .int 0])), (lJ, .inr (2, [.int 0, .ref eT, .int 0])), (aR, .inl (cI, 4, .inl fR))]) (w1 := [(h0, .inr (8, [.int 0, .ref lH, .ref lB, .ref lJ, .ref aR, .ref aL, .int 0, .int 0, .int 0, .ref lC, .ref aM, .ref aP, .int 0, .int 0, .int 0, .int (-1), .int (-1), .int 0, .int 0, .long 7472551092403962716]))]) hP hD [0] [1, 2, 3, 4] rfl rfl (by decide) (by decide) hk1 hFc hP1 hD1
  generalize H1 = H at hP hS ⊢
  have hP : va_P D vwCl [(lB, .inr (2, [.int 0, .ref eT, .int 0])), (lH, .inr (2, [.int 0, .ref eT, .int 0])), (lJ, .inr (2, [.int 0, .ref eT, .int 0])), (aR, .inl (cI, 4, .inl fR)), (h0, .inr (8, [.int 0, .ref lH, .ref lB, .ref lJ, .ref aR, .ref aL, .int 0, .int 0, .int 0, .ref lC, .ref aM, .ref aP, .int 0, .int 0, .int 0, .int (-1), .int (-1), .int 0, .int 0, .long 7472551092403962716]))] H := hP
  have hD : va_D A [(lB, .inr (2, [.int 0, .ref eT, .int 0])), (lH, .inr (2, [.int 0, .ref eT, .int 0])), (lJ, .inr (2, [.int 0, .ref eT, .int 0])), (aR, .inl (cI, 4, .inl fR)), (h0, .inr (8, [.int 0, .ref lH, .ref lB, .ref lJ, .ref aR, .ref aL, .int 0, .int 0, .int 0, .ref lC, .ref aM, .ref aP, .int 0, .int 0, .int 0, .int (-1), .int (-1), .int 0, .int 0, .long 7472551092403962716]))] := hD
  refine lv_iinc (v := 10) (lv' := [(1, .int 10), (0, .ref h0)]) hx hb dX5_digest_29 hl (k := 0) rfl (by decide) (by decide) rfl (fun ls hl => ?_)
  refine lv_goto (tgt := 14) hx hb dX5_digest_32 (by decide) ?_
  refine lv_iload_n hx hb dX5_digest_14 rfl (lv_at hl 0 rfl) ?_
  refine lv_bipush (v := 15) hx hb dX5_digest_15 (by decide) ?_
  refine lv_icmp_ge (tgt := 35) hx hb dX5_digest_17 (by decide) (fun h => absurd h (by decide)) (fun _ => ?_)
  refine lv_aload_n hx hb dX5_digest_20 rfl (lv_at hl 1 rfl) ?_
  refine lv_aload_n hx hb dX5_digest_21 rfl (lv_at hl 1 rfl) ?_
  refine lv_iload_n hx hb dX5_digest_22 rfl (lv_at hl 0 rfl) ?_
  have hPc := hP.sub (ws' := [(h0, .inr (8, [.int 0, .ref lH, .ref lB, .ref lJ, .ref aR, .ref aL, .int 0, .int 0, .int 0, .ref lC, .ref aM, .ref aP, .int 0, .int 0, .int 0, .int (-1), .int (-1), .int 0, .int 0, .long 7472551092403962716])), (lB, .inr (2, [.int 0, .ref eT, .int 0])), (lH, .inr (2, [.int 0, .ref eT, .int 0])), (lJ, .inr (2, [.int 0, .ref eT, .int 0])), (aR, .inl (cI, 4, .inl fR))]) [4, 0, 1, 2, 3] rfl
  have hKc := hK.sub (tys' := [(cI, .int)]) [0] rfl
  have hDc := hD.sub (ws' := [(h0, .inr (8, [.int 0, .ref lH, .ref lB, .ref lJ, .ref aR, .ref aL, .int 0, .int 0, .int 0, .ref lC, .ref aM, .ref aP, .int 0, .int 0, .int 0, .int (-1), .int (-1), .int 0, .int 0, .long 7472551092403962716])), (lB, .inr (2, [.int 0, .ref eT, .int 0])), (lH, .inr (2, [.int 0, .ref eT, .int 0])), (lJ, .inr (2, [.int 0, .ref eT, .int 0])), (aR, .inl (cI, 4, .inl fR))]) [4, 0, 1, 2, 3] (by decide) rfl
  have hFc := va_free (wc := [(h0, .inr (8, [.int 0, .ref lH, .ref lB, .ref lJ, .ref aR, .ref aL, .int 0, .int 0, .int 0, .ref lC, .ref aM, .ref aP, .int 0, .int 0, .int 0, .int (-1), .int (-1), .int 0, .int 0, .long 7472551092403962716])), (lB, .inr (2, [.int 0, .ref eT, .int 0])), (lH, .inr (2, [.int 0, .ref eT, .int 0])), (lJ, .inr (2, [.int 0, .ref eT, .int 0])), (aR, .inl (cI, 4, .inl fR))]) hD hS hA [4, 0, 1, 2, 3] rfl
  refine va_calli (va_runV (As := [.int 10]) (rest := [.ref h0]) ⟨hx, hb, hml, hown, hts⟩ (r_manyNow l D eT h0 lH lB lJ aR aL lC aM aP 7472551092403962716 cI fR 10 H.size hR (by decide) (by decide)) (cwV 1 hts gX5_digest_X5_manyNow rfl rfl rfl (by decide +kernel) ⟨Nat.le_of_ble_eq_true rfl, Nat.le_of_ble_eq_true rfl⟩) (pc_v (ci := 8) (q0 := 0) rfl rfl hPc hDc hKc hE hS hFc) rfl rfl hl.1 rfl (lv_room (Nat.le_of_ble_eq_true rfl)) dX5_digest_23 ⟨Nat.le_of_ble_eq_true rfl, Nat.le_of_ble_eq_true rfl⟩) hS (fun q _ h => hFc q h) hFc (fun r u t H1 locs ht hvm hw hB hz1 hk1 hS => ?_)
  have hw : r = (-1) := hw.trans (by decide)
  rw [hw]
  obtain ⟨hP1, hK1, hD1⟩ := hB
  rw [ht] at hP1
  have hK1 := va_K.moved hvm.symm hK1
  obtain ⟨hP, hD⟩ := va_join (wr := []) (w1 := [(h0, .inr (8, [.int 0, .ref lH, .ref lB, .ref lJ, .ref aR, .ref aL, .int 0, .int 0, .int 0, .ref lC, .ref aM, .ref aP, .int 0, .int 0, .int 0, .int (-1), .int (-1), .int 0, .int 0, .long 7472551092403962716])), (lB, .inr (2, [.int 0, .ref eT, .int 0])), (lH, .inr (2, [.int 0, .ref eT, .int 0])), (lJ, .inr (2, [.int 0, .ref eT, .int 0])), (aR, .inl (cI, 4, .inl fR))]) hP hD [4, 0, 1, 2, 3] [] rfl rfl (by decide) (by decide) hk1 hFc hP1 hD1
  generalize H1 = H at hP hS ⊢
  have hP : va_P D vwCl [(h0, .inr (8, [.int 0, .ref lH, .ref lB, .ref lJ, .ref aR, .ref aL, .int 0, .int 0, .int 0, .ref lC, .ref aM, .ref aP, .int 0, .int 0, .int 0, .int (-1), .int (-1), .int 0, .int 0, .long 7472551092403962716])), (lB, .inr (2, [.int 0, .ref eT, .int 0])), (lH, .inr (2, [.int 0, .ref eT, .int 0])), (lJ, .inr (2, [.int 0, .ref eT, .int 0])), (aR, .inl (cI, 4, .inl fR))] H := hP
  have hD : va_D A [(h0, .inr (8, [.int 0, .ref lH, .ref lB, .ref lJ, .ref aR, .ref aL, .int 0, .int 0, .int 0, .ref lC, .ref aM, .ref aP, .int 0, .int 0, .int 0, .int (-1), .int (-1), .int 0, .int 0, .long 7472551092403962716])), (lB, .inr (2, [.int 0, .ref eT, .int 0])), (lH, .inr (2, [.int 0, .ref eT, .int 0])), (lJ, .inr (2, [.int 0, .ref eT, .int 0])), (aR, .inl (cI, 4, .inl fR))] := hD
  refine W.widen (k := 22) (n := 209) (Nat.le_of_ble_eq_true rfl) (Nat.le_of_ble_eq_true rfl) ?_
  have hPc := hP.sub (ws' := [(h0, .inr (8, [.int 0, .ref lH, .ref lB, .ref lJ, .ref aR, .ref aL, .int 0, .int 0, .int 0, .ref lC, .ref aM, .ref aP, .int 0, .int 0, .int 0, .int (-1), .int (-1), .int 0, .int 0, .long 7472551092403962716]))]) [0] rfl
  have hKc := hK.sub (tys' := []) [] rfl
  have hDc := hD.sub (ws' := [(h0, .inr (8, [.int 0, .ref lH, .ref lB, .ref lJ, .ref aR, .ref aL, .int 0, .int 0, .int 0, .ref lC, .ref aM, .ref aP, .int 0, .int 0, .int 0, .int (-1), .int (-1), .int 0, .int 0, .long 7472551092403962716]))]) [0] (by decide) rfl
  have hFc := va_free (wc := [(h0, .inr (8, [.int 0, .ref lH, .ref lB, .ref lJ, .ref aR, .ref aL, .int 0, .int 0, .int 0, .ref lC, .ref aM, .ref aP, .int 0, .int 0, .int 0, .int (-1), .int (-1), .int 0, .int 0, .long 7472551092403962716]))]) hD hS hA [0] rfl
  refine va_callv (va_runV (As := [.int (-1)]) (rest := []) ⟨hx, hb, hml, hown, hts⟩ (r_add l D eT h0 lH lB lJ aR aL lC aM aP 7472551092403962716 (-8158589093701326813) (-1) H.size (by decide +kernel)) (cwV 1 hts gX5_digest_X5_add rfl rfl rfl (by decide +kernel) ⟨Nat.le_of_ble_eq_true rfl, Nat.le_of_ble_eq_true rfl⟩) (pc_v (ci := 8) (q0 := 0) rfl rfl hPc hDc hKc hE hS hFc) rfl rfl hl.1 rfl (lv_room (Nat.le_of_ble_eq_true rfl)) dX5_digest_26 ⟨Nat.le_of_ble_eq_true rfl, Nat.le_of_ble_eq_true rfl⟩) hS (fun q _ h => hFc q h) hFc (fun u t H1 locs ht hvm hw hB hz1 hk1 hS => ?_)
  obtain ⟨hP1, hK1, hD1⟩ := hB
  rw [ht] at hP1
  have hK1 := va_K.moved hvm.symm hK1
  obtain ⟨hP, hD⟩ := va_join (wr := [(lB, .inr (2, [.int 0, .ref eT, .int 0])), (lH, .inr (2, [.int 0, .ref eT, .int 0])), (lJ, .inr (2, [.int 0, .ref eT, .int 0])), (aR, .inl (cI, 4, .inl fR))]) (w1 := [(h0, .inr (8, [.int 0, .ref lH, .ref lB, .ref lJ, .ref aR, .ref aL, .int 0, .int 0, .int 0, .ref lC, .ref aM, .ref aP, .int 0, .int 0, .int 0, .int (-1), .int (-1), .int 0, .int 0, .long (-8158589093701326813)]))]) hP hD [0] [1, 2, 3, 4] rfl rfl (by decide) (by decide) hk1 hFc hP1 hD1
  generalize H1 = H at hP hS ⊢
  have hP : va_P D vwCl [(lB, .inr (2, [.int 0, .ref eT, .int 0])), (lH, .inr (2, [.int 0, .ref eT, .int 0])), (lJ, .inr (2, [.int 0, .ref eT, .int 0])), (aR, .inl (cI, 4, .inl fR)), (h0, .inr (8, [.int 0, .ref lH, .ref lB, .ref lJ, .ref aR, .ref aL, .int 0, .int 0, .int 0, .ref lC, .ref aM, .ref aP, .int 0, .int 0, .int 0, .int (-1), .int (-1), .int 0, .int 0, .long (-8158589093701326813)]))] H := hP
  have hD : va_D A [(lB, .inr (2, [.int 0, .ref eT, .int 0])), (lH, .inr (2, [.int 0, .ref eT, .int 0])), (lJ, .inr (2, [.int 0, .ref eT, .int 0])), (aR, .inl (cI, 4, .inl fR)), (h0, .inr (8, [.int 0, .ref lH, .ref lB, .ref lJ, .ref aR, .ref aL, .int 0, .int 0, .int 0, .ref lC, .ref aM, .ref aP, .int 0, .int 0, .int 0, .int (-1), .int (-1), .int 0, .int 0, .long (-8158589093701326813)]))] := hD
  refine lv_iinc (v := 11) (lv' := [(1, .int 11), (0, .ref h0)]) hx hb dX5_digest_29 hl (k := 0) rfl (by decide) (by decide) rfl (fun ls hl => ?_)
  refine lv_goto (tgt := 14) hx hb dX5_digest_32 (by decide) ?_
  refine lv_iload_n hx hb dX5_digest_14 rfl (lv_at hl 0 rfl) ?_
  refine lv_bipush (v := 15) hx hb dX5_digest_15 (by decide) ?_
  refine lv_icmp_ge (tgt := 35) hx hb dX5_digest_17 (by decide) (fun h => absurd h (by decide)) (fun _ => ?_)
  refine lv_aload_n hx hb dX5_digest_20 rfl (lv_at hl 1 rfl) ?_
  refine lv_aload_n hx hb dX5_digest_21 rfl (lv_at hl 1 rfl) ?_
  refine lv_iload_n hx hb dX5_digest_22 rfl (lv_at hl 0 rfl) ?_
  have hPc := hP.sub (ws' := [(h0, .inr (8, [.int 0, .ref lH, .ref lB, .ref lJ, .ref aR, .ref aL, .int 0, .int 0, .int 0, .ref lC, .ref aM, .ref aP, .int 0, .int 0, .int 0, .int (-1), .int (-1), .int 0, .int 0, .long (-8158589093701326813)])), (lB, .inr (2, [.int 0, .ref eT, .int 0])), (lH, .inr (2, [.int 0, .ref eT, .int 0])), (lJ, .inr (2, [.int 0, .ref eT, .int 0])), (aR, .inl (cI, 4, .inl fR))]) [4, 0, 1, 2, 3] rfl
  have hKc := hK.sub (tys' := [(cI, .int)]) [0] rfl
  have hDc := hD.sub (ws' := [(h0, .inr (8, [.int 0, .ref lH, .ref lB, .ref lJ, .ref aR, .ref aL, .int 0, .int 0, .int 0, .ref lC, .ref aM, .ref aP, .int 0, .int 0, .int 0, .int (-1), .int (-1), .int 0, .int 0, .long (-8158589093701326813)])), (lB, .inr (2, [.int 0, .ref eT, .int 0])), (lH, .inr (2, [.int 0, .ref eT, .int 0])), (lJ, .inr (2, [.int 0, .ref eT, .int 0])), (aR, .inl (cI, 4, .inl fR))]) [4, 0, 1, 2, 3] (by decide) rfl
  have hFc := va_free (wc := [(h0, .inr (8, [.int 0, .ref lH, .ref lB, .ref lJ, .ref aR, .ref aL, .int 0, .int 0, .int 0, .ref lC, .ref aM, .ref aP, .int 0, .int 0, .int 0, .int (-1), .int (-1), .int 0, .int 0, .long (-8158589093701326813)])), (lB, .inr (2, [.int 0, .ref eT, .int 0])), (lH, .inr (2, [.int 0, .ref eT, .int 0])), (lJ, .inr (2, [.int 0, .ref eT, .int 0])), (aR, .inl (cI, 4, .inl fR))]) hD hS hA [4, 0, 1, 2, 3] rfl
  refine va_calli (va_runV (As := [.int 11]) (rest := [.ref h0]) ⟨hx, hb, hml, hown, hts⟩ (r_manyNow l D eT h0 lH lB lJ aR aL lC aM aP (-8158589093701326813) cI fR 11 H.size hR (by decide) (by decide)) (cwV 1 hts gX5_digest_X5_manyNow rfl rfl rfl (by decide +kernel) ⟨Nat.le_of_ble_eq_true rfl, Nat.le_of_ble_eq_true rfl⟩) (pc_v (ci := 8) (q0 := 0) rfl rfl hPc hDc hKc hE hS hFc) rfl rfl hl.1 rfl (lv_room (Nat.le_of_ble_eq_true rfl)) dX5_digest_23 ⟨Nat.le_of_ble_eq_true rfl, Nat.le_of_ble_eq_true rfl⟩) hS (fun q _ h => hFc q h) hFc (fun r u t H1 locs ht hvm hw hB hz1 hk1 hS => ?_)
  have hw : r = 0 := hw.trans (by decide)
  rw [hw]
  obtain ⟨hP1, hK1, hD1⟩ := hB
  rw [ht] at hP1
  have hK1 := va_K.moved hvm.symm hK1
  obtain ⟨hP, hD⟩ := va_join (wr := []) (w1 := [(h0, .inr (8, [.int 0, .ref lH, .ref lB, .ref lJ, .ref aR, .ref aL, .int 0, .int 0, .int 0, .ref lC, .ref aM, .ref aP, .int 0, .int 0, .int 0, .int (-1), .int (-1), .int 0, .int 0, .long (-8158589093701326813)])), (lB, .inr (2, [.int 0, .ref eT, .int 0])), (lH, .inr (2, [.int 0, .ref eT, .int 0])), (lJ, .inr (2, [.int 0, .ref eT, .int 0])), (aR, .inl (cI, 4, .inl fR))]) hP hD [4, 0, 1, 2, 3] [] rfl rfl (by decide) (by decide) hk1 hFc hP1 hD1
  generalize H1 = H at hP hS ⊢
  have hP : va_P D vwCl [(h0, .inr (8, [.int 0, .ref lH, .ref lB, .ref lJ, .ref aR, .ref aL, .int 0, .int 0, .int 0, .ref lC, .ref aM, .ref aP, .int 0, .int 0, .int 0, .int (-1), .int (-1), .int 0, .int 0, .long (-8158589093701326813)])), (lB, .inr (2, [.int 0, .ref eT, .int 0])), (lH, .inr (2, [.int 0, .ref eT, .int 0])), (lJ, .inr (2, [.int 0, .ref eT, .int 0])), (aR, .inl (cI, 4, .inl fR))] H := hP
  have hD : va_D A [(h0, .inr (8, [.int 0, .ref lH, .ref lB, .ref lJ, .ref aR, .ref aL, .int 0, .int 0, .int 0, .ref lC, .ref aM, .ref aP, .int 0, .int 0, .int 0, .int (-1), .int (-1), .int 0, .int 0, .long (-8158589093701326813)])), (lB, .inr (2, [.int 0, .ref eT, .int 0])), (lH, .inr (2, [.int 0, .ref eT, .int 0])), (lJ, .inr (2, [.int 0, .ref eT, .int 0])), (aR, .inl (cI, 4, .inl fR))] := hD
  refine W.widen (k := 24) (n := 228) (Nat.le_of_ble_eq_true rfl) (Nat.le_of_ble_eq_true rfl) ?_
  have hPc := hP.sub (ws' := [(h0, .inr (8, [.int 0, .ref lH, .ref lB, .ref lJ, .ref aR, .ref aL, .int 0, .int 0, .int 0, .ref lC, .ref aM, .ref aP, .int 0, .int 0, .int 0, .int (-1), .int (-1), .int 0, .int 0, .long (-8158589093701326813)]))]) [0] rfl
  have hKc := hK.sub (tys' := []) [] rfl
  have hDc := hD.sub (ws' := [(h0, .inr (8, [.int 0, .ref lH, .ref lB, .ref lJ, .ref aR, .ref aL, .int 0, .int 0, .int 0, .ref lC, .ref aM, .ref aP, .int 0, .int 0, .int 0, .int (-1), .int (-1), .int 0, .int 0, .long (-8158589093701326813)]))]) [0] (by decide) rfl
  have hFc := va_free (wc := [(h0, .inr (8, [.int 0, .ref lH, .ref lB, .ref lJ, .ref aR, .ref aL, .int 0, .int 0, .int 0, .ref lC, .ref aM, .ref aP, .int 0, .int 0, .int 0, .int (-1), .int (-1), .int 0, .int 0, .long (-8158589093701326813)]))]) hD hS hA [0] rfl
  refine va_callv (va_runV (As := [.int 0]) (rest := []) ⟨hx, hb, hml, hown, hts⟩ (r_add l D eT h0 lH lB lJ aR aL lC aM aP (-8158589093701326813) 5338155127192591421 0 H.size (by decide +kernel)) (cwV 1 hts gX5_digest_X5_add rfl rfl rfl (by decide +kernel) ⟨Nat.le_of_ble_eq_true rfl, Nat.le_of_ble_eq_true rfl⟩) (pc_v (ci := 8) (q0 := 0) rfl rfl hPc hDc hKc hE hS hFc) rfl rfl hl.1 rfl (lv_room (Nat.le_of_ble_eq_true rfl)) dX5_digest_26 ⟨Nat.le_of_ble_eq_true rfl, Nat.le_of_ble_eq_true rfl⟩) hS (fun q _ h => hFc q h) hFc (fun u t H1 locs ht hvm hw hB hz1 hk1 hS => ?_)
  obtain ⟨hP1, hK1, hD1⟩ := hB
  rw [ht] at hP1
  have hK1 := va_K.moved hvm.symm hK1
  obtain ⟨hP, hD⟩ := va_join (wr := [(lB, .inr (2, [.int 0, .ref eT, .int 0])), (lH, .inr (2, [.int 0, .ref eT, .int 0])), (lJ, .inr (2, [.int 0, .ref eT, .int 0])), (aR, .inl (cI, 4, .inl fR))]) (w1 := [(h0, .inr (8, [.int 0, .ref lH, .ref lB, .ref lJ, .ref aR, .ref aL, .int 0, .int 0, .int 0, .ref lC, .ref aM, .ref aP, .int 0, .int 0, .int 0, .int (-1), .int (-1), .int 0, .int 0, .long 5338155127192591421]))]) hP hD [0] [1, 2, 3, 4] rfl rfl (by decide) (by decide) hk1 hFc hP1 hD1
  generalize H1 = H at hP hS ⊢
  have hP : va_P D vwCl [(lB, .inr (2, [.int 0, .ref eT, .int 0])), (lH, .inr (2, [.int 0, .ref eT, .int 0])), (lJ, .inr (2, [.int 0, .ref eT, .int 0])), (aR, .inl (cI, 4, .inl fR)), (h0, .inr (8, [.int 0, .ref lH, .ref lB, .ref lJ, .ref aR, .ref aL, .int 0, .int 0, .int 0, .ref lC, .ref aM, .ref aP, .int 0, .int 0, .int 0, .int (-1), .int (-1), .int 0, .int 0, .long 5338155127192591421]))] H := hP
  have hD : va_D A [(lB, .inr (2, [.int 0, .ref eT, .int 0])), (lH, .inr (2, [.int 0, .ref eT, .int 0])), (lJ, .inr (2, [.int 0, .ref eT, .int 0])), (aR, .inl (cI, 4, .inl fR)), (h0, .inr (8, [.int 0, .ref lH, .ref lB, .ref lJ, .ref aR, .ref aL, .int 0, .int 0, .int 0, .ref lC, .ref aM, .ref aP, .int 0, .int 0, .int 0, .int (-1), .int (-1), .int 0, .int 0, .long 5338155127192591421]))] := hD
  refine lv_iinc (v := 12) (lv' := [(1, .int 12), (0, .ref h0)]) hx hb dX5_digest_29 hl (k := 0) rfl (by decide) (by decide) rfl (fun ls hl => ?_)
  refine lv_goto (tgt := 14) hx hb dX5_digest_32 (by decide) ?_
  refine lv_iload_n hx hb dX5_digest_14 rfl (lv_at hl 0 rfl) ?_
  refine lv_bipush (v := 15) hx hb dX5_digest_15 (by decide) ?_
  refine lv_icmp_ge (tgt := 35) hx hb dX5_digest_17 (by decide) (fun h => absurd h (by decide)) (fun _ => ?_)
  refine lv_aload_n hx hb dX5_digest_20 rfl (lv_at hl 1 rfl) ?_
  refine lv_aload_n hx hb dX5_digest_21 rfl (lv_at hl 1 rfl) ?_
  refine lv_iload_n hx hb dX5_digest_22 rfl (lv_at hl 0 rfl) ?_
  have hPc := hP.sub (ws' := [(h0, .inr (8, [.int 0, .ref lH, .ref lB, .ref lJ, .ref aR, .ref aL, .int 0, .int 0, .int 0, .ref lC, .ref aM, .ref aP, .int 0, .int 0, .int 0, .int (-1), .int (-1), .int 0, .int 0, .long 5338155127192591421])), (lB, .inr (2, [.int 0, .ref eT, .int 0])), (lH, .inr (2, [.int 0, .ref eT, .int 0])), (lJ, .inr (2, [.int 0, .ref eT, .int 0])), (aR, .inl (cI, 4, .inl fR))]) [4, 0, 1, 2, 3] rfl
  have hKc := hK.sub (tys' := [(cI, .int)]) [0] rfl
  have hDc := hD.sub (ws' := [(h0, .inr (8, [.int 0, .ref lH, .ref lB, .ref lJ, .ref aR, .ref aL, .int 0, .int 0, .int 0, .ref lC, .ref aM, .ref aP, .int 0, .int 0, .int 0, .int (-1), .int (-1), .int 0, .int 0, .long 5338155127192591421])), (lB, .inr (2, [.int 0, .ref eT, .int 0])), (lH, .inr (2, [.int 0, .ref eT, .int 0])), (lJ, .inr (2, [.int 0, .ref eT, .int 0])), (aR, .inl (cI, 4, .inl fR))]) [4, 0, 1, 2, 3] (by decide) rfl
  have hFc := va_free (wc := [(h0, .inr (8, [.int 0, .ref lH, .ref lB, .ref lJ, .ref aR, .ref aL, .int 0, .int 0, .int 0, .ref lC, .ref aM, .ref aP, .int 0, .int 0, .int 0, .int (-1), .int (-1), .int 0, .int 0, .long 5338155127192591421])), (lB, .inr (2, [.int 0, .ref eT, .int 0])), (lH, .inr (2, [.int 0, .ref eT, .int 0])), (lJ, .inr (2, [.int 0, .ref eT, .int 0])), (aR, .inl (cI, 4, .inl fR))]) hD hS hA [4, 0, 1, 2, 3] rfl
  refine va_calli (va_runV (As := [.int 12]) (rest := [.ref h0]) ⟨hx, hb, hml, hown, hts⟩ (r_manyNow l D eT h0 lH lB lJ aR aL lC aM aP 5338155127192591421 cI fR 12 H.size hR (by decide) (by decide)) (cwV 1 hts gX5_digest_X5_manyNow rfl rfl rfl (by decide +kernel) ⟨Nat.le_of_ble_eq_true rfl, Nat.le_of_ble_eq_true rfl⟩) (pc_v (ci := 8) (q0 := 0) rfl rfl hPc hDc hKc hE hS hFc) rfl rfl hl.1 rfl (lv_room (Nat.le_of_ble_eq_true rfl)) dX5_digest_23 ⟨Nat.le_of_ble_eq_true rfl, Nat.le_of_ble_eq_true rfl⟩) hS (fun q _ h => hFc q h) hFc (fun r u t H1 locs ht hvm hw hB hz1 hk1 hS => ?_)
  have hw : r = 0 := hw.trans (by decide)
  rw [hw]
  obtain ⟨hP1, hK1, hD1⟩ := hB
  rw [ht] at hP1
  have hK1 := va_K.moved hvm.symm hK1
  obtain ⟨hP, hD⟩ := va_join (wr := []) (w1 := [(h0, .inr (8, [.int 0, .ref lH, .ref lB, .ref lJ, .ref aR, .ref aL, .int 0, .int 0, .int 0, .ref lC, .ref aM, .ref aP, .int 0, .int 0, .int 0, .int (-1), .int (-1), .int 0, .int 0, .long 5338155127192591421])), (lB, .inr (2, [.int 0, .ref eT, .int 0])), (lH, .inr (2, [.int 0, .ref eT, .int 0])), (lJ, .inr (2, [.int 0, .ref eT, .int 0])), (aR, .inl (cI, 4, .inl fR))]) hP hD [4, 0, 1, 2, 3] [] rfl rfl (by decide) (by decide) hk1 hFc hP1 hD1
  generalize H1 = H at hP hS ⊢
  have hP : va_P D vwCl [(h0, .inr (8, [.int 0, .ref lH, .ref lB, .ref lJ, .ref aR, .ref aL, .int 0, .int 0, .int 0, .ref lC, .ref aM, .ref aP, .int 0, .int 0, .int 0, .int (-1), .int (-1), .int 0, .int 0, .long 5338155127192591421])), (lB, .inr (2, [.int 0, .ref eT, .int 0])), (lH, .inr (2, [.int 0, .ref eT, .int 0])), (lJ, .inr (2, [.int 0, .ref eT, .int 0])), (aR, .inl (cI, 4, .inl fR))] H := hP
  have hD : va_D A [(h0, .inr (8, [.int 0, .ref lH, .ref lB, .ref lJ, .ref aR, .ref aL, .int 0, .int 0, .int 0, .ref lC, .ref aM, .ref aP, .int 0, .int 0, .int 0, .int (-1), .int (-1), .int 0, .int 0, .long 5338155127192591421])), (lB, .inr (2, [.int 0, .ref eT, .int 0])), (lH, .inr (2, [.int 0, .ref eT, .int 0])), (lJ, .inr (2, [.int 0, .ref eT, .int 0])), (aR, .inl (cI, 4, .inl fR))] := hD
  refine W.widen (k := 26) (n := 247) (Nat.le_of_ble_eq_true rfl) (Nat.le_of_ble_eq_true rfl) ?_
  have hPc := hP.sub (ws' := [(h0, .inr (8, [.int 0, .ref lH, .ref lB, .ref lJ, .ref aR, .ref aL, .int 0, .int 0, .int 0, .ref lC, .ref aM, .ref aP, .int 0, .int 0, .int 0, .int (-1), .int (-1), .int 0, .int 0, .long 5338155127192591421]))]) [0] rfl
  have hKc := hK.sub (tys' := []) [] rfl
  have hDc := hD.sub (ws' := [(h0, .inr (8, [.int 0, .ref lH, .ref lB, .ref lJ, .ref aR, .ref aL, .int 0, .int 0, .int 0, .ref lC, .ref aM, .ref aP, .int 0, .int 0, .int 0, .int (-1), .int (-1), .int 0, .int 0, .long 5338155127192591421]))]) [0] (by decide) rfl
  have hFc := va_free (wc := [(h0, .inr (8, [.int 0, .ref lH, .ref lB, .ref lJ, .ref aR, .ref aL, .int 0, .int 0, .int 0, .ref lC, .ref aM, .ref aP, .int 0, .int 0, .int 0, .int (-1), .int (-1), .int 0, .int 0, .long 5338155127192591421]))]) hD hS hA [0] rfl
  refine va_callv (va_runV (As := [.int 0]) (rest := []) ⟨hx, hb, hml, hown, hts⟩ (r_add l D eT h0 lH lB lJ aR aL lC aM aP 5338155127192591421 (-537887720415630493) 0 H.size (by decide +kernel)) (cwV 1 hts gX5_digest_X5_add rfl rfl rfl (by decide +kernel) ⟨Nat.le_of_ble_eq_true rfl, Nat.le_of_ble_eq_true rfl⟩) (pc_v (ci := 8) (q0 := 0) rfl rfl hPc hDc hKc hE hS hFc) rfl rfl hl.1 rfl (lv_room (Nat.le_of_ble_eq_true rfl)) dX5_digest_26 ⟨Nat.le_of_ble_eq_true rfl, Nat.le_of_ble_eq_true rfl⟩) hS (fun q _ h => hFc q h) hFc (fun u t H1 locs ht hvm hw hB hz1 hk1 hS => ?_)
  obtain ⟨hP1, hK1, hD1⟩ := hB
  rw [ht] at hP1
  have hK1 := va_K.moved hvm.symm hK1
  obtain ⟨hP, hD⟩ := va_join (wr := [(lB, .inr (2, [.int 0, .ref eT, .int 0])), (lH, .inr (2, [.int 0, .ref eT, .int 0])), (lJ, .inr (2, [.int 0, .ref eT, .int 0])), (aR, .inl (cI, 4, .inl fR))]) (w1 := [(h0, .inr (8, [.int 0, .ref lH, .ref lB, .ref lJ, .ref aR, .ref aL, .int 0, .int 0, .int 0, .ref lC, .ref aM, .ref aP, .int 0, .int 0, .int 0, .int (-1), .int (-1), .int 0, .int 0, .long (-537887720415630493)]))]) hP hD [0] [1, 2, 3, 4] rfl rfl (by decide) (by decide) hk1 hFc hP1 hD1
  generalize H1 = H at hP hS ⊢
  have hP : va_P D vwCl [(lB, .inr (2, [.int 0, .ref eT, .int 0])), (lH, .inr (2, [.int 0, .ref eT, .int 0])), (lJ, .inr (2, [.int 0, .ref eT, .int 0])), (aR, .inl (cI, 4, .inl fR)), (h0, .inr (8, [.int 0, .ref lH, .ref lB, .ref lJ, .ref aR, .ref aL, .int 0, .int 0, .int 0, .ref lC, .ref aM, .ref aP, .int 0, .int 0, .int 0, .int (-1), .int (-1), .int 0, .int 0, .long (-537887720415630493)]))] H := hP
  have hD : va_D A [(lB, .inr (2, [.int 0, .ref eT, .int 0])), (lH, .inr (2, [.int 0, .ref eT, .int 0])), (lJ, .inr (2, [.int 0, .ref eT, .int 0])), (aR, .inl (cI, 4, .inl fR)), (h0, .inr (8, [.int 0, .ref lH, .ref lB, .ref lJ, .ref aR, .ref aL, .int 0, .int 0, .int 0, .ref lC, .ref aM, .ref aP, .int 0, .int 0, .int 0, .int (-1), .int (-1), .int 0, .int 0, .long (-537887720415630493)]))] := hD
  refine lv_iinc (v := 13) (lv' := [(1, .int 13), (0, .ref h0)]) hx hb dX5_digest_29 hl (k := 0) rfl (by decide) (by decide) rfl (fun ls hl => ?_)
  refine lv_goto (tgt := 14) hx hb dX5_digest_32 (by decide) ?_
  refine lv_iload_n hx hb dX5_digest_14 rfl (lv_at hl 0 rfl) ?_
  refine lv_bipush (v := 15) hx hb dX5_digest_15 (by decide) ?_
  refine lv_icmp_ge (tgt := 35) hx hb dX5_digest_17 (by decide) (fun h => absurd h (by decide)) (fun _ => ?_)
  refine lv_aload_n hx hb dX5_digest_20 rfl (lv_at hl 1 rfl) ?_
  refine lv_aload_n hx hb dX5_digest_21 rfl (lv_at hl 1 rfl) ?_
  refine lv_iload_n hx hb dX5_digest_22 rfl (lv_at hl 0 rfl) ?_
  have hPc := hP.sub (ws' := [(h0, .inr (8, [.int 0, .ref lH, .ref lB, .ref lJ, .ref aR, .ref aL, .int 0, .int 0, .int 0, .ref lC, .ref aM, .ref aP, .int 0, .int 0, .int 0, .int (-1), .int (-1), .int 0, .int 0, .long (-537887720415630493)])), (lB, .inr (2, [.int 0, .ref eT, .int 0])), (lH, .inr (2, [.int 0, .ref eT, .int 0])), (lJ, .inr (2, [.int 0, .ref eT, .int 0])), (aR, .inl (cI, 4, .inl fR))]) [4, 0, 1, 2, 3] rfl
  have hKc := hK.sub (tys' := [(cI, .int)]) [0] rfl
  have hDc := hD.sub (ws' := [(h0, .inr (8, [.int 0, .ref lH, .ref lB, .ref lJ, .ref aR, .ref aL, .int 0, .int 0, .int 0, .ref lC, .ref aM, .ref aP, .int 0, .int 0, .int 0, .int (-1), .int (-1), .int 0, .int 0, .long (-537887720415630493)])), (lB, .inr (2, [.int 0, .ref eT, .int 0])), (lH, .inr (2, [.int 0, .ref eT, .int 0])), (lJ, .inr (2, [.int 0, .ref eT, .int 0])), (aR, .inl (cI, 4, .inl fR))]) [4, 0, 1, 2, 3] (by decide) rfl
  have hFc := va_free (wc := [(h0, .inr (8, [.int 0, .ref lH, .ref lB, .ref lJ, .ref aR, .ref aL, .int 0, .int 0, .int 0, .ref lC, .ref aM, .ref aP, .int 0, .int 0, .int 0, .int (-1), .int (-1), .int 0, .int 0, .long (-537887720415630493)])), (lB, .inr (2, [.int 0, .ref eT, .int 0])), (lH, .inr (2, [.int 0, .ref eT, .int 0])), (lJ, .inr (2, [.int 0, .ref eT, .int 0])), (aR, .inl (cI, 4, .inl fR))]) hD hS hA [4, 0, 1, 2, 3] rfl
  refine va_calli (va_runV (As := [.int 13]) (rest := [.ref h0]) ⟨hx, hb, hml, hown, hts⟩ (r_manyNow l D eT h0 lH lB lJ aR aL lC aM aP (-537887720415630493) cI fR 13 H.size hR (by decide) (by decide)) (cwV 1 hts gX5_digest_X5_manyNow rfl rfl rfl (by decide +kernel) ⟨Nat.le_of_ble_eq_true rfl, Nat.le_of_ble_eq_true rfl⟩) (pc_v (ci := 8) (q0 := 0) rfl rfl hPc hDc hKc hE hS hFc) rfl rfl hl.1 rfl (lv_room (Nat.le_of_ble_eq_true rfl)) dX5_digest_23 ⟨Nat.le_of_ble_eq_true rfl, Nat.le_of_ble_eq_true rfl⟩) hS (fun q _ h => hFc q h) hFc (fun r u t H1 locs ht hvm hw hB hz1 hk1 hS => ?_)
  have hw : r = 0 := hw.trans (by decide)
  rw [hw]
  obtain ⟨hP1, hK1, hD1⟩ := hB
  rw [ht] at hP1
  have hK1 := va_K.moved hvm.symm hK1
  obtain ⟨hP, hD⟩ := va_join (wr := []) (w1 := [(h0, .inr (8, [.int 0, .ref lH, .ref lB, .ref lJ, .ref aR, .ref aL, .int 0, .int 0, .int 0, .ref lC, .ref aM, .ref aP, .int 0, .int 0, .int 0, .int (-1), .int (-1), .int 0, .int 0, .long (-537887720415630493)])), (lB, .inr (2, [.int 0, .ref eT, .int 0])), (lH, .inr (2, [.int 0, .ref eT, .int 0])), (lJ, .inr (2, [.int 0, .ref eT, .int 0])), (aR, .inl (cI, 4, .inl fR))]) hP hD [4, 0, 1, 2, 3] [] rfl rfl (by decide) (by decide) hk1 hFc hP1 hD1
  generalize H1 = H at hP hS ⊢
  have hP : va_P D vwCl [(h0, .inr (8, [.int 0, .ref lH, .ref lB, .ref lJ, .ref aR, .ref aL, .int 0, .int 0, .int 0, .ref lC, .ref aM, .ref aP, .int 0, .int 0, .int 0, .int (-1), .int (-1), .int 0, .int 0, .long (-537887720415630493)])), (lB, .inr (2, [.int 0, .ref eT, .int 0])), (lH, .inr (2, [.int 0, .ref eT, .int 0])), (lJ, .inr (2, [.int 0, .ref eT, .int 0])), (aR, .inl (cI, 4, .inl fR))] H := hP
  have hD : va_D A [(h0, .inr (8, [.int 0, .ref lH, .ref lB, .ref lJ, .ref aR, .ref aL, .int 0, .int 0, .int 0, .ref lC, .ref aM, .ref aP, .int 0, .int 0, .int 0, .int (-1), .int (-1), .int 0, .int 0, .long (-537887720415630493)])), (lB, .inr (2, [.int 0, .ref eT, .int 0])), (lH, .inr (2, [.int 0, .ref eT, .int 0])), (lJ, .inr (2, [.int 0, .ref eT, .int 0])), (aR, .inl (cI, 4, .inl fR))] := hD
  refine W.widen (k := 28) (n := 266) (Nat.le_of_ble_eq_true rfl) (Nat.le_of_ble_eq_true rfl) ?_
  have hPc := hP.sub (ws' := [(h0, .inr (8, [.int 0, .ref lH, .ref lB, .ref lJ, .ref aR, .ref aL, .int 0, .int 0, .int 0, .ref lC, .ref aM, .ref aP, .int 0, .int 0, .int 0, .int (-1), .int (-1), .int 0, .int 0, .long (-537887720415630493)]))]) [0] rfl
  have hKc := hK.sub (tys' := []) [] rfl
  have hDc := hD.sub (ws' := [(h0, .inr (8, [.int 0, .ref lH, .ref lB, .ref lJ, .ref aR, .ref aL, .int 0, .int 0, .int 0, .ref lC, .ref aM, .ref aP, .int 0, .int 0, .int 0, .int (-1), .int (-1), .int 0, .int 0, .long (-537887720415630493)]))]) [0] (by decide) rfl
  have hFc := va_free (wc := [(h0, .inr (8, [.int 0, .ref lH, .ref lB, .ref lJ, .ref aR, .ref aL, .int 0, .int 0, .int 0, .ref lC, .ref aM, .ref aP, .int 0, .int 0, .int 0, .int (-1), .int (-1), .int 0, .int 0, .long (-537887720415630493)]))]) hD hS hA [0] rfl
  refine va_callv (va_runV (As := [.int 0]) (rest := []) ⟨hx, hb, hml, hown, hts⟩ (r_add l D eT h0 lH lB lJ aR aL lC aM aP (-537887720415630493) 1772224740825006333 0 H.size (by decide +kernel)) (cwV 1 hts gX5_digest_X5_add rfl rfl rfl (by decide +kernel) ⟨Nat.le_of_ble_eq_true rfl, Nat.le_of_ble_eq_true rfl⟩) (pc_v (ci := 8) (q0 := 0) rfl rfl hPc hDc hKc hE hS hFc) rfl rfl hl.1 rfl (lv_room (Nat.le_of_ble_eq_true rfl)) dX5_digest_26 ⟨Nat.le_of_ble_eq_true rfl, Nat.le_of_ble_eq_true rfl⟩) hS (fun q _ h => hFc q h) hFc (fun u t H1 locs ht hvm hw hB hz1 hk1 hS => ?_)
  obtain ⟨hP1, hK1, hD1⟩ := hB
  rw [ht] at hP1
  have hK1 := va_K.moved hvm.symm hK1
  obtain ⟨hP, hD⟩ := va_join (wr := [(lB, .inr (2, [.int 0, .ref eT, .int 0])), (lH, .inr (2, [.int 0, .ref eT, .int 0])), (lJ, .inr (2, [.int 0, .ref eT, .int 0])), (aR, .inl (cI, 4, .inl fR))]) (w1 := [(h0, .inr (8, [.int 0, .ref lH, .ref lB, .ref lJ, .ref aR, .ref aL, .int 0, .int 0, .int 0, .ref lC, .ref aM, .ref aP, .int 0, .int 0, .int 0, .int (-1), .int (-1), .int 0, .int 0, .long 1772224740825006333]))]) hP hD [0] [1, 2, 3, 4] rfl rfl (by decide) (by decide) hk1 hFc hP1 hD1
  generalize H1 = H at hP hS ⊢
  have hP : va_P D vwCl [(lB, .inr (2, [.int 0, .ref eT, .int 0])), (lH, .inr (2, [.int 0, .ref eT, .int 0])), (lJ, .inr (2, [.int 0, .ref eT, .int 0])), (aR, .inl (cI, 4, .inl fR)), (h0, .inr (8, [.int 0, .ref lH, .ref lB, .ref lJ, .ref aR, .ref aL, .int 0, .int 0, .int 0, .ref lC, .ref aM, .ref aP, .int 0, .int 0, .int 0, .int (-1), .int (-1), .int 0, .int 0, .long 1772224740825006333]))] H := hP
  have hD : va_D A [(lB, .inr (2, [.int 0, .ref eT, .int 0])), (lH, .inr (2, [.int 0, .ref eT, .int 0])), (lJ, .inr (2, [.int 0, .ref eT, .int 0])), (aR, .inl (cI, 4, .inl fR)), (h0, .inr (8, [.int 0, .ref lH, .ref lB, .ref lJ, .ref aR, .ref aL, .int 0, .int 0, .int 0, .ref lC, .ref aM, .ref aP, .int 0, .int 0, .int 0, .int (-1), .int (-1), .int 0, .int 0, .long 1772224740825006333]))] := hD
  refine lv_iinc (v := 14) (lv' := [(1, .int 14), (0, .ref h0)]) hx hb dX5_digest_29 hl (k := 0) rfl (by decide) (by decide) rfl (fun ls hl => ?_)
  refine lv_goto (tgt := 14) hx hb dX5_digest_32 (by decide) ?_
  refine lv_iload_n hx hb dX5_digest_14 rfl (lv_at hl 0 rfl) ?_
  refine lv_bipush (v := 15) hx hb dX5_digest_15 (by decide) ?_
  refine lv_icmp_ge (tgt := 35) hx hb dX5_digest_17 (by decide) (fun h => absurd h (by decide)) (fun _ => ?_)
  refine lv_aload_n hx hb dX5_digest_20 rfl (lv_at hl 1 rfl) ?_
  refine lv_aload_n hx hb dX5_digest_21 rfl (lv_at hl 1 rfl) ?_
  refine lv_iload_n hx hb dX5_digest_22 rfl (lv_at hl 0 rfl) ?_
  have hPc := hP.sub (ws' := [(h0, .inr (8, [.int 0, .ref lH, .ref lB, .ref lJ, .ref aR, .ref aL, .int 0, .int 0, .int 0, .ref lC, .ref aM, .ref aP, .int 0, .int 0, .int 0, .int (-1), .int (-1), .int 0, .int 0, .long 1772224740825006333])), (lB, .inr (2, [.int 0, .ref eT, .int 0])), (lH, .inr (2, [.int 0, .ref eT, .int 0])), (lJ, .inr (2, [.int 0, .ref eT, .int 0])), (aR, .inl (cI, 4, .inl fR))]) [4, 0, 1, 2, 3] rfl
  have hKc := hK.sub (tys' := [(cI, .int)]) [0] rfl
  have hDc := hD.sub (ws' := [(h0, .inr (8, [.int 0, .ref lH, .ref lB, .ref lJ, .ref aR, .ref aL, .int 0, .int 0, .int 0, .ref lC, .ref aM, .ref aP, .int 0, .int 0, .int 0, .int (-1), .int (-1), .int 0, .int 0, .long 1772224740825006333])), (lB, .inr (2, [.int 0, .ref eT, .int 0])), (lH, .inr (2, [.int 0, .ref eT, .int 0])), (lJ, .inr (2, [.int 0, .ref eT, .int 0])), (aR, .inl (cI, 4, .inl fR))]) [4, 0, 1, 2, 3] (by decide) rfl
  have hFc := va_free (wc := [(h0, .inr (8, [.int 0, .ref lH, .ref lB, .ref lJ, .ref aR, .ref aL, .int 0, .int 0, .int 0, .ref lC, .ref aM, .ref aP, .int 0, .int 0, .int 0, .int (-1), .int (-1), .int 0, .int 0, .long 1772224740825006333])), (lB, .inr (2, [.int 0, .ref eT, .int 0])), (lH, .inr (2, [.int 0, .ref eT, .int 0])), (lJ, .inr (2, [.int 0, .ref eT, .int 0])), (aR, .inl (cI, 4, .inl fR))]) hD hS hA [4, 0, 1, 2, 3] rfl
  refine va_calli (va_runV (As := [.int 14]) (rest := [.ref h0]) ⟨hx, hb, hml, hown, hts⟩ (r_manyNow l D eT h0 lH lB lJ aR aL lC aM aP 1772224740825006333 cI fR 14 H.size hR (by decide) (by decide)) (cwV 1 hts gX5_digest_X5_manyNow rfl rfl rfl (by decide +kernel) ⟨Nat.le_of_ble_eq_true rfl, Nat.le_of_ble_eq_true rfl⟩) (pc_v (ci := 8) (q0 := 0) rfl rfl hPc hDc hKc hE hS hFc) rfl rfl hl.1 rfl (lv_room (Nat.le_of_ble_eq_true rfl)) dX5_digest_23 ⟨Nat.le_of_ble_eq_true rfl, Nat.le_of_ble_eq_true rfl⟩) hS (fun q _ h => hFc q h) hFc (fun r u t H1 locs ht hvm hw hB hz1 hk1 hS => ?_)
  have hw : r = 10 := hw.trans (by decide)
  rw [hw]
  obtain ⟨hP1, hK1, hD1⟩ := hB
  rw [ht] at hP1
  have hK1 := va_K.moved hvm.symm hK1
  obtain ⟨hP, hD⟩ := va_join (wr := []) (w1 := [(h0, .inr (8, [.int 0, .ref lH, .ref lB, .ref lJ, .ref aR, .ref aL, .int 0, .int 0, .int 0, .ref lC, .ref aM, .ref aP, .int 0, .int 0, .int 0, .int (-1), .int (-1), .int 0, .int 0, .long 1772224740825006333])), (lB, .inr (2, [.int 0, .ref eT, .int 0])), (lH, .inr (2, [.int 0, .ref eT, .int 0])), (lJ, .inr (2, [.int 0, .ref eT, .int 0])), (aR, .inl (cI, 4, .inl fR))]) hP hD [4, 0, 1, 2, 3] [] rfl rfl (by decide) (by decide) hk1 hFc hP1 hD1
  generalize H1 = H at hP hS ⊢
  have hP : va_P D vwCl [(h0, .inr (8, [.int 0, .ref lH, .ref lB, .ref lJ, .ref aR, .ref aL, .int 0, .int 0, .int 0, .ref lC, .ref aM, .ref aP, .int 0, .int 0, .int 0, .int (-1), .int (-1), .int 0, .int 0, .long 1772224740825006333])), (lB, .inr (2, [.int 0, .ref eT, .int 0])), (lH, .inr (2, [.int 0, .ref eT, .int 0])), (lJ, .inr (2, [.int 0, .ref eT, .int 0])), (aR, .inl (cI, 4, .inl fR))] H := hP
  have hD : va_D A [(h0, .inr (8, [.int 0, .ref lH, .ref lB, .ref lJ, .ref aR, .ref aL, .int 0, .int 0, .int 0, .ref lC, .ref aM, .ref aP, .int 0, .int 0, .int 0, .int (-1), .int (-1), .int 0, .int 0, .long 1772224740825006333])), (lB, .inr (2, [.int 0, .ref eT, .int 0])), (lH, .inr (2, [.int 0, .ref eT, .int 0])), (lJ, .inr (2, [.int 0, .ref eT, .int 0])), (aR, .inl (cI, 4, .inl fR))] := hD
  refine W.widen (k := 30) (n := 285) (Nat.le_of_ble_eq_true rfl) (Nat.le_of_ble_eq_true rfl) ?_
  have hPc := hP.sub (ws' := [(h0, .inr (8, [.int 0, .ref lH, .ref lB, .ref lJ, .ref aR, .ref aL, .int 0, .int 0, .int 0, .ref lC, .ref aM, .ref aP, .int 0, .int 0, .int 0, .int (-1), .int (-1), .int 0, .int 0, .long 1772224740825006333]))]) [0] rfl
  have hKc := hK.sub (tys' := []) [] rfl
  have hDc := hD.sub (ws' := [(h0, .inr (8, [.int 0, .ref lH, .ref lB, .ref lJ, .ref aR, .ref aL, .int 0, .int 0, .int 0, .ref lC, .ref aM, .ref aP, .int 0, .int 0, .int 0, .int (-1), .int (-1), .int 0, .int 0, .long 1772224740825006333]))]) [0] (by decide) rfl
  have hFc := va_free (wc := [(h0, .inr (8, [.int 0, .ref lH, .ref lB, .ref lJ, .ref aR, .ref aL, .int 0, .int 0, .int 0, .ref lC, .ref aM, .ref aP, .int 0, .int 0, .int 0, .int (-1), .int (-1), .int 0, .int 0, .long 1772224740825006333]))]) hD hS hA [0] rfl
  refine va_callv (va_runV (As := [.int 10]) (rest := []) ⟨hx, hb, hml, hown, hts⟩ (r_add l D eT h0 lH lB lJ aR aL lC aM aP 1772224740825006333 (-401265255553458515) 10 H.size (by decide +kernel)) (cwV 1 hts gX5_digest_X5_add rfl rfl rfl (by decide +kernel) ⟨Nat.le_of_ble_eq_true rfl, Nat.le_of_ble_eq_true rfl⟩) (pc_v (ci := 8) (q0 := 0) rfl rfl hPc hDc hKc hE hS hFc) rfl rfl hl.1 rfl (lv_room (Nat.le_of_ble_eq_true rfl)) dX5_digest_26 ⟨Nat.le_of_ble_eq_true rfl, Nat.le_of_ble_eq_true rfl⟩) hS (fun q _ h => hFc q h) hFc (fun u t H1 locs ht hvm hw hB hz1 hk1 hS => ?_)
  obtain ⟨hP1, hK1, hD1⟩ := hB
  rw [ht] at hP1
  have hK1 := va_K.moved hvm.symm hK1
  obtain ⟨hP, hD⟩ := va_join (wr := [(lB, .inr (2, [.int 0, .ref eT, .int 0])), (lH, .inr (2, [.int 0, .ref eT, .int 0])), (lJ, .inr (2, [.int 0, .ref eT, .int 0])), (aR, .inl (cI, 4, .inl fR))]) (w1 := [(h0, .inr (8, [.int 0, .ref lH, .ref lB, .ref lJ, .ref aR, .ref aL, .int 0, .int 0, .int 0, .ref lC, .ref aM, .ref aP, .int 0, .int 0, .int 0, .int (-1), .int (-1), .int 0, .int 0, .long (-401265255553458515)]))]) hP hD [0] [1, 2, 3, 4] rfl rfl (by decide) (by decide) hk1 hFc hP1 hD1
  generalize H1 = H at hP hS ⊢
  have hP : va_P D vwCl [(lB, .inr (2, [.int 0, .ref eT, .int 0])), (lH, .inr (2, [.int 0, .ref eT, .int 0])), (lJ, .inr (2, [.int 0, .ref eT, .int 0])), (aR, .inl (cI, 4, .inl fR)), (h0, .inr (8, [.int 0, .ref lH, .ref lB, .ref lJ, .ref aR, .ref aL, .int 0, .int 0, .int 0, .ref lC, .ref aM, .ref aP, .int 0, .int 0, .int 0, .int (-1), .int (-1), .int 0, .int 0, .long (-401265255553458515)]))] H := hP
  have hD : va_D A [(lB, .inr (2, [.int 0, .ref eT, .int 0])), (lH, .inr (2, [.int 0, .ref eT, .int 0])), (lJ, .inr (2, [.int 0, .ref eT, .int 0])), (aR, .inl (cI, 4, .inl fR)), (h0, .inr (8, [.int 0, .ref lH, .ref lB, .ref lJ, .ref aR, .ref aL, .int 0, .int 0, .int 0, .ref lC, .ref aM, .ref aP, .int 0, .int 0, .int 0, .int (-1), .int (-1), .int 0, .int 0, .long (-401265255553458515)]))] := hD
  refine lv_iinc (v := 15) (lv' := [(1, .int 15), (0, .ref h0)]) hx hb dX5_digest_29 hl (k := 0) rfl (by decide) (by decide) rfl (fun ls hl => ?_)
  refine lv_goto (tgt := 14) hx hb dX5_digest_32 (by decide) ?_
  refine lv_iload_n hx hb dX5_digest_14 rfl (lv_at hl 0 rfl) ?_
  refine lv_bipush (v := 15) hx hb dX5_digest_15 (by decide) ?_
  refine lv_icmp_ge (tgt := 35) hx hb dX5_digest_17 (by decide) (fun _ => ?_) (fun h => absurd (by decide) h)
  refine lv_iconst (v := 0) hx hb dX5_digest_35 (by decide) ?_
  refine lv_istore_n (lv' := [(1, .int 0), (0, .ref h0)]) hx hb dX5_digest_36 rfl hl (by decide) rfl (fun ls hl => ?_)
  refine lv_iload_n hx hb dX5_digest_37 rfl (lv_at hl 0 rfl) ?_
  refine lv_aload_n hx hb dX5_digest_38 rfl (lv_at hl 1 rfl) ?_
  refine va_get (D := D) (ci := 8) (v := .ref lH) (C := RX5) (T := TX5) (N := 20) hx hb hts (by decide +kernel) hown hK hP 4 rfl rfl 1 (by decide) (hts (.fieldLink RX5 10 "PrizeHouseModel" "houses" "Ljava/util/ArrayList;") (by decide +kernel)) (fun _ h9 => h9) rfl dX5_digest_39 ?_
  have hPc := hP.sub (ws' := [(lH, .inr (2, [.int 0, .ref eT, .int 0]))]) [1] rfl
  have hKc := hK.sub (tys' := []) [] rfl
  refine va_calli (va_runV (As := []) (rest := [.int 0]) ⟨hx, hb, hml, hown, hts⟩ (k_size l D eT lH eT 0 0 H.size ) (cwV 0 hts gX5_digest_Jx4a65c_size_8abf5 rfl rfl rfl (by decide +kernel) ⟨Nat.le_of_ble_eq_true rfl, Nat.le_of_ble_eq_true rfl⟩) (pr_v (ci := 2) (q0 := 0) rfl rfl hPc hKc hE hS hA) rfl rfl hl.1 rfl (lv_room (Nat.le_of_ble_eq_true rfl)) dX5_digest_42 ⟨Nat.le_of_ble_eq_true rfl, Nat.le_of_ble_eq_true rfl⟩) hS (fun q h1 h2 => ro_A h1 h2) (fun q h => ro_F hS hA q h) (fun r u t H1 locs ht hvm hw hB hz1 hk1 hS => ?_)
  have hw : r = 0 := hw
  rw [hw]
  have hP := ro_P hP hk1
  generalize H1 = H at hP hS ⊢
  refine lv_icmp_ge (tgt := 77) hx hb dX5_digest_45 (by decide) (fun _ => ?_) (fun h => absurd (by decide) h)
  refine lv_iconst (v := 0) hx hb dX5_digest_77 (by decide) ?_
  refine lv_istore_n (lv' := [(1, .int 0), (0, .ref h0)]) hx hb dX5_digest_78 rfl hl (by decide) rfl (fun ls hl => ?_)
  refine lv_iload_n hx hb dX5_digest_79 rfl (lv_at hl 0 rfl) ?_
  refine lv_aload_n hx hb dX5_digest_80 rfl (lv_at hl 1 rfl) ?_
  refine va_get (D := D) (ci := 8) (v := .ref lB) (C := RX5) (T := TX5) (N := 20) hx hb hts (by decide +kernel) hown hK hP 4 rfl rfl 2 (by decide) (hts (.fieldLink RX5 16 "PrizeHouseModel" "books" "Ljava/util/ArrayList;") (by decide +kernel)) (fun _ h9 => h9) rfl dX5_digest_81 ?_
  have hPc := hP.sub (ws' := [(lB, .inr (2, [.int 0, .ref eT, .int 0]))]) [0] rfl
  have hKc := hK.sub (tys' := []) [] rfl
  refine va_calli (va_runV (As := []) (rest := [.int 0]) ⟨hx, hb, hml, hown, hts⟩ (k_size l D eT lB eT 0 0 H.size ) (cwV 0 hts gX5_digest_Jx4a65c_size_8abf5 rfl rfl rfl (by decide +kernel) ⟨Nat.le_of_ble_eq_true rfl, Nat.le_of_ble_eq_true rfl⟩) (pr_v (ci := 2) (q0 := 0) rfl rfl hPc hKc hE hS hA) rfl rfl hl.1 rfl (lv_room (Nat.le_of_ble_eq_true rfl)) dX5_digest_84 ⟨Nat.le_of_ble_eq_true rfl, Nat.le_of_ble_eq_true rfl⟩) hS (fun q h1 h2 => ro_A h1 h2) (fun q h => ro_F hS hA q h) (fun r u t H1 locs ht hvm hw hB hz1 hk1 hS => ?_)
  have hw : r = 0 := hw
  rw [hw]
  have hP := ro_P hP hk1
  generalize H1 = H at hP hS ⊢
  refine lv_icmp_ge (tgt := 129) hx hb dX5_digest_87 (by decide) (fun _ => ?_) (fun h => absurd (by decide) h)
  refine lv_iconst (v := 0) hx hb dX5_digest_129 (by decide) ?_
  refine lv_istore_n (lv' := [(1, .int 0), (0, .ref h0)]) hx hb dX5_digest_130 rfl hl (by decide) rfl (fun ls hl => ?_)
  refine lv_iload_n hx hb dX5_digest_131 rfl (lv_at hl 0 rfl) ?_
  refine lv_aload_n hx hb dX5_digest_132 rfl (lv_at hl 1 rfl) ?_
  refine va_get (D := D) (ci := 8) (v := .ref lJ) (C := RX5) (T := TX5) (N := 20) hx hb hts (by decide +kernel) hown hK hP 4 rfl rfl 3 (by decide) (hts (.fieldLink RX5 19 "PrizeHouseModel" "judges" "Ljava/util/ArrayList;") (by decide +kernel)) (fun _ h9 => h9) rfl dX5_digest_133 ?_
  have hPc := hP.sub (ws' := [(lJ, .inr (2, [.int 0, .ref eT, .int 0]))]) [2] rfl
  have hKc := hK.sub (tys' := []) [] rfl
  refine va_calli (va_runV (As := []) (rest := [.int 0]) ⟨hx, hb, hml, hown, hts⟩ (k_size l D eT lJ eT 0 0 H.size ) (cwV 0 hts gX5_digest_Jx4a65c_size_8abf5 rfl rfl rfl (by decide +kernel) ⟨Nat.le_of_ble_eq_true rfl, Nat.le_of_ble_eq_true rfl⟩) (pr_v (ci := 2) (q0 := 0) rfl rfl hPc hKc hE hS hA) rfl rfl hl.1 rfl (lv_room (Nat.le_of_ble_eq_true rfl)) dX5_digest_136 ⟨Nat.le_of_ble_eq_true rfl, Nat.le_of_ble_eq_true rfl⟩) hS (fun q h1 h2 => ro_A h1 h2) (fun q h => ro_F hS hA q h) (fun r u t H1 locs ht hvm hw hB hz1 hk1 hS => ?_)
  have hw : r = 0 := hw
  rw [hw]
  have hP := ro_P hP hk1
  generalize H1 = H at hP hS ⊢
  refine lv_icmp_ge (tgt := 203) hx hb dX5_digest_139 (by decide) (fun _ => ?_) (fun h => absurd (by decide) h)
  refine lv_aload_n hx hb dX5_digest_203 rfl (lv_at hl 1 rfl) ?_
  refine lv_aload_n hx hb dX5_digest_204 rfl (lv_at hl 1 rfl) ?_
  refine lv_iconst (v := 0) hx hb dX5_digest_205 (by decide) ?_
  refine lv_iconst (v := 0) hx hb dX5_digest_206 (by decide) ?_
  have hPc := hP.sub (ws' := [(h0, .inr (8, [.int 0, .ref lH, .ref lB, .ref lJ, .ref aR, .ref aL, .int 0, .int 0, .int 0, .ref lC, .ref aM, .ref aP, .int 0, .int 0, .int 0, .int (-1), .int (-1), .int 0, .int 0, .long (-401265255553458515)]))]) [4] rfl
  have hKc := hK.sub (tys' := []) [] rfl
  refine va_calli (va_runV (As := [.int 0, .int 0]) (rest := [.ref h0]) ⟨hx, hb, hml, hown, hts⟩ (r_winsNow l D eT h0 lH lB lJ aR aL lC aM aP (-401265255553458515) 0 0 H.size ) (cwV 2 hts gX5_digest_X5_winsNow rfl rfl rfl (by decide +kernel) ⟨Nat.le_of_ble_eq_true rfl, Nat.le_of_ble_eq_true rfl⟩) (pr_v (ci := 8) (q0 := 0) rfl rfl hPc hKc hE hS hA) rfl rfl hl.1 rfl (lv_room (Nat.le_of_ble_eq_true rfl)) dX5_digest_207 ⟨Nat.le_of_ble_eq_true rfl, Nat.le_of_ble_eq_true rfl⟩) hS (fun q h1 h2 => ro_A h1 h2) (fun q h => ro_F hS hA q h) (fun r u t H1 locs ht hvm hw hB hz1 hk1 hS => ?_)
  have hw : r = (-1) := hw
  rw [hw]
  have hP := ro_P hP hk1
  generalize H1 = H at hP hS ⊢
  have hPc := hP.sub (ws' := [(h0, .inr (8, [.int 0, .ref lH, .ref lB, .ref lJ, .ref aR, .ref aL, .int 0, .int 0, .int 0, .ref lC, .ref aM, .ref aP, .int 0, .int 0, .int 0, .int (-1), .int (-1), .int 0, .int 0, .long (-401265255553458515)]))]) [4] rfl
  have hKc := hK.sub (tys' := []) [] rfl
  have hDc := hD.sub (ws' := [(h0, .inr (8, [.int 0, .ref lH, .ref lB, .ref lJ, .ref aR, .ref aL, .int 0, .int 0, .int 0, .ref lC, .ref aM, .ref aP, .int 0, .int 0, .int 0, .int (-1), .int (-1), .int 0, .int 0, .long (-401265255553458515)]))]) [4] (by decide) rfl
  have hFc := va_free (wc := [(h0, .inr (8, [.int 0, .ref lH, .ref lB, .ref lJ, .ref aR, .ref aL, .int 0, .int 0, .int 0, .ref lC, .ref aM, .ref aP, .int 0, .int 0, .int 0, .int (-1), .int (-1), .int 0, .int 0, .long (-401265255553458515)]))]) hD hS hA [4] rfl
  refine va_callv (va_runV (As := [.int (-1)]) (rest := []) ⟨hx, hb, hml, hown, hts⟩ (r_add l D eT h0 lH lB lJ aR aL lC aM aP (-401265255553458515) 6007521151552337650 (-1) H.size (by decide +kernel)) (cwV 1 hts gX5_digest_X5_add rfl rfl rfl (by decide +kernel) ⟨Nat.le_of_ble_eq_true rfl, Nat.le_of_ble_eq_true rfl⟩) (pc_v (ci := 8) (q0 := 0) rfl rfl hPc hDc hKc hE hS hFc) rfl rfl hl.1 rfl (lv_room (Nat.le_of_ble_eq_true rfl)) dX5_digest_210 ⟨Nat.le_of_ble_eq_true rfl, Nat.le_of_ble_eq_true rfl⟩) hS (fun q _ h => hFc q h) hFc (fun u t H1 locs ht hvm hw hB hz1 hk1 hS => ?_)
  obtain ⟨hP1, hK1, hD1⟩ := hB
  rw [ht] at hP1
  have hK1 := va_K.moved hvm.symm hK1
  obtain ⟨hP, hD⟩ := va_join (wr := [(lB, .inr (2, [.int 0, .ref eT, .int 0])), (lH, .inr (2, [.int 0, .ref eT, .int 0])), (lJ, .inr (2, [.int 0, .ref eT, .int 0])), (aR, .inl (cI, 4, .inl fR))]) (w1 := [(h0, .inr (8, [.int 0, .ref lH, .ref lB, .ref lJ, .ref aR, .ref aL, .int 0, .int 0, .int 0, .ref lC, .ref aM, .ref aP, .int 0, .int 0, .int 0, .int (-1), .int (-1), .int 0, .int 0, .long 6007521151552337650]))]) hP hD [4] [0, 1, 2, 3] rfl rfl (by decide) (by decide) hk1 hFc hP1 hD1
  generalize H1 = H at hP hS ⊢
  have hP : va_P D vwCl [(lB, .inr (2, [.int 0, .ref eT, .int 0])), (lH, .inr (2, [.int 0, .ref eT, .int 0])), (lJ, .inr (2, [.int 0, .ref eT, .int 0])), (aR, .inl (cI, 4, .inl fR)), (h0, .inr (8, [.int 0, .ref lH, .ref lB, .ref lJ, .ref aR, .ref aL, .int 0, .int 0, .int 0, .ref lC, .ref aM, .ref aP, .int 0, .int 0, .int 0, .int (-1), .int (-1), .int 0, .int 0, .long 6007521151552337650]))] H := hP
  have hD : va_D A [(lB, .inr (2, [.int 0, .ref eT, .int 0])), (lH, .inr (2, [.int 0, .ref eT, .int 0])), (lJ, .inr (2, [.int 0, .ref eT, .int 0])), (aR, .inl (cI, 4, .inl fR)), (h0, .inr (8, [.int 0, .ref lH, .ref lB, .ref lJ, .ref aR, .ref aL, .int 0, .int 0, .int 0, .ref lC, .ref aM, .ref aP, .int 0, .int 0, .int 0, .int (-1), .int (-1), .int 0, .int 0, .long 6007521151552337650]))] := hD
  refine lv_aload_n hx hb dX5_digest_213 rfl (lv_at hl 1 rfl) ?_
  refine lv_aload_n hx hb dX5_digest_214 rfl (lv_at hl 1 rfl) ?_
  refine lv_iconst (v := 1) hx hb dX5_digest_215 (by decide) ?_
  refine lv_iconst (v := 0) hx hb dX5_digest_216 (by decide) ?_
  have hPc := hP.sub (ws' := [(h0, .inr (8, [.int 0, .ref lH, .ref lB, .ref lJ, .ref aR, .ref aL, .int 0, .int 0, .int 0, .ref lC, .ref aM, .ref aP, .int 0, .int 0, .int 0, .int (-1), .int (-1), .int 0, .int 0, .long 6007521151552337650]))]) [4] rfl
  have hKc := hK.sub (tys' := []) [] rfl
  refine va_calli (va_runV (As := [.int 1, .int 0]) (rest := [.ref h0]) ⟨hx, hb, hml, hown, hts⟩ (r_winsNow l D eT h0 lH lB lJ aR aL lC aM aP 6007521151552337650 1 0 H.size ) (cwV 2 hts gX5_digest_X5_winsNow rfl rfl rfl (by decide +kernel) ⟨Nat.le_of_ble_eq_true rfl, Nat.le_of_ble_eq_true rfl⟩) (pr_v (ci := 8) (q0 := 0) rfl rfl hPc hKc hE hS hA) rfl rfl hl.1 rfl (lv_room (Nat.le_of_ble_eq_true rfl)) dX5_digest_217 ⟨Nat.le_of_ble_eq_true rfl, Nat.le_of_ble_eq_true rfl⟩) hS (fun q h1 h2 => ro_A h1 h2) (fun q h => ro_F hS hA q h) (fun r u t H1 locs ht hvm hw hB hz1 hk1 hS => ?_)
  have hw : r = (-1) := hw
  rw [hw]
  have hP := ro_P hP hk1
  generalize H1 = H at hP hS ⊢
  have hPc := hP.sub (ws' := [(h0, .inr (8, [.int 0, .ref lH, .ref lB, .ref lJ, .ref aR, .ref aL, .int 0, .int 0, .int 0, .ref lC, .ref aM, .ref aP, .int 0, .int 0, .int 0, .int (-1), .int (-1), .int 0, .int 0, .long 6007521151552337650]))]) [4] rfl
  have hKc := hK.sub (tys' := []) [] rfl
  have hDc := hD.sub (ws' := [(h0, .inr (8, [.int 0, .ref lH, .ref lB, .ref lJ, .ref aR, .ref aL, .int 0, .int 0, .int 0, .ref lC, .ref aM, .ref aP, .int 0, .int 0, .int 0, .int (-1), .int (-1), .int 0, .int 0, .long 6007521151552337650]))]) [4] (by decide) rfl
  have hFc := va_free (wc := [(h0, .inr (8, [.int 0, .ref lH, .ref lB, .ref lJ, .ref aR, .ref aL, .int 0, .int 0, .int 0, .ref lC, .ref aM, .ref aP, .int 0, .int 0, .int 0, .int (-1), .int (-1), .int 0, .int 0, .long 6007521151552337650]))]) hD hS hA [4] rfl
  refine va_callv (va_runV (As := [.int (-1)]) (rest := []) ⟨hx, hb, hml, hown, hts⟩ (r_add l D eT h0 lH lB lJ aR aL lC aM aP 6007521151552337650 1765714961026950989 (-1) H.size (by decide +kernel)) (cwV 1 hts gX5_digest_X5_add rfl rfl rfl (by decide +kernel) ⟨Nat.le_of_ble_eq_true rfl, Nat.le_of_ble_eq_true rfl⟩) (pc_v (ci := 8) (q0 := 0) rfl rfl hPc hDc hKc hE hS hFc) rfl rfl hl.1 rfl (lv_room (Nat.le_of_ble_eq_true rfl)) dX5_digest_220 ⟨Nat.le_of_ble_eq_true rfl, Nat.le_of_ble_eq_true rfl⟩) hS (fun q _ h => hFc q h) hFc (fun u t H1 locs ht hvm hw hB hz1 hk1 hS => ?_)
  obtain ⟨hP1, hK1, hD1⟩ := hB
  rw [ht] at hP1
  have hK1 := va_K.moved hvm.symm hK1
  obtain ⟨hP, hD⟩ := va_join (wr := [(lB, .inr (2, [.int 0, .ref eT, .int 0])), (lH, .inr (2, [.int 0, .ref eT, .int 0])), (lJ, .inr (2, [.int 0, .ref eT, .int 0])), (aR, .inl (cI, 4, .inl fR))]) (w1 := [(h0, .inr (8, [.int 0, .ref lH, .ref lB, .ref lJ, .ref aR, .ref aL, .int 0, .int 0, .int 0, .ref lC, .ref aM, .ref aP, .int 0, .int 0, .int 0, .int (-1), .int (-1), .int 0, .int 0, .long 1765714961026950989]))]) hP hD [4] [0, 1, 2, 3] rfl rfl (by decide) (by decide) hk1 hFc hP1 hD1
  generalize H1 = H at hP hS ⊢
  have hP : va_P D vwCl [(lB, .inr (2, [.int 0, .ref eT, .int 0])), (lH, .inr (2, [.int 0, .ref eT, .int 0])), (lJ, .inr (2, [.int 0, .ref eT, .int 0])), (aR, .inl (cI, 4, .inl fR)), (h0, .inr (8, [.int 0, .ref lH, .ref lB, .ref lJ, .ref aR, .ref aL, .int 0, .int 0, .int 0, .ref lC, .ref aM, .ref aP, .int 0, .int 0, .int 0, .int (-1), .int (-1), .int 0, .int 0, .long 1765714961026950989]))] H := hP
  have hD : va_D A [(lB, .inr (2, [.int 0, .ref eT, .int 0])), (lH, .inr (2, [.int 0, .ref eT, .int 0])), (lJ, .inr (2, [.int 0, .ref eT, .int 0])), (aR, .inl (cI, 4, .inl fR)), (h0, .inr (8, [.int 0, .ref lH, .ref lB, .ref lJ, .ref aR, .ref aL, .int 0, .int 0, .int 0, .ref lC, .ref aM, .ref aP, .int 0, .int 0, .int 0, .int (-1), .int (-1), .int 0, .int 0, .long 1765714961026950989]))] := hD
  refine lv_aload_n hx hb dX5_digest_223 rfl (lv_at hl 1 rfl) ?_
  refine lv_aload_n hx hb dX5_digest_224 rfl (lv_at hl 1 rfl) ?_
  have hPc := hP.sub (ws' := [(h0, .inr (8, [.int 0, .ref lH, .ref lB, .ref lJ, .ref aR, .ref aL, .int 0, .int 0, .int 0, .ref lC, .ref aM, .ref aP, .int 0, .int 0, .int 0, .int (-1), .int (-1), .int 0, .int 0, .long 1765714961026950989])), (lB, .inr (2, [.int 0, .ref eT, .int 0]))]) [4, 0] rfl
  have hKc := hK.sub (tys' := []) [] rfl
  refine va_calli (va_runV (As := []) (rest := [.ref h0]) ⟨hx, hb, hml, hown, hts⟩ (r_beatsNow l D eT h0 lH lB lJ aR aL lC aM aP 1765714961026950989 H.size ) (cwV 0 hts gX5_digest_X5_beatsNow rfl rfl rfl (by decide +kernel) ⟨Nat.le_of_ble_eq_true rfl, Nat.le_of_ble_eq_true rfl⟩) (pr_v (ci := 8) (q0 := 0) rfl rfl hPc hKc hE hS hA) rfl rfl hl.1 rfl (lv_room (Nat.le_of_ble_eq_true rfl)) dX5_digest_225 ⟨Nat.le_of_ble_eq_true rfl, Nat.le_of_ble_eq_true rfl⟩) hS (fun q h1 h2 => ro_A h1 h2) (fun q h => ro_F hS hA q h) (fun r u t H1 locs ht hvm hw hB hz1 hk1 hS => ?_)
  have hw : r = (-1) := hw
  rw [hw]
  have hP := ro_P hP hk1
  generalize H1 = H at hP hS ⊢
  have hPc := hP.sub (ws' := [(h0, .inr (8, [.int 0, .ref lH, .ref lB, .ref lJ, .ref aR, .ref aL, .int 0, .int 0, .int 0, .ref lC, .ref aM, .ref aP, .int 0, .int 0, .int 0, .int (-1), .int (-1), .int 0, .int 0, .long 1765714961026950989]))]) [4] rfl
  have hKc := hK.sub (tys' := []) [] rfl
  have hDc := hD.sub (ws' := [(h0, .inr (8, [.int 0, .ref lH, .ref lB, .ref lJ, .ref aR, .ref aL, .int 0, .int 0, .int 0, .ref lC, .ref aM, .ref aP, .int 0, .int 0, .int 0, .int (-1), .int (-1), .int 0, .int 0, .long 1765714961026950989]))]) [4] (by decide) rfl
  have hFc := va_free (wc := [(h0, .inr (8, [.int 0, .ref lH, .ref lB, .ref lJ, .ref aR, .ref aL, .int 0, .int 0, .int 0, .ref lC, .ref aM, .ref aP, .int 0, .int 0, .int 0, .int (-1), .int (-1), .int 0, .int 0, .long 1765714961026950989]))]) hD hS hA [4] rfl
  refine va_callv (va_runV (As := [.int (-1)]) (rest := []) ⟨hx, hb, hml, hown, hts⟩ (r_add l D eT h0 lH lB lJ aR aL lC aM aP 1765714961026950989 (-603068429293174190) (-1) H.size (by decide +kernel)) (cwV 1 hts gX5_digest_X5_add rfl rfl rfl (by decide +kernel) ⟨Nat.le_of_ble_eq_true rfl, Nat.le_of_ble_eq_true rfl⟩) (pc_v (ci := 8) (q0 := 0) rfl rfl hPc hDc hKc hE hS hFc) rfl rfl hl.1 rfl (lv_room (Nat.le_of_ble_eq_true rfl)) dX5_digest_228 ⟨Nat.le_of_ble_eq_true rfl, Nat.le_of_ble_eq_true rfl⟩) hS (fun q _ h => hFc q h) hFc (fun u t H1 locs ht hvm hw hB hz1 hk1 hS => ?_)
  obtain ⟨hP1, hK1, hD1⟩ := hB
  rw [ht] at hP1
  have hK1 := va_K.moved hvm.symm hK1
  obtain ⟨hP, hD⟩ := va_join (wr := [(lB, .inr (2, [.int 0, .ref eT, .int 0])), (lH, .inr (2, [.int 0, .ref eT, .int 0])), (lJ, .inr (2, [.int 0, .ref eT, .int 0])), (aR, .inl (cI, 4, .inl fR))]) (w1 := [(h0, .inr (8, [.int 0, .ref lH, .ref lB, .ref lJ, .ref aR, .ref aL, .int 0, .int 0, .int 0, .ref lC, .ref aM, .ref aP, .int 0, .int 0, .int 0, .int (-1), .int (-1), .int 0, .int 0, .long (-603068429293174190)]))]) hP hD [4] [0, 1, 2, 3] rfl rfl (by decide) (by decide) hk1 hFc hP1 hD1
  generalize H1 = H at hP hS ⊢
  have hP : va_P D vwCl [(lB, .inr (2, [.int 0, .ref eT, .int 0])), (lH, .inr (2, [.int 0, .ref eT, .int 0])), (lJ, .inr (2, [.int 0, .ref eT, .int 0])), (aR, .inl (cI, 4, .inl fR)), (h0, .inr (8, [.int 0, .ref lH, .ref lB, .ref lJ, .ref aR, .ref aL, .int 0, .int 0, .int 0, .ref lC, .ref aM, .ref aP, .int 0, .int 0, .int 0, .int (-1), .int (-1), .int 0, .int 0, .long (-603068429293174190)]))] H := hP
  have hD : va_D A [(lB, .inr (2, [.int 0, .ref eT, .int 0])), (lH, .inr (2, [.int 0, .ref eT, .int 0])), (lJ, .inr (2, [.int 0, .ref eT, .int 0])), (aR, .inl (cI, 4, .inl fR)), (h0, .inr (8, [.int 0, .ref lH, .ref lB, .ref lJ, .ref aR, .ref aL, .int 0, .int 0, .int 0, .ref lC, .ref aM, .ref aP, .int 0, .int 0, .int 0, .int (-1), .int (-1), .int 0, .int 0, .long (-603068429293174190)]))] := hD
  refine lv_aload_n hx hb dX5_digest_231 rfl (lv_at hl 1 rfl) ?_
  refine lv_aload_n hx hb dX5_digest_232 rfl (lv_at hl 1 rfl) ?_
  have hPc := hP.sub (ws' := [(h0, .inr (8, [.int 0, .ref lH, .ref lB, .ref lJ, .ref aR, .ref aL, .int 0, .int 0, .int 0, .ref lC, .ref aM, .ref aP, .int 0, .int 0, .int 0, .int (-1), .int (-1), .int 0, .int 0, .long (-603068429293174190)]))]) [4] rfl
  have hKc := hK.sub (tys' := []) [] rfl
  refine va_calli (va_runV (As := []) (rest := [.ref h0]) ⟨hx, hb, hml, hown, hts⟩ (r_readInNow l D eT h0 lH lB lJ aR aL lC aM aP (-603068429293174190) H.size ) (cwV 0 hts gX5_digest_X5_readInNow rfl rfl rfl (by decide +kernel) ⟨Nat.le_of_ble_eq_true rfl, Nat.le_of_ble_eq_true rfl⟩) (pr_v (ci := 8) (q0 := 0) rfl rfl hPc hKc hE hS hA) rfl rfl hl.1 rfl (lv_room (Nat.le_of_ble_eq_true rfl)) dX5_digest_233 ⟨Nat.le_of_ble_eq_true rfl, Nat.le_of_ble_eq_true rfl⟩) hS (fun q h1 h2 => ro_A h1 h2) (fun q h => ro_F hS hA q h) (fun r u t H1 locs ht hvm hw hB hz1 hk1 hS => ?_)
  have hw : r = (-1) := hw
  rw [hw]
  have hP := ro_P hP hk1
  generalize H1 = H at hP hS ⊢
  have hPc := hP.sub (ws' := [(h0, .inr (8, [.int 0, .ref lH, .ref lB, .ref lJ, .ref aR, .ref aL, .int 0, .int 0, .int 0, .ref lC, .ref aM, .ref aP, .int 0, .int 0, .int 0, .int (-1), .int (-1), .int 0, .int 0, .long (-603068429293174190)]))]) [4] rfl
  have hKc := hK.sub (tys' := []) [] rfl
  have hDc := hD.sub (ws' := [(h0, .inr (8, [.int 0, .ref lH, .ref lB, .ref lJ, .ref aR, .ref aL, .int 0, .int 0, .int 0, .ref lC, .ref aM, .ref aP, .int 0, .int 0, .int 0, .int (-1), .int (-1), .int 0, .int 0, .long (-603068429293174190)]))]) [4] (by decide) rfl
  have hFc := va_free (wc := [(h0, .inr (8, [.int 0, .ref lH, .ref lB, .ref lJ, .ref aR, .ref aL, .int 0, .int 0, .int 0, .ref lC, .ref aM, .ref aP, .int 0, .int 0, .int 0, .int (-1), .int (-1), .int 0, .int 0, .long (-603068429293174190)]))]) hD hS hA [4] rfl
  refine va_callv (va_runV (As := [.int (-1)]) (rest := []) ⟨hx, hb, hml, hown, hts⟩ (r_add l D eT h0 lH lB lJ aR aL lC aM aP (-603068429293174190) (-248377234378848275) (-1) H.size (by decide +kernel)) (cwV 1 hts gX5_digest_X5_add rfl rfl rfl (by decide +kernel) ⟨Nat.le_of_ble_eq_true rfl, Nat.le_of_ble_eq_true rfl⟩) (pc_v (ci := 8) (q0 := 0) rfl rfl hPc hDc hKc hE hS hFc) rfl rfl hl.1 rfl (lv_room (Nat.le_of_ble_eq_true rfl)) dX5_digest_236 ⟨Nat.le_of_ble_eq_true rfl, Nat.le_of_ble_eq_true rfl⟩) hS (fun q _ h => hFc q h) hFc (fun u t H1 locs ht hvm hw hB hz1 hk1 hS => ?_)
  obtain ⟨hP1, hK1, hD1⟩ := hB
  rw [ht] at hP1
  have hK1 := va_K.moved hvm.symm hK1
  obtain ⟨hP, hD⟩ := va_join (wr := [(lB, .inr (2, [.int 0, .ref eT, .int 0])), (lH, .inr (2, [.int 0, .ref eT, .int 0])), (lJ, .inr (2, [.int 0, .ref eT, .int 0])), (aR, .inl (cI, 4, .inl fR))]) (w1 := [(h0, .inr (8, [.int 0, .ref lH, .ref lB, .ref lJ, .ref aR, .ref aL, .int 0, .int 0, .int 0, .ref lC, .ref aM, .ref aP, .int 0, .int 0, .int 0, .int (-1), .int (-1), .int 0, .int 0, .long (-248377234378848275)]))]) hP hD [4] [0, 1, 2, 3] rfl rfl (by decide) (by decide) hk1 hFc hP1 hD1
  generalize H1 = H at hP hS ⊢
  have hP : va_P D vwCl [(lB, .inr (2, [.int 0, .ref eT, .int 0])), (lH, .inr (2, [.int 0, .ref eT, .int 0])), (lJ, .inr (2, [.int 0, .ref eT, .int 0])), (aR, .inl (cI, 4, .inl fR)), (h0, .inr (8, [.int 0, .ref lH, .ref lB, .ref lJ, .ref aR, .ref aL, .int 0, .int 0, .int 0, .ref lC, .ref aM, .ref aP, .int 0, .int 0, .int 0, .int (-1), .int (-1), .int 0, .int 0, .long (-248377234378848275)]))] H := hP
  have hD : va_D A [(lB, .inr (2, [.int 0, .ref eT, .int 0])), (lH, .inr (2, [.int 0, .ref eT, .int 0])), (lJ, .inr (2, [.int 0, .ref eT, .int 0])), (aR, .inl (cI, 4, .inl fR)), (h0, .inr (8, [.int 0, .ref lH, .ref lB, .ref lJ, .ref aR, .ref aL, .int 0, .int 0, .int 0, .ref lC, .ref aM, .ref aP, .int 0, .int 0, .int 0, .int (-1), .int (-1), .int 0, .int 0, .long (-248377234378848275)]))] := hD
  refine lv_aload_n hx hb dX5_digest_239 rfl (lv_at hl 1 rfl) ?_
  refine lv_aload_n hx hb dX5_digest_240 rfl (lv_at hl 1 rfl) ?_
  refine lv_bipush (v := 7) hx hb dX5_digest_241 (by decide) ?_
  have hPc := hP.sub (ws' := [(h0, .inr (8, [.int 0, .ref lH, .ref lB, .ref lJ, .ref aR, .ref aL, .int 0, .int 0, .int 0, .ref lC, .ref aM, .ref aP, .int 0, .int 0, .int 0, .int (-1), .int (-1), .int 0, .int 0, .long (-248377234378848275)])), (lB, .inr (2, [.int 0, .ref eT, .int 0]))]) [4, 0] rfl
  have hKc := hK.sub (tys' := []) [] rfl
  refine va_calli (va_runV (As := [.int 7]) (rest := [.ref h0]) ⟨hx, hb, hml, hown, hts⟩ (r_missNow l D eT h0 lH lB lJ aR aL lC aM aP (-248377234378848275) 7 H.size ) (cwV 1 hts gX5_digest_X5_missNow rfl rfl rfl (by decide +kernel) ⟨Nat.le_of_ble_eq_true rfl, Nat.le_of_ble_eq_true rfl⟩) (pr_v (ci := 8) (q0 := 0) rfl rfl hPc hKc hE hS hA) rfl rfl hl.1 rfl (lv_room (Nat.le_of_ble_eq_true rfl)) dX5_digest_243 ⟨Nat.le_of_ble_eq_true rfl, Nat.le_of_ble_eq_true rfl⟩) hS (fun q h1 h2 => ro_A h1 h2) (fun q h => ro_F hS hA q h) (fun r u t H1 locs ht hvm hw hB hz1 hk1 hS => ?_)
  have hw : r = 0 := hw
  rw [hw]
  have hP := ro_P hP hk1
  generalize H1 = H at hP hS ⊢
  have hPc := hP.sub (ws' := [(h0, .inr (8, [.int 0, .ref lH, .ref lB, .ref lJ, .ref aR, .ref aL, .int 0, .int 0, .int 0, .ref lC, .ref aM, .ref aP, .int 0, .int 0, .int 0, .int (-1), .int (-1), .int 0, .int 0, .long (-248377234378848275)]))]) [4] rfl
  have hKc := hK.sub (tys' := []) [] rfl
  have hDc := hD.sub (ws' := [(h0, .inr (8, [.int 0, .ref lH, .ref lB, .ref lJ, .ref aR, .ref aL, .int 0, .int 0, .int 0, .ref lC, .ref aM, .ref aP, .int 0, .int 0, .int 0, .int (-1), .int (-1), .int 0, .int 0, .long (-248377234378848275)]))]) [4] (by decide) rfl
  have hFc := va_free (wc := [(h0, .inr (8, [.int 0, .ref lH, .ref lB, .ref lJ, .ref aR, .ref aL, .int 0, .int 0, .int 0, .ref lC, .ref aM, .ref aP, .int 0, .int 0, .int 0, .int (-1), .int (-1), .int 0, .int 0, .long (-248377234378848275)]))]) hD hS hA [4] rfl
  refine va_callv (va_runV (As := [.int 0]) (rest := []) ⟨hx, hb, hml, hown, hts⟩ (r_add l D eT h0 lH lB lJ aR aL lC aM aP (-248377234378848275) (-7699694265744296525) 0 H.size (by decide +kernel)) (cwV 1 hts gX5_digest_X5_add rfl rfl rfl (by decide +kernel) ⟨Nat.le_of_ble_eq_true rfl, Nat.le_of_ble_eq_true rfl⟩) (pc_v (ci := 8) (q0 := 0) rfl rfl hPc hDc hKc hE hS hFc) rfl rfl hl.1 rfl (lv_room (Nat.le_of_ble_eq_true rfl)) dX5_digest_246 ⟨Nat.le_of_ble_eq_true rfl, Nat.le_of_ble_eq_true rfl⟩) hS (fun q _ h => hFc q h) hFc (fun u t H1 locs ht hvm hw hB hz1 hk1 hS => ?_)
  obtain ⟨hP1, hK1, hD1⟩ := hB
  rw [ht] at hP1
  have hK1 := va_K.moved hvm.symm hK1
  obtain ⟨hP, hD⟩ := va_join (wr := [(lB, .inr (2, [.int 0, .ref eT, .int 0])), (lH, .inr (2, [.int 0, .ref eT, .int 0])), (lJ, .inr (2, [.int 0, .ref eT, .int 0])), (aR, .inl (cI, 4, .inl fR))]) (w1 := [(h0, .inr (8, [.int 0, .ref lH, .ref lB, .ref lJ, .ref aR, .ref aL, .int 0, .int 0, .int 0, .ref lC, .ref aM, .ref aP, .int 0, .int 0, .int 0, .int (-1), .int (-1), .int 0, .int 0, .long (-7699694265744296525)]))]) hP hD [4] [0, 1, 2, 3] rfl rfl (by decide) (by decide) hk1 hFc hP1 hD1
  generalize H1 = H at hP hS ⊢
  have hP : va_P D vwCl [(lB, .inr (2, [.int 0, .ref eT, .int 0])), (lH, .inr (2, [.int 0, .ref eT, .int 0])), (lJ, .inr (2, [.int 0, .ref eT, .int 0])), (aR, .inl (cI, 4, .inl fR)), (h0, .inr (8, [.int 0, .ref lH, .ref lB, .ref lJ, .ref aR, .ref aL, .int 0, .int 0, .int 0, .ref lC, .ref aM, .ref aP, .int 0, .int 0, .int 0, .int (-1), .int (-1), .int 0, .int 0, .long (-7699694265744296525)]))] H := hP
  have hD : va_D A [(lB, .inr (2, [.int 0, .ref eT, .int 0])), (lH, .inr (2, [.int 0, .ref eT, .int 0])), (lJ, .inr (2, [.int 0, .ref eT, .int 0])), (aR, .inl (cI, 4, .inl fR)), (h0, .inr (8, [.int 0, .ref lH, .ref lB, .ref lJ, .ref aR, .ref aL, .int 0, .int 0, .int 0, .ref lC, .ref aM, .ref aP, .int 0, .int 0, .int 0, .int (-1), .int (-1), .int 0, .int 0, .long (-7699694265744296525)]))] := hD
  refine lv_aload_n hx hb dX5_digest_249 rfl (lv_at hl 1 rfl) ?_
  refine va_get (D := D) (ci := 8) (v := .long (-7699694265744296525)) (C := RX5) (T := TX5) (N := 20) hx hb hts (by decide +kernel) hown hK hP 4 rfl rfl 19 (by decide) (hts (.fieldLink RX5 280 "PrizeHouseModel" "sum" "J") (by decide +kernel)) (fun _ h9 => h9) rfl dX5_digest_250 ?_
  have hP9 := hP.sub (ws' := []) [] rfl
  have hD9 := hD.sub (ws' := []) [] (by decide) rfl
  have hK9 := hK.sub (tys' := []) [] rfl
  exact W.lret (v := (-7699694265744296525)) hx hb hr (fun t ht hW => ⟨⟨(-7699694265744296525), (), rfl, rfl, ⟨by rw [ht]; exact hP9, va_K.moved hW.alike hK9, hD9⟩⟩, hS.F ht⟩) hS.2.2 dX5_digest_253
set_option maxHeartbeats 4000000 in
set_option maxRecDepth 100000 in
theorem j_grow1 (l : Launch) (D : va_G) (eT : Nat) (h0 : Nat) (sz : Nat) : Met l yJx4a65c_grow_92f84 wsJx4a65c_grow_92f84 ({ frames := 1, cells := 1, slots := 10, locals := 15 }) (va_Pc [.ref h0, .int 1] (pc D eT sz [(h0, .inr (2, [.int 1, .ref eT, .int 0]))] [])) (va_Qr (fun (_ : Unit) => True) (fun _ ra t => ∃ cO : ClassId, va_P D vwCl [(h0, .inr (2, [.int 1, .ref ra, .int 0])), (ra, .inl (cO, 10, .inr (.inr (.inr (.inr (fun _ => none))))))] t.heap ∧ va_K D vwCl [(cO, .object eOb)] t ∧ va_D (va_A [(h0, .inr (2, [.int 1, .ref eT, .int 0]))] sz) [(h0, .inr (2, [.int 1, .ref ra, .int 0])), (ra, .inl (cO, 10, .inr (.inr (.inr (.inr (fun _ => none))))))]) (va_A [(h0, .inr (2, [.int 1, .ref eT, .int 0]))] sz)) 1 10 (va_A [(h0, .inr (2, [.int 1, .ref eT, .int 0]))] sz) := by
  refine Met.ofW (cc := cJx4a65c_grow_92f84) (maxL := 4) (ret := (some (.array (.object "java/lang/Object")))) (by decide +kernel) rfl ?_
  intro p e s m args below meth c s₁ B hml hv
  obtain ⟨rfl, hsz, hP, hK, hD0, hE⟩ := hv
  have hx := B.exec
  have hb := B.bytes
  have hr := B.returns
  have hts := atoms_spec (ws := wsJx4a65c_grow_92f84) B.pre
  have hown : s.vm.findClass RJx4a65c = some m.cls := findClass_of_methodNamed B.named
  have hlocks := B.notSynchronized
  subst hsz
  have hD := hD0.self (sz := s.heap.size)
  generalize hAe : va_A [(h0, .inr (2, [.int 1, .ref eT, .int 0]))] s.heap.size = A at hD hE ⊢
  have hA : ∀ q : Nat, s.heap.size ≤ q → A q := fun q h => by rw [← hAe]; exact Or.inr h
  have hS : va_S A s.heap s.heap [] := va_S.rf
  have hP : va_P D vwCl [(h0, .inr (2, [.int 1, .ref eT, .int 0]))] s.heap := hP
  have hl := lv_entry ([.ref h0, .int 1]) (n := 4) (Nat.le_of_ble_eq_true rfl)
  rw [lg_entry_eq]
  generalize (lg_sl ([.ref h0, .int 1]) ++ List.replicate (4 - (lg_sl ([.ref h0, .int 1])).length) Slot.unset).toArray = ls at hl ⊢
  have hl : lv_has ls 4 [(0, .ref h0), (1, .int 1)] := hl
  refine lv_aload_n hx hb dJx4a65c_grow_92f84_0 rfl (lv_at hl 0 rfl) ?_
  refine va_get (D := D) (ci := 2) (v := .ref eT) (C := RJx4a65c) (T := TJx4a65c) (N := 3) hx hb hts (by decide +kernel) hown hK hP 0 rfl rfl 1 (by decide) (hts (.fieldLink RJx4a65c 9 "java/util/ArrayList" "elementData" "[Ljava/lang/Object;") (by decide +kernel)) (fun _ h9 => h9) rfl dJx4a65c_grow_92f84_1 ?_
  refine va_tlen (v := 0) hx hb hE.2.2.2.2.2.2 hS (by decide) dJx4a65c_grow_92f84_4 ?_
  refine lv_istore_n (lv' := [(2, .int 0), (0, .ref h0), (1, .int 1)]) hx hb dJx4a65c_grow_92f84_5 rfl hl (by decide) rfl (fun ls hl => ?_)
  refine lv_iload_n hx hb dJx4a65c_grow_92f84_6 rfl (lv_at hl 0 rfl) ?_
  refine lv_if_gt (tgt := 20) hx hb dJx4a65c_grow_92f84_7 (by decide) (fun h => absurd h (by decide)) (fun _ => ?_)
  refine lv_aload_n hx hb dJx4a65c_grow_92f84_10 rfl (lv_at hl 1 rfl) ?_
  refine va_get (D := D) (ci := 2) (v := .ref eT) (C := RJx4a65c) (T := TJx4a65c) (N := 3) hx hb hts (by decide +kernel) hown hK hP 0 rfl rfl 1 (by decide) (hts (.fieldLink RJx4a65c 9 "java/util/ArrayList" "elementData" "[Ljava/lang/Object;") (by decide +kernel)) (fun _ h9 => h9) rfl dJx4a65c_grow_92f84_11 ?_
  refine va_gets hx hb hE.2.2.2.2.2.1 hS hown (hts (.fieldLink RJx4a65c 39 "java/util/ArrayList" "DEFAULTCAPACITY_EMPTY_ELEMENTDATA" "[Ljava/lang/Object;") (by decide +kernel)) (fun _ h9 => h9) dJx4a65c_grow_92f84_14 ?_
  refine lv_acmp_eq (rx := some eT) (ry := some eT) (tgt := 45) hx hb dJx4a65c_grow_92f84_17 (by decide) (fun _ => ?_) (fun h => absurd rfl h)
  refine lv_aload_n hx hb dJx4a65c_grow_92f84_45 rfl (lv_at hl 1 rfl) ?_
  refine lv_bipush (v := 10) hx hb dJx4a65c_grow_92f84_46 (by decide) ?_
  refine lv_iload_n hx hb dJx4a65c_grow_92f84_48 rfl (lv_at hl 2 rfl) ?_
  refine va_mmax hx hb (hml.trans hl.1.symm) hown (hts (.methodLink RJx4a65c 79 Lib.Math.max.name) (by decide +kernel)) (hts (.static Lib.Math.max.name) (by decide +kernel)) (hts (.initialized "java/lang/Math") (by decide +kernel)) (hts (.code Lib.Math.max.name Lib.Math.max.code 2 (some .int)) (by decide +kernel)) (Nat.le_of_ble_eq_true rfl) (Nat.le_of_ble_eq_true rfl) (Nat.le_of_ble_eq_true rfl) (Nat.le_of_ble_eq_true rfl) dJx4a65c_grow_92f84_49 ?_
  refine lv_topi (fun z_1 ez_1 => ?_)
  have ez_1 : z_1 = 10 := ez_1.trans (by decide +kernel)
  rw [ez_1]
  refine va_newq (C := eOb) (N' := 10) hx hb hown (hts (.classLink RJx4a65c 7 eOb) (by decide +kernel)) hE.2.2.1.2.2.2.2.1 hK hP hD hS hA (by decide) (by decide) (Nat.le_of_ble_eq_true rfl) (Nat.le_of_ble_eq_true rfl) (Nat.le_of_ble_eq_true rfl) dJx4a65c_grow_92f84_52 (fun q_2 cA_3 H hK hP hD hS => ?_)
  have hK : va_K D vwCl [(cA_3, .object eOb)] s := hK
  have hP : va_P D vwCl [(h0, .inr (2, [.int 1, .ref eT, .int 0])), (q_2, .inl (cA_3, 10, .inr (.inr (.inr (.inr (fun _ => none))))))] H := hP
  have hD : va_D A [(h0, .inr (2, [.int 1, .ref eT, .int 0])), (q_2, .inl (cA_3, 10, .inr (.inr (.inr (.inr (fun _ => none))))))] := hD
  refine W.widen (k := 1) (n := 10) (Nat.le_of_ble_eq_true rfl) (Nat.le_of_ble_eq_true rfl) ?_
  refine lv_dup_x1 hx hb dJx4a65c_grow_92f84_55 rfl rfl ?_
  refine va_put (D := D) (ci := 2) (v := .ref q_2) (C := RJx4a65c) (T := TJx4a65c) (N := 3) hx hb hts (by decide +kernel) tyJx4a65c tyJx4a65c_ok nmJx4a65c hown hK hP hD hS 0 rfl rfl 1 (by decide) (hts (.fieldLink RJx4a65c 9 "java/util/ArrayList" "elementData" "[Ljava/lang/Object;") (by decide +kernel)) (fun _ h9 => h9) rfl (tyJx4a65c_ok 1 (by decide)) rfl rfl (Nat.le_of_ble_eq_true rfl) dJx4a65c_grow_92f84_56 (fun H locs hP hD hS => ?_)
  have hP : va_P D vwCl [(h0, .inr (2, [.int 1, .ref q_2, .int 0])), (q_2, .inl (cA_3, 10, .inr (.inr (.inr (.inr (fun _ => none))))))] H := hP
  have hD : va_D A [(h0, .inr (2, [.int 1, .ref q_2, .int 0])), (q_2, .inl (cA_3, 10, .inr (.inr (.inr (.inr (fun _ => none))))))] := hD
  have hP9 := hP.sub (ws' := [(h0, .inr (2, [.int 1, .ref q_2, .int 0])), (q_2, .inl (cA_3, 10, .inr (.inr (.inr (.inr (fun _ => none))))))]) [0, 1] rfl
  have hD9 := hD.sub (ws' := [(h0, .inr (2, [.int 1, .ref q_2, .int 0])), (q_2, .inl (cA_3, 10, .inr (.inr (.inr (.inr (fun _ => none))))))]) [0, 1] (by decide) rfl
  have hK9 := hK.sub (tys' := [(cA_3, .object eOb)]) [0] rfl
  exact W.aret (v := .ref q_2) hx hb hr (Or.inr ⟨_, rfl⟩) (Or.inr ⟨_, rfl⟩) (fun t ht hW => ⟨⟨(), q_2, rfl, trivial, ⟨cA_3, by rw [ht]; exact hP9, va_K.moved hW.alike hK9, hD9⟩⟩, hS.F ht⟩) hS.2.2 dJx4a65c_grow_92f84_59
set_option maxHeartbeats 4000000 in
set_option maxRecDepth 100000 in
theorem j_grow (l : Launch) (D : va_G) (eT : Nat) (h0 : Nat) (sz : Nat) : Met l yJx4a65c_grow_d5877 wsJx4a65c_grow_d5877 ({ frames := 2, cells := 1, slots := 10, locals := 38 }) (va_Pc [.ref h0] (pc D eT sz [(h0, .inr (2, [.int 1, .ref eT, .int 0]))] [])) (va_Qr (fun (_ : Unit) => True) (fun _ ra t => ∃ cO : ClassId, va_P D vwCl [(h0, .inr (2, [.int 1, .ref ra, .int 0])), (ra, .inl (cO, 10, .inr (.inr (.inr (.inr (fun _ => none))))))] t.heap ∧ va_K D vwCl [(cO, .object eOb)] t ∧ va_D (va_A [(h0, .inr (2, [.int 1, .ref eT, .int 0]))] sz) [(h0, .inr (2, [.int 1, .ref ra, .int 0])), (ra, .inl (cO, 10, .inr (.inr (.inr (.inr (fun _ => none))))))]) (va_A [(h0, .inr (2, [.int 1, .ref eT, .int 0]))] sz)) 1 10 (va_A [(h0, .inr (2, [.int 1, .ref eT, .int 0]))] sz) := by
  refine Met.ofW (cc := cJx4a65c_grow_d5877) (maxL := 1) (ret := (some (.array (.object "java/lang/Object")))) (by decide +kernel) rfl ?_
  intro p e s m args below meth c s₁ B hml hv
  obtain ⟨rfl, hsz, hP, hK, hD0, hE⟩ := hv
  have hx := B.exec
  have hb := B.bytes
  have hr := B.returns
  have hts := atoms_spec (ws := wsJx4a65c_grow_d5877) B.pre
  have hown : s.vm.findClass RJx4a65c = some m.cls := findClass_of_methodNamed B.named
  have hlocks := B.notSynchronized
  subst hsz
  have hD := hD0.self (sz := s.heap.size)
  generalize hAe : va_A [(h0, .inr (2, [.int 1, .ref eT, .int 0]))] s.heap.size = A at hD hE ⊢
  have hA : ∀ q : Nat, s.heap.size ≤ q → A q := fun q h => by rw [← hAe]; exact Or.inr h
  have hS : va_S A s.heap s.heap [] := va_S.rf
  have hP : va_P D vwCl [(h0, .inr (2, [.int 1, .ref eT, .int 0]))] s.heap := hP
  have hl := lv_entry ([.ref h0]) (n := 1) (Nat.le_of_ble_eq_true rfl)
  rw [lg_entry_eq]
  generalize (lg_sl ([.ref h0]) ++ List.replicate (1 - (lg_sl ([.ref h0])).length) Slot.unset).toArray = ls at hl ⊢
  have hl : lv_has ls 1 [(0, .ref h0)] := hl
  refine lv_aload_n hx hb dJx4a65c_grow_d5877_0 rfl (lv_at hl 0 rfl) ?_
  refine lv_aload_n hx hb dJx4a65c_grow_d5877_1 rfl (lv_at hl 0 rfl) ?_
  refine va_get (D := D) (ci := 2) (v := .int 0) (C := RJx4a65c) (T := TJx4a65c) (N := 3) hx hb hts (by decide +kernel) hown hK hP 0 rfl rfl 2 (by decide) (hts (.fieldLink RJx4a65c 48 "java/util/ArrayList" "size" "I") (by decide +kernel)) (fun _ h9 => h9) rfl dJx4a65c_grow_d5877_2 ?_
  refine lv_iconst (v := 1) hx hb dJx4a65c_grow_d5877_5 (by decide) ?_
  refine lv_iadd hx hb dJx4a65c_grow_d5877_6 ?_
  refine lv_topi (fun z_1 ez_1 => ?_)
  have ez_1 : z_1 = 1 := ez_1.trans (by decide +kernel)
  rw [ez_1]
  have hPc := hP.sub (ws' := [(h0, .inr (2, [.int 1, .ref eT, .int 0]))]) [0] rfl
  have hKc := hK.sub (tys' := []) [] rfl
  have hDc := hD.sub (ws' := [(h0, .inr (2, [.int 1, .ref eT, .int 0]))]) [0] (by decide) rfl
  have hFc := va_free (wc := [(h0, .inr (2, [.int 1, .ref eT, .int 0]))]) hD hS hA [0] rfl
  refine va_callr (va_runV (As := [.int 1]) (rest := []) ⟨hx, hb, hml, hown, hts⟩ (j_grow1 l D eT h0 s.heap.size ) (cwV 1 hts gJx4a65c_grow_d5877_Jx4a65c_grow_92f84 rfl rfl rfl (by decide +kernel) ⟨Nat.le_of_ble_eq_true rfl, Nat.le_of_ble_eq_true rfl⟩) (pc_v (ci := 2) (q0 := 0) rfl rfl hPc hDc hKc hE hS hFc) rfl rfl hl.1 rfl (lv_room (Nat.le_of_ble_eq_true rfl)) dJx4a65c_grow_d5877_7 ⟨Nat.le_of_ble_eq_true rfl, Nat.le_of_ble_eq_true rfl⟩) hS (fun q _ h => hFc q h) hFc (fun u ra t H1 locs ht hvm hw hB hz1 hk1 hS => ?_)
  obtain ⟨ra_3, rfl⟩ : ∃ z, z = ra := ⟨_, rfl⟩
  obtain ⟨cO_2, hP1, hK1, hD1⟩ := hB
  rw [ht] at hP1
  have hK1 := va_K.moved hvm.symm hK1
  obtain ⟨hP, hD⟩ := va_join (wr := []) (w1 := [(h0, .inr (2, [.int 1, .ref ra_3, .int 0])), (ra_3, .inl (cO_2, 10, .inr (.inr (.inr (.inr (fun _ => none))))))]) hP hD [0] [] rfl rfl (by decide) (by decide) hk1 hFc hP1 hD1
  have hK := hK.app (hK1.sub (tys' := [(cO_2, .object eOb)]) [0] rfl)
  generalize H1 = H at hP hS ⊢
  have hP : va_P D vwCl [(h0, .inr (2, [.int 1, .ref ra_3, .int 0])), (ra_3, .inl (cO_2, 10, .inr (.inr (.inr (.inr (fun _ => none))))))] H := hP
  have hD : va_D A [(h0, .inr (2, [.int 1, .ref ra_3, .int 0])), (ra_3, .inl (cO_2, 10, .inr (.inr (.inr (.inr (fun _ => none))))))] := hD
  have hK : va_K D vwCl [(cO_2, .object eOb)] s := hK
  refine W.widen (k := 1) (n := 10) (Nat.le_of_ble_eq_true rfl) (Nat.le_of_ble_eq_true rfl) ?_
  have hP9 := hP.sub (ws' := [(h0, .inr (2, [.int 1, .ref ra_3, .int 0])), (ra_3, .inl (cO_2, 10, .inr (.inr (.inr (.inr (fun _ => none))))))]) [0, 1] rfl
  have hD9 := hD.sub (ws' := [(h0, .inr (2, [.int 1, .ref ra_3, .int 0])), (ra_3, .inl (cO_2, 10, .inr (.inr (.inr (.inr (fun _ => none))))))]) [0, 1] (by decide) rfl
  have hK9 := hK.sub (tys' := [(cO_2, .object eOb)]) [0] rfl
  exact W.aret (v := .ref ra_3) hx hb hr (Or.inr ⟨_, rfl⟩) (Or.inr ⟨_, rfl⟩) (fun t ht hW => ⟨⟨(), ra_3, rfl, trivial, ⟨cO_2, by rw [ht]; exact hP9, va_K.moved hW.alike hK9, hD9⟩⟩, hS.F ht⟩) hS.2.2 dJx4a65c_grow_d5877_10
set_option maxHeartbeats 4000000 in
set_option maxRecDepth 100000 in
theorem j_add2_r (l : Launch) (D : va_G) (eT : Nat) (h0 : Nat) (ea : Nat) (cI : ClassId) (nE : Nat) (fE : Nat → Int32) (sz : Nat) : Met l yJx4a65c_add_72be8 wsJx4a65c_add_72be8 ({ frames := 3, cells := 1, slots := 10, locals := 58 }) (va_Pc [.ref h0, .ref ea, .ref eT, .int 0] (pc D eT sz [(h0, .inr (2, [.int 1, .ref eT, .int 0])), (ea, .inl (cI, nE, .inl fE))] [(cI, .int)])) (va_Qv (fun (_ : Unit) => True) (fun _ t => ∃ ed : Nat, va_P D vwCl [(h0, .inr (2, [.int 1, .ref ed, .int 1]))] t.heap ∧ va_K D vwCl [] t ∧ va_D (va_A [(h0, .inr (2, [.int 1, .ref eT, .int 0])), (ea, .inl (cI, nE, .inl fE))] sz) [(h0, .inr (2, [.int 1, .ref ed, .int 1]))]) (va_A [(h0, .inr (2, [.int 1, .ref eT, .int 0])), (ea, .inl (cI, nE, .inl fE))] sz)) 1 10 (va_A [(h0, .inr (2, [.int 1, .ref eT, .int 0])), (ea, .inl (cI, nE, .inl fE))] sz) := by
  refine Met.ofW (cc := cJx4a65c_add_72be8) (maxL := 4) (ret := none) (by decide +kernel) rfl ?_
  intro p e s m args below meth c s₁ B hml hv
  obtain ⟨rfl, hsz, hP, hK, hD0, hE⟩ := hv
  have hx := B.exec
  have hb := B.bytes
  have hr := B.returns
  have hts := atoms_spec (ws := wsJx4a65c_add_72be8) B.pre
  have hown : s.vm.findClass RJx4a65c = some m.cls := findClass_of_methodNamed B.named
  have hlocks := B.notSynchronized
  subst hsz
  have hD := hD0.self (sz := s.heap.size)
  generalize hAe : va_A [(h0, .inr (2, [.int 1, .ref eT, .int 0])), (ea, .inl (cI, nE, .inl fE))] s.heap.size = A at hD hE ⊢
  have hA : ∀ q : Nat, s.heap.size ≤ q → A q := fun q h => by rw [← hAe]; exact Or.inr h
  have hS : va_S A s.heap s.heap [] := va_S.rf
  have hP : va_P D vwCl [(h0, .inr (2, [.int 1, .ref eT, .int 0])), (ea, .inl (cI, nE, .inl fE))] s.heap := hP
  have hl := lv_entry ([.ref h0, .ref ea, .ref eT, .int 0]) (n := 4) (Nat.le_of_ble_eq_true rfl)
  rw [lg_entry_eq]
  generalize (lg_sl ([.ref h0, .ref ea, .ref eT, .int 0]) ++ List.replicate (4 - (lg_sl ([.ref h0, .ref ea, .ref eT, .int 0])).length) Slot.unset).toArray = ls at hl ⊢
  have hl : lv_has ls 4 [(0, .ref h0), (1, .ref ea), (2, .ref eT), (3, .int 0)] := hl
  refine lv_iload_n hx hb dJx4a65c_add_72be8_0 rfl (lv_at hl 3 rfl) ?_
  refine lv_aload_n hx hb dJx4a65c_add_72be8_1 rfl (lv_at hl 2 rfl) ?_
  refine va_tlen (v := 0) hx hb hE.2.2.2.2.2.2 hS (by decide) dJx4a65c_add_72be8_2 ?_
  refine lv_icmp_ne (tgt := 11) hx hb dJx4a65c_add_72be8_3 (by decide) (fun h => absurd (by decide) h) (fun _ => ?_)
  refine lv_aload_n hx hb dJx4a65c_add_72be8_6 rfl (lv_at hl 0 rfl) ?_
  have hPc := hP.sub (ws' := [(h0, .inr (2, [.int 1, .ref eT, .int 0]))]) [0] rfl
  have hKc := hK.sub (tys' := []) [] rfl
  have hDc := hD.sub (ws' := [(h0, .inr (2, [.int 1, .ref eT, .int 0]))]) [0] (by decide) rfl
  have hFc := va_free (wc := [(h0, .inr (2, [.int 1, .ref eT, .int 0]))]) hD hS hA [0] rfl
  refine va_callr (va_runV (As := []) (rest := []) ⟨hx, hb, hml, hown, hts⟩ (j_grow l D eT h0 s.heap.size ) (cwV 0 hts gJx4a65c_add_72be8_Jx4a65c_grow_d5877 rfl rfl rfl (by decide +kernel) ⟨Nat.le_of_ble_eq_true rfl, Nat.le_of_ble_eq_true rfl⟩) (pc_v (ci := 2) (q0 := 0) rfl rfl hPc hDc hKc hE hS hFc) rfl rfl hl.1 rfl (lv_room (Nat.le_of_ble_eq_true rfl)) dJx4a65c_add_72be8_7 ⟨Nat.le_of_ble_eq_true rfl, Nat.le_of_ble_eq_true rfl⟩) hS (fun q _ h => hFc q h) hFc (fun u ra t H1 locs ht hvm hw hB hz1 hk1 hS => ?_)
  obtain ⟨ra_2, rfl⟩ : ∃ z, z = ra := ⟨_, rfl⟩
  obtain ⟨cO_1, hP1, hK1, hD1⟩ := hB
  rw [ht] at hP1
  have hK1 := va_K.moved hvm.symm hK1
  obtain ⟨hP, hD⟩ := va_join (wr := [(ea, .inl (cI, nE, .inl fE))]) (w1 := [(h0, .inr (2, [.int 1, .ref ra_2, .int 0])), (ra_2, .inl (cO_1, 10, .inr (.inr (.inr (.inr (fun _ => none))))))]) hP hD [0] [1] rfl rfl (by decide) (by decide) hk1 hFc hP1 hD1
  have hK := hK.app (hK1.sub (tys' := [(cO_1, .object eOb)]) [0] rfl)
  generalize H1 = H at hP hS ⊢
  have hP : va_P D vwCl [(ea, .inl (cI, nE, .inl fE)), (h0, .inr (2, [.int 1, .ref ra_2, .int 0])), (ra_2, .inl (cO_1, 10, .inr (.inr (.inr (.inr (fun _ => none))))))] H := hP
  have hD : va_D A [(ea, .inl (cI, nE, .inl fE)), (h0, .inr (2, [.int 1, .ref ra_2, .int 0])), (ra_2, .inl (cO_1, 10, .inr (.inr (.inr (.inr (fun _ => none))))))] := hD
  have hK : va_K D vwCl [(cI, .int), (cO_1, .object eOb)] s := hK
  refine W.widen (k := 1) (n := 10) (Nat.le_of_ble_eq_true rfl) (Nat.le_of_ble_eq_true rfl) ?_
  refine lv_astore_n (lv' := [(2, .ref ra_2), (0, .ref h0), (1, .ref ea), (3, .int 0)]) hx hb dJx4a65c_add_72be8_10 rfl hl (by decide) rfl (fun ls hl => ?_)
  refine lv_aload_n hx hb dJx4a65c_add_72be8_11 rfl (lv_at hl 0 rfl) ?_
  refine lv_iload_n hx hb dJx4a65c_add_72be8_12 rfl (lv_at hl 3 rfl) ?_
  refine lv_aload_n hx hb dJx4a65c_add_72be8_13 rfl (lv_at hl 2 rfl) ?_
  refine va_astqM hx hb hK hP hD hS 2 1 rfl rfl (any_I hE.1.2.2.2.2.2.2.2.1 hK hP (q0 := 0) (t0 := 0) rfl rfl) (by unfold vp_in; decide +kernel) dJx4a65c_add_72be8_14 (fun H locs hP hD hS => ?_)
  have hP : va_P D vwCl [(ea, .inl (cI, nE, .inl fE)), (h0, .inr (2, [.int 1, .ref ra_2, .int 0])), (ra_2, .inl (cO_1, 10, .inr (.inr (.inr (.inr (va_up (fun _ => none) (Int32.toNatClampNeg 0) (some ea)))))))] H := hP
  have hD : va_D A [(ea, .inl (cI, nE, .inl fE)), (h0, .inr (2, [.int 1, .ref ra_2, .int 0])), (ra_2, .inl (cO_1, 10, .inr (.inr (.inr (.inr (va_up (fun _ => none) (Int32.toNatClampNeg 0) (some ea)))))))] := hD
  refine lv_aload_n hx hb dJx4a65c_add_72be8_15 rfl (lv_at hl 1 rfl) ?_
  refine lv_iload_n hx hb dJx4a65c_add_72be8_16 rfl (lv_at hl 3 rfl) ?_
  refine lv_iconst (v := 1) hx hb dJx4a65c_add_72be8_17 (by decide) ?_
  refine lv_iadd hx hb dJx4a65c_add_72be8_18 ?_
  refine lv_topi (fun z_3 ez_3 => ?_)
  have ez_3 : z_3 = 1 := ez_3.trans (by decide +kernel)
  rw [ez_3]
  refine va_put (D := D) (ci := 2) (v := .int 1) (C := RJx4a65c) (T := TJx4a65c) (N := 3) hx hb hts (by decide +kernel) tyJx4a65c tyJx4a65c_ok nmJx4a65c hown hK hP hD hS 1 rfl rfl 2 (by decide) (hts (.fieldLink RJx4a65c 48 "java/util/ArrayList" "size" "I") (by decide +kernel)) (fun _ h9 => h9) rfl (tyJx4a65c_ok 2 (by decide)) rfl rfl (Nat.le_of_ble_eq_true rfl) dJx4a65c_add_72be8_19 (fun H locs hP hD hS => ?_)
  have hP : va_P D vwCl [(ea, .inl (cI, nE, .inl fE)), (h0, .inr (2, [.int 1, .ref ra_2, .int 1])), (ra_2, .inl (cO_1, 10, .inr (.inr (.inr (.inr (va_up (fun _ => none) (Int32.toNatClampNeg 0) (some ea)))))))] H := hP
  have hD : va_D A [(ea, .inl (cI, nE, .inl fE)), (h0, .inr (2, [.int 1, .ref ra_2, .int 1])), (ra_2, .inl (cO_1, 10, .inr (.inr (.inr (.inr (va_up (fun _ => none) (Int32.toNatClampNeg 0) (some ea)))))))] := hD
  have hP9 := hP.sub (ws' := [(h0, .inr (2, [.int 1, .ref ra_2, .int 1]))]) [1] rfl
  have hD9 := hD.sub (ws' := [(h0, .inr (2, [.int 1, .ref ra_2, .int 1]))]) [1] (by decide) rfl
  have hK9 := hK.sub (tys' := []) [] rfl
  exact W.vret hx hb hr (fun t ht hW => ⟨⟨(), rfl, trivial, ⟨ra_2, by rw [ht]; exact hP9, va_K.moved hW.alike hK9, hD9⟩⟩, hS.F ht⟩) hS.2.2 dJx4a65c_add_72be8_22
set_option maxHeartbeats 4000000 in
set_option maxRecDepth 100000 in
theorem j_add_r (l : Launch) (D : va_G) (eT : Nat) (h0 : Nat) (ea : Nat) (cI : ClassId) (nE : Nat) (fE : Nat → Int32) (sz : Nat) : Met l yJx4a65c_add_9ea2d wsJx4a65c_add_9ea2d ({ frames := 4, cells := 1, slots := 10, locals := 81 }) (va_Pc [.ref h0, .ref ea] (pc D eT sz [(h0, .inr (2, [.int 0, .ref eT, .int 0])), (ea, .inl (cI, nE, .inl fE))] [(cI, .int)])) (va_Qi (fun (r : Int32) (_ : Unit) => r = 1) (fun _ t => ∃ ed : Nat, va_P D vwCl [(h0, .inr (2, [.int 1, .ref ed, .int 1]))] t.heap ∧ va_K D vwCl [] t ∧ va_D (va_A [(h0, .inr (2, [.int 0, .ref eT, .int 0])), (ea, .inl (cI, nE, .inl fE))] sz) [(h0, .inr (2, [.int 1, .ref ed, .int 1]))]) (va_A [(h0, .inr (2, [.int 0, .ref eT, .int 0])), (ea, .inl (cI, nE, .inl fE))] sz)) 1 10 (va_A [(h0, .inr (2, [.int 0, .ref eT, .int 0])), (ea, .inl (cI, nE, .inl fE))] sz) := by
  refine Met.ofW (cc := cJx4a65c_add_9ea2d) (maxL := 2) (ret := (some .boolean)) (by decide +kernel) rfl ?_
  intro p e s m args below meth c s₁ B hml hv
  obtain ⟨rfl, hsz, hP, hK, hD0, hE⟩ := hv
  have hx := B.exec
  have hb := B.bytes
  have hr := B.returns
  have hts := atoms_spec (ws := wsJx4a65c_add_9ea2d) B.pre
  have hown : s.vm.findClass RJx4a65c = some m.cls := findClass_of_methodNamed B.named
  have hlocks := B.notSynchronized
  subst hsz
  have hD := hD0.self (sz := s.heap.size)
  generalize hAe : va_A [(h0, .inr (2, [.int 0, .ref eT, .int 0])), (ea, .inl (cI, nE, .inl fE))] s.heap.size = A at hD hE ⊢
  have hA : ∀ q : Nat, s.heap.size ≤ q → A q := fun q h => by rw [← hAe]; exact Or.inr h
  have hS : va_S A s.heap s.heap [] := va_S.rf
  have hP : va_P D vwCl [(h0, .inr (2, [.int 0, .ref eT, .int 0])), (ea, .inl (cI, nE, .inl fE))] s.heap := hP
  have hl := lv_entry ([.ref h0, .ref ea]) (n := 2) (Nat.le_of_ble_eq_true rfl)
  rw [lg_entry_eq]
  generalize (lg_sl ([.ref h0, .ref ea]) ++ List.replicate (2 - (lg_sl ([.ref h0, .ref ea])).length) Slot.unset).toArray = ls at hl ⊢
  have hl : lv_has ls 2 [(0, .ref h0), (1, .ref ea)] := hl
  refine lv_aload_n hx hb dJx4a65c_add_9ea2d_0 rfl (lv_at hl 0 rfl) ?_
  refine lv_dup hx hb dJx4a65c_add_9ea2d_1 rfl ?_
  refine va_get (D := D) (ci := 2) (v := .int 0) (C := RJx4a65c) (T := TJx4a65c) (N := 3) hx hb hts (by decide +kernel) hown hK hP 0 rfl rfl 0 (by decide) (hts (.fieldLink RJx4a65c 63 "java/util/ArrayList" "modCount" "I") (by decide +kernel)) (fun x h9 => u_same (hts (.sameField "java/util/ArrayList" "java/util/AbstractList" "modCount" "I") (by decide +kernel)) x h9) rfl dJx4a65c_add_9ea2d_2 ?_
  refine lv_iconst (v := 1) hx hb dJx4a65c_add_9ea2d_5 (by decide) ?_
  refine lv_iadd hx hb dJx4a65c_add_9ea2d_6 ?_
  refine lv_topi (fun z_1 ez_1 => ?_)
  have ez_1 : z_1 = 1 := ez_1.trans (by decide +kernel)
  rw [ez_1]
  refine va_put (D := D) (ci := 2) (v := .int 1) (C := RJx4a65c) (T := TJx4a65c) (N := 3) hx hb hts (by decide +kernel) tyJx4a65c tyJx4a65c_ok nmJx4a65c hown hK hP hD hS 0 rfl rfl 0 (by decide) (hts (.fieldLink RJx4a65c 63 "java/util/ArrayList" "modCount" "I") (by decide +kernel)) (fun x h9 => u_same (hts (.sameField "java/util/ArrayList" "java/util/AbstractList" "modCount" "I") (by decide +kernel)) x h9) rfl (tyJx4a65c_ok 0 (by decide)) rfl rfl (Nat.le_of_ble_eq_true rfl) dJx4a65c_add_9ea2d_7 (fun H locs hP hD hS => ?_)
  have hP : va_P D vwCl [(h0, .inr (2, [.int 1, .ref eT, .int 0])), (ea, .inl (cI, nE, .inl fE))] H := hP
  have hD : va_D A [(h0, .inr (2, [.int 1, .ref eT, .int 0])), (ea, .inl (cI, nE, .inl fE))] := hD
  refine lv_aload_n hx hb dJx4a65c_add_9ea2d_10 rfl (lv_at hl 0 rfl) ?_
  refine lv_aload_n hx hb dJx4a65c_add_9ea2d_11 rfl (lv_at hl 1 rfl) ?_
  refine lv_aload_n hx hb dJx4a65c_add_9ea2d_12 rfl (lv_at hl 0 rfl) ?_
  refine va_get (D := D) (ci := 2) (v := .ref eT) (C := RJx4a65c) (T := TJx4a65c) (N := 3) hx hb hts (by decide +kernel) hown hK hP 0 rfl rfl 1 (by decide) (hts (.fieldLink RJx4a65c 9 "java/util/ArrayList" "elementData" "[Ljava/lang/Object;") (by decide +kernel)) (fun _ h9 => h9) rfl dJx4a65c_add_9ea2d_13 ?_
  refine lv_aload_n hx hb dJx4a65c_add_9ea2d_16 rfl (lv_at hl 0 rfl) ?_
  refine va_get (D := D) (ci := 2) (v := .int 0) (C := RJx4a65c) (T := TJx4a65c) (N := 3) hx hb hts (by decide +kernel) hown hK hP 0 rfl rfl 2 (by decide) (hts (.fieldLink RJx4a65c 48 "java/util/ArrayList" "size" "I") (by decide +kernel)) (fun _ h9 => h9) rfl dJx4a65c_add_9ea2d_17 ?_
  have hPc := hP.sub (ws' := [(h0, .inr (2, [.int 1, .ref eT, .int 0])), (ea, .inl (cI, nE, .inl fE))]) [0, 1] rfl
  have hKc := hK.sub (tys' := [(cI, .int)]) [0] rfl
  have hDc := hD.sub (ws' := [(h0, .inr (2, [.int 1, .ref eT, .int 0])), (ea, .inl (cI, nE, .inl fE))]) [0, 1] (by decide) rfl
  have hFc := va_free (wc := [(h0, .inr (2, [.int 1, .ref eT, .int 0])), (ea, .inl (cI, nE, .inl fE))]) hD hS hA [0, 1] rfl
  refine va_callv (va_runV (As := [.ref ea, .ref eT, .int 0]) (rest := []) ⟨hx, hb, hml, hown, hts⟩ (j_add2_r l D eT h0 ea cI nE fE H.size ) (cwV 3 hts gJx4a65c_add_9ea2d_Jx4a65c_add_72be8 rfl rfl rfl (by decide +kernel) ⟨Nat.le_of_ble_eq_true rfl, Nat.le_of_ble_eq_true rfl⟩) (pc_v (ci := 2) (q0 := 0) rfl rfl hPc hDc hKc hE hS hFc) rfl rfl hl.1 rfl (lv_room (Nat.le_of_ble_eq_true rfl)) dJx4a65c_add_9ea2d_20 ⟨Nat.le_of_ble_eq_true rfl, Nat.le_of_ble_eq_true rfl⟩) hS (fun q _ h => hFc q h) hFc (fun u t H1 locs ht hvm hw hB hz1 hk1 hS => ?_)
  obtain ⟨ed_2, hP1, hK1, hD1⟩ := hB
  rw [ht] at hP1
  have hK1 := va_K.moved hvm.symm hK1
  obtain ⟨hP, hD⟩ := va_join (wr := []) (w1 := [(h0, .inr (2, [.int 1, .ref ed_2, .int 1]))]) hP hD [0, 1] [] rfl rfl (by decide) (by decide) hk1 hFc hP1 hD1
  generalize H1 = H at hP hS ⊢
  have hP : va_P D vwCl [(h0, .inr (2, [.int 1, .ref ed_2, .int 1]))] H := hP
  have hD : va_D A [(h0, .inr (2, [.int 1, .ref ed_2, .int 1]))] := hD
  refine W.widen (k := 1) (n := 10) (Nat.le_of_ble_eq_true rfl) (Nat.le_of_ble_eq_true rfl) ?_
  refine lv_iconst (v := 1) hx hb dJx4a65c_add_9ea2d_23 (by decide) ?_
  have hP9 := hP.sub (ws' := [(h0, .inr (2, [.int 1, .ref ed_2, .int 1]))]) [0] rfl
  have hD9 := hD.sub (ws' := [(h0, .inr (2, [.int 1, .ref ed_2, .int 1]))]) [0] (by decide) rfl
  have hK9 := hK.sub (tys' := []) [] rfl
  exact W.zret (v := 1) (ty := .boolean) hx hb hr (by decide +kernel) (fun t ht hW => ⟨⟨1, (), rfl, rfl, ⟨ed_2, by rw [ht]; exact hP9, va_K.moved hW.alike hK9, hD9⟩⟩, hS.F ht⟩) hS.2.2 dJx4a65c_add_9ea2d_24
set_option maxHeartbeats 4000000 in
set_option maxRecDepth 100000 in
theorem j_add2_l (l : Launch) (D : va_G) (eT : Nat) (h0 : Nat) (ea : Nat) (sz : Nat) : Met l yJx4a65c_add_72be8 wsJx4a65c_add_72be8 ({ frames := 3, cells := 1, slots := 10, locals := 58 }) (va_Pc [.ref h0, .ref ea, .ref eT, .int 0] (pc D eT sz [(h0, .inr (2, [.int 1, .ref eT, .int 0])), (ea, .inr (2, [.int 0, .ref eT, .int 0]))] [])) (va_Qv (fun (_ : Unit) => True) (fun _ t => ∃ ed : Nat, va_P D vwCl [(h0, .inr (2, [.int 1, .ref ed, .int 1]))] t.heap ∧ va_K D vwCl [] t ∧ va_D (va_A [(h0, .inr (2, [.int 1, .ref eT, .int 0])), (ea, .inr (2, [.int 0, .ref eT, .int 0]))] sz) [(h0, .inr (2, [.int 1, .ref ed, .int 1]))]) (va_A [(h0, .inr (2, [.int 1, .ref eT, .int 0])), (ea, .inr (2, [.int 0, .ref eT, .int 0]))] sz)) 1 10 (va_A [(h0, .inr (2, [.int 1, .ref eT, .int 0])), (ea, .inr (2, [.int 0, .ref eT, .int 0]))] sz) := by
  refine Met.ofW (cc := cJx4a65c_add_72be8) (maxL := 4) (ret := none) (by decide +kernel) rfl ?_
  intro p e s m args below meth c s₁ B hml hv
  obtain ⟨rfl, hsz, hP, hK, hD0, hE⟩ := hv
  have hx := B.exec
  have hb := B.bytes
  have hr := B.returns
  have hts := atoms_spec (ws := wsJx4a65c_add_72be8) B.pre
  have hown : s.vm.findClass RJx4a65c = some m.cls := findClass_of_methodNamed B.named
  have hlocks := B.notSynchronized
  subst hsz
  have hD := hD0.self (sz := s.heap.size)
  generalize hAe : va_A [(h0, .inr (2, [.int 1, .ref eT, .int 0])), (ea, .inr (2, [.int 0, .ref eT, .int 0]))] s.heap.size = A at hD hE ⊢
  have hA : ∀ q : Nat, s.heap.size ≤ q → A q := fun q h => by rw [← hAe]; exact Or.inr h
  have hS : va_S A s.heap s.heap [] := va_S.rf
  have hP : va_P D vwCl [(h0, .inr (2, [.int 1, .ref eT, .int 0])), (ea, .inr (2, [.int 0, .ref eT, .int 0]))] s.heap := hP
  have hl := lv_entry ([.ref h0, .ref ea, .ref eT, .int 0]) (n := 4) (Nat.le_of_ble_eq_true rfl)
  rw [lg_entry_eq]
  generalize (lg_sl ([.ref h0, .ref ea, .ref eT, .int 0]) ++ List.replicate (4 - (lg_sl ([.ref h0, .ref ea, .ref eT, .int 0])).length) Slot.unset).toArray = ls at hl ⊢
  have hl : lv_has ls 4 [(0, .ref h0), (1, .ref ea), (2, .ref eT), (3, .int 0)] := hl
  refine lv_iload_n hx hb dJx4a65c_add_72be8_0 rfl (lv_at hl 3 rfl) ?_
  refine lv_aload_n hx hb dJx4a65c_add_72be8_1 rfl (lv_at hl 2 rfl) ?_
  refine va_tlen (v := 0) hx hb hE.2.2.2.2.2.2 hS (by decide) dJx4a65c_add_72be8_2 ?_
  refine lv_icmp_ne (tgt := 11) hx hb dJx4a65c_add_72be8_3 (by decide) (fun h => absurd (by decide) h) (fun _ => ?_)
  refine lv_aload_n hx hb dJx4a65c_add_72be8_6 rfl (lv_at hl 0 rfl) ?_
  have hPc := hP.sub (ws' := [(h0, .inr (2, [.int 1, .ref eT, .int 0]))]) [0] rfl
  have hKc := hK.sub (tys' := []) [] rfl
  have hDc := hD.sub (ws' := [(h0, .inr (2, [.int 1, .ref eT, .int 0]))]) [0] (by decide) rfl
  have hFc := va_free (wc := [(h0, .inr (2, [.int 1, .ref eT, .int 0]))]) hD hS hA [0] rfl
  refine va_callr (va_runV (As := []) (rest := []) ⟨hx, hb, hml, hown, hts⟩ (j_grow l D eT h0 s.heap.size ) (cwV 0 hts gJx4a65c_add_72be8_Jx4a65c_grow_d5877 rfl rfl rfl (by decide +kernel) ⟨Nat.le_of_ble_eq_true rfl, Nat.le_of_ble_eq_true rfl⟩) (pc_v (ci := 2) (q0 := 0) rfl rfl hPc hDc hKc hE hS hFc) rfl rfl hl.1 rfl (lv_room (Nat.le_of_ble_eq_true rfl)) dJx4a65c_add_72be8_7 ⟨Nat.le_of_ble_eq_true rfl, Nat.le_of_ble_eq_true rfl⟩) hS (fun q _ h => hFc q h) hFc (fun u ra t H1 locs ht hvm hw hB hz1 hk1 hS => ?_)
  obtain ⟨ra_2, rfl⟩ : ∃ z, z = ra := ⟨_, rfl⟩
  obtain ⟨cO_1, hP1, hK1, hD1⟩ := hB
  rw [ht] at hP1
  have hK1 := va_K.moved hvm.symm hK1
  obtain ⟨hP, hD⟩ := va_join (wr := [(ea, .inr (2, [.int 0, .ref eT, .int 0]))]) (w1 := [(h0, .inr (2, [.int 1, .ref ra_2, .int 0])), (ra_2, .inl (cO_1, 10, .inr (.inr (.inr (.inr (fun _ => none))))))]) hP hD [0] [1] rfl rfl (by decide) (by decide) hk1 hFc hP1 hD1
  have hK := hK.app (hK1.sub (tys' := [(cO_1, .object eOb)]) [0] rfl)
  generalize H1 = H at hP hS ⊢
  have hP : va_P D vwCl [(ea, .inr (2, [.int 0, .ref eT, .int 0])), (h0, .inr (2, [.int 1, .ref ra_2, .int 0])), (ra_2, .inl (cO_1, 10, .inr (.inr (.inr (.inr (fun _ => none))))))] H := hP
  have hD : va_D A [(ea, .inr (2, [.int 0, .ref eT, .int 0])), (h0, .inr (2, [.int 1, .ref ra_2, .int 0])), (ra_2, .inl (cO_1, 10, .inr (.inr (.inr (.inr (fun _ => none))))))] := hD
  have hK : va_K D vwCl [(cO_1, .object eOb)] s := hK
  refine W.widen (k := 1) (n := 10) (Nat.le_of_ble_eq_true rfl) (Nat.le_of_ble_eq_true rfl) ?_
  refine lv_astore_n (lv' := [(2, .ref ra_2), (0, .ref h0), (1, .ref ea), (3, .int 0)]) hx hb dJx4a65c_add_72be8_10 rfl hl (by decide) rfl (fun ls hl => ?_)
  refine lv_aload_n hx hb dJx4a65c_add_72be8_11 rfl (lv_at hl 0 rfl) ?_
  refine lv_iload_n hx hb dJx4a65c_add_72be8_12 rfl (lv_at hl 3 rfl) ?_
  refine lv_aload_n hx hb dJx4a65c_add_72be8_13 rfl (lv_at hl 2 rfl) ?_
  refine va_astqO hx hb hK hP hD hS 2 0 0 2 (r := (RJx4a65c, TJx4a65c, 3)) rfl rfl hE.1.2.2.2.2.2.2.2.2 rfl rfl (by unfold vp_in; decide +kernel) dJx4a65c_add_72be8_14 (fun H locs hP hD hS => ?_)
  have hP : va_P D vwCl [(ea, .inr (2, [.int 0, .ref eT, .int 0])), (h0, .inr (2, [.int 1, .ref ra_2, .int 0])), (ra_2, .inl (cO_1, 10, .inr (.inr (.inr (.inr (va_up (fun _ => none) (Int32.toNatClampNeg 0) (some ea)))))))] H := hP
  have hD : va_D A [(ea, .inr (2, [.int 0, .ref eT, .int 0])), (h0, .inr (2, [.int 1, .ref ra_2, .int 0])), (ra_2, .inl (cO_1, 10, .inr (.inr (.inr (.inr (va_up (fun _ => none) (Int32.toNatClampNeg 0) (some ea)))))))] := hD
  refine lv_aload_n hx hb dJx4a65c_add_72be8_15 rfl (lv_at hl 1 rfl) ?_
  refine lv_iload_n hx hb dJx4a65c_add_72be8_16 rfl (lv_at hl 3 rfl) ?_
  refine lv_iconst (v := 1) hx hb dJx4a65c_add_72be8_17 (by decide) ?_
  refine lv_iadd hx hb dJx4a65c_add_72be8_18 ?_
  refine lv_topi (fun z_3 ez_3 => ?_)
  have ez_3 : z_3 = 1 := ez_3.trans (by decide +kernel)
  rw [ez_3]
  refine va_put (D := D) (ci := 2) (v := .int 1) (C := RJx4a65c) (T := TJx4a65c) (N := 3) hx hb hts (by decide +kernel) tyJx4a65c tyJx4a65c_ok nmJx4a65c hown hK hP hD hS 1 rfl rfl 2 (by decide) (hts (.fieldLink RJx4a65c 48 "java/util/ArrayList" "size" "I") (by decide +kernel)) (fun _ h9 => h9) rfl (tyJx4a65c_ok 2 (by decide)) rfl rfl (Nat.le_of_ble_eq_true rfl) dJx4a65c_add_72be8_19 (fun H locs hP hD hS => ?_)
  have hP : va_P D vwCl [(ea, .inr (2, [.int 0, .ref eT, .int 0])), (h0, .inr (2, [.int 1, .ref ra_2, .int 1])), (ra_2, .inl (cO_1, 10, .inr (.inr (.inr (.inr (va_up (fun _ => none) (Int32.toNatClampNeg 0) (some ea)))))))] H := hP
  have hD : va_D A [(ea, .inr (2, [.int 0, .ref eT, .int 0])), (h0, .inr (2, [.int 1, .ref ra_2, .int 1])), (ra_2, .inl (cO_1, 10, .inr (.inr (.inr (.inr (va_up (fun _ => none) (Int32.toNatClampNeg 0) (some ea)))))))] := hD
  have hP9 := hP.sub (ws' := [(h0, .inr (2, [.int 1, .ref ra_2, .int 1]))]) [1] rfl
  have hD9 := hD.sub (ws' := [(h0, .inr (2, [.int 1, .ref ra_2, .int 1]))]) [1] (by decide) rfl
  have hK9 := hK.sub (tys' := []) [] rfl
  exact W.vret hx hb hr (fun t ht hW => ⟨⟨(), rfl, trivial, ⟨ra_2, by rw [ht]; exact hP9, va_K.moved hW.alike hK9, hD9⟩⟩, hS.F ht⟩) hS.2.2 dJx4a65c_add_72be8_22
set_option maxHeartbeats 4000000 in
set_option maxRecDepth 100000 in
theorem j_add_l (l : Launch) (D : va_G) (eT : Nat) (h0 : Nat) (ea : Nat) (sz : Nat) : Met l yJx4a65c_add_9ea2d wsJx4a65c_add_9ea2d ({ frames := 4, cells := 1, slots := 10, locals := 81 }) (va_Pc [.ref h0, .ref ea] (pc D eT sz [(h0, .inr (2, [.int 0, .ref eT, .int 0])), (ea, .inr (2, [.int 0, .ref eT, .int 0]))] [])) (va_Qi (fun (r : Int32) (_ : Unit) => r = 1) (fun _ t => ∃ ed : Nat, va_P D vwCl [(h0, .inr (2, [.int 1, .ref ed, .int 1]))] t.heap ∧ va_K D vwCl [] t ∧ va_D (va_A [(h0, .inr (2, [.int 0, .ref eT, .int 0])), (ea, .inr (2, [.int 0, .ref eT, .int 0]))] sz) [(h0, .inr (2, [.int 1, .ref ed, .int 1]))]) (va_A [(h0, .inr (2, [.int 0, .ref eT, .int 0])), (ea, .inr (2, [.int 0, .ref eT, .int 0]))] sz)) 1 10 (va_A [(h0, .inr (2, [.int 0, .ref eT, .int 0])), (ea, .inr (2, [.int 0, .ref eT, .int 0]))] sz) := by
  refine Met.ofW (cc := cJx4a65c_add_9ea2d) (maxL := 2) (ret := (some .boolean)) (by decide +kernel) rfl ?_
  intro p e s m args below meth c s₁ B hml hv
  obtain ⟨rfl, hsz, hP, hK, hD0, hE⟩ := hv
  have hx := B.exec
  have hb := B.bytes
  have hr := B.returns
  have hts := atoms_spec (ws := wsJx4a65c_add_9ea2d) B.pre
  have hown : s.vm.findClass RJx4a65c = some m.cls := findClass_of_methodNamed B.named
  have hlocks := B.notSynchronized
  subst hsz
  have hD := hD0.self (sz := s.heap.size)
  generalize hAe : va_A [(h0, .inr (2, [.int 0, .ref eT, .int 0])), (ea, .inr (2, [.int 0, .ref eT, .int 0]))] s.heap.size = A at hD hE ⊢
  have hA : ∀ q : Nat, s.heap.size ≤ q → A q := fun q h => by rw [← hAe]; exact Or.inr h
  have hS : va_S A s.heap s.heap [] := va_S.rf
  have hP : va_P D vwCl [(h0, .inr (2, [.int 0, .ref eT, .int 0])), (ea, .inr (2, [.int 0, .ref eT, .int 0]))] s.heap := hP
  have hl := lv_entry ([.ref h0, .ref ea]) (n := 2) (Nat.le_of_ble_eq_true rfl)
  rw [lg_entry_eq]
  generalize (lg_sl ([.ref h0, .ref ea]) ++ List.replicate (2 - (lg_sl ([.ref h0, .ref ea])).length) Slot.unset).toArray = ls at hl ⊢
  have hl : lv_has ls 2 [(0, .ref h0), (1, .ref ea)] := hl
  refine lv_aload_n hx hb dJx4a65c_add_9ea2d_0 rfl (lv_at hl 0 rfl) ?_
  refine lv_dup hx hb dJx4a65c_add_9ea2d_1 rfl ?_
  refine va_get (D := D) (ci := 2) (v := .int 0) (C := RJx4a65c) (T := TJx4a65c) (N := 3) hx hb hts (by decide +kernel) hown hK hP 0 rfl rfl 0 (by decide) (hts (.fieldLink RJx4a65c 63 "java/util/ArrayList" "modCount" "I") (by decide +kernel)) (fun x h9 => u_same (hts (.sameField "java/util/ArrayList" "java/util/AbstractList" "modCount" "I") (by decide +kernel)) x h9) rfl dJx4a65c_add_9ea2d_2 ?_
  refine lv_iconst (v := 1) hx hb dJx4a65c_add_9ea2d_5 (by decide) ?_
  refine lv_iadd hx hb dJx4a65c_add_9ea2d_6 ?_
  refine lv_topi (fun z_1 ez_1 => ?_)
  have ez_1 : z_1 = 1 := ez_1.trans (by decide +kernel)
  rw [ez_1]
  refine va_put (D := D) (ci := 2) (v := .int 1) (C := RJx4a65c) (T := TJx4a65c) (N := 3) hx hb hts (by decide +kernel) tyJx4a65c tyJx4a65c_ok nmJx4a65c hown hK hP hD hS 0 rfl rfl 0 (by decide) (hts (.fieldLink RJx4a65c 63 "java/util/ArrayList" "modCount" "I") (by decide +kernel)) (fun x h9 => u_same (hts (.sameField "java/util/ArrayList" "java/util/AbstractList" "modCount" "I") (by decide +kernel)) x h9) rfl (tyJx4a65c_ok 0 (by decide)) rfl rfl (Nat.le_of_ble_eq_true rfl) dJx4a65c_add_9ea2d_7 (fun H locs hP hD hS => ?_)
  have hP : va_P D vwCl [(h0, .inr (2, [.int 1, .ref eT, .int 0])), (ea, .inr (2, [.int 0, .ref eT, .int 0]))] H := hP
  have hD : va_D A [(h0, .inr (2, [.int 1, .ref eT, .int 0])), (ea, .inr (2, [.int 0, .ref eT, .int 0]))] := hD
  refine lv_aload_n hx hb dJx4a65c_add_9ea2d_10 rfl (lv_at hl 0 rfl) ?_
  refine lv_aload_n hx hb dJx4a65c_add_9ea2d_11 rfl (lv_at hl 1 rfl) ?_
  refine lv_aload_n hx hb dJx4a65c_add_9ea2d_12 rfl (lv_at hl 0 rfl) ?_
  refine va_get (D := D) (ci := 2) (v := .ref eT) (C := RJx4a65c) (T := TJx4a65c) (N := 3) hx hb hts (by decide +kernel) hown hK hP 0 rfl rfl 1 (by decide) (hts (.fieldLink RJx4a65c 9 "java/util/ArrayList" "elementData" "[Ljava/lang/Object;") (by decide +kernel)) (fun _ h9 => h9) rfl dJx4a65c_add_9ea2d_13 ?_
  refine lv_aload_n hx hb dJx4a65c_add_9ea2d_16 rfl (lv_at hl 0 rfl) ?_
  refine va_get (D := D) (ci := 2) (v := .int 0) (C := RJx4a65c) (T := TJx4a65c) (N := 3) hx hb hts (by decide +kernel) hown hK hP 0 rfl rfl 2 (by decide) (hts (.fieldLink RJx4a65c 48 "java/util/ArrayList" "size" "I") (by decide +kernel)) (fun _ h9 => h9) rfl dJx4a65c_add_9ea2d_17 ?_
  have hPc := hP.sub (ws' := [(h0, .inr (2, [.int 1, .ref eT, .int 0])), (ea, .inr (2, [.int 0, .ref eT, .int 0]))]) [0, 1] rfl
  have hKc := hK.sub (tys' := []) [] rfl
  have hDc := hD.sub (ws' := [(h0, .inr (2, [.int 1, .ref eT, .int 0])), (ea, .inr (2, [.int 0, .ref eT, .int 0]))]) [0, 1] (by decide) rfl
  have hFc := va_free (wc := [(h0, .inr (2, [.int 1, .ref eT, .int 0])), (ea, .inr (2, [.int 0, .ref eT, .int 0]))]) hD hS hA [0, 1] rfl
  refine va_callv (va_runV (As := [.ref ea, .ref eT, .int 0]) (rest := []) ⟨hx, hb, hml, hown, hts⟩ (j_add2_l l D eT h0 ea H.size ) (cwV 3 hts gJx4a65c_add_9ea2d_Jx4a65c_add_72be8 rfl rfl rfl (by decide +kernel) ⟨Nat.le_of_ble_eq_true rfl, Nat.le_of_ble_eq_true rfl⟩) (pc_v (ci := 2) (q0 := 0) rfl rfl hPc hDc hKc hE hS hFc) rfl rfl hl.1 rfl (lv_room (Nat.le_of_ble_eq_true rfl)) dJx4a65c_add_9ea2d_20 ⟨Nat.le_of_ble_eq_true rfl, Nat.le_of_ble_eq_true rfl⟩) hS (fun q _ h => hFc q h) hFc (fun u t H1 locs ht hvm hw hB hz1 hk1 hS => ?_)
  obtain ⟨ed_2, hP1, hK1, hD1⟩ := hB
  rw [ht] at hP1
  have hK1 := va_K.moved hvm.symm hK1
  obtain ⟨hP, hD⟩ := va_join (wr := []) (w1 := [(h0, .inr (2, [.int 1, .ref ed_2, .int 1]))]) hP hD [0, 1] [] rfl rfl (by decide) (by decide) hk1 hFc hP1 hD1
  generalize H1 = H at hP hS ⊢
  have hP : va_P D vwCl [(h0, .inr (2, [.int 1, .ref ed_2, .int 1]))] H := hP
  have hD : va_D A [(h0, .inr (2, [.int 1, .ref ed_2, .int 1]))] := hD
  refine W.widen (k := 1) (n := 10) (Nat.le_of_ble_eq_true rfl) (Nat.le_of_ble_eq_true rfl) ?_
  refine lv_iconst (v := 1) hx hb dJx4a65c_add_9ea2d_23 (by decide) ?_
  have hP9 := hP.sub (ws' := [(h0, .inr (2, [.int 1, .ref ed_2, .int 1]))]) [0] rfl
  have hD9 := hD.sub (ws' := [(h0, .inr (2, [.int 1, .ref ed_2, .int 1]))]) [0] (by decide) rfl
  have hK9 := hK.sub (tys' := []) [] rfl
  exact W.zret (v := 1) (ty := .boolean) hx hb hr (by decide +kernel) (fun t ht hW => ⟨⟨1, (), rfl, rfl, ⟨ed_2, by rw [ht]; exact hP9, va_K.moved hW.alike hK9, hD9⟩⟩, hS.F ht⟩) hS.2.2 dJx4a65c_add_9ea2d_24
set_option maxHeartbeats 4000000 in
set_option maxRecDepth 100000 in
theorem r_house (l : Launch) (D : va_G) (eT : Nat) (h0 : Nat) (lH : Nat) (lB : Nat) (lJ : Nat) (aR : Nat) (aL : Nat) (lC : Nat) (aM : Nat) (aP : Nat) (sm : Int64) (sz : Nat) : Met l yX5_house wsX5_house ({ frames := 5, cells := 2, slots := 13, locals := 102 }) (va_Pc [.ref h0] (pc D eT sz [(h0, .inr (8, [.int 0, .ref lH, .ref lB, .ref lJ, .ref aR, .ref aL, .int 0, .int 0, .int 0, .ref lC, .ref aM, .ref aP, .int 0, .int 0, .int 0, .int (-1), .int (-1), .int 0, .int 0, .long sm])), (lH, .inr (2, [.int 0, .ref eT, .int 0]))] [])) (va_Qi (fun (r : Int32) (_ : Unit) => r = 0) (fun _ t => va_P D vwCl [(h0, .inr (8, [.int 0, .ref lH, .ref lB, .ref lJ, .ref aR, .ref aL, .int 0, .int 0, .int 0, .ref lC, .ref aM, .ref aP, .int 0, .int 0, .int 0, .int (-1), .int (-1), .int 0, .int 0, .long sm]))] t.heap ∧ va_K D vwCl [] t ∧ va_D (va_A [(h0, .inr (8, [.int 0, .ref lH, .ref lB, .ref lJ, .ref aR, .ref aL, .int 0, .int 0, .int 0, .ref lC, .ref aM, .ref aP, .int 0, .int 0, .int 0, .int (-1), .int (-1), .int 0, .int 0, .long sm])), (lH, .inr (2, [.int 0, .ref eT, .int 0]))] sz) [(h0, .inr (8, [.int 0, .ref lH, .ref lB, .ref lJ, .ref aR, .ref aL, .int 0, .int 0, .int 0, .ref lC, .ref aM, .ref aP, .int 0, .int 0, .int 0, .int (-1), .int (-1), .int 0, .int 0, .long sm]))]) (va_A [(h0, .inr (8, [.int 0, .ref lH, .ref lB, .ref lJ, .ref aR, .ref aL, .int 0, .int 0, .int 0, .ref lC, .ref aM, .ref aP, .int 0, .int 0, .int 0, .int (-1), .int (-1), .int 0, .int 0, .long sm])), (lH, .inr (2, [.int 0, .ref eT, .int 0]))] sz)) 2 13 (va_A [(h0, .inr (8, [.int 0, .ref lH, .ref lB, .ref lJ, .ref aR, .ref aL, .int 0, .int 0, .int 0, .ref lC, .ref aM, .ref aP, .int 0, .int 0, .int 0, .int (-1), .int (-1), .int 0, .int 0, .long sm])), (lH, .inr (2, [.int 0, .ref eT, .int 0]))] sz) := by
  refine Met.ofW (cc := cX5_house) (maxL := 2) (ret := (some .int)) (by decide +kernel) rfl ?_
  intro p e s m args below meth c s₁ B hml hv
  obtain ⟨rfl, hsz, hP, hK, hD0, hE⟩ := hv
  have hx := B.exec
  have hb := B.bytes
  have hr := B.returns
  have hts := atoms_spec (ws := wsX5_house) B.pre
  have hown : s.vm.findClass RX5 = some m.cls := findClass_of_methodNamed B.named
  have hlocks := B.notSynchronized
  subst hsz
  have hD := hD0.self (sz := s.heap.size)
  generalize hAe : va_A [(h0, .inr (8, [.int 0, .ref lH, .ref lB, .ref lJ, .ref aR, .ref aL, .int 0, .int 0, .int 0, .ref lC, .ref aM, .ref aP, .int 0, .int 0, .int 0, .int (-1), .int (-1), .int 0, .int 0, .long sm])), (lH, .inr (2, [.int 0, .ref eT, .int 0]))] s.heap.size = A at hD hE ⊢
  have hA : ∀ q : Nat, s.heap.size ≤ q → A q := fun q h => by rw [← hAe]; exact Or.inr h
  have hS : va_S A s.heap s.heap [] := va_S.rf
  have hP : va_P D vwCl [(h0, .inr (8, [.int 0, .ref lH, .ref lB, .ref lJ, .ref aR, .ref aL, .int 0, .int 0, .int 0, .ref lC, .ref aM, .ref aP, .int 0, .int 0, .int 0, .int (-1), .int (-1), .int 0, .int 0, .long sm])), (lH, .inr (2, [.int 0, .ref eT, .int 0]))] s.heap := hP
  have hl := lv_entry ([.ref h0]) (n := 2) (Nat.le_of_ble_eq_true rfl)
  rw [lg_entry_eq]
  generalize (lg_sl ([.ref h0]) ++ List.replicate (2 - (lg_sl ([.ref h0])).length) Slot.unset).toArray = ls at hl ⊢
  have hl : lv_has ls 2 [(0, .ref h0)] := hl
  refine lv_aload_n hx hb dX5_house_0 rfl (lv_at hl 0 rfl) ?_
  refine lv_iconst (v := 0) hx hb dX5_house_1 (by decide) ?_
  refine va_put (D := D) (ci := 8) (v := .int 0) (C := RX5) (T := TX5) (N := 20) hx hb hts (by decide +kernel) tyX5 tyX5_ok nmX5 hown hK hP hD hS 0 rfl rfl 0 (by decide) (hts (.fieldLink RX5 50 "PrizeHouseModel" "thrown" "I") (by decide +kernel)) (fun _ h9 => h9) rfl (tyX5_ok 0 (by decide)) rfl rfl (Nat.le_of_ble_eq_true rfl) dX5_house_2 (fun H locs hP hD hS => ?_)
  have hP : va_P D vwCl [(h0, .inr (8, [.int 0, .ref lH, .ref lB, .ref lJ, .ref aR, .ref aL, .int 0, .int 0, .int 0, .ref lC, .ref aM, .ref aP, .int 0, .int 0, .int 0, .int (-1), .int (-1), .int 0, .int 0, .long sm])), (lH, .inr (2, [.int 0, .ref eT, .int 0]))] H := hP
  have hD : va_D A [(h0, .inr (8, [.int 0, .ref lH, .ref lB, .ref lJ, .ref aR, .ref aL, .int 0, .int 0, .int 0, .ref lC, .ref aM, .ref aP, .int 0, .int 0, .int 0, .int (-1), .int (-1), .int 0, .int 0, .long sm])), (lH, .inr (2, [.int 0, .ref eT, .int 0]))] := hD
  refine lv_aload_n hx hb dX5_house_5 rfl (lv_at hl 0 rfl) ?_
  refine va_get (D := D) (ci := 8) (v := .ref lH) (C := RX5) (T := TX5) (N := 20) hx hb hts (by decide +kernel) hown hK hP 0 rfl rfl 1 (by decide) (hts (.fieldLink RX5 10 "PrizeHouseModel" "houses" "Ljava/util/ArrayList;") (by decide +kernel)) (fun _ h9 => h9) rfl dX5_house_6 ?_
  have hPc := hP.sub (ws' := [(lH, .inr (2, [.int 0, .ref eT, .int 0]))]) [1] rfl
  have hKc := hK.sub (tys' := []) [] rfl
  refine va_calli (va_runV (As := []) (rest := []) ⟨hx, hb, hml, hown, hts⟩ (k_size l D eT lH eT 0 0 H.size ) (cwV 0 hts gX5_house_Jx4a65c_size_8abf5 rfl rfl rfl (by decide +kernel) ⟨Nat.le_of_ble_eq_true rfl, Nat.le_of_ble_eq_true rfl⟩) (pr_v (ci := 2) (q0 := 0) rfl rfl hPc hKc hE hS hA) rfl rfl hl.1 rfl (lv_room (Nat.le_of_ble_eq_true rfl)) dX5_house_9 ⟨Nat.le_of_ble_eq_true rfl, Nat.le_of_ble_eq_true rfl⟩) hS (fun q h1 h2 => ro_A h1 h2) (fun q h => ro_F hS hA q h) (fun r u t H1 locs ht hvm hw hB hz1 hk1 hS => ?_)
  have hw : r = 0 := hw
  rw [hw]
  have hP := ro_P hP hk1
  generalize H1 = H at hP hS ⊢
  refine lv_iconst (v := 5) hx hb dX5_house_12 (by decide) ?_
  refine lv_icmp_ne (tgt := 22) hx hb dX5_house_13 (by decide) (fun _ => ?_) (fun h => absurd h (by decide))
  refine lv_iconst (v := 3) hx hb dX5_house_22 (by decide) ?_
  refine va_newa (atype := .int) (ty := .int) (N' := 3) (a0 := (3, (.inl (fun _ => 0)))) hx hb (hts (.arrayClass .int) (by decide +kernel)) rfl hK hP hD hS hA (fun _ => rfl) (by decide) (by decide) (Nat.le_of_ble_eq_true rfl) (Nat.le_of_ble_eq_true rfl) (Nat.le_of_ble_eq_true rfl) dX5_house_23 (fun q_1 cA_2 H hK hP hD hS => ?_)
  have hK : va_K D vwCl [(cA_2, .int)] s := hK
  have hP : va_P D vwCl [(h0, .inr (8, [.int 0, .ref lH, .ref lB, .ref lJ, .ref aR, .ref aL, .int 0, .int 0, .int 0, .ref lC, .ref aM, .ref aP, .int 0, .int 0, .int 0, .int (-1), .int (-1), .int 0, .int 0, .long sm])), (lH, .inr (2, [.int 0, .ref eT, .int 0])), (q_1, .inl (cA_2, 3, .inl (fun _ => 0)))] H := hP
  have hD : va_D A [(h0, .inr (8, [.int 0, .ref lH, .ref lB, .ref lJ, .ref aR, .ref aL, .int 0, .int 0, .int 0, .ref lC, .ref aM, .ref aP, .int 0, .int 0, .int 0, .int (-1), .int (-1), .int 0, .int 0, .long sm])), (lH, .inr (2, [.int 0, .ref eT, .int 0])), (q_1, .inl (cA_2, 3, .inl (fun _ => 0)))] := hD
  refine W.widen (k := 1) (n := 3) (Nat.le_of_ble_eq_true rfl) (Nat.le_of_ble_eq_true rfl) ?_
  refine lv_dup hx hb dX5_house_25 rfl ?_
  refine lv_iconst (v := 0) hx hb dX5_house_26 (by decide) ?_
  refine lv_bipush (v := 100) hx hb dX5_house_27 (by decide) ?_
  refine va_iast hx hb hK hP hD hS 2 0 rfl rfl (by unfold vp_in; decide +kernel) dX5_house_29 (fun H locs hP hD hS => ?_)
  have hP : va_P D vwCl [(h0, .inr (8, [.int 0, .ref lH, .ref lB, .ref lJ, .ref aR, .ref aL, .int 0, .int 0, .int 0, .ref lC, .ref aM, .ref aP, .int 0, .int 0, .int 0, .int (-1), .int (-1), .int 0, .int 0, .long sm])), (lH, .inr (2, [.int 0, .ref eT, .int 0])), (q_1, .inl (cA_2, 3, .inl (upd (fun _ => 0) (Int32.toNatClampNeg 0) 100)))] H := hP
  have hD : va_D A [(h0, .inr (8, [.int 0, .ref lH, .ref lB, .ref lJ, .ref aR, .ref aL, .int 0, .int 0, .int 0, .ref lC, .ref aM, .ref aP, .int 0, .int 0, .int 0, .int (-1), .int (-1), .int 0, .int 0, .long sm])), (lH, .inr (2, [.int 0, .ref eT, .int 0])), (q_1, .inl (cA_2, 3, .inl (upd (fun _ => 0) (Int32.toNatClampNeg 0) 100)))] := hD
  refine lv_dup hx hb dX5_house_30 rfl ?_
  refine lv_iconst (v := 1) hx hb dX5_house_31 (by decide) ?_
  refine lv_iconst (v := 0) hx hb dX5_house_32 (by decide) ?_
  refine va_iast hx hb hK hP hD hS 2 0 rfl rfl (by unfold vp_in; decide +kernel) dX5_house_33 (fun H locs hP hD hS => ?_)
  have hP : va_P D vwCl [(h0, .inr (8, [.int 0, .ref lH, .ref lB, .ref lJ, .ref aR, .ref aL, .int 0, .int 0, .int 0, .ref lC, .ref aM, .ref aP, .int 0, .int 0, .int 0, .int (-1), .int (-1), .int 0, .int 0, .long sm])), (lH, .inr (2, [.int 0, .ref eT, .int 0])), (q_1, .inl (cA_2, 3, .inl (upd (upd (fun _ => 0) (Int32.toNatClampNeg 0) 100) (Int32.toNatClampNeg 1) 0)))] H := hP
  have hD : va_D A [(h0, .inr (8, [.int 0, .ref lH, .ref lB, .ref lJ, .ref aR, .ref aL, .int 0, .int 0, .int 0, .ref lC, .ref aM, .ref aP, .int 0, .int 0, .int 0, .int (-1), .int (-1), .int 0, .int 0, .long sm])), (lH, .inr (2, [.int 0, .ref eT, .int 0])), (q_1, .inl (cA_2, 3, .inl (upd (upd (fun _ => 0) (Int32.toNatClampNeg 0) 100) (Int32.toNatClampNeg 1) 0)))] := hD
  refine lv_dup hx hb dX5_house_34 rfl ?_
  refine lv_iconst (v := 2) hx hb dX5_house_35 (by decide) ?_
  refine lv_iconst (v := 0) hx hb dX5_house_36 (by decide) ?_
  refine va_iast hx hb hK hP hD hS 2 0 rfl rfl (by unfold vp_in; decide +kernel) dX5_house_37 (fun H locs hP hD hS => ?_)
  have hP : va_P D vwCl [(h0, .inr (8, [.int 0, .ref lH, .ref lB, .ref lJ, .ref aR, .ref aL, .int 0, .int 0, .int 0, .ref lC, .ref aM, .ref aP, .int 0, .int 0, .int 0, .int (-1), .int (-1), .int 0, .int 0, .long sm])), (lH, .inr (2, [.int 0, .ref eT, .int 0])), (q_1, .inl (cA_2, 3, .inl (upd (upd (upd (fun _ => 0) (Int32.toNatClampNeg 0) 100) (Int32.toNatClampNeg 1) 0) (Int32.toNatClampNeg 2) 0)))] H := hP
  have hD : va_D A [(h0, .inr (8, [.int 0, .ref lH, .ref lB, .ref lJ, .ref aR, .ref aL, .int 0, .int 0, .int 0, .ref lC, .ref aM, .ref aP, .int 0, .int 0, .int 0, .int (-1), .int (-1), .int 0, .int 0, .long sm])), (lH, .inr (2, [.int 0, .ref eT, .int 0])), (q_1, .inl (cA_2, 3, .inl (upd (upd (upd (fun _ => 0) (Int32.toNatClampNeg 0) 100) (Int32.toNatClampNeg 1) 0) (Int32.toNatClampNeg 2) 0)))] := hD
  refine lv_astore_n (lv' := [(1, .ref q_1), (0, .ref h0)]) hx hb dX5_house_38 rfl hl (by decide) rfl (fun ls hl => ?_)
  refine lv_aload_n hx hb dX5_house_39 rfl (lv_at hl 1 rfl) ?_
  refine va_get (D := D) (ci := 8) (v := .ref lH) (C := RX5) (T := TX5) (N := 20) hx hb hts (by decide +kernel) hown hK hP 0 rfl rfl 1 (by decide) (hts (.fieldLink RX5 10 "PrizeHouseModel" "houses" "Ljava/util/ArrayList;") (by decide +kernel)) (fun _ h9 => h9) rfl dX5_house_40 ?_
  refine lv_aload_n hx hb dX5_house_43 rfl (lv_at hl 0 rfl) ?_
  have hPc := hP.sub (ws' := [(lH, .inr (2, [.int 0, .ref eT, .int 0])), (q_1, .inl (cA_2, 3, .inl (upd (upd (upd (fun _ => 0) (Int32.toNatClampNeg 0) 100) (Int32.toNatClampNeg 1) 0) (Int32.toNatClampNeg 2) 0)))]) [1, 2] rfl
  have hKc := hK.sub (tys' := [(cA_2, .int)]) [0] rfl
  have hDc := hD.sub (ws' := [(lH, .inr (2, [.int 0, .ref eT, .int 0])), (q_1, .inl (cA_2, 3, .inl (upd (upd (upd (fun _ => 0) (Int32.toNatClampNeg 0) 100) (Int32.toNatClampNeg 1) 0) (Int32.toNatClampNeg 2) 0)))]) [1, 2] (by decide) rfl
  have hFc := va_free (wc := [(lH, .inr (2, [.int 0, .ref eT, .int 0])), (q_1, .inl (cA_2, 3, .inl (upd (upd (upd (fun _ => 0) (Int32.toNatClampNeg 0) 100) (Int32.toNatClampNeg 1) 0) (Int32.toNatClampNeg 2) 0)))]) hD hS hA [1, 2] rfl
  refine va_calli (va_runV (As := [.ref q_1]) (rest := []) ⟨hx, hb, hml, hown, hts⟩ (j_add_r l D eT lH q_1 cA_2 3 (upd (upd (upd (fun _ => 0) (Int32.toNatClampNeg 0) 100) (Int32.toNatClampNeg 1) 0) (Int32.toNatClampNeg 2) 0) H.size ) (cwV 1 hts gX5_house_Jx4a65c_add_9ea2d rfl rfl rfl (by decide +kernel) ⟨Nat.le_of_ble_eq_true rfl, Nat.le_of_ble_eq_true rfl⟩) (pc_v (ci := 2) (q0 := 0) rfl rfl hPc hDc hKc hE hS hFc) rfl rfl hl.1 rfl (lv_room (Nat.le_of_ble_eq_true rfl)) dX5_house_44 ⟨Nat.le_of_ble_eq_true rfl, Nat.le_of_ble_eq_true rfl⟩) hS (fun q _ h => hFc q h) hFc (fun r u t H1 locs ht hvm hw hB hz1 hk1 hS => ?_)
  have hw : r = 1 := hw
  rw [hw]
  obtain ⟨ed_3, hP1, hK1, hD1⟩ := hB
  rw [ht] at hP1
  have hK1 := va_K.moved hvm.symm hK1
  obtain ⟨hP, hD⟩ := va_join (wr := [(h0, .inr (8, [.int 0, .ref lH, .ref lB, .ref lJ, .ref aR, .ref aL, .int 0, .int 0, .int 0, .ref lC, .ref aM, .ref aP, .int 0, .int 0, .int 0, .int (-1), .int (-1), .int 0, .int 0, .long sm]))]) (w1 := [(lH, .inr (2, [.int 1, .ref ed_3, .int 1]))]) hP hD [1, 2] [0] rfl rfl (by decide) (by decide) hk1 hFc hP1 hD1
  generalize H1 = H at hP hS ⊢
  have hP : va_P D vwCl [(h0, .inr (8, [.int 0, .ref lH, .ref lB, .ref lJ, .ref aR, .ref aL, .int 0, .int 0, .int 0, .ref lC, .ref aM, .ref aP, .int 0, .int 0, .int 0, .int (-1), .int (-1), .int 0, .int 0, .long sm])), (lH, .inr (2, [.int 1, .ref ed_3, .int 1]))] H := hP
  have hD : va_D A [(h0, .inr (8, [.int 0, .ref lH, .ref lB, .ref lJ, .ref aR, .ref aL, .int 0, .int 0, .int 0, .ref lC, .ref aM, .ref aP, .int 0, .int 0, .int 0, .int (-1), .int (-1), .int 0, .int 0, .long sm])), (lH, .inr (2, [.int 1, .ref ed_3, .int 1]))] := hD
  refine W.widen (k := 2) (n := 13) (Nat.le_of_ble_eq_true rfl) (Nat.le_of_ble_eq_true rfl) ?_
  refine lv_pop hx hb dX5_house_47 rfl ?_
  refine lv_aload_n hx hb dX5_house_48 rfl (lv_at hl 1 rfl) ?_
  refine va_get (D := D) (ci := 8) (v := .ref lH) (C := RX5) (T := TX5) (N := 20) hx hb hts (by decide +kernel) hown hK hP 0 rfl rfl 1 (by decide) (hts (.fieldLink RX5 10 "PrizeHouseModel" "houses" "Ljava/util/ArrayList;") (by decide +kernel)) (fun _ h9 => h9) rfl dX5_house_49 ?_
  have hPc := hP.sub (ws' := [(lH, .inr (2, [.int 1, .ref ed_3, .int 1]))]) [1] rfl
  have hKc := hK.sub (tys' := []) [] rfl
  refine va_calli (va_runV (As := []) (rest := []) ⟨hx, hb, hml, hown, hts⟩ (k_size l D eT lH ed_3 1 1 H.size ) (cwV 0 hts gX5_house_Jx4a65c_size_8abf5 rfl rfl rfl (by decide +kernel) ⟨Nat.le_of_ble_eq_true rfl, Nat.le_of_ble_eq_true rfl⟩) (pr_v (ci := 2) (q0 := 0) rfl rfl hPc hKc hE hS hA) rfl rfl hl.1 rfl (lv_room (Nat.le_of_ble_eq_true rfl)) dX5_house_52 ⟨Nat.le_of_ble_eq_true rfl, Nat.le_of_ble_eq_true rfl⟩) hS (fun q h1 h2 => ro_A h1 h2) (fun q h => ro_F hS hA q h) (fun r u t H1 locs ht hvm hw hB hz1 hk1 hS => ?_)
  have hw : r = 1 := hw
  rw [hw]
  have hP := ro_P hP hk1
  generalize H1 = H at hP hS ⊢
  refine lv_iconst (v := 1) hx hb dX5_house_55 (by decide) ?_
  refine lv_isub hx hb dX5_house_56 ?_
  refine lv_topi (fun z_4 ez_4 => ?_)
  have ez_4 : z_4 = 0 := ez_4.trans (by decide +kernel)
  rw [ez_4]
  have hP9 := hP.sub (ws' := [(h0, .inr (8, [.int 0, .ref lH, .ref lB, .ref lJ, .ref aR, .ref aL, .int 0, .int 0, .int 0, .ref lC, .ref aM, .ref aP, .int 0, .int 0, .int 0, .int (-1), .int (-1), .int 0, .int 0, .long sm]))]) [0] rfl
  have hD9 := hD.sub (ws' := [(h0, .inr (8, [.int 0, .ref lH, .ref lB, .ref lJ, .ref aR, .ref aL, .int 0, .int 0, .int 0, .ref lC, .ref aM, .ref aP, .int 0, .int 0, .int 0, .int (-1), .int (-1), .int 0, .int 0, .long sm]))]) [0] (by decide) rfl
  have hK9 := hK.sub (tys' := []) [] rfl
  exact W.iret (v := 0) hx hb hr (fun t ht hW => ⟨⟨0, (), rfl, rfl, ⟨by rw [ht]; exact hP9, va_K.moved hW.alike hK9, hD9⟩⟩, hS.F ht⟩) hS.2.2 dX5_house_57
set_option maxHeartbeats 4000000 in
set_option maxRecDepth 100000 in
theorem r_judge (l : Launch) (D : va_G) (eT : Nat) (h0 : Nat) (lH : Nat) (lB : Nat) (lJ : Nat) (aR : Nat) (aL : Nat) (lC : Nat) (aM : Nat) (aP : Nat) (sm : Int64) (p0 : Int32) (p1 : Int32) (p2 : Int32) (sz : Nat) (a1 : 20 ≤ p0) (a2 : p0 ≤ 200) (b1 : 0 ≤ p1) (b2 : p1 ≤ 9) (d1 : (-10) ≤ p2) (d2 : p2 ≤ 10) : Met l yX5_judge wsX5_judge ({ frames := 5, cells := 4, slots := 30, locals := 102 }) (va_Pc [.ref h0, .int p0, .int p1, .int p2] (pc D eT sz [(h0, .inr (8, [.int 0, .ref lH, .ref lB, .ref lJ, .ref aR, .ref aL, .int 0, .int 0, .int 0, .ref lC, .ref aM, .ref aP, .int 0, .int 0, .int 0, .int (-1), .int (-1), .int 0, .int 0, .long sm])), (lJ, .inr (2, [.int 0, .ref eT, .int 0])), (lC, .inr (2, [.int 0, .ref eT, .int 0]))] [])) (va_Qi (fun (r : Int32) (_ : Unit) => r = 0) (fun _ t => va_P D vwCl [(h0, .inr (8, [.int 0, .ref lH, .ref lB, .ref lJ, .ref aR, .ref aL, .int 0, .int 0, .int 0, .ref lC, .ref aM, .ref aP, .int 0, .int 0, .int 0, .int (-1), .int (-1), .int 0, .int 0, .long sm]))] t.heap ∧ va_K D vwCl [] t ∧ va_D (va_A [(h0, .inr (8, [.int 0, .ref lH, .ref lB, .ref lJ, .ref aR, .ref aL, .int 0, .int 0, .int 0, .ref lC, .ref aM, .ref aP, .int 0, .int 0, .int 0, .int (-1), .int (-1), .int 0, .int 0, .long sm])), (lJ, .inr (2, [.int 0, .ref eT, .int 0])), (lC, .inr (2, [.int 0, .ref eT, .int 0]))] sz) [(h0, .inr (8, [.int 0, .ref lH, .ref lB, .ref lJ, .ref aR, .ref aL, .int 0, .int 0, .int 0, .ref lC, .ref aM, .ref aP, .int 0, .int 0, .int 0, .int (-1), .int (-1), .int 0, .int 0, .long sm]))]) (va_A [(h0, .inr (8, [.int 0, .ref lH, .ref lB, .ref lJ, .ref aR, .ref aL, .int 0, .int 0, .int 0, .ref lC, .ref aM, .ref aP, .int 0, .int 0, .int 0, .int (-1), .int (-1), .int 0, .int 0, .long sm])), (lJ, .inr (2, [.int 0, .ref eT, .int 0])), (lC, .inr (2, [.int 0, .ref eT, .int 0]))] sz)) 4 30 (va_A [(h0, .inr (8, [.int 0, .ref lH, .ref lB, .ref lJ, .ref aR, .ref aL, .int 0, .int 0, .int 0, .ref lC, .ref aM, .ref aP, .int 0, .int 0, .int 0, .int (-1), .int (-1), .int 0, .int 0, .long sm])), (lJ, .inr (2, [.int 0, .ref eT, .int 0])), (lC, .inr (2, [.int 0, .ref eT, .int 0]))] sz) := by
  refine Met.ofW (cc := cX5_judge) (maxL := 5) (ret := (some .int)) (by decide +kernel) rfl ?_
  intro p e s m args below meth c s₁ B hml hv
  obtain ⟨rfl, hsz, hP, hK, hD0, hE⟩ := hv
  have hx := B.exec
  have hb := B.bytes
  have hr := B.returns
  have hts := atoms_spec (ws := wsX5_judge) B.pre
  have hown : s.vm.findClass RX5 = some m.cls := findClass_of_methodNamed B.named
  have hlocks := B.notSynchronized
  subst hsz
  have hD := hD0.self (sz := s.heap.size)
  generalize hAe : va_A [(h0, .inr (8, [.int 0, .ref lH, .ref lB, .ref lJ, .ref aR, .ref aL, .int 0, .int 0, .int 0, .ref lC, .ref aM, .ref aP, .int 0, .int 0, .int 0, .int (-1), .int (-1), .int 0, .int 0, .long sm])), (lJ, .inr (2, [.int 0, .ref eT, .int 0])), (lC, .inr (2, [.int 0, .ref eT, .int 0]))] s.heap.size = A at hD hE ⊢
  have hA : ∀ q : Nat, s.heap.size ≤ q → A q := fun q h => by rw [← hAe]; exact Or.inr h
  have hS : va_S A s.heap s.heap [] := va_S.rf
  have hP : va_P D vwCl [(h0, .inr (8, [.int 0, .ref lH, .ref lB, .ref lJ, .ref aR, .ref aL, .int 0, .int 0, .int 0, .ref lC, .ref aM, .ref aP, .int 0, .int 0, .int 0, .int (-1), .int (-1), .int 0, .int 0, .long sm])), (lJ, .inr (2, [.int 0, .ref eT, .int 0])), (lC, .inr (2, [.int 0, .ref eT, .int 0]))] s.heap := hP
  have hl := lv_entry ([.ref h0, .int p0, .int p1, .int p2]) (n := 5) (Nat.le_of_ble_eq_true rfl)
  rw [lg_entry_eq]
  generalize (lg_sl ([.ref h0, .int p0, .int p1, .int p2]) ++ List.replicate (5 - (lg_sl ([.ref h0, .int p0, .int p1, .int p2])).length) Slot.unset).toArray = ls at hl ⊢
  have hl : lv_has ls 5 [(0, .ref h0), (1, .int p0), (2, .int p1), (3, .int p2)] := hl
  refine lv_aload_n hx hb dX5_judge_0 rfl (lv_at hl 0 rfl) ?_
  refine lv_iconst (v := 0) hx hb dX5_judge_1 (by decide) ?_
  refine va_put (D := D) (ci := 8) (v := .int 0) (C := RX5) (T := TX5) (N := 20) hx hb hts (by decide +kernel) tyX5 tyX5_ok nmX5 hown hK hP hD hS 0 rfl rfl 0 (by decide) (hts (.fieldLink RX5 50 "PrizeHouseModel" "thrown" "I") (by decide +kernel)) (fun _ h9 => h9) rfl (tyX5_ok 0 (by decide)) rfl rfl (Nat.le_of_ble_eq_true rfl) dX5_judge_2 (fun H locs hP hD hS => ?_)
  have hP : va_P D vwCl [(h0, .inr (8, [.int 0, .ref lH, .ref lB, .ref lJ, .ref aR, .ref aL, .int 0, .int 0, .int 0, .ref lC, .ref aM, .ref aP, .int 0, .int 0, .int 0, .int (-1), .int (-1), .int 0, .int 0, .long sm])), (lJ, .inr (2, [.int 0, .ref eT, .int 0])), (lC, .inr (2, [.int 0, .ref eT, .int 0]))] H := hP
  have hD : va_D A [(h0, .inr (8, [.int 0, .ref lH, .ref lB, .ref lJ, .ref aR, .ref aL, .int 0, .int 0, .int 0, .ref lC, .ref aM, .ref aP, .int 0, .int 0, .int 0, .int (-1), .int (-1), .int 0, .int 0, .long sm])), (lJ, .inr (2, [.int 0, .ref eT, .int 0])), (lC, .inr (2, [.int 0, .ref eT, .int 0]))] := hD
  refine lv_iload_n hx hb dX5_judge_5 rfl (lv_at hl 1 rfl) ?_
  refine lv_bipush (v := 20) hx hb dX5_judge_6 (by decide) ?_
  refine lv_sipush (v := 200) hx hb dX5_judge_8 (by decide) ?_
  have hPc := hP.sub (ws' := []) [] rfl
  have hKc := hK.sub (tys' := []) [] rfl
  refine va_calli (va_runS (As := [.int p0, .int 20, .int 200]) (rest := []) ⟨hx, hb, hml, hown, hts⟩ (k_is_t l D eT p0 20 200 H.size a1 a2) (va_cwS 3 hts gX5_judge_X5_is rfl rfl rfl (by decide +kernel) ⟨Nat.le_of_ble_eq_true rfl, Nat.le_of_ble_eq_true rfl⟩) (pr_s hPc hKc hE hS hA) rfl rfl hl.1 rfl (lv_room (Nat.le_of_ble_eq_true rfl)) dX5_judge_11 ⟨Nat.le_of_ble_eq_true rfl, Nat.le_of_ble_eq_true rfl⟩) hS (fun q h1 h2 => ro_A h1 h2) (fun q h => ro_F hS hA q h) (fun r u t H1 locs ht hvm hw hB hz1 hk1 hS => ?_)
  have hw : r = 1 := hw
  rw [hw]
  have hP := ro_P hP hk1
  generalize H1 = H at hP hS ⊢
  refine lv_if_eq (tgt := 38) hx hb dX5_judge_14 (by decide) (fun h => absurd h (by decide)) (fun _ => ?_)
  refine lv_iload_n hx hb dX5_judge_17 rfl (lv_at hl 2 rfl) ?_
  refine lv_iconst (v := 0) hx hb dX5_judge_18 (by decide) ?_
  refine lv_bipush (v := 9) hx hb dX5_judge_19 (by decide) ?_
  have hPc := hP.sub (ws' := []) [] rfl
  have hKc := hK.sub (tys' := []) [] rfl
  refine va_calli (va_runS (As := [.int p1, .int 0, .int 9]) (rest := []) ⟨hx, hb, hml, hown, hts⟩ (k_is_t l D eT p1 0 9 H.size b1 b2) (va_cwS 3 hts gX5_judge_X5_is rfl rfl rfl (by decide +kernel) ⟨Nat.le_of_ble_eq_true rfl, Nat.le_of_ble_eq_true rfl⟩) (pr_s hPc hKc hE hS hA) rfl rfl hl.1 rfl (lv_room (Nat.le_of_ble_eq_true rfl)) dX5_judge_21 ⟨Nat.le_of_ble_eq_true rfl, Nat.le_of_ble_eq_true rfl⟩) hS (fun q h1 h2 => ro_A h1 h2) (fun q h => ro_F hS hA q h) (fun r u t H1 locs ht hvm hw hB hz1 hk1 hS => ?_)
  have hw : r = 1 := hw
  rw [hw]
  have hP := ro_P hP hk1
  generalize H1 = H at hP hS ⊢
  refine lv_if_eq (tgt := 38) hx hb dX5_judge_24 (by decide) (fun h => absurd h (by decide)) (fun _ => ?_)
  refine lv_iload_n hx hb dX5_judge_27 rfl (lv_at hl 3 rfl) ?_
  refine lv_bipush (v := (-10)) hx hb dX5_judge_28 (by decide) ?_
  refine lv_bipush (v := 10) hx hb dX5_judge_30 (by decide) ?_
  have hPc := hP.sub (ws' := []) [] rfl
  have hKc := hK.sub (tys' := []) [] rfl
  refine va_calli (va_runS (As := [.int p2, .int (-10), .int 10]) (rest := []) ⟨hx, hb, hml, hown, hts⟩ (k_is_t l D eT p2 (-10) 10 H.size d1 d2) (va_cwS 3 hts gX5_judge_X5_is rfl rfl rfl (by decide +kernel) ⟨Nat.le_of_ble_eq_true rfl, Nat.le_of_ble_eq_true rfl⟩) (pr_s hPc hKc hE hS hA) rfl rfl hl.1 rfl (lv_room (Nat.le_of_ble_eq_true rfl)) dX5_judge_32 ⟨Nat.le_of_ble_eq_true rfl, Nat.le_of_ble_eq_true rfl⟩) hS (fun q h1 h2 => ro_A h1 h2) (fun q h => ro_F hS hA q h) (fun r u t H1 locs ht hvm hw hB hz1 hk1 hS => ?_)
  have hw : r = 1 := hw
  rw [hw]
  have hP := ro_P hP hk1
  generalize H1 = H at hP hS ⊢
  refine lv_if_ne (tgt := 44) hx hb dX5_judge_35 (by decide) (fun _ => ?_) (fun h => absurd h (by decide))
  refine lv_aload_n hx hb dX5_judge_44 rfl (lv_at hl 0 rfl) ?_
  refine va_get (D := D) (ci := 8) (v := .ref lJ) (C := RX5) (T := TX5) (N := 20) hx hb hts (by decide +kernel) hown hK hP 0 rfl rfl 3 (by decide) (hts (.fieldLink RX5 19 "PrizeHouseModel" "judges" "Ljava/util/ArrayList;") (by decide +kernel)) (fun _ h9 => h9) rfl dX5_judge_45 ?_
  have hPc := hP.sub (ws' := [(lJ, .inr (2, [.int 0, .ref eT, .int 0]))]) [1] rfl
  have hKc := hK.sub (tys' := []) [] rfl
  refine va_calli (va_runV (As := []) (rest := []) ⟨hx, hb, hml, hown, hts⟩ (k_size l D eT lJ eT 0 0 H.size ) (cwV 0 hts gX5_judge_Jx4a65c_size_8abf5 rfl rfl rfl (by decide +kernel) ⟨Nat.le_of_ble_eq_true rfl, Nat.le_of_ble_eq_true rfl⟩) (pr_v (ci := 2) (q0 := 0) rfl rfl hPc hKc hE hS hA) rfl rfl hl.1 rfl (lv_room (Nat.le_of_ble_eq_true rfl)) dX5_judge_48 ⟨Nat.le_of_ble_eq_true rfl, Nat.le_of_ble_eq_true rfl⟩) hS (fun q h1 h2 => ro_A h1 h2) (fun q h => ro_F hS hA q h) (fun r u t H1 locs ht hvm hw hB hz1 hk1 hS => ?_)
  have hw : r = 0 := hw
  rw [hw]
  have hP := ro_P hP hk1
  generalize H1 = H at hP hS ⊢
  refine lv_iconst (v := 5) hx hb dX5_judge_51 (by decide) ?_
  refine lv_icmp_eq (tgt := 62) hx hb dX5_judge_52 (by decide) (fun h => absurd h (by decide)) (fun _ => ?_)
  refine lv_aload_n hx hb dX5_judge_55 rfl (lv_at hl 0 rfl) ?_
  refine va_get (D := D) (ci := 8) (v := .int 0) (C := RX5) (T := TX5) (N := 20) hx hb hts (by decide +kernel) hown hK hP 0 rfl rfl 7 (by decide) (hts (.fieldLink RX5 101 "PrizeHouseModel" "phase" "I") (by decide +kernel)) (fun _ h9 => h9) rfl dX5_judge_56 ?_
  refine lv_if_eq (tgt := 68) hx hb dX5_judge_59 (by decide) (fun _ => ?_) (fun h => absurd (by decide) h)
  refine lv_bipush (v := 7) hx hb dX5_judge_68 (by decide) ?_
  refine va_newa (atype := .int) (ty := .int) (N' := 7) (a0 := (7, (.inl (fun _ => 0)))) hx hb (hts (.arrayClass .int) (by decide +kernel)) rfl hK hP hD hS hA (fun _ => rfl) (by decide) (by decide) (Nat.le_of_ble_eq_true rfl) (Nat.le_of_ble_eq_true rfl) (Nat.le_of_ble_eq_true rfl) dX5_judge_70 (fun q_1 cA_2 H hK hP hD hS => ?_)
  have hK : va_K D vwCl [(cA_2, .int)] s := hK
  have hP : va_P D vwCl [(h0, .inr (8, [.int 0, .ref lH, .ref lB, .ref lJ, .ref aR, .ref aL, .int 0, .int 0, .int 0, .ref lC, .ref aM, .ref aP, .int 0, .int 0, .int 0, .int (-1), .int (-1), .int 0, .int 0, .long sm])), (lJ, .inr (2, [.int 0, .ref eT, .int 0])), (lC, .inr (2, [.int 0, .ref eT, .int 0])), (q_1, .inl (cA_2, 7, .inl (fun _ => 0)))] H := hP
  have hD : va_D A [(h0, .inr (8, [.int 0, .ref lH, .ref lB, .ref lJ, .ref aR, .ref aL, .int 0, .int 0, .int 0, .ref lC, .ref aM, .ref aP, .int 0, .int 0, .int 0, .int (-1), .int (-1), .int 0, .int 0, .long sm])), (lJ, .inr (2, [.int 0, .ref eT, .int 0])), (lC, .inr (2, [.int 0, .ref eT, .int 0])), (q_1, .inl (cA_2, 7, .inl (fun _ => 0)))] := hD
  refine W.widen (k := 1) (n := 7) (Nat.le_of_ble_eq_true rfl) (Nat.le_of_ble_eq_true rfl) ?_
  refine lv_dup hx hb dX5_judge_72 rfl ?_
  refine lv_iconst (v := 0) hx hb dX5_judge_73 (by decide) ?_
  refine lv_iload_n hx hb dX5_judge_74 rfl (lv_at hl 1 rfl) ?_
  refine va_iast hx hb hK hP hD hS 3 0 rfl rfl (by unfold vp_in; decide +kernel) dX5_judge_75 (fun H locs hP hD hS => ?_)
  have hP : va_P D vwCl [(h0, .inr (8, [.int 0, .ref lH, .ref lB, .ref lJ, .ref aR, .ref aL, .int 0, .int 0, .int 0, .ref lC, .ref aM, .ref aP, .int 0, .int 0, .int 0, .int (-1), .int (-1), .int 0, .int 0, .long sm])), (lJ, .inr (2, [.int 0, .ref eT, .int 0])), (lC, .inr (2, [.int 0, .ref eT, .int 0])), (q_1, .inl (cA_2, 7, .inl (upd (fun _ => 0) (Int32.toNatClampNeg 0) p0)))] H := hP
  have hD : va_D A [(h0, .inr (8, [.int 0, .ref lH, .ref lB, .ref lJ, .ref aR, .ref aL, .int 0, .int 0, .int 0, .ref lC, .ref aM, .ref aP, .int 0, .int 0, .int 0, .int (-1), .int (-1), .int 0, .int 0, .long sm])), (lJ, .inr (2, [.int 0, .ref eT, .int 0])), (lC, .inr (2, [.int 0, .ref eT, .int 0])), (q_1, .inl (cA_2, 7, .inl (upd (fun _ => 0) (Int32.toNatClampNeg 0) p0)))] := hD
  refine lv_dup hx hb dX5_judge_76 rfl ?_
  refine lv_iconst (v := 1) hx hb dX5_judge_77 (by decide) ?_
  refine lv_iload_n hx hb dX5_judge_78 rfl (lv_at hl 2 rfl) ?_
  refine va_iast hx hb hK hP hD hS 3 0 rfl rfl (by unfold vp_in; decide +kernel) dX5_judge_79 (fun H locs hP hD hS => ?_)
  have hP : va_P D vwCl [(h0, .inr (8, [.int 0, .ref lH, .ref lB, .ref lJ, .ref aR, .ref aL, .int 0, .int 0, .int 0, .ref lC, .ref aM, .ref aP, .int 0, .int 0, .int 0, .int (-1), .int (-1), .int 0, .int 0, .long sm])), (lJ, .inr (2, [.int 0, .ref eT, .int 0])), (lC, .inr (2, [.int 0, .ref eT, .int 0])), (q_1, .inl (cA_2, 7, .inl (upd (upd (fun _ => 0) (Int32.toNatClampNeg 0) p0) (Int32.toNatClampNeg 1) p1)))] H := hP
  have hD : va_D A [(h0, .inr (8, [.int 0, .ref lH, .ref lB, .ref lJ, .ref aR, .ref aL, .int 0, .int 0, .int 0, .ref lC, .ref aM, .ref aP, .int 0, .int 0, .int 0, .int (-1), .int (-1), .int 0, .int 0, .long sm])), (lJ, .inr (2, [.int 0, .ref eT, .int 0])), (lC, .inr (2, [.int 0, .ref eT, .int 0])), (q_1, .inl (cA_2, 7, .inl (upd (upd (fun _ => 0) (Int32.toNatClampNeg 0) p0) (Int32.toNatClampNeg 1) p1)))] := hD
  refine lv_dup hx hb dX5_judge_80 rfl ?_
  refine lv_iconst (v := 2) hx hb dX5_judge_81 (by decide) ?_
  refine lv_iload_n hx hb dX5_judge_82 rfl (lv_at hl 3 rfl) ?_
  refine va_iast hx hb hK hP hD hS 3 0 rfl rfl (by unfold vp_in; decide +kernel) dX5_judge_83 (fun H locs hP hD hS => ?_)
  have hP : va_P D vwCl [(h0, .inr (8, [.int 0, .ref lH, .ref lB, .ref lJ, .ref aR, .ref aL, .int 0, .int 0, .int 0, .ref lC, .ref aM, .ref aP, .int 0, .int 0, .int 0, .int (-1), .int (-1), .int 0, .int 0, .long sm])), (lJ, .inr (2, [.int 0, .ref eT, .int 0])), (lC, .inr (2, [.int 0, .ref eT, .int 0])), (q_1, .inl (cA_2, 7, .inl (upd (upd (upd (fun _ => 0) (Int32.toNatClampNeg 0) p0) (Int32.toNatClampNeg 1) p1) (Int32.toNatClampNeg 2) p2)))] H := hP
  have hD : va_D A [(h0, .inr (8, [.int 0, .ref lH, .ref lB, .ref lJ, .ref aR, .ref aL, .int 0, .int 0, .int 0, .ref lC, .ref aM, .ref aP, .int 0, .int 0, .int 0, .int (-1), .int (-1), .int 0, .int 0, .long sm])), (lJ, .inr (2, [.int 0, .ref eT, .int 0])), (lC, .inr (2, [.int 0, .ref eT, .int 0])), (q_1, .inl (cA_2, 7, .inl (upd (upd (upd (fun _ => 0) (Int32.toNatClampNeg 0) p0) (Int32.toNatClampNeg 1) p1) (Int32.toNatClampNeg 2) p2)))] := hD
  refine lv_dup hx hb dX5_judge_84 rfl ?_
  refine lv_iconst (v := 3) hx hb dX5_judge_85 (by decide) ?_
  refine lv_iconst (v := 0) hx hb dX5_judge_86 (by decide) ?_
  refine va_iast hx hb hK hP hD hS 3 0 rfl rfl (by unfold vp_in; decide +kernel) dX5_judge_87 (fun H locs hP hD hS => ?_)
  have hP : va_P D vwCl [(h0, .inr (8, [.int 0, .ref lH, .ref lB, .ref lJ, .ref aR, .ref aL, .int 0, .int 0, .int 0, .ref lC, .ref aM, .ref aP, .int 0, .int 0, .int 0, .int (-1), .int (-1), .int 0, .int 0, .long sm])), (lJ, .inr (2, [.int 0, .ref eT, .int 0])), (lC, .inr (2, [.int 0, .ref eT, .int 0])), (q_1, .inl (cA_2, 7, .inl (upd (upd (upd (upd (fun _ => 0) (Int32.toNatClampNeg 0) p0) (Int32.toNatClampNeg 1) p1) (Int32.toNatClampNeg 2) p2) (Int32.toNatClampNeg 3) 0)))] H := hP
  have hD : va_D A [(h0, .inr (8, [.int 0, .ref lH, .ref lB, .ref lJ, .ref aR, .ref aL, .int 0, .int 0, .int 0, .ref lC, .ref aM, .ref aP, .int 0, .int 0, .int 0, .int (-1), .int (-1), .int 0, .int 0, .long sm])), (lJ, .inr (2, [.int 0, .ref eT, .int 0])), (lC, .inr (2, [.int 0, .ref eT, .int 0])), (q_1, .inl (cA_2, 7, .inl (upd (upd (upd (upd (fun _ => 0) (Int32.toNatClampNeg 0) p0) (Int32.toNatClampNeg 1) p1) (Int32.toNatClampNeg 2) p2) (Int32.toNatClampNeg 3) 0)))] := hD
  refine lv_dup hx hb dX5_judge_88 rfl ?_
  refine lv_iconst (v := 4) hx hb dX5_judge_89 (by decide) ?_
  refine lv_iconst (v := 0) hx hb dX5_judge_90 (by decide) ?_
  refine va_iast hx hb hK hP hD hS 3 0 rfl rfl (by unfold vp_in; decide +kernel) dX5_judge_91 (fun H locs hP hD hS => ?_)
  have hP : va_P D vwCl [(h0, .inr (8, [.int 0, .ref lH, .ref lB, .ref lJ, .ref aR, .ref aL, .int 0, .int 0, .int 0, .ref lC, .ref aM, .ref aP, .int 0, .int 0, .int 0, .int (-1), .int (-1), .int 0, .int 0, .long sm])), (lJ, .inr (2, [.int 0, .ref eT, .int 0])), (lC, .inr (2, [.int 0, .ref eT, .int 0])), (q_1, .inl (cA_2, 7, .inl (upd (upd (upd (upd (upd (fun _ => 0) (Int32.toNatClampNeg 0) p0) (Int32.toNatClampNeg 1) p1) (Int32.toNatClampNeg 2) p2) (Int32.toNatClampNeg 3) 0) (Int32.toNatClampNeg 4) 0)))] H := hP
  have hD : va_D A [(h0, .inr (8, [.int 0, .ref lH, .ref lB, .ref lJ, .ref aR, .ref aL, .int 0, .int 0, .int 0, .ref lC, .ref aM, .ref aP, .int 0, .int 0, .int 0, .int (-1), .int (-1), .int 0, .int 0, .long sm])), (lJ, .inr (2, [.int 0, .ref eT, .int 0])), (lC, .inr (2, [.int 0, .ref eT, .int 0])), (q_1, .inl (cA_2, 7, .inl (upd (upd (upd (upd (upd (fun _ => 0) (Int32.toNatClampNeg 0) p0) (Int32.toNatClampNeg 1) p1) (Int32.toNatClampNeg 2) p2) (Int32.toNatClampNeg 3) 0) (Int32.toNatClampNeg 4) 0)))] := hD
  refine lv_dup hx hb dX5_judge_92 rfl ?_
  refine lv_iconst (v := 5) hx hb dX5_judge_93 (by decide) ?_
  refine lv_iconst (v := 0) hx hb dX5_judge_94 (by decide) ?_
  refine va_iast hx hb hK hP hD hS 3 0 rfl rfl (by unfold vp_in; decide +kernel) dX5_judge_95 (fun H locs hP hD hS => ?_)
  have hP : va_P D vwCl [(h0, .inr (8, [.int 0, .ref lH, .ref lB, .ref lJ, .ref aR, .ref aL, .int 0, .int 0, .int 0, .ref lC, .ref aM, .ref aP, .int 0, .int 0, .int 0, .int (-1), .int (-1), .int 0, .int 0, .long sm])), (lJ, .inr (2, [.int 0, .ref eT, .int 0])), (lC, .inr (2, [.int 0, .ref eT, .int 0])), (q_1, .inl (cA_2, 7, .inl (upd (upd (upd (upd (upd (upd (fun _ => 0) (Int32.toNatClampNeg 0) p0) (Int32.toNatClampNeg 1) p1) (Int32.toNatClampNeg 2) p2) (Int32.toNatClampNeg 3) 0) (Int32.toNatClampNeg 4) 0) (Int32.toNatClampNeg 5) 0)))] H := hP
  have hD : va_D A [(h0, .inr (8, [.int 0, .ref lH, .ref lB, .ref lJ, .ref aR, .ref aL, .int 0, .int 0, .int 0, .ref lC, .ref aM, .ref aP, .int 0, .int 0, .int 0, .int (-1), .int (-1), .int 0, .int 0, .long sm])), (lJ, .inr (2, [.int 0, .ref eT, .int 0])), (lC, .inr (2, [.int 0, .ref eT, .int 0])), (q_1, .inl (cA_2, 7, .inl (upd (upd (upd (upd (upd (upd (fun _ => 0) (Int32.toNatClampNeg 0) p0) (Int32.toNatClampNeg 1) p1) (Int32.toNatClampNeg 2) p2) (Int32.toNatClampNeg 3) 0) (Int32.toNatClampNeg 4) 0) (Int32.toNatClampNeg 5) 0)))] := hD
  refine lv_dup hx hb dX5_judge_96 rfl ?_
  refine lv_bipush (v := 6) hx hb dX5_judge_97 (by decide) ?_
  refine lv_iconst (v := 0) hx hb dX5_judge_99 (by decide) ?_
  refine va_iast hx hb hK hP hD hS 3 0 rfl rfl (by unfold vp_in; decide +kernel) dX5_judge_100 (fun H locs hP hD hS => ?_)
  have hP : va_P D vwCl [(h0, .inr (8, [.int 0, .ref lH, .ref lB, .ref lJ, .ref aR, .ref aL, .int 0, .int 0, .int 0, .ref lC, .ref aM, .ref aP, .int 0, .int 0, .int 0, .int (-1), .int (-1), .int 0, .int 0, .long sm])), (lJ, .inr (2, [.int 0, .ref eT, .int 0])), (lC, .inr (2, [.int 0, .ref eT, .int 0])), (q_1, .inl (cA_2, 7, .inl (upd (upd (upd (upd (upd (upd (upd (fun _ => 0) (Int32.toNatClampNeg 0) p0) (Int32.toNatClampNeg 1) p1) (Int32.toNatClampNeg 2) p2) (Int32.toNatClampNeg 3) 0) (Int32.toNatClampNeg 4) 0) (Int32.toNatClampNeg 5) 0) (Int32.toNatClampNeg 6) 0)))] H := hP
  have hD : va_D A [(h0, .inr (8, [.int 0, .ref lH, .ref lB, .ref lJ, .ref aR, .ref aL, .int 0, .int 0, .int 0, .ref lC, .ref aM, .ref aP, .int 0, .int 0, .int 0, .int (-1), .int (-1), .int 0, .int 0, .long sm])), (lJ, .inr (2, [.int 0, .ref eT, .int 0])), (lC, .inr (2, [.int 0, .ref eT, .int 0])), (q_1, .inl (cA_2, 7, .inl (upd (upd (upd (upd (upd (upd (upd (fun _ => 0) (Int32.toNatClampNeg 0) p0) (Int32.toNatClampNeg 1) p1) (Int32.toNatClampNeg 2) p2) (Int32.toNatClampNeg 3) 0) (Int32.toNatClampNeg 4) 0) (Int32.toNatClampNeg 5) 0) (Int32.toNatClampNeg 6) 0)))] := hD
  refine lv_astore (lv' := [(4, .ref q_1), (0, .ref h0), (1, .int p0), (2, .int p1), (3, .int p2)]) hx hb dX5_judge_101 hl (by decide) rfl (fun ls hl => ?_)
  refine lv_aload_n hx hb dX5_judge_103 rfl (lv_at hl 1 rfl) ?_
  refine va_get (D := D) (ci := 8) (v := .ref lJ) (C := RX5) (T := TX5) (N := 20) hx hb hts (by decide +kernel) hown hK hP 0 rfl rfl 3 (by decide) (hts (.fieldLink RX5 19 "PrizeHouseModel" "judges" "Ljava/util/ArrayList;") (by decide +kernel)) (fun _ h9 => h9) rfl dX5_judge_104 ?_
  refine lv_aload hx hb dX5_judge_107 (lv_at hl 0 rfl) ?_
  have hPc := hP.sub (ws' := [(lJ, .inr (2, [.int 0, .ref eT, .int 0])), (q_1, .inl (cA_2, 7, .inl (upd (upd (upd (upd (upd (upd (upd (fun _ => 0) (Int32.toNatClampNeg 0) p0) (Int32.toNatClampNeg 1) p1) (Int32.toNatClampNeg 2) p2) (Int32.toNatClampNeg 3) 0) (Int32.toNatClampNeg 4) 0) (Int32.toNatClampNeg 5) 0) (Int32.toNatClampNeg 6) 0)))]) [1, 3] rfl
  have hKc := hK.sub (tys' := [(cA_2, .int)]) [0] rfl
  have hDc := hD.sub (ws' := [(lJ, .inr (2, [.int 0, .ref eT, .int 0])), (q_1, .inl (cA_2, 7, .inl (upd (upd (upd (upd (upd (upd (upd (fun _ => 0) (Int32.toNatClampNeg 0) p0) (Int32.toNatClampNeg 1) p1) (Int32.toNatClampNeg 2) p2) (Int32.toNatClampNeg 3) 0) (Int32.toNatClampNeg 4) 0) (Int32.toNatClampNeg 5) 0) (Int32.toNatClampNeg 6) 0)))]) [1, 3] (by decide) rfl
  have hFc := va_free (wc := [(lJ, .inr (2, [.int 0, .ref eT, .int 0])), (q_1, .inl (cA_2, 7, .inl (upd (upd (upd (upd (upd (upd (upd (fun _ => 0) (Int32.toNatClampNeg 0) p0) (Int32.toNatClampNeg 1) p1) (Int32.toNatClampNeg 2) p2) (Int32.toNatClampNeg 3) 0) (Int32.toNatClampNeg 4) 0) (Int32.toNatClampNeg 5) 0) (Int32.toNatClampNeg 6) 0)))]) hD hS hA [1, 3] rfl
  refine va_calli (va_runV (As := [.ref q_1]) (rest := []) ⟨hx, hb, hml, hown, hts⟩ (j_add_r l D eT lJ q_1 cA_2 7 (upd (upd (upd (upd (upd (upd (upd (fun _ => 0) (Int32.toNatClampNeg 0) p0) (Int32.toNatClampNeg 1) p1) (Int32.toNatClampNeg 2) p2) (Int32.toNatClampNeg 3) 0) (Int32.toNatClampNeg 4) 0) (Int32.toNatClampNeg 5) 0) (Int32.toNatClampNeg 6) 0) H.size ) (cwV 1 hts gX5_judge_Jx4a65c_add_9ea2d rfl rfl rfl (by decide +kernel) ⟨Nat.le_of_ble_eq_true rfl, Nat.le_of_ble_eq_true rfl⟩) (pc_v (ci := 2) (q0 := 0) rfl rfl hPc hDc hKc hE hS hFc) rfl rfl hl.1 rfl (lv_room (Nat.le_of_ble_eq_true rfl)) dX5_judge_109 ⟨Nat.le_of_ble_eq_true rfl, Nat.le_of_ble_eq_true rfl⟩) hS (fun q _ h => hFc q h) hFc (fun r u t H1 locs ht hvm hw hB hz1 hk1 hS => ?_)
  have hw : r = 1 := hw
  rw [hw]
  obtain ⟨ed_3, hP1, hK1, hD1⟩ := hB
  rw [ht] at hP1
  have hK1 := va_K.moved hvm.symm hK1
  obtain ⟨hP, hD⟩ := va_join (wr := [(h0, .inr (8, [.int 0, .ref lH, .ref lB, .ref lJ, .ref aR, .ref aL, .int 0, .int 0, .int 0, .ref lC, .ref aM, .ref aP, .int 0, .int 0, .int 0, .int (-1), .int (-1), .int 0, .int 0, .long sm])), (lC, .inr (2, [.int 0, .ref eT, .int 0]))]) (w1 := [(lJ, .inr (2, [.int 1, .ref ed_3, .int 1]))]) hP hD [1, 3] [0, 2] rfl rfl (by decide) (by decide) hk1 hFc hP1 hD1
  generalize H1 = H at hP hS ⊢
  have hP : va_P D vwCl [(h0, .inr (8, [.int 0, .ref lH, .ref lB, .ref lJ, .ref aR, .ref aL, .int 0, .int 0, .int 0, .ref lC, .ref aM, .ref aP, .int 0, .int 0, .int 0, .int (-1), .int (-1), .int 0, .int 0, .long sm])), (lC, .inr (2, [.int 0, .ref eT, .int 0])), (lJ, .inr (2, [.int 1, .ref ed_3, .int 1]))] H := hP
  have hD : va_D A [(h0, .inr (8, [.int 0, .ref lH, .ref lB, .ref lJ, .ref aR, .ref aL, .int 0, .int 0, .int 0, .ref lC, .ref aM, .ref aP, .int 0, .int 0, .int 0, .int (-1), .int (-1), .int 0, .int 0, .long sm])), (lC, .inr (2, [.int 0, .ref eT, .int 0])), (lJ, .inr (2, [.int 1, .ref ed_3, .int 1]))] := hD
  refine W.widen (k := 2) (n := 17) (Nat.le_of_ble_eq_true rfl) (Nat.le_of_ble_eq_true rfl) ?_
  refine lv_pop hx hb dX5_judge_112 rfl ?_
  refine lv_aload_n hx hb dX5_judge_113 rfl (lv_at hl 1 rfl) ?_
  refine va_get (D := D) (ci := 8) (v := .ref lC) (C := RX5) (T := TX5) (N := 20) hx hb hts (by decide +kernel) hown hK hP 0 rfl rfl 9 (by decide) (hts (.fieldLink RX5 29 "PrizeHouseModel" "crates" "Ljava/util/ArrayList;") (by decide +kernel)) (fun _ h9 => h9) rfl dX5_judge_114 ?_
  refine va_new (ci := 2) (fs := [.int 0, .null, .int 0]) (C := RJx4a65c) (T := TJx4a65c) (N := 3) hx hb hts (by decide +kernel) tyJx4a65c tyJx4a65c_ok hown (hts (.classLink RX5 7 RJx4a65c) (by decide +kernel)) (hts (.instantiable RJx4a65c 3) (by decide +kernel)) (hts (.initialized RJx4a65c) (by decide +kernel)) hK hP hD hS hA rfl (fun j hj => by rcases (show j = 0 ∨ j = 1 ∨ j = 2 by omega) with rfl | rfl | rfl <;> rfl) (Nat.le_of_ble_eq_true rfl) (Nat.le_of_ble_eq_true rfl) dX5_judge_117 (fun q_4 H hP hD hS => ?_)
  have hP : va_P D vwCl [(h0, .inr (8, [.int 0, .ref lH, .ref lB, .ref lJ, .ref aR, .ref aL, .int 0, .int 0, .int 0, .ref lC, .ref aM, .ref aP, .int 0, .int 0, .int 0, .int (-1), .int (-1), .int 0, .int 0, .long sm])), (lC, .inr (2, [.int 0, .ref eT, .int 0])), (lJ, .inr (2, [.int 1, .ref ed_3, .int 1])), (q_4, .inr (2, [.int 0, .null, .int 0]))] H := hP
  have hD : va_D A [(h0, .inr (8, [.int 0, .ref lH, .ref lB, .ref lJ, .ref aR, .ref aL, .int 0, .int 0, .int 0, .ref lC, .ref aM, .ref aP, .int 0, .int 0, .int 0, .int (-1), .int (-1), .int 0, .int 0, .long sm])), (lC, .inr (2, [.int 0, .ref eT, .int 0])), (lJ, .inr (2, [.int 1, .ref ed_3, .int 1])), (q_4, .inr (2, [.int 0, .null, .int 0]))] := hD
  refine W.widen (k := 3) (n := 20) (Nat.le_of_ble_eq_true rfl) (Nat.le_of_ble_eq_true rfl) ?_
  refine lv_dup hx hb dX5_judge_120 rfl ?_
  have hPc := hP.sub (ws' := [(q_4, .inr (2, [.int 0, .null, .int 0]))]) [3] rfl
  have hKc := hK.sub (tys' := []) [] rfl
  have hDc := hD.sub (ws' := [(q_4, .inr (2, [.int 0, .null, .int 0]))]) [3] (by decide) rfl
  have hFc := va_free (wc := [(q_4, .inr (2, [.int 0, .null, .int 0]))]) hD hS hA [3] rfl
  refine va_callv (va_runI (As := []) (rest := [.ref q_4, .ref lC]) ⟨hx, hb, hml, hown, hts⟩ (k_list l D eT q_4 H.size ) (cwI 0 hts gX5_judge_Jx4a65c_init_da8c8 rfl rfl rfl (hts (.initialized RJx4a65c) (by decide +kernel)) (hts (.methodLink RX5 9 yJx4a65c_init_da8c8) (by decide +kernel)) (hts (.instanceMethod yJx4a65c_init_da8c8) (by decide +kernel)) rfl (by decide +kernel) ⟨Nat.le_of_ble_eq_true rfl, Nat.le_of_ble_eq_true rfl⟩) (pc_s (As := [.ref q_4]) hPc hDc hKc hE hS hFc) rfl rfl hl.1 rfl (lv_room (Nat.le_of_ble_eq_true rfl)) dX5_judge_121 ⟨Nat.le_of_ble_eq_true rfl, Nat.le_of_ble_eq_true rfl⟩) hS (fun q _ h => hFc q h) hFc (fun u t H1 locs ht hvm hw hB hz1 hk1 hS => ?_)
  obtain ⟨hP1, hK1, hD1⟩ := hB
  rw [ht] at hP1
  have hK1 := va_K.moved hvm.symm hK1
  obtain ⟨hP, hD⟩ := va_join (wr := [(h0, .inr (8, [.int 0, .ref lH, .ref lB, .ref lJ, .ref aR, .ref aL, .int 0, .int 0, .int 0, .ref lC, .ref aM, .ref aP, .int 0, .int 0, .int 0, .int (-1), .int (-1), .int 0, .int 0, .long sm])), (lC, .inr (2, [.int 0, .ref eT, .int 0])), (lJ, .inr (2, [.int 1, .ref ed_3, .int 1]))]) (w1 := [(q_4, .inr (2, [.int 0, .ref eT, .int 0]))]) hP hD [3] [0, 1, 2] rfl rfl (by decide) (by decide) hk1 hFc hP1 hD1
  generalize H1 = H at hP hS ⊢
  have hP : va_P D vwCl [(h0, .inr (8, [.int 0, .ref lH, .ref lB, .ref lJ, .ref aR, .ref aL, .int 0, .int 0, .int 0, .ref lC, .ref aM, .ref aP, .int 0, .int 0, .int 0, .int (-1), .int (-1), .int 0, .int 0, .long sm])), (lC, .inr (2, [.int 0, .ref eT, .int 0])), (lJ, .inr (2, [.int 1, .ref ed_3, .int 1])), (q_4, .inr (2, [.int 0, .ref eT, .int 0]))] H := hP
  have hD : va_D A [(h0, .inr (8, [.int 0, .ref lH, .ref lB, .ref lJ, .ref aR, .ref aL, .int 0, .int 0, .int 0, .ref lC, .ref aM, .ref aP, .int 0, .int 0, .int 0, .int (-1), .int (-1), .int 0, .int 0, .long sm])), (lC, .inr (2, [.int 0, .ref eT, .int 0])), (lJ, .inr (2, [.int 1, .ref ed_3, .int 1])), (q_4, .inr (2, [.int 0, .ref eT, .int 0]))] := hD
  have hPc := hP.sub (ws' := [(lC, .inr (2, [.int 0, .ref eT, .int 0])), (q_4, .inr (2, [.int 0, .ref eT, .int 0]))]) [1, 3] rfl
  have hKc := hK.sub (tys' := []) [] rfl
  have hDc := hD.sub (ws' := [(lC, .inr (2, [.int 0, .ref eT, .int 0])), (q_4, .inr (2, [.int 0, .ref eT, .int 0]))]) [1, 3] (by decide) rfl
  have hFc := va_free (wc := [(lC, .inr (2, [.int 0, .ref eT, .int 0])), (q_4, .inr (2, [.int 0, .ref eT, .int 0]))]) hD hS hA [1, 3] rfl
  refine va_calli (va_runV (As := [.ref q_4]) (rest := []) ⟨hx, hb, hml, hown, hts⟩ (j_add_l l D eT lC q_4 H.size ) (cwV 1 hts gX5_judge_Jx4a65c_add_9ea2d rfl rfl rfl (by decide +kernel) ⟨Nat.le_of_ble_eq_true rfl, Nat.le_of_ble_eq_true rfl⟩) (pc_v (ci := 2) (q0 := 0) rfl rfl hPc hDc hKc hE hS hFc) rfl rfl hl.1 rfl (lv_room (Nat.le_of_ble_eq_true rfl)) dX5_judge_124 ⟨Nat.le_of_ble_eq_true rfl, Nat.le_of_ble_eq_true rfl⟩) hS (fun q _ h => hFc q h) hFc (fun r u t H1 locs ht hvm hw hB hz1 hk1 hS => ?_)
  have hw : r = 1 := hw
  rw [hw]
  obtain ⟨ed_5, hP1, hK1, hD1⟩ := hB
  rw [ht] at hP1
  have hK1 := va_K.moved hvm.symm hK1
  obtain ⟨hP, hD⟩ := va_join (wr := [(h0, .inr (8, [.int 0, .ref lH, .ref lB, .ref lJ, .ref aR, .ref aL, .int 0, .int 0, .int 0, .ref lC, .ref aM, .ref aP, .int 0, .int 0, .int 0, .int (-1), .int (-1), .int 0, .int 0, .long sm])), (lJ, .inr (2, [.int 1, .ref ed_3, .int 1]))]) (w1 := [(lC, .inr (2, [.int 1, .ref ed_5, .int 1]))]) hP hD [1, 3] [0, 2] rfl rfl (by decide) (by decide) hk1 hFc hP1 hD1
  generalize H1 = H at hP hS ⊢
  have hP : va_P D vwCl [(h0, .inr (8, [.int 0, .ref lH, .ref lB, .ref lJ, .ref aR, .ref aL, .int 0, .int 0, .int 0, .ref lC, .ref aM, .ref aP, .int 0, .int 0, .int 0, .int (-1), .int (-1), .int 0, .int 0, .long sm])), (lJ, .inr (2, [.int 1, .ref ed_3, .int 1])), (lC, .inr (2, [.int 1, .ref ed_5, .int 1]))] H := hP
  have hD : va_D A [(h0, .inr (8, [.int 0, .ref lH, .ref lB, .ref lJ, .ref aR, .ref aL, .int 0, .int 0, .int 0, .ref lC, .ref aM, .ref aP, .int 0, .int 0, .int 0, .int (-1), .int (-1), .int 0, .int 0, .long sm])), (lJ, .inr (2, [.int 1, .ref ed_3, .int 1])), (lC, .inr (2, [.int 1, .ref ed_5, .int 1]))] := hD
  refine W.widen (k := 4) (n := 30) (Nat.le_of_ble_eq_true rfl) (Nat.le_of_ble_eq_true rfl) ?_
  refine lv_pop hx hb dX5_judge_127 rfl ?_
  refine lv_aload_n hx hb dX5_judge_128 rfl (lv_at hl 1 rfl) ?_
  refine va_get (D := D) (ci := 8) (v := .ref lJ) (C := RX5) (T := TX5) (N := 20) hx hb hts (by decide +kernel) hown hK hP 0 rfl rfl 3 (by decide) (hts (.fieldLink RX5 19 "PrizeHouseModel" "judges" "Ljava/util/ArrayList;") (by decide +kernel)) (fun _ h9 => h9) rfl dX5_judge_129 ?_
  have hPc := hP.sub (ws' := [(lJ, .inr (2, [.int 1, .ref ed_3, .int 1]))]) [1] rfl
  have hKc := hK.sub (tys' := []) [] rfl
  refine va_calli (va_runV (As := []) (rest := []) ⟨hx, hb, hml, hown, hts⟩ (k_size l D eT lJ ed_3 1 1 H.size ) (cwV 0 hts gX5_judge_Jx4a65c_size_8abf5 rfl rfl rfl (by decide +kernel) ⟨Nat.le_of_ble_eq_true rfl, Nat.le_of_ble_eq_true rfl⟩) (pr_v (ci := 2) (q0 := 0) rfl rfl hPc hKc hE hS hA) rfl rfl hl.1 rfl (lv_room (Nat.le_of_ble_eq_true rfl)) dX5_judge_132 ⟨Nat.le_of_ble_eq_true rfl, Nat.le_of_ble_eq_true rfl⟩) hS (fun q h1 h2 => ro_A h1 h2) (fun q h => ro_F hS hA q h) (fun r u t H1 locs ht hvm hw hB hz1 hk1 hS => ?_)
  have hw : r = 1 := hw
  rw [hw]
  have hP := ro_P hP hk1
  generalize H1 = H at hP hS ⊢
  refine lv_iconst (v := 1) hx hb dX5_judge_135 (by decide) ?_
  refine lv_isub hx hb dX5_judge_136 ?_
  refine lv_topi (fun z_6 ez_6 => ?_)
  have ez_6 : z_6 = 0 := ez_6.trans (by decide +kernel)
  rw [ez_6]
  have hP9 := hP.sub (ws' := [(h0, .inr (8, [.int 0, .ref lH, .ref lB, .ref lJ, .ref aR, .ref aL, .int 0, .int 0, .int 0, .ref lC, .ref aM, .ref aP, .int 0, .int 0, .int 0, .int (-1), .int (-1), .int 0, .int 0, .long sm]))]) [0] rfl
  have hD9 := hD.sub (ws' := [(h0, .inr (8, [.int 0, .ref lH, .ref lB, .ref lJ, .ref aR, .ref aL, .int 0, .int 0, .int 0, .ref lC, .ref aM, .ref aP, .int 0, .int 0, .int 0, .int (-1), .int (-1), .int 0, .int 0, .long sm]))]) [0] (by decide) rfl
  have hK9 := hK.sub (tys' := []) [] rfl
  exact W.iret (v := 0) hx hb hr (fun t ht hW => ⟨⟨0, (), rfl, rfl, ⟨by rw [ht]; exact hP9, va_K.moved hW.alike hK9, hD9⟩⟩, hS.F ht⟩) hS.2.2 dX5_judge_137
set_option maxHeartbeats 4000000 in
set_option maxRecDepth 100000 in
theorem r_judge_f (l : Launch) (D : va_G) (eT : Nat) (h0 : Nat) (lH : Nat) (lB : Nat) (lJ : Nat) (aR : Nat) (aL : Nat) (lC : Nat) (aM : Nat) (aP : Nat) (sm : Int64) (p0 : Int32) (p1 : Int32) (p2 : Int32) (sz : Nat) (hn : ¬ ((20 ≤ p0 ∧ p0 ≤ 200) ∧ (0 ≤ p1 ∧ p1 ≤ 9) ∧ ((-10) ≤ p2 ∧ p2 ≤ 10))) : Met l yX5_judge wsX5_judge ({ frames := 1, cells := 0, slots := 0, locals := 22 }) (va_Pc [.ref h0, .int p0, .int p1, .int p2] (pc D eT sz [(h0, .inr (8, [.int 0, .ref lH, .ref lB, .ref lJ, .ref aR, .ref aL, .int 0, .int 0, .int 0, .ref lC, .ref aM, .ref aP, .int 0, .int 0, .int 0, .int (-1), .int (-1), .int 0, .int 0, .long sm]))] [])) (va_Qi (fun (r : Int32) (_ : Unit) => r = 0) (fun _ t => va_P D vwCl [(h0, .inr (8, [.int 1, .ref lH, .ref lB, .ref lJ, .ref aR, .ref aL, .int 0, .int 0, .int 0, .ref lC, .ref aM, .ref aP, .int 0, .int 0, .int 0, .int (-1), .int (-1), .int 0, .int 0, .long sm]))] t.heap ∧ va_K D vwCl [] t ∧ va_D (va_A [(h0, .inr (8, [.int 0, .ref lH, .ref lB, .ref lJ, .ref aR, .ref aL, .int 0, .int 0, .int 0, .ref lC, .ref aM, .ref aP, .int 0, .int 0, .int 0, .int (-1), .int (-1), .int 0, .int 0, .long sm]))] sz) [(h0, .inr (8, [.int 1, .ref lH, .ref lB, .ref lJ, .ref aR, .ref aL, .int 0, .int 0, .int 0, .ref lC, .ref aM, .ref aP, .int 0, .int 0, .int 0, .int (-1), .int (-1), .int 0, .int 0, .long sm]))]) (va_A [(h0, .inr (8, [.int 0, .ref lH, .ref lB, .ref lJ, .ref aR, .ref aL, .int 0, .int 0, .int 0, .ref lC, .ref aM, .ref aP, .int 0, .int 0, .int 0, .int (-1), .int (-1), .int 0, .int 0, .long sm]))] sz)) 0 0 (va_A [(h0, .inr (8, [.int 0, .ref lH, .ref lB, .ref lJ, .ref aR, .ref aL, .int 0, .int 0, .int 0, .ref lC, .ref aM, .ref aP, .int 0, .int 0, .int 0, .int (-1), .int (-1), .int 0, .int 0, .long sm]))] sz) := by
  refine Met.ofW (cc := cX5_judge) (maxL := 5) (ret := (some .int)) (by decide +kernel) rfl ?_
  intro p e s m args below meth c s₁ B hml hv
  obtain ⟨rfl, hsz, hP, hK, hD0, hE⟩ := hv
  have hx := B.exec
  have hb := B.bytes
  have hr := B.returns
  have hts := atoms_spec (ws := wsX5_judge) B.pre
  have hown : s.vm.findClass RX5 = some m.cls := findClass_of_methodNamed B.named
  have hlocks := B.notSynchronized
  subst hsz
  have hD := hD0.self (sz := s.heap.size)
  generalize hAe : va_A [(h0, .inr (8, [.int 0, .ref lH, .ref lB, .ref lJ, .ref aR, .ref aL, .int 0, .int 0, .int 0, .ref lC, .ref aM, .ref aP, .int 0, .int 0, .int 0, .int (-1), .int (-1), .int 0, .int 0, .long sm]))] s.heap.size = A at hD hE ⊢
  have hA : ∀ q : Nat, s.heap.size ≤ q → A q := fun q h => by rw [← hAe]; exact Or.inr h
  have hS : va_S A s.heap s.heap [] := va_S.rf
  have hP : va_P D vwCl [(h0, .inr (8, [.int 0, .ref lH, .ref lB, .ref lJ, .ref aR, .ref aL, .int 0, .int 0, .int 0, .ref lC, .ref aM, .ref aP, .int 0, .int 0, .int 0, .int (-1), .int (-1), .int 0, .int 0, .long sm]))] s.heap := hP
  have hl := lv_entry ([.ref h0, .int p0, .int p1, .int p2]) (n := 5) (Nat.le_of_ble_eq_true rfl)
  rw [lg_entry_eq]
  generalize (lg_sl ([.ref h0, .int p0, .int p1, .int p2]) ++ List.replicate (5 - (lg_sl ([.ref h0, .int p0, .int p1, .int p2])).length) Slot.unset).toArray = ls at hl ⊢
  have hl : lv_has ls 5 [(0, .ref h0), (1, .int p0), (2, .int p1), (3, .int p2)] := hl
  refine lv_aload_n hx hb dX5_judge_0 rfl (lv_at hl 0 rfl) ?_
  refine lv_iconst (v := 0) hx hb dX5_judge_1 (by decide) ?_
  refine va_put (D := D) (ci := 8) (v := .int 0) (C := RX5) (T := TX5) (N := 20) hx hb hts (by decide +kernel) tyX5 tyX5_ok nmX5 hown hK hP hD hS 0 rfl rfl 0 (by decide) (hts (.fieldLink RX5 50 "PrizeHouseModel" "thrown" "I") (by decide +kernel)) (fun _ h9 => h9) rfl (tyX5_ok 0 (by decide)) rfl rfl (Nat.le_of_ble_eq_true rfl) dX5_judge_2 (fun H locs hP hD hS => ?_)
  have hP : va_P D vwCl [(h0, .inr (8, [.int 0, .ref lH, .ref lB, .ref lJ, .ref aR, .ref aL, .int 0, .int 0, .int 0, .ref lC, .ref aM, .ref aP, .int 0, .int 0, .int 0, .int (-1), .int (-1), .int 0, .int 0, .long sm]))] H := hP
  have hD : va_D A [(h0, .inr (8, [.int 0, .ref lH, .ref lB, .ref lJ, .ref aR, .ref aL, .int 0, .int 0, .int 0, .ref lC, .ref aM, .ref aP, .int 0, .int 0, .int 0, .int (-1), .int (-1), .int 0, .int 0, .long sm]))] := hD
  refine lv_iload_n hx hb dX5_judge_5 rfl (lv_at hl 1 rfl) ?_
  refine lv_bipush (v := 20) hx hb dX5_judge_6 (by decide) ?_
  refine lv_sipush (v := 200) hx hb dX5_judge_8 (by decide) ?_
  by_cases hs0 : 20 ≤ p0 ∧ p0 ≤ 200
  · skip
    have hPc := hP.sub (ws' := []) [] rfl
    have hKc := hK.sub (tys' := []) [] rfl
    refine va_calli (va_runS (As := [.int p0, .int 20, .int 200]) (rest := []) ⟨hx, hb, hml, hown, hts⟩ (k_is_t l D eT p0 20 200 H.size hs0.1 hs0.2) (va_cwS 3 hts gX5_judge_X5_is rfl rfl rfl (by decide +kernel) ⟨Nat.le_of_ble_eq_true rfl, Nat.le_of_ble_eq_true rfl⟩) (pr_s hPc hKc hE hS hA) rfl rfl hl.1 rfl (lv_room (Nat.le_of_ble_eq_true rfl)) dX5_judge_11 ⟨Nat.le_of_ble_eq_true rfl, Nat.le_of_ble_eq_true rfl⟩) hS (fun q h1 h2 => ro_A h1 h2) (fun q h => ro_F hS hA q h) (fun r u t H1 locs ht hvm hw hB hz1 hk1 hS => ?_)
    have hw : r = 1 := hw
    rw [hw]
    have hP := ro_P hP hk1
    generalize H1 = H at hP hS ⊢
    refine lv_if_eq (tgt := 38) hx hb dX5_judge_14 (by decide) (fun h => absurd h (by decide)) (fun _ => ?_)
    refine lv_iload_n hx hb dX5_judge_17 rfl (lv_at hl 2 rfl) ?_
    refine lv_iconst (v := 0) hx hb dX5_judge_18 (by decide) ?_
    refine lv_bipush (v := 9) hx hb dX5_judge_19 (by decide) ?_
    by_cases hs1 : 0 ≤ p1 ∧ p1 ≤ 9
    · skip
      have hPc := hP.sub (ws' := []) [] rfl
      have hKc := hK.sub (tys' := []) [] rfl
      refine va_calli (va_runS (As := [.int p1, .int 0, .int 9]) (rest := []) ⟨hx, hb, hml, hown, hts⟩ (k_is_t l D eT p1 0 9 H.size hs1.1 hs1.2) (va_cwS 3 hts gX5_judge_X5_is rfl rfl rfl (by decide +kernel) ⟨Nat.le_of_ble_eq_true rfl, Nat.le_of_ble_eq_true rfl⟩) (pr_s hPc hKc hE hS hA) rfl rfl hl.1 rfl (lv_room (Nat.le_of_ble_eq_true rfl)) dX5_judge_21 ⟨Nat.le_of_ble_eq_true rfl, Nat.le_of_ble_eq_true rfl⟩) hS (fun q h1 h2 => ro_A h1 h2) (fun q h => ro_F hS hA q h) (fun r u t H1 locs ht hvm hw hB hz1 hk1 hS => ?_)
      have hw : r = 1 := hw
      rw [hw]
      have hP := ro_P hP hk1
      generalize H1 = H at hP hS ⊢
      refine lv_if_eq (tgt := 38) hx hb dX5_judge_24 (by decide) (fun h => absurd h (by decide)) (fun _ => ?_)
      refine lv_iload_n hx hb dX5_judge_27 rfl (lv_at hl 3 rfl) ?_
      refine lv_bipush (v := (-10)) hx hb dX5_judge_28 (by decide) ?_
      refine lv_bipush (v := 10) hx hb dX5_judge_30 (by decide) ?_
      by_cases hs2 : (-10) ≤ p2 ∧ p2 ≤ 10
      · skip
        exact absurd ⟨hs0, hs1, hs2⟩ hn
      · skip
        have hPc := hP.sub (ws' := []) [] rfl
        have hKc := hK.sub (tys' := []) [] rfl
        refine va_calli (va_runS (As := [.int p2, .int (-10), .int 10]) (rest := []) ⟨hx, hb, hml, hown, hts⟩ (k_is_f l D eT p2 (-10) 10 H.size hs2) (va_cwS 3 hts gX5_judge_X5_is rfl rfl rfl (by decide +kernel) ⟨Nat.le_of_ble_eq_true rfl, Nat.le_of_ble_eq_true rfl⟩) (pr_s hPc hKc hE hS hA) rfl rfl hl.1 rfl (lv_room (Nat.le_of_ble_eq_true rfl)) dX5_judge_32 ⟨Nat.le_of_ble_eq_true rfl, Nat.le_of_ble_eq_true rfl⟩) hS (fun q h1 h2 => ro_A h1 h2) (fun q h => ro_F hS hA q h) (fun r u t H1 locs ht hvm hw hB hz1 hk1 hS => ?_)
        have hw : r = 0 := hw
        rw [hw]
        have hP := ro_P hP hk1
        generalize H1 = H at hP hS ⊢
        refine lv_if_ne (tgt := 44) hx hb dX5_judge_35 (by decide) (fun h => absurd (by decide) h) (fun _ => ?_)
        refine lv_aload_n hx hb dX5_judge_38 rfl (lv_at hl 0 rfl) ?_
        refine lv_iconst (v := 1) hx hb dX5_judge_39 (by decide) ?_
        have hPc := hP.sub (ws' := [(h0, .inr (8, [.int 0, .ref lH, .ref lB, .ref lJ, .ref aR, .ref aL, .int 0, .int 0, .int 0, .ref lC, .ref aM, .ref aP, .int 0, .int 0, .int 0, .int (-1), .int (-1), .int 0, .int 0, .long sm]))]) [0] rfl
        have hKc := hK.sub (tys' := []) [] rfl
        have hDc := hD.sub (ws' := [(h0, .inr (8, [.int 0, .ref lH, .ref lB, .ref lJ, .ref aR, .ref aL, .int 0, .int 0, .int 0, .ref lC, .ref aM, .ref aP, .int 0, .int 0, .int 0, .int (-1), .int (-1), .int 0, .int 0, .long sm]))]) [0] (by decide) rfl
        have hFc := va_free (wc := [(h0, .inr (8, [.int 0, .ref lH, .ref lB, .ref lJ, .ref aR, .ref aL, .int 0, .int 0, .int 0, .ref lC, .ref aM, .ref aP, .int 0, .int 0, .int 0, .int (-1), .int (-1), .int 0, .int 0, .long sm]))]) hD hS hA [0] rfl
        refine va_calli (va_runV (As := [.int 1]) (rest := []) ⟨hx, hb, hml, hown, hts⟩ (r_refuse l D eT h0 lH lB lJ aR aL lC aM aP sm 1 H.size ) (cwV 1 hts gX5_judge_X5_refuse rfl rfl rfl (by decide +kernel) ⟨Nat.le_of_ble_eq_true rfl, Nat.le_of_ble_eq_true rfl⟩) (pc_v (ci := 8) (q0 := 0) rfl rfl hPc hDc hKc hE hS hFc) rfl rfl hl.1 rfl (lv_room (Nat.le_of_ble_eq_true rfl)) dX5_judge_40 ⟨Nat.le_of_ble_eq_true rfl, Nat.le_of_ble_eq_true rfl⟩) hS (fun q _ h => hFc q h) hFc (fun r u t H1 locs ht hvm hw hB hz1 hk1 hS => ?_)
        have hw : r = 0 := hw
        rw [hw]
        obtain ⟨hP1, hK1, hD1⟩ := hB
        rw [ht] at hP1
        have hK1 := va_K.moved hvm.symm hK1
        obtain ⟨hP, hD⟩ := va_join (wr := []) (w1 := [(h0, .inr (8, [.int 1, .ref lH, .ref lB, .ref lJ, .ref aR, .ref aL, .int 0, .int 0, .int 0, .ref lC, .ref aM, .ref aP, .int 0, .int 0, .int 0, .int (-1), .int (-1), .int 0, .int 0, .long sm]))]) hP hD [0] [] rfl rfl (by decide) (by decide) hk1 hFc hP1 hD1
        generalize H1 = H at hP hS ⊢
        have hP : va_P D vwCl [(h0, .inr (8, [.int 1, .ref lH, .ref lB, .ref lJ, .ref aR, .ref aL, .int 0, .int 0, .int 0, .ref lC, .ref aM, .ref aP, .int 0, .int 0, .int 0, .int (-1), .int (-1), .int 0, .int 0, .long sm]))] H := hP
        have hD : va_D A [(h0, .inr (8, [.int 1, .ref lH, .ref lB, .ref lJ, .ref aR, .ref aL, .int 0, .int 0, .int 0, .ref lC, .ref aM, .ref aP, .int 0, .int 0, .int 0, .int (-1), .int (-1), .int 0, .int 0, .long sm]))] := hD
        have hP9 := hP.sub (ws' := [(h0, .inr (8, [.int 1, .ref lH, .ref lB, .ref lJ, .ref aR, .ref aL, .int 0, .int 0, .int 0, .ref lC, .ref aM, .ref aP, .int 0, .int 0, .int 0, .int (-1), .int (-1), .int 0, .int 0, .long sm]))]) [0] rfl
        have hD9 := hD.sub (ws' := [(h0, .inr (8, [.int 1, .ref lH, .ref lB, .ref lJ, .ref aR, .ref aL, .int 0, .int 0, .int 0, .ref lC, .ref aM, .ref aP, .int 0, .int 0, .int 0, .int (-1), .int (-1), .int 0, .int 0, .long sm]))]) [0] (by decide) rfl
        have hK9 := hK.sub (tys' := []) [] rfl
        exact W.iret (v := 0) hx hb hr (fun t ht hW => ⟨⟨0, (), rfl, rfl, ⟨by rw [ht]; exact hP9, va_K.moved hW.alike hK9, hD9⟩⟩, hS.F ht⟩) hS.2.2 dX5_judge_43
    · skip
      have hPc := hP.sub (ws' := []) [] rfl
      have hKc := hK.sub (tys' := []) [] rfl
      refine va_calli (va_runS (As := [.int p1, .int 0, .int 9]) (rest := []) ⟨hx, hb, hml, hown, hts⟩ (k_is_f l D eT p1 0 9 H.size hs1) (va_cwS 3 hts gX5_judge_X5_is rfl rfl rfl (by decide +kernel) ⟨Nat.le_of_ble_eq_true rfl, Nat.le_of_ble_eq_true rfl⟩) (pr_s hPc hKc hE hS hA) rfl rfl hl.1 rfl (lv_room (Nat.le_of_ble_eq_true rfl)) dX5_judge_21 ⟨Nat.le_of_ble_eq_true rfl, Nat.le_of_ble_eq_true rfl⟩) hS (fun q h1 h2 => ro_A h1 h2) (fun q h => ro_F hS hA q h) (fun r u t H1 locs ht hvm hw hB hz1 hk1 hS => ?_)
      have hw : r = 0 := hw
      rw [hw]
      have hP := ro_P hP hk1
      generalize H1 = H at hP hS ⊢
      refine lv_if_eq (tgt := 38) hx hb dX5_judge_24 (by decide) (fun _ => ?_) (fun h => absurd (by decide) h)
      refine lv_aload_n hx hb dX5_judge_38 rfl (lv_at hl 0 rfl) ?_
      refine lv_iconst (v := 1) hx hb dX5_judge_39 (by decide) ?_
      have hPc := hP.sub (ws' := [(h0, .inr (8, [.int 0, .ref lH, .ref lB, .ref lJ, .ref aR, .ref aL, .int 0, .int 0, .int 0, .ref lC, .ref aM, .ref aP, .int 0, .int 0, .int 0, .int (-1), .int (-1), .int 0, .int 0, .long sm]))]) [0] rfl
      have hKc := hK.sub (tys' := []) [] rfl
      have hDc := hD.sub (ws' := [(h0, .inr (8, [.int 0, .ref lH, .ref lB, .ref lJ, .ref aR, .ref aL, .int 0, .int 0, .int 0, .ref lC, .ref aM, .ref aP, .int 0, .int 0, .int 0, .int (-1), .int (-1), .int 0, .int 0, .long sm]))]) [0] (by decide) rfl
      have hFc := va_free (wc := [(h0, .inr (8, [.int 0, .ref lH, .ref lB, .ref lJ, .ref aR, .ref aL, .int 0, .int 0, .int 0, .ref lC, .ref aM, .ref aP, .int 0, .int 0, .int 0, .int (-1), .int (-1), .int 0, .int 0, .long sm]))]) hD hS hA [0] rfl
      refine va_calli (va_runV (As := [.int 1]) (rest := []) ⟨hx, hb, hml, hown, hts⟩ (r_refuse l D eT h0 lH lB lJ aR aL lC aM aP sm 1 H.size ) (cwV 1 hts gX5_judge_X5_refuse rfl rfl rfl (by decide +kernel) ⟨Nat.le_of_ble_eq_true rfl, Nat.le_of_ble_eq_true rfl⟩) (pc_v (ci := 8) (q0 := 0) rfl rfl hPc hDc hKc hE hS hFc) rfl rfl hl.1 rfl (lv_room (Nat.le_of_ble_eq_true rfl)) dX5_judge_40 ⟨Nat.le_of_ble_eq_true rfl, Nat.le_of_ble_eq_true rfl⟩) hS (fun q _ h => hFc q h) hFc (fun r u t H1 locs ht hvm hw hB hz1 hk1 hS => ?_)
      have hw : r = 0 := hw
      rw [hw]
      obtain ⟨hP1, hK1, hD1⟩ := hB
      rw [ht] at hP1
      have hK1 := va_K.moved hvm.symm hK1
      obtain ⟨hP, hD⟩ := va_join (wr := []) (w1 := [(h0, .inr (8, [.int 1, .ref lH, .ref lB, .ref lJ, .ref aR, .ref aL, .int 0, .int 0, .int 0, .ref lC, .ref aM, .ref aP, .int 0, .int 0, .int 0, .int (-1), .int (-1), .int 0, .int 0, .long sm]))]) hP hD [0] [] rfl rfl (by decide) (by decide) hk1 hFc hP1 hD1
      generalize H1 = H at hP hS ⊢
      have hP : va_P D vwCl [(h0, .inr (8, [.int 1, .ref lH, .ref lB, .ref lJ, .ref aR, .ref aL, .int 0, .int 0, .int 0, .ref lC, .ref aM, .ref aP, .int 0, .int 0, .int 0, .int (-1), .int (-1), .int 0, .int 0, .long sm]))] H := hP
      have hD : va_D A [(h0, .inr (8, [.int 1, .ref lH, .ref lB, .ref lJ, .ref aR, .ref aL, .int 0, .int 0, .int 0, .ref lC, .ref aM, .ref aP, .int 0, .int 0, .int 0, .int (-1), .int (-1), .int 0, .int 0, .long sm]))] := hD
      have hP9 := hP.sub (ws' := [(h0, .inr (8, [.int 1, .ref lH, .ref lB, .ref lJ, .ref aR, .ref aL, .int 0, .int 0, .int 0, .ref lC, .ref aM, .ref aP, .int 0, .int 0, .int 0, .int (-1), .int (-1), .int 0, .int 0, .long sm]))]) [0] rfl
      have hD9 := hD.sub (ws' := [(h0, .inr (8, [.int 1, .ref lH, .ref lB, .ref lJ, .ref aR, .ref aL, .int 0, .int 0, .int 0, .ref lC, .ref aM, .ref aP, .int 0, .int 0, .int 0, .int (-1), .int (-1), .int 0, .int 0, .long sm]))]) [0] (by decide) rfl
      have hK9 := hK.sub (tys' := []) [] rfl
      exact W.iret (v := 0) hx hb hr (fun t ht hW => ⟨⟨0, (), rfl, rfl, ⟨by rw [ht]; exact hP9, va_K.moved hW.alike hK9, hD9⟩⟩, hS.F ht⟩) hS.2.2 dX5_judge_43
  · skip
    have hPc := hP.sub (ws' := []) [] rfl
    have hKc := hK.sub (tys' := []) [] rfl
    refine va_calli (va_runS (As := [.int p0, .int 20, .int 200]) (rest := []) ⟨hx, hb, hml, hown, hts⟩ (k_is_f l D eT p0 20 200 H.size hs0) (va_cwS 3 hts gX5_judge_X5_is rfl rfl rfl (by decide +kernel) ⟨Nat.le_of_ble_eq_true rfl, Nat.le_of_ble_eq_true rfl⟩) (pr_s hPc hKc hE hS hA) rfl rfl hl.1 rfl (lv_room (Nat.le_of_ble_eq_true rfl)) dX5_judge_11 ⟨Nat.le_of_ble_eq_true rfl, Nat.le_of_ble_eq_true rfl⟩) hS (fun q h1 h2 => ro_A h1 h2) (fun q h => ro_F hS hA q h) (fun r u t H1 locs ht hvm hw hB hz1 hk1 hS => ?_)
    have hw : r = 0 := hw
    rw [hw]
    have hP := ro_P hP hk1
    generalize H1 = H at hP hS ⊢
    refine lv_if_eq (tgt := 38) hx hb dX5_judge_14 (by decide) (fun _ => ?_) (fun h => absurd (by decide) h)
    refine lv_aload_n hx hb dX5_judge_38 rfl (lv_at hl 0 rfl) ?_
    refine lv_iconst (v := 1) hx hb dX5_judge_39 (by decide) ?_
    have hPc := hP.sub (ws' := [(h0, .inr (8, [.int 0, .ref lH, .ref lB, .ref lJ, .ref aR, .ref aL, .int 0, .int 0, .int 0, .ref lC, .ref aM, .ref aP, .int 0, .int 0, .int 0, .int (-1), .int (-1), .int 0, .int 0, .long sm]))]) [0] rfl
    have hKc := hK.sub (tys' := []) [] rfl
    have hDc := hD.sub (ws' := [(h0, .inr (8, [.int 0, .ref lH, .ref lB, .ref lJ, .ref aR, .ref aL, .int 0, .int 0, .int 0, .ref lC, .ref aM, .ref aP, .int 0, .int 0, .int 0, .int (-1), .int (-1), .int 0, .int 0, .long sm]))]) [0] (by decide) rfl
    have hFc := va_free (wc := [(h0, .inr (8, [.int 0, .ref lH, .ref lB, .ref lJ, .ref aR, .ref aL, .int 0, .int 0, .int 0, .ref lC, .ref aM, .ref aP, .int 0, .int 0, .int 0, .int (-1), .int (-1), .int 0, .int 0, .long sm]))]) hD hS hA [0] rfl
    refine va_calli (va_runV (As := [.int 1]) (rest := []) ⟨hx, hb, hml, hown, hts⟩ (r_refuse l D eT h0 lH lB lJ aR aL lC aM aP sm 1 H.size ) (cwV 1 hts gX5_judge_X5_refuse rfl rfl rfl (by decide +kernel) ⟨Nat.le_of_ble_eq_true rfl, Nat.le_of_ble_eq_true rfl⟩) (pc_v (ci := 8) (q0 := 0) rfl rfl hPc hDc hKc hE hS hFc) rfl rfl hl.1 rfl (lv_room (Nat.le_of_ble_eq_true rfl)) dX5_judge_40 ⟨Nat.le_of_ble_eq_true rfl, Nat.le_of_ble_eq_true rfl⟩) hS (fun q _ h => hFc q h) hFc (fun r u t H1 locs ht hvm hw hB hz1 hk1 hS => ?_)
    have hw : r = 0 := hw
    rw [hw]
    obtain ⟨hP1, hK1, hD1⟩ := hB
    rw [ht] at hP1
    have hK1 := va_K.moved hvm.symm hK1
    obtain ⟨hP, hD⟩ := va_join (wr := []) (w1 := [(h0, .inr (8, [.int 1, .ref lH, .ref lB, .ref lJ, .ref aR, .ref aL, .int 0, .int 0, .int 0, .ref lC, .ref aM, .ref aP, .int 0, .int 0, .int 0, .int (-1), .int (-1), .int 0, .int 0, .long sm]))]) hP hD [0] [] rfl rfl (by decide) (by decide) hk1 hFc hP1 hD1
    generalize H1 = H at hP hS ⊢
    have hP : va_P D vwCl [(h0, .inr (8, [.int 1, .ref lH, .ref lB, .ref lJ, .ref aR, .ref aL, .int 0, .int 0, .int 0, .ref lC, .ref aM, .ref aP, .int 0, .int 0, .int 0, .int (-1), .int (-1), .int 0, .int 0, .long sm]))] H := hP
    have hD : va_D A [(h0, .inr (8, [.int 1, .ref lH, .ref lB, .ref lJ, .ref aR, .ref aL, .int 0, .int 0, .int 0, .ref lC, .ref aM, .ref aP, .int 0, .int 0, .int 0, .int (-1), .int (-1), .int 0, .int 0, .long sm]))] := hD
    have hP9 := hP.sub (ws' := [(h0, .inr (8, [.int 1, .ref lH, .ref lB, .ref lJ, .ref aR, .ref aL, .int 0, .int 0, .int 0, .ref lC, .ref aM, .ref aP, .int 0, .int 0, .int 0, .int (-1), .int (-1), .int 0, .int 0, .long sm]))]) [0] rfl
    have hD9 := hD.sub (ws' := [(h0, .inr (8, [.int 1, .ref lH, .ref lB, .ref lJ, .ref aR, .ref aL, .int 0, .int 0, .int 0, .ref lC, .ref aM, .ref aP, .int 0, .int 0, .int 0, .int (-1), .int (-1), .int 0, .int 0, .long sm]))]) [0] (by decide) rfl
    have hK9 := hK.sub (tys' := []) [] rfl
    exact W.iret (v := 0) hx hb hr (fun t ht hW => ⟨⟨0, (), rfl, rfl, ⟨by rw [ht]; exact hP9, va_K.moved hW.alike hK9, hD9⟩⟩, hS.F ht⟩) hS.2.2 dX5_judge_43
set_option maxHeartbeats 4000000 in
set_option maxRecDepth 100000 in
theorem r_rules_f (l : Launch) (D : va_G) (eT : Nat) (h0 : Nat) (lH : Nat) (lB : Nat) (lJ : Nat) (aR : Nat) (aL : Nat) (lC : Nat) (aM : Nat) (aP : Nat) (sm : Int64) (p0 : Int32) (p1 : Int32) (p2 : Int32) (p3 : Int32) (sz : Nat) (hn : ¬ ((1 ≤ p0 ∧ p0 ≤ 7) ∧ (50 ≤ p1 ∧ p1 ≤ p2) ∧ p2 ≤ 900 ∧ (0 ≤ p3 ∧ p3 ≤ 50))) : Met l yX5_rules wsX5_rules ({ frames := 1, cells := 0, slots := 0, locals := 22 }) (va_Pc [.ref h0, .int p0, .int p1, .int p2, .int p3] (pc D eT sz [(h0, .inr (8, [.int 0, .ref lH, .ref lB, .ref lJ, .ref aR, .ref aL, .int 0, .int 0, .int 0, .ref lC, .ref aM, .ref aP, .int 0, .int 0, .int 0, .int (-1), .int (-1), .int 0, .int 0, .long sm]))] [])) (va_Qi (fun (r : Int32) (_ : Unit) => r = 0) (fun _ t => va_P D vwCl [(h0, .inr (8, [.int 1, .ref lH, .ref lB, .ref lJ, .ref aR, .ref aL, .int 0, .int 0, .int 0, .ref lC, .ref aM, .ref aP, .int 0, .int 0, .int 0, .int (-1), .int (-1), .int 0, .int 0, .long sm]))] t.heap ∧ va_K D vwCl [] t ∧ va_D (va_A [(h0, .inr (8, [.int 0, .ref lH, .ref lB, .ref lJ, .ref aR, .ref aL, .int 0, .int 0, .int 0, .ref lC, .ref aM, .ref aP, .int 0, .int 0, .int 0, .int (-1), .int (-1), .int 0, .int 0, .long sm]))] sz) [(h0, .inr (8, [.int 1, .ref lH, .ref lB, .ref lJ, .ref aR, .ref aL, .int 0, .int 0, .int 0, .ref lC, .ref aM, .ref aP, .int 0, .int 0, .int 0, .int (-1), .int (-1), .int 0, .int 0, .long sm]))]) (va_A [(h0, .inr (8, [.int 0, .ref lH, .ref lB, .ref lJ, .ref aR, .ref aL, .int 0, .int 0, .int 0, .ref lC, .ref aM, .ref aP, .int 0, .int 0, .int 0, .int (-1), .int (-1), .int 0, .int 0, .long sm]))] sz)) 0 0 (va_A [(h0, .inr (8, [.int 0, .ref lH, .ref lB, .ref lJ, .ref aR, .ref aL, .int 0, .int 0, .int 0, .ref lC, .ref aM, .ref aP, .int 0, .int 0, .int 0, .int (-1), .int (-1), .int 0, .int 0, .long sm]))] sz) := by
  refine Met.ofW (cc := cX5_rules) (maxL := 6) (ret := (some .int)) (by decide +kernel) rfl ?_
  intro p e s m args below meth c s₁ B hml hv
  obtain ⟨rfl, hsz, hP, hK, hD0, hE⟩ := hv
  have hx := B.exec
  have hb := B.bytes
  have hr := B.returns
  have hts := atoms_spec (ws := wsX5_rules) B.pre
  have hown : s.vm.findClass RX5 = some m.cls := findClass_of_methodNamed B.named
  have hlocks := B.notSynchronized
  subst hsz
  have hD := hD0.self (sz := s.heap.size)
  generalize hAe : va_A [(h0, .inr (8, [.int 0, .ref lH, .ref lB, .ref lJ, .ref aR, .ref aL, .int 0, .int 0, .int 0, .ref lC, .ref aM, .ref aP, .int 0, .int 0, .int 0, .int (-1), .int (-1), .int 0, .int 0, .long sm]))] s.heap.size = A at hD hE ⊢
  have hA : ∀ q : Nat, s.heap.size ≤ q → A q := fun q h => by rw [← hAe]; exact Or.inr h
  have hS : va_S A s.heap s.heap [] := va_S.rf
  have hP : va_P D vwCl [(h0, .inr (8, [.int 0, .ref lH, .ref lB, .ref lJ, .ref aR, .ref aL, .int 0, .int 0, .int 0, .ref lC, .ref aM, .ref aP, .int 0, .int 0, .int 0, .int (-1), .int (-1), .int 0, .int 0, .long sm]))] s.heap := hP
  have hl := lv_entry ([.ref h0, .int p0, .int p1, .int p2, .int p3]) (n := 6) (Nat.le_of_ble_eq_true rfl)
  rw [lg_entry_eq]
  generalize (lg_sl ([.ref h0, .int p0, .int p1, .int p2, .int p3]) ++ List.replicate (6 - (lg_sl ([.ref h0, .int p0, .int p1, .int p2, .int p3])).length) Slot.unset).toArray = ls at hl ⊢
  have hl : lv_has ls 6 [(0, .ref h0), (1, .int p0), (2, .int p1), (3, .int p2), (4, .int p3)] := hl
  refine lv_aload_n hx hb dX5_rules_0 rfl (lv_at hl 0 rfl) ?_
  refine lv_iconst (v := 0) hx hb dX5_rules_1 (by decide) ?_
  refine va_put (D := D) (ci := 8) (v := .int 0) (C := RX5) (T := TX5) (N := 20) hx hb hts (by decide +kernel) tyX5 tyX5_ok nmX5 hown hK hP hD hS 0 rfl rfl 0 (by decide) (hts (.fieldLink RX5 50 "PrizeHouseModel" "thrown" "I") (by decide +kernel)) (fun _ h9 => h9) rfl (tyX5_ok 0 (by decide)) rfl rfl (Nat.le_of_ble_eq_true rfl) dX5_rules_2 (fun H locs hP hD hS => ?_)
  have hP : va_P D vwCl [(h0, .inr (8, [.int 0, .ref lH, .ref lB, .ref lJ, .ref aR, .ref aL, .int 0, .int 0, .int 0, .ref lC, .ref aM, .ref aP, .int 0, .int 0, .int 0, .int (-1), .int (-1), .int 0, .int 0, .long sm]))] H := hP
  have hD : va_D A [(h0, .inr (8, [.int 0, .ref lH, .ref lB, .ref lJ, .ref aR, .ref aL, .int 0, .int 0, .int 0, .ref lC, .ref aM, .ref aP, .int 0, .int 0, .int 0, .int (-1), .int (-1), .int 0, .int 0, .long sm]))] := hD
  refine lv_iload_n hx hb dX5_rules_5 rfl (lv_at hl 1 rfl) ?_
  refine lv_iconst (v := 1) hx hb dX5_rules_6 (by decide) ?_
  refine lv_bipush (v := 7) hx hb dX5_rules_7 (by decide) ?_
  by_cases hs0 : 1 ≤ p0 ∧ p0 ≤ 7
  · skip
    have hPc := hP.sub (ws' := []) [] rfl
    have hKc := hK.sub (tys' := []) [] rfl
    refine va_calli (va_runS (As := [.int p0, .int 1, .int 7]) (rest := []) ⟨hx, hb, hml, hown, hts⟩ (k_is_t l D eT p0 1 7 H.size hs0.1 hs0.2) (va_cwS 3 hts gX5_rules_X5_is rfl rfl rfl (by decide +kernel) ⟨Nat.le_of_ble_eq_true rfl, Nat.le_of_ble_eq_true rfl⟩) (pr_s hPc hKc hE hS hA) rfl rfl hl.1 rfl (lv_room (Nat.le_of_ble_eq_true rfl)) dX5_rules_9 ⟨Nat.le_of_ble_eq_true rfl, Nat.le_of_ble_eq_true rfl⟩) hS (fun q h1 h2 => ro_A h1 h2) (fun q h => ro_F hS hA q h) (fun r u t H1 locs ht hvm hw hB hz1 hk1 hS => ?_)
    have hw : r = 1 := hw
    rw [hw]
    have hP := ro_P hP hk1
    generalize H1 = H at hP hS ⊢
    refine lv_if_eq (tgt := 43) hx hb dX5_rules_12 (by decide) (fun h => absurd h (by decide)) (fun _ => ?_)
    refine lv_iload_n hx hb dX5_rules_15 rfl (lv_at hl 2 rfl) ?_
    refine lv_bipush (v := 50) hx hb dX5_rules_16 (by decide) ?_
    refine lv_iload_n hx hb dX5_rules_18 rfl (lv_at hl 3 rfl) ?_
    by_cases hs1 : 50 ≤ p1 ∧ p1 ≤ p2
    · skip
      have hPc := hP.sub (ws' := []) [] rfl
      have hKc := hK.sub (tys' := []) [] rfl
      refine va_calli (va_runS (As := [.int p1, .int 50, .int p2]) (rest := []) ⟨hx, hb, hml, hown, hts⟩ (k_is_t l D eT p1 50 p2 H.size hs1.1 hs1.2) (va_cwS 3 hts gX5_rules_X5_is rfl rfl rfl (by decide +kernel) ⟨Nat.le_of_ble_eq_true rfl, Nat.le_of_ble_eq_true rfl⟩) (pr_s hPc hKc hE hS hA) rfl rfl hl.1 rfl (lv_room (Nat.le_of_ble_eq_true rfl)) dX5_rules_19 ⟨Nat.le_of_ble_eq_true rfl, Nat.le_of_ble_eq_true rfl⟩) hS (fun q h1 h2 => ro_A h1 h2) (fun q h => ro_F hS hA q h) (fun r u t H1 locs ht hvm hw hB hz1 hk1 hS => ?_)
      have hw : r = 1 := hw
      rw [hw]
      have hP := ro_P hP hk1
      generalize H1 = H at hP hS ⊢
      refine lv_if_eq (tgt := 43) hx hb dX5_rules_22 (by decide) (fun h => absurd h (by decide)) (fun _ => ?_)
      refine lv_iload_n hx hb dX5_rules_25 rfl (lv_at hl 3 rfl) ?_
      refine lv_sipush (v := 900) hx hb dX5_rules_26 (by decide) ?_
      refine lv_icmp_gt (tgt := 43) hx hb dX5_rules_29 (by decide) (fun hm => ?_) (fun hm => ?_)
      · skip
        refine lv_aload_n hx hb dX5_rules_43 rfl (lv_at hl 0 rfl) ?_
        refine lv_iconst (v := 1) hx hb dX5_rules_44 (by decide) ?_
        have hPc := hP.sub (ws' := [(h0, .inr (8, [.int 0, .ref lH, .ref lB, .ref lJ, .ref aR, .ref aL, .int 0, .int 0, .int 0, .ref lC, .ref aM, .ref aP, .int 0, .int 0, .int 0, .int (-1), .int (-1), .int 0, .int 0, .long sm]))]) [0] rfl
        have hKc := hK.sub (tys' := []) [] rfl
        have hDc := hD.sub (ws' := [(h0, .inr (8, [.int 0, .ref lH, .ref lB, .ref lJ, .ref aR, .ref aL, .int 0, .int 0, .int 0, .ref lC, .ref aM, .ref aP, .int 0, .int 0, .int 0, .int (-1), .int (-1), .int 0, .int 0, .long sm]))]) [0] (by decide) rfl
        have hFc := va_free (wc := [(h0, .inr (8, [.int 0, .ref lH, .ref lB, .ref lJ, .ref aR, .ref aL, .int 0, .int 0, .int 0, .ref lC, .ref aM, .ref aP, .int 0, .int 0, .int 0, .int (-1), .int (-1), .int 0, .int 0, .long sm]))]) hD hS hA [0] rfl
        refine va_calli (va_runV (As := [.int 1]) (rest := []) ⟨hx, hb, hml, hown, hts⟩ (r_refuse l D eT h0 lH lB lJ aR aL lC aM aP sm 1 H.size ) (cwV 1 hts gX5_rules_X5_refuse rfl rfl rfl (by decide +kernel) ⟨Nat.le_of_ble_eq_true rfl, Nat.le_of_ble_eq_true rfl⟩) (pc_v (ci := 8) (q0 := 0) rfl rfl hPc hDc hKc hE hS hFc) rfl rfl hl.1 rfl (lv_room (Nat.le_of_ble_eq_true rfl)) dX5_rules_45 ⟨Nat.le_of_ble_eq_true rfl, Nat.le_of_ble_eq_true rfl⟩) hS (fun q _ h => hFc q h) hFc (fun r u t H1 locs ht hvm hw hB hz1 hk1 hS => ?_)
        have hw : r = 0 := hw
        rw [hw]
        obtain ⟨hP1, hK1, hD1⟩ := hB
        rw [ht] at hP1
        have hK1 := va_K.moved hvm.symm hK1
        obtain ⟨hP, hD⟩ := va_join (wr := []) (w1 := [(h0, .inr (8, [.int 1, .ref lH, .ref lB, .ref lJ, .ref aR, .ref aL, .int 0, .int 0, .int 0, .ref lC, .ref aM, .ref aP, .int 0, .int 0, .int 0, .int (-1), .int (-1), .int 0, .int 0, .long sm]))]) hP hD [0] [] rfl rfl (by decide) (by decide) hk1 hFc hP1 hD1
        generalize H1 = H at hP hS ⊢
        have hP : va_P D vwCl [(h0, .inr (8, [.int 1, .ref lH, .ref lB, .ref lJ, .ref aR, .ref aL, .int 0, .int 0, .int 0, .ref lC, .ref aM, .ref aP, .int 0, .int 0, .int 0, .int (-1), .int (-1), .int 0, .int 0, .long sm]))] H := hP
        have hD : va_D A [(h0, .inr (8, [.int 1, .ref lH, .ref lB, .ref lJ, .ref aR, .ref aL, .int 0, .int 0, .int 0, .ref lC, .ref aM, .ref aP, .int 0, .int 0, .int 0, .int (-1), .int (-1), .int 0, .int 0, .long sm]))] := hD
        have hP9 := hP.sub (ws' := [(h0, .inr (8, [.int 1, .ref lH, .ref lB, .ref lJ, .ref aR, .ref aL, .int 0, .int 0, .int 0, .ref lC, .ref aM, .ref aP, .int 0, .int 0, .int 0, .int (-1), .int (-1), .int 0, .int 0, .long sm]))]) [0] rfl
        have hD9 := hD.sub (ws' := [(h0, .inr (8, [.int 1, .ref lH, .ref lB, .ref lJ, .ref aR, .ref aL, .int 0, .int 0, .int 0, .ref lC, .ref aM, .ref aP, .int 0, .int 0, .int 0, .int (-1), .int (-1), .int 0, .int 0, .long sm]))]) [0] (by decide) rfl
        have hK9 := hK.sub (tys' := []) [] rfl
        exact W.iret (v := 0) hx hb hr (fun t ht hW => ⟨⟨0, (), rfl, rfl, ⟨by rw [ht]; exact hP9, va_K.moved hW.alike hK9, hD9⟩⟩, hS.F ht⟩) hS.2.2 dX5_rules_48
      · skip
        refine lv_iload hx hb dX5_rules_32 (lv_at hl 4 rfl) ?_
        refine lv_iconst (v := 0) hx hb dX5_rules_34 (by decide) ?_
        refine lv_bipush (v := 50) hx hb dX5_rules_35 (by decide) ?_
        by_cases hs2 : 0 ≤ p3 ∧ p3 ≤ 50
        · skip
          exact absurd ⟨hs0, hs1, i_nlt hm, hs2⟩ hn
        · skip
          have hPc := hP.sub (ws' := []) [] rfl
          have hKc := hK.sub (tys' := []) [] rfl
          refine va_calli (va_runS (As := [.int p3, .int 0, .int 50]) (rest := []) ⟨hx, hb, hml, hown, hts⟩ (k_is_f l D eT p3 0 50 H.size hs2) (va_cwS 3 hts gX5_rules_X5_is rfl rfl rfl (by decide +kernel) ⟨Nat.le_of_ble_eq_true rfl, Nat.le_of_ble_eq_true rfl⟩) (pr_s hPc hKc hE hS hA) rfl rfl hl.1 rfl (lv_room (Nat.le_of_ble_eq_true rfl)) dX5_rules_37 ⟨Nat.le_of_ble_eq_true rfl, Nat.le_of_ble_eq_true rfl⟩) hS (fun q h1 h2 => ro_A h1 h2) (fun q h => ro_F hS hA q h) (fun r u t H1 locs ht hvm hw hB hz1 hk1 hS => ?_)
          have hw : r = 0 := hw
          rw [hw]
          have hP := ro_P hP hk1
          generalize H1 = H at hP hS ⊢
          refine lv_if_ne (tgt := 49) hx hb dX5_rules_40 (by decide) (fun h => absurd (by decide) h) (fun _ => ?_)
          refine lv_aload_n hx hb dX5_rules_43 rfl (lv_at hl 0 rfl) ?_
          refine lv_iconst (v := 1) hx hb dX5_rules_44 (by decide) ?_
          have hPc := hP.sub (ws' := [(h0, .inr (8, [.int 0, .ref lH, .ref lB, .ref lJ, .ref aR, .ref aL, .int 0, .int 0, .int 0, .ref lC, .ref aM, .ref aP, .int 0, .int 0, .int 0, .int (-1), .int (-1), .int 0, .int 0, .long sm]))]) [0] rfl
          have hKc := hK.sub (tys' := []) [] rfl
          have hDc := hD.sub (ws' := [(h0, .inr (8, [.int 0, .ref lH, .ref lB, .ref lJ, .ref aR, .ref aL, .int 0, .int 0, .int 0, .ref lC, .ref aM, .ref aP, .int 0, .int 0, .int 0, .int (-1), .int (-1), .int 0, .int 0, .long sm]))]) [0] (by decide) rfl
          have hFc := va_free (wc := [(h0, .inr (8, [.int 0, .ref lH, .ref lB, .ref lJ, .ref aR, .ref aL, .int 0, .int 0, .int 0, .ref lC, .ref aM, .ref aP, .int 0, .int 0, .int 0, .int (-1), .int (-1), .int 0, .int 0, .long sm]))]) hD hS hA [0] rfl
          refine va_calli (va_runV (As := [.int 1]) (rest := []) ⟨hx, hb, hml, hown, hts⟩ (r_refuse l D eT h0 lH lB lJ aR aL lC aM aP sm 1 H.size ) (cwV 1 hts gX5_rules_X5_refuse rfl rfl rfl (by decide +kernel) ⟨Nat.le_of_ble_eq_true rfl, Nat.le_of_ble_eq_true rfl⟩) (pc_v (ci := 8) (q0 := 0) rfl rfl hPc hDc hKc hE hS hFc) rfl rfl hl.1 rfl (lv_room (Nat.le_of_ble_eq_true rfl)) dX5_rules_45 ⟨Nat.le_of_ble_eq_true rfl, Nat.le_of_ble_eq_true rfl⟩) hS (fun q _ h => hFc q h) hFc (fun r u t H1 locs ht hvm hw hB hz1 hk1 hS => ?_)
          have hw : r = 0 := hw
          rw [hw]
          obtain ⟨hP1, hK1, hD1⟩ := hB
          rw [ht] at hP1
          have hK1 := va_K.moved hvm.symm hK1
          obtain ⟨hP, hD⟩ := va_join (wr := []) (w1 := [(h0, .inr (8, [.int 1, .ref lH, .ref lB, .ref lJ, .ref aR, .ref aL, .int 0, .int 0, .int 0, .ref lC, .ref aM, .ref aP, .int 0, .int 0, .int 0, .int (-1), .int (-1), .int 0, .int 0, .long sm]))]) hP hD [0] [] rfl rfl (by decide) (by decide) hk1 hFc hP1 hD1
          generalize H1 = H at hP hS ⊢
          have hP : va_P D vwCl [(h0, .inr (8, [.int 1, .ref lH, .ref lB, .ref lJ, .ref aR, .ref aL, .int 0, .int 0, .int 0, .ref lC, .ref aM, .ref aP, .int 0, .int 0, .int 0, .int (-1), .int (-1), .int 0, .int 0, .long sm]))] H := hP
          have hD : va_D A [(h0, .inr (8, [.int 1, .ref lH, .ref lB, .ref lJ, .ref aR, .ref aL, .int 0, .int 0, .int 0, .ref lC, .ref aM, .ref aP, .int 0, .int 0, .int 0, .int (-1), .int (-1), .int 0, .int 0, .long sm]))] := hD
          have hP9 := hP.sub (ws' := [(h0, .inr (8, [.int 1, .ref lH, .ref lB, .ref lJ, .ref aR, .ref aL, .int 0, .int 0, .int 0, .ref lC, .ref aM, .ref aP, .int 0, .int 0, .int 0, .int (-1), .int (-1), .int 0, .int 0, .long sm]))]) [0] rfl
          have hD9 := hD.sub (ws' := [(h0, .inr (8, [.int 1, .ref lH, .ref lB, .ref lJ, .ref aR, .ref aL, .int 0, .int 0, .int 0, .ref lC, .ref aM, .ref aP, .int 0, .int 0, .int 0, .int (-1), .int (-1), .int 0, .int 0, .long sm]))]) [0] (by decide) rfl
          have hK9 := hK.sub (tys' := []) [] rfl
          exact W.iret (v := 0) hx hb hr (fun t ht hW => ⟨⟨0, (), rfl, rfl, ⟨by rw [ht]; exact hP9, va_K.moved hW.alike hK9, hD9⟩⟩, hS.F ht⟩) hS.2.2 dX5_rules_48
    · skip
      have hPc := hP.sub (ws' := []) [] rfl
      have hKc := hK.sub (tys' := []) [] rfl
      refine va_calli (va_runS (As := [.int p1, .int 50, .int p2]) (rest := []) ⟨hx, hb, hml, hown, hts⟩ (k_is_f l D eT p1 50 p2 H.size hs1) (va_cwS 3 hts gX5_rules_X5_is rfl rfl rfl (by decide +kernel) ⟨Nat.le_of_ble_eq_true rfl, Nat.le_of_ble_eq_true rfl⟩) (pr_s hPc hKc hE hS hA) rfl rfl hl.1 rfl (lv_room (Nat.le_of_ble_eq_true rfl)) dX5_rules_19 ⟨Nat.le_of_ble_eq_true rfl, Nat.le_of_ble_eq_true rfl⟩) hS (fun q h1 h2 => ro_A h1 h2) (fun q h => ro_F hS hA q h) (fun r u t H1 locs ht hvm hw hB hz1 hk1 hS => ?_)
      have hw : r = 0 := hw
      rw [hw]
      have hP := ro_P hP hk1
      generalize H1 = H at hP hS ⊢
      refine lv_if_eq (tgt := 43) hx hb dX5_rules_22 (by decide) (fun _ => ?_) (fun h => absurd (by decide) h)
      refine lv_aload_n hx hb dX5_rules_43 rfl (lv_at hl 0 rfl) ?_
      refine lv_iconst (v := 1) hx hb dX5_rules_44 (by decide) ?_
      have hPc := hP.sub (ws' := [(h0, .inr (8, [.int 0, .ref lH, .ref lB, .ref lJ, .ref aR, .ref aL, .int 0, .int 0, .int 0, .ref lC, .ref aM, .ref aP, .int 0, .int 0, .int 0, .int (-1), .int (-1), .int 0, .int 0, .long sm]))]) [0] rfl
      have hKc := hK.sub (tys' := []) [] rfl
      have hDc := hD.sub (ws' := [(h0, .inr (8, [.int 0, .ref lH, .ref lB, .ref lJ, .ref aR, .ref aL, .int 0, .int 0, .int 0, .ref lC, .ref aM, .ref aP, .int 0, .int 0, .int 0, .int (-1), .int (-1), .int 0, .int 0, .long sm]))]) [0] (by decide) rfl
      have hFc := va_free (wc := [(h0, .inr (8, [.int 0, .ref lH, .ref lB, .ref lJ, .ref aR, .ref aL, .int 0, .int 0, .int 0, .ref lC, .ref aM, .ref aP, .int 0, .int 0, .int 0, .int (-1), .int (-1), .int 0, .int 0, .long sm]))]) hD hS hA [0] rfl
      refine va_calli (va_runV (As := [.int 1]) (rest := []) ⟨hx, hb, hml, hown, hts⟩ (r_refuse l D eT h0 lH lB lJ aR aL lC aM aP sm 1 H.size ) (cwV 1 hts gX5_rules_X5_refuse rfl rfl rfl (by decide +kernel) ⟨Nat.le_of_ble_eq_true rfl, Nat.le_of_ble_eq_true rfl⟩) (pc_v (ci := 8) (q0 := 0) rfl rfl hPc hDc hKc hE hS hFc) rfl rfl hl.1 rfl (lv_room (Nat.le_of_ble_eq_true rfl)) dX5_rules_45 ⟨Nat.le_of_ble_eq_true rfl, Nat.le_of_ble_eq_true rfl⟩) hS (fun q _ h => hFc q h) hFc (fun r u t H1 locs ht hvm hw hB hz1 hk1 hS => ?_)
      have hw : r = 0 := hw
      rw [hw]
      obtain ⟨hP1, hK1, hD1⟩ := hB
      rw [ht] at hP1
      have hK1 := va_K.moved hvm.symm hK1
      obtain ⟨hP, hD⟩ := va_join (wr := []) (w1 := [(h0, .inr (8, [.int 1, .ref lH, .ref lB, .ref lJ, .ref aR, .ref aL, .int 0, .int 0, .int 0, .ref lC, .ref aM, .ref aP, .int 0, .int 0, .int 0, .int (-1), .int (-1), .int 0, .int 0, .long sm]))]) hP hD [0] [] rfl rfl (by decide) (by decide) hk1 hFc hP1 hD1
      generalize H1 = H at hP hS ⊢
      have hP : va_P D vwCl [(h0, .inr (8, [.int 1, .ref lH, .ref lB, .ref lJ, .ref aR, .ref aL, .int 0, .int 0, .int 0, .ref lC, .ref aM, .ref aP, .int 0, .int 0, .int 0, .int (-1), .int (-1), .int 0, .int 0, .long sm]))] H := hP
      have hD : va_D A [(h0, .inr (8, [.int 1, .ref lH, .ref lB, .ref lJ, .ref aR, .ref aL, .int 0, .int 0, .int 0, .ref lC, .ref aM, .ref aP, .int 0, .int 0, .int 0, .int (-1), .int (-1), .int 0, .int 0, .long sm]))] := hD
      have hP9 := hP.sub (ws' := [(h0, .inr (8, [.int 1, .ref lH, .ref lB, .ref lJ, .ref aR, .ref aL, .int 0, .int 0, .int 0, .ref lC, .ref aM, .ref aP, .int 0, .int 0, .int 0, .int (-1), .int (-1), .int 0, .int 0, .long sm]))]) [0] rfl
      have hD9 := hD.sub (ws' := [(h0, .inr (8, [.int 1, .ref lH, .ref lB, .ref lJ, .ref aR, .ref aL, .int 0, .int 0, .int 0, .ref lC, .ref aM, .ref aP, .int 0, .int 0, .int 0, .int (-1), .int (-1), .int 0, .int 0, .long sm]))]) [0] (by decide) rfl
      have hK9 := hK.sub (tys' := []) [] rfl
      exact W.iret (v := 0) hx hb hr (fun t ht hW => ⟨⟨0, (), rfl, rfl, ⟨by rw [ht]; exact hP9, va_K.moved hW.alike hK9, hD9⟩⟩, hS.F ht⟩) hS.2.2 dX5_rules_48
  · skip
    have hPc := hP.sub (ws' := []) [] rfl
    have hKc := hK.sub (tys' := []) [] rfl
    refine va_calli (va_runS (As := [.int p0, .int 1, .int 7]) (rest := []) ⟨hx, hb, hml, hown, hts⟩ (k_is_f l D eT p0 1 7 H.size hs0) (va_cwS 3 hts gX5_rules_X5_is rfl rfl rfl (by decide +kernel) ⟨Nat.le_of_ble_eq_true rfl, Nat.le_of_ble_eq_true rfl⟩) (pr_s hPc hKc hE hS hA) rfl rfl hl.1 rfl (lv_room (Nat.le_of_ble_eq_true rfl)) dX5_rules_9 ⟨Nat.le_of_ble_eq_true rfl, Nat.le_of_ble_eq_true rfl⟩) hS (fun q h1 h2 => ro_A h1 h2) (fun q h => ro_F hS hA q h) (fun r u t H1 locs ht hvm hw hB hz1 hk1 hS => ?_)
    have hw : r = 0 := hw
    rw [hw]
    have hP := ro_P hP hk1
    generalize H1 = H at hP hS ⊢
    refine lv_if_eq (tgt := 43) hx hb dX5_rules_12 (by decide) (fun _ => ?_) (fun h => absurd (by decide) h)
    refine lv_aload_n hx hb dX5_rules_43 rfl (lv_at hl 0 rfl) ?_
    refine lv_iconst (v := 1) hx hb dX5_rules_44 (by decide) ?_
    have hPc := hP.sub (ws' := [(h0, .inr (8, [.int 0, .ref lH, .ref lB, .ref lJ, .ref aR, .ref aL, .int 0, .int 0, .int 0, .ref lC, .ref aM, .ref aP, .int 0, .int 0, .int 0, .int (-1), .int (-1), .int 0, .int 0, .long sm]))]) [0] rfl
    have hKc := hK.sub (tys' := []) [] rfl
    have hDc := hD.sub (ws' := [(h0, .inr (8, [.int 0, .ref lH, .ref lB, .ref lJ, .ref aR, .ref aL, .int 0, .int 0, .int 0, .ref lC, .ref aM, .ref aP, .int 0, .int 0, .int 0, .int (-1), .int (-1), .int 0, .int 0, .long sm]))]) [0] (by decide) rfl
    have hFc := va_free (wc := [(h0, .inr (8, [.int 0, .ref lH, .ref lB, .ref lJ, .ref aR, .ref aL, .int 0, .int 0, .int 0, .ref lC, .ref aM, .ref aP, .int 0, .int 0, .int 0, .int (-1), .int (-1), .int 0, .int 0, .long sm]))]) hD hS hA [0] rfl
    refine va_calli (va_runV (As := [.int 1]) (rest := []) ⟨hx, hb, hml, hown, hts⟩ (r_refuse l D eT h0 lH lB lJ aR aL lC aM aP sm 1 H.size ) (cwV 1 hts gX5_rules_X5_refuse rfl rfl rfl (by decide +kernel) ⟨Nat.le_of_ble_eq_true rfl, Nat.le_of_ble_eq_true rfl⟩) (pc_v (ci := 8) (q0 := 0) rfl rfl hPc hDc hKc hE hS hFc) rfl rfl hl.1 rfl (lv_room (Nat.le_of_ble_eq_true rfl)) dX5_rules_45 ⟨Nat.le_of_ble_eq_true rfl, Nat.le_of_ble_eq_true rfl⟩) hS (fun q _ h => hFc q h) hFc (fun r u t H1 locs ht hvm hw hB hz1 hk1 hS => ?_)
    have hw : r = 0 := hw
    rw [hw]
    obtain ⟨hP1, hK1, hD1⟩ := hB
    rw [ht] at hP1
    have hK1 := va_K.moved hvm.symm hK1
    obtain ⟨hP, hD⟩ := va_join (wr := []) (w1 := [(h0, .inr (8, [.int 1, .ref lH, .ref lB, .ref lJ, .ref aR, .ref aL, .int 0, .int 0, .int 0, .ref lC, .ref aM, .ref aP, .int 0, .int 0, .int 0, .int (-1), .int (-1), .int 0, .int 0, .long sm]))]) hP hD [0] [] rfl rfl (by decide) (by decide) hk1 hFc hP1 hD1
    generalize H1 = H at hP hS ⊢
    have hP : va_P D vwCl [(h0, .inr (8, [.int 1, .ref lH, .ref lB, .ref lJ, .ref aR, .ref aL, .int 0, .int 0, .int 0, .ref lC, .ref aM, .ref aP, .int 0, .int 0, .int 0, .int (-1), .int (-1), .int 0, .int 0, .long sm]))] H := hP
    have hD : va_D A [(h0, .inr (8, [.int 1, .ref lH, .ref lB, .ref lJ, .ref aR, .ref aL, .int 0, .int 0, .int 0, .ref lC, .ref aM, .ref aP, .int 0, .int 0, .int 0, .int (-1), .int (-1), .int 0, .int 0, .long sm]))] := hD
    have hP9 := hP.sub (ws' := [(h0, .inr (8, [.int 1, .ref lH, .ref lB, .ref lJ, .ref aR, .ref aL, .int 0, .int 0, .int 0, .ref lC, .ref aM, .ref aP, .int 0, .int 0, .int 0, .int (-1), .int (-1), .int 0, .int 0, .long sm]))]) [0] rfl
    have hD9 := hD.sub (ws' := [(h0, .inr (8, [.int 1, .ref lH, .ref lB, .ref lJ, .ref aR, .ref aL, .int 0, .int 0, .int 0, .ref lC, .ref aM, .ref aP, .int 0, .int 0, .int 0, .int (-1), .int (-1), .int 0, .int 0, .long sm]))]) [0] (by decide) rfl
    have hK9 := hK.sub (tys' := []) [] rfl
    exact W.iret (v := 0) hx hb hr (fun t ht hW => ⟨⟨0, (), rfl, rfl, ⟨by rw [ht]; exact hP9, va_K.moved hW.alike hK9, hD9⟩⟩, hS.F ht⟩) hS.2.2 dX5_rules_48
set_option maxHeartbeats 4000000 in
set_option maxRecDepth 100000 in
theorem r_rules (l : Launch) (D : va_G) (eT : Nat) (h0 : Nat) (lH : Nat) (lB : Nat) (lJ : Nat) (aR : Nat) (aL : Nat) (lC : Nat) (aM : Nat) (aP : Nat) (sm : Int64) (cI : ClassId) (cL : ClassId) (fR : Nat → Int32) (fL : Nat → Int32) (p0 : Int32) (p1 : Int32) (p2 : Int32) (p3 : Int32) (sz : Nat) (hR : fR 3 = 10) (a1 : 1 ≤ p0) (a2 : p0 ≤ 7) (b1 : 50 ≤ p1) (b2 : p1 ≤ p2) (c2 : p2 ≤ 900) (d1 : 0 ≤ p3) (d2 : p3 ≤ 50) : Met l yX5_rules wsX5_rules ({ frames := 1, cells := 1, slots := 4, locals := 40 }) (va_Pc [.ref h0, .int p0, .int p1, .int p2, .int p3] (pc D eT sz [(h0, .inr (8, [.int 0, .ref lH, .ref lB, .ref lJ, .ref aR, .ref aL, .int 0, .int 0, .int 0, .ref lC, .ref aM, .ref aP, .int 0, .int 0, .int 0, .int (-1), .int (-1), .int 0, .int 0, .long sm])), (aR, .inl (cI, 4, .inl fR)), (aL, .inl (cL, 4, .inl fL))] [(cI, .int), (cL, .int)])) (va_Qi (fun (r : Int32) (_ : Unit) => r = 10) (fun _ t => va_P D vwCl [(h0, .inr (8, [.int 0, .ref lH, .ref lB, .ref lJ, .ref aR, .ref aL, .int 0, .int 0, .int 0, .ref lC, .ref aM, .ref aP, .int 0, .int 0, .int 0, .int (-1), .int (-1), .int 0, .int 0, .long sm]))] t.heap ∧ va_K D vwCl [] t ∧ va_D (va_A [(h0, .inr (8, [.int 0, .ref lH, .ref lB, .ref lJ, .ref aR, .ref aL, .int 0, .int 0, .int 0, .ref lC, .ref aM, .ref aP, .int 0, .int 0, .int 0, .int (-1), .int (-1), .int 0, .int 0, .long sm])), (aR, .inl (cI, 4, .inl fR)), (aL, .inl (cL, 4, .inl fL))] sz) [(h0, .inr (8, [.int 0, .ref lH, .ref lB, .ref lJ, .ref aR, .ref aL, .int 0, .int 0, .int 0, .ref lC, .ref aM, .ref aP, .int 0, .int 0, .int 0, .int (-1), .int (-1), .int 0, .int 0, .long sm]))]) (va_A [(h0, .inr (8, [.int 0, .ref lH, .ref lB, .ref lJ, .ref aR, .ref aL, .int 0, .int 0, .int 0, .ref lC, .ref aM, .ref aP, .int 0, .int 0, .int 0, .int (-1), .int (-1), .int 0, .int 0, .long sm])), (aR, .inl (cI, 4, .inl fR)), (aL, .inl (cL, 4, .inl fL))] sz)) 1 4 (va_A [(h0, .inr (8, [.int 0, .ref lH, .ref lB, .ref lJ, .ref aR, .ref aL, .int 0, .int 0, .int 0, .ref lC, .ref aM, .ref aP, .int 0, .int 0, .int 0, .int (-1), .int (-1), .int 0, .int 0, .long sm])), (aR, .inl (cI, 4, .inl fR)), (aL, .inl (cL, 4, .inl fL))] sz) := by
  refine Met.ofW (cc := cX5_rules) (maxL := 6) (ret := (some .int)) (by decide +kernel) rfl ?_
  intro p e s m args below meth c s₁ B hml hv
  obtain ⟨rfl, hsz, hP, hK, hD0, hE⟩ := hv
  have hx := B.exec
  have hb := B.bytes
  have hr := B.returns
  have hts := atoms_spec (ws := wsX5_rules) B.pre
  have hown : s.vm.findClass RX5 = some m.cls := findClass_of_methodNamed B.named
  have hlocks := B.notSynchronized
  subst hsz
  have hD := hD0.self (sz := s.heap.size)
  generalize hAe : va_A [(h0, .inr (8, [.int 0, .ref lH, .ref lB, .ref lJ, .ref aR, .ref aL, .int 0, .int 0, .int 0, .ref lC, .ref aM, .ref aP, .int 0, .int 0, .int 0, .int (-1), .int (-1), .int 0, .int 0, .long sm])), (aR, .inl (cI, 4, .inl fR)), (aL, .inl (cL, 4, .inl fL))] s.heap.size = A at hD hE ⊢
  have hA : ∀ q : Nat, s.heap.size ≤ q → A q := fun q h => by rw [← hAe]; exact Or.inr h
  have hS : va_S A s.heap s.heap [] := va_S.rf
  have hP : va_P D vwCl [(h0, .inr (8, [.int 0, .ref lH, .ref lB, .ref lJ, .ref aR, .ref aL, .int 0, .int 0, .int 0, .ref lC, .ref aM, .ref aP, .int 0, .int 0, .int 0, .int (-1), .int (-1), .int 0, .int 0, .long sm])), (aR, .inl (cI, 4, .inl fR)), (aL, .inl (cL, 4, .inl fL))] s.heap := hP
  have hl := lv_entry ([.ref h0, .int p0, .int p1, .int p2, .int p3]) (n := 6) (Nat.le_of_ble_eq_true rfl)
  rw [lg_entry_eq]
  generalize (lg_sl ([.ref h0, .int p0, .int p1, .int p2, .int p3]) ++ List.replicate (6 - (lg_sl ([.ref h0, .int p0, .int p1, .int p2, .int p3])).length) Slot.unset).toArray = ls at hl ⊢
  have hl : lv_has ls 6 [(0, .ref h0), (1, .int p0), (2, .int p1), (3, .int p2), (4, .int p3)] := hl
  refine lv_aload_n hx hb dX5_rules_0 rfl (lv_at hl 0 rfl) ?_
  refine lv_iconst (v := 0) hx hb dX5_rules_1 (by decide) ?_
  refine va_put (D := D) (ci := 8) (v := .int 0) (C := RX5) (T := TX5) (N := 20) hx hb hts (by decide +kernel) tyX5 tyX5_ok nmX5 hown hK hP hD hS 0 rfl rfl 0 (by decide) (hts (.fieldLink RX5 50 "PrizeHouseModel" "thrown" "I") (by decide +kernel)) (fun _ h9 => h9) rfl (tyX5_ok 0 (by decide)) rfl rfl (Nat.le_of_ble_eq_true rfl) dX5_rules_2 (fun H locs hP hD hS => ?_)
  have hP : va_P D vwCl [(h0, .inr (8, [.int 0, .ref lH, .ref lB, .ref lJ, .ref aR, .ref aL, .int 0, .int 0, .int 0, .ref lC, .ref aM, .ref aP, .int 0, .int 0, .int 0, .int (-1), .int (-1), .int 0, .int 0, .long sm])), (aR, .inl (cI, 4, .inl fR)), (aL, .inl (cL, 4, .inl fL))] H := hP
  have hD : va_D A [(h0, .inr (8, [.int 0, .ref lH, .ref lB, .ref lJ, .ref aR, .ref aL, .int 0, .int 0, .int 0, .ref lC, .ref aM, .ref aP, .int 0, .int 0, .int 0, .int (-1), .int (-1), .int 0, .int 0, .long sm])), (aR, .inl (cI, 4, .inl fR)), (aL, .inl (cL, 4, .inl fL))] := hD
  refine lv_iload_n hx hb dX5_rules_5 rfl (lv_at hl 1 rfl) ?_
  refine lv_iconst (v := 1) hx hb dX5_rules_6 (by decide) ?_
  refine lv_bipush (v := 7) hx hb dX5_rules_7 (by decide) ?_
  have hPc := hP.sub (ws' := []) [] rfl
  have hKc := hK.sub (tys' := []) [] rfl
  refine va_calli (va_runS (As := [.int p0, .int 1, .int 7]) (rest := []) ⟨hx, hb, hml, hown, hts⟩ (k_is_t l D eT p0 1 7 H.size a1 a2) (va_cwS 3 hts gX5_rules_X5_is rfl rfl rfl (by decide +kernel) ⟨Nat.le_of_ble_eq_true rfl, Nat.le_of_ble_eq_true rfl⟩) (pr_s hPc hKc hE hS hA) rfl rfl hl.1 rfl (lv_room (Nat.le_of_ble_eq_true rfl)) dX5_rules_9 ⟨Nat.le_of_ble_eq_true rfl, Nat.le_of_ble_eq_true rfl⟩) hS (fun q h1 h2 => ro_A h1 h2) (fun q h => ro_F hS hA q h) (fun r u t H1 locs ht hvm hw hB hz1 hk1 hS => ?_)
  have hw : r = 1 := hw
  rw [hw]
  have hP := ro_P hP hk1
  generalize H1 = H at hP hS ⊢
  refine lv_if_eq (tgt := 43) hx hb dX5_rules_12 (by decide) (fun h => absurd h (by decide)) (fun _ => ?_)
  refine lv_iload_n hx hb dX5_rules_15 rfl (lv_at hl 2 rfl) ?_
  refine lv_bipush (v := 50) hx hb dX5_rules_16 (by decide) ?_
  refine lv_iload_n hx hb dX5_rules_18 rfl (lv_at hl 3 rfl) ?_
  have hPc := hP.sub (ws' := []) [] rfl
  have hKc := hK.sub (tys' := []) [] rfl
  refine va_calli (va_runS (As := [.int p1, .int 50, .int p2]) (rest := []) ⟨hx, hb, hml, hown, hts⟩ (k_is_t l D eT p1 50 p2 H.size b1 b2) (va_cwS 3 hts gX5_rules_X5_is rfl rfl rfl (by decide +kernel) ⟨Nat.le_of_ble_eq_true rfl, Nat.le_of_ble_eq_true rfl⟩) (pr_s hPc hKc hE hS hA) rfl rfl hl.1 rfl (lv_room (Nat.le_of_ble_eq_true rfl)) dX5_rules_19 ⟨Nat.le_of_ble_eq_true rfl, Nat.le_of_ble_eq_true rfl⟩) hS (fun q h1 h2 => ro_A h1 h2) (fun q h => ro_F hS hA q h) (fun r u t H1 locs ht hvm hw hB hz1 hk1 hS => ?_)
  have hw : r = 1 := hw
  rw [hw]
  have hP := ro_P hP hk1
  generalize H1 = H at hP hS ⊢
  refine lv_if_eq (tgt := 43) hx hb dX5_rules_22 (by decide) (fun h => absurd h (by decide)) (fun _ => ?_)
  refine lv_iload_n hx hb dX5_rules_25 rfl (lv_at hl 3 rfl) ?_
  refine lv_sipush (v := 900) hx hb dX5_rules_26 (by decide) ?_
  refine lv_icmp_gt (tgt := 43) hx hb dX5_rules_29 (by decide) (fun h => absurd h (i_le c2)) (fun hc => ?_)
  refine lv_iload hx hb dX5_rules_32 (lv_at hl 4 rfl) ?_
  refine lv_iconst (v := 0) hx hb dX5_rules_34 (by decide) ?_
  refine lv_bipush (v := 50) hx hb dX5_rules_35 (by decide) ?_
  have hPc := hP.sub (ws' := []) [] rfl
  have hKc := hK.sub (tys' := []) [] rfl
  refine va_calli (va_runS (As := [.int p3, .int 0, .int 50]) (rest := []) ⟨hx, hb, hml, hown, hts⟩ (k_is_t l D eT p3 0 50 H.size d1 d2) (va_cwS 3 hts gX5_rules_X5_is rfl rfl rfl (by decide +kernel) ⟨Nat.le_of_ble_eq_true rfl, Nat.le_of_ble_eq_true rfl⟩) (pr_s hPc hKc hE hS hA) rfl rfl hl.1 rfl (lv_room (Nat.le_of_ble_eq_true rfl)) dX5_rules_37 ⟨Nat.le_of_ble_eq_true rfl, Nat.le_of_ble_eq_true rfl⟩) hS (fun q h1 h2 => ro_A h1 h2) (fun q h => ro_F hS hA q h) (fun r u t H1 locs ht hvm hw hB hz1 hk1 hS => ?_)
  have hw : r = 1 := hw
  rw [hw]
  have hP := ro_P hP hk1
  generalize H1 = H at hP hS ⊢
  refine lv_if_ne (tgt := 49) hx hb dX5_rules_40 (by decide) (fun _ => ?_) (fun h => absurd h (by decide))
  refine lv_iconst (v := 4) hx hb dX5_rules_49 (by decide) ?_
  refine va_newa (atype := .int) (ty := .int) (N' := 4) (a0 := (4, (.inl (fun _ => 0)))) hx hb (hts (.arrayClass .int) (by decide +kernel)) rfl hK hP hD hS hA (fun _ => rfl) (by decide) (by decide) (Nat.le_of_ble_eq_true rfl) (Nat.le_of_ble_eq_true rfl) (Nat.le_of_ble_eq_true rfl) dX5_rules_50 (fun q_1 cA_2 H hK hP hD hS => ?_)
  have hK : va_K D vwCl [(cI, .int), (cL, .int), (cA_2, .int)] s := hK
  have hP : va_P D vwCl [(h0, .inr (8, [.int 0, .ref lH, .ref lB, .ref lJ, .ref aR, .ref aL, .int 0, .int 0, .int 0, .ref lC, .ref aM, .ref aP, .int 0, .int 0, .int 0, .int (-1), .int (-1), .int 0, .int 0, .long sm])), (aR, .inl (cI, 4, .inl fR)), (aL, .inl (cL, 4, .inl fL)), (q_1, .inl (cA_2, 4, .inl (fun _ => 0)))] H := hP
  have hD : va_D A [(h0, .inr (8, [.int 0, .ref lH, .ref lB, .ref lJ, .ref aR, .ref aL, .int 0, .int 0, .int 0, .ref lC, .ref aM, .ref aP, .int 0, .int 0, .int 0, .int (-1), .int (-1), .int 0, .int 0, .long sm])), (aR, .inl (cI, 4, .inl fR)), (aL, .inl (cL, 4, .inl fL)), (q_1, .inl (cA_2, 4, .inl (fun _ => 0)))] := hD
  refine W.widen (k := 1) (n := 4) (Nat.le_of_ble_eq_true rfl) (Nat.le_of_ble_eq_true rfl) ?_
  refine lv_dup hx hb dX5_rules_52 rfl ?_
  refine lv_iconst (v := 0) hx hb dX5_rules_53 (by decide) ?_
  refine lv_iload_n hx hb dX5_rules_54 rfl (lv_at hl 1 rfl) ?_
  refine va_iast hx hb hK hP hD hS 3 2 rfl rfl (by unfold vp_in; decide +kernel) dX5_rules_55 (fun H locs hP hD hS => ?_)
  have hP : va_P D vwCl [(h0, .inr (8, [.int 0, .ref lH, .ref lB, .ref lJ, .ref aR, .ref aL, .int 0, .int 0, .int 0, .ref lC, .ref aM, .ref aP, .int 0, .int 0, .int 0, .int (-1), .int (-1), .int 0, .int 0, .long sm])), (aR, .inl (cI, 4, .inl fR)), (aL, .inl (cL, 4, .inl fL)), (q_1, .inl (cA_2, 4, .inl (upd (fun _ => 0) (Int32.toNatClampNeg 0) p0)))] H := hP
  have hD : va_D A [(h0, .inr (8, [.int 0, .ref lH, .ref lB, .ref lJ, .ref aR, .ref aL, .int 0, .int 0, .int 0, .ref lC, .ref aM, .ref aP, .int 0, .int 0, .int 0, .int (-1), .int (-1), .int 0, .int 0, .long sm])), (aR, .inl (cI, 4, .inl fR)), (aL, .inl (cL, 4, .inl fL)), (q_1, .inl (cA_2, 4, .inl (upd (fun _ => 0) (Int32.toNatClampNeg 0) p0)))] := hD
  refine lv_dup hx hb dX5_rules_56 rfl ?_
  refine lv_iconst (v := 1) hx hb dX5_rules_57 (by decide) ?_
  refine lv_iload_n hx hb dX5_rules_58 rfl (lv_at hl 2 rfl) ?_
  refine va_iast hx hb hK hP hD hS 3 2 rfl rfl (by unfold vp_in; decide +kernel) dX5_rules_59 (fun H locs hP hD hS => ?_)
  have hP : va_P D vwCl [(h0, .inr (8, [.int 0, .ref lH, .ref lB, .ref lJ, .ref aR, .ref aL, .int 0, .int 0, .int 0, .ref lC, .ref aM, .ref aP, .int 0, .int 0, .int 0, .int (-1), .int (-1), .int 0, .int 0, .long sm])), (aR, .inl (cI, 4, .inl fR)), (aL, .inl (cL, 4, .inl fL)), (q_1, .inl (cA_2, 4, .inl (upd (upd (fun _ => 0) (Int32.toNatClampNeg 0) p0) (Int32.toNatClampNeg 1) p1)))] H := hP
  have hD : va_D A [(h0, .inr (8, [.int 0, .ref lH, .ref lB, .ref lJ, .ref aR, .ref aL, .int 0, .int 0, .int 0, .ref lC, .ref aM, .ref aP, .int 0, .int 0, .int 0, .int (-1), .int (-1), .int 0, .int 0, .long sm])), (aR, .inl (cI, 4, .inl fR)), (aL, .inl (cL, 4, .inl fL)), (q_1, .inl (cA_2, 4, .inl (upd (upd (fun _ => 0) (Int32.toNatClampNeg 0) p0) (Int32.toNatClampNeg 1) p1)))] := hD
  refine lv_dup hx hb dX5_rules_60 rfl ?_
  refine lv_iconst (v := 2) hx hb dX5_rules_61 (by decide) ?_
  refine lv_iload_n hx hb dX5_rules_62 rfl (lv_at hl 3 rfl) ?_
  refine va_iast hx hb hK hP hD hS 3 2 rfl rfl (by unfold vp_in; decide +kernel) dX5_rules_63 (fun H locs hP hD hS => ?_)
  have hP : va_P D vwCl [(h0, .inr (8, [.int 0, .ref lH, .ref lB, .ref lJ, .ref aR, .ref aL, .int 0, .int 0, .int 0, .ref lC, .ref aM, .ref aP, .int 0, .int 0, .int 0, .int (-1), .int (-1), .int 0, .int 0, .long sm])), (aR, .inl (cI, 4, .inl fR)), (aL, .inl (cL, 4, .inl fL)), (q_1, .inl (cA_2, 4, .inl (upd (upd (upd (fun _ => 0) (Int32.toNatClampNeg 0) p0) (Int32.toNatClampNeg 1) p1) (Int32.toNatClampNeg 2) p2)))] H := hP
  have hD : va_D A [(h0, .inr (8, [.int 0, .ref lH, .ref lB, .ref lJ, .ref aR, .ref aL, .int 0, .int 0, .int 0, .ref lC, .ref aM, .ref aP, .int 0, .int 0, .int 0, .int (-1), .int (-1), .int 0, .int 0, .long sm])), (aR, .inl (cI, 4, .inl fR)), (aL, .inl (cL, 4, .inl fL)), (q_1, .inl (cA_2, 4, .inl (upd (upd (upd (fun _ => 0) (Int32.toNatClampNeg 0) p0) (Int32.toNatClampNeg 1) p1) (Int32.toNatClampNeg 2) p2)))] := hD
  refine lv_dup hx hb dX5_rules_64 rfl ?_
  refine lv_iconst (v := 3) hx hb dX5_rules_65 (by decide) ?_
  refine lv_iload hx hb dX5_rules_66 (lv_at hl 4 rfl) ?_
  refine va_iast hx hb hK hP hD hS 3 2 rfl rfl (by unfold vp_in; decide +kernel) dX5_rules_68 (fun H locs hP hD hS => ?_)
  have hP : va_P D vwCl [(h0, .inr (8, [.int 0, .ref lH, .ref lB, .ref lJ, .ref aR, .ref aL, .int 0, .int 0, .int 0, .ref lC, .ref aM, .ref aP, .int 0, .int 0, .int 0, .int (-1), .int (-1), .int 0, .int 0, .long sm])), (aR, .inl (cI, 4, .inl fR)), (aL, .inl (cL, 4, .inl fL)), (q_1, .inl (cA_2, 4, .inl (upd (upd (upd (upd (fun _ => 0) (Int32.toNatClampNeg 0) p0) (Int32.toNatClampNeg 1) p1) (Int32.toNatClampNeg 2) p2) (Int32.toNatClampNeg 3) p3)))] H := hP
  have hD : va_D A [(h0, .inr (8, [.int 0, .ref lH, .ref lB, .ref lJ, .ref aR, .ref aL, .int 0, .int 0, .int 0, .ref lC, .ref aM, .ref aP, .int 0, .int 0, .int 0, .int (-1), .int (-1), .int 0, .int 0, .long sm])), (aR, .inl (cI, 4, .inl fR)), (aL, .inl (cL, 4, .inl fL)), (q_1, .inl (cA_2, 4, .inl (upd (upd (upd (upd (fun _ => 0) (Int32.toNatClampNeg 0) p0) (Int32.toNatClampNeg 1) p1) (Int32.toNatClampNeg 2) p2) (Int32.toNatClampNeg 3) p3)))] := hD
  refine lv_astore (lv' := [(5, .ref q_1), (0, .ref h0), (1, .int p0), (2, .int p1), (3, .int p2), (4, .int p3)]) hx hb dX5_rules_69 hl (by decide) rfl (fun ls hl => ?_)
  refine lv_aload hx hb dX5_rules_71 (lv_at hl 0 rfl) ?_
  refine lv_iconst (v := 0) hx hb dX5_rules_73 (by decide) ?_
  refine lv_aload_n hx hb dX5_rules_74 rfl (lv_at hl 1 rfl) ?_
  refine va_get (D := D) (ci := 8) (v := .ref aL) (C := RX5) (T := TX5) (N := 20) hx hb hts (by decide +kernel) hown hK hP 0 rfl rfl 5 (by decide) (hts (.fieldLink RX5 26 "PrizeHouseModel" "later" "[I") (by decide +kernel)) (fun _ h9 => h9) rfl dX5_rules_75 ?_
  refine lv_iconst (v := 0) hx hb dX5_rules_78 (by decide) ?_
  refine lv_iconst (v := 4) hx hb dX5_rules_79 (by decide) ?_
  refine va_copyi hx hb (hml.trans hl.1.symm) hown (hts (.methodLink RX5 116 arraycopyName) (by decide +kernel)) (hts (.native arraycopyName) (by decide +kernel)) (hts (.static arraycopyName) (by decide +kernel)) (hts (.initialized "java/lang/System") (by decide +kernel)) hK hP hD hS 3 2 2 1 rfl rfl rfl rfl rfl (by decide) (by decide) (by decide) (by decide +kernel) (by decide +kernel) (fun _ _ => rfl) (Nat.le_of_ble_eq_true rfl) (Nat.le_of_ble_eq_true rfl) dX5_rules_80 (fun H locs hP hD hS => ?_)
  have hP : va_P D vwCl [(h0, .inr (8, [.int 0, .ref lH, .ref lB, .ref lJ, .ref aR, .ref aL, .int 0, .int 0, .int 0, .ref lC, .ref aM, .ref aP, .int 0, .int 0, .int 0, .int (-1), .int (-1), .int 0, .int 0, .long sm])), (aR, .inl (cI, 4, .inl fR)), (aL, .inl (cL, 4, .inl (va_cpy (upd (upd (upd (upd (fun _ => 0) (Int32.toNatClampNeg 0) p0) (Int32.toNatClampNeg 1) p1) (Int32.toNatClampNeg 2) p2) (Int32.toNatClampNeg 3) p3) fL (Int32.toNatClampNeg 0) (Int32.toNatClampNeg 0) (Int32.toNatClampNeg 4)))), (q_1, .inl (cA_2, 4, .inl (upd (upd (upd (upd (fun _ => 0) (Int32.toNatClampNeg 0) p0) (Int32.toNatClampNeg 1) p1) (Int32.toNatClampNeg 2) p2) (Int32.toNatClampNeg 3) p3)))] H := hP
  have hD : va_D A [(h0, .inr (8, [.int 0, .ref lH, .ref lB, .ref lJ, .ref aR, .ref aL, .int 0, .int 0, .int 0, .ref lC, .ref aM, .ref aP, .int 0, .int 0, .int 0, .int (-1), .int (-1), .int 0, .int 0, .long sm])), (aR, .inl (cI, 4, .inl fR)), (aL, .inl (cL, 4, .inl (va_cpy (upd (upd (upd (upd (fun _ => 0) (Int32.toNatClampNeg 0) p0) (Int32.toNatClampNeg 1) p1) (Int32.toNatClampNeg 2) p2) (Int32.toNatClampNeg 3) p3) fL (Int32.toNatClampNeg 0) (Int32.toNatClampNeg 0) (Int32.toNatClampNeg 4)))), (q_1, .inl (cA_2, 4, .inl (upd (upd (upd (upd (fun _ => 0) (Int32.toNatClampNeg 0) p0) (Int32.toNatClampNeg 1) p1) (Int32.toNatClampNeg 2) p2) (Int32.toNatClampNeg 3) p3)))] := hD
  refine lv_aload_n hx hb dX5_rules_83 rfl (lv_at hl 1 rfl) ?_
  refine va_get (D := D) (ci := 8) (v := .ref aR) (C := RX5) (T := TX5) (N := 20) hx hb hts (by decide +kernel) hown hK hP 0 rfl rfl 4 (by decide) (hts (.fieldLink RX5 22 "PrizeHouseModel" "rules" "[I") (by decide +kernel)) (fun _ h9 => h9) rfl dX5_rules_84 ?_
  refine lv_iconst (v := 3) hx hb dX5_rules_87 (by decide) ?_
  refine va_iald hx hb hK hP 1 0 rfl rfl (by unfold vp_in; decide +kernel) dX5_rules_88 ?_
  refine lv_topi (fun z_3 ez_3 => ?_)
  have ez_3 : z_3 = 10 := ez_3.trans hR
  rw [ez_3]
  have hP9 := hP.sub (ws' := [(h0, .inr (8, [.int 0, .ref lH, .ref lB, .ref lJ, .ref aR, .ref aL, .int 0, .int 0, .int 0, .ref lC, .ref aM, .ref aP, .int 0, .int 0, .int 0, .int (-1), .int (-1), .int 0, .int 0, .long sm]))]) [0] rfl
  have hD9 := hD.sub (ws' := [(h0, .inr (8, [.int 0, .ref lH, .ref lB, .ref lJ, .ref aR, .ref aL, .int 0, .int 0, .int 0, .ref lC, .ref aM, .ref aP, .int 0, .int 0, .int 0, .int (-1), .int (-1), .int 0, .int 0, .long sm]))]) [0] (by decide) rfl
  have hK9 := hK.sub (tys' := []) [] rfl
  exact W.iret (v := 10) hx hb hr (fun t ht hW => ⟨⟨10, (), rfl, rfl, ⟨by rw [ht]; exact hP9, va_K.moved hW.alike hK9, hD9⟩⟩, hS.F ht⟩) hS.2.2 dX5_rules_89
set_option maxHeartbeats 4000000 in
set_option maxRecDepth 100000 in
theorem r_pass (l : Launch) (D : va_G) (eT : Nat) (h0 : Nat) (lH : Nat) (lB : Nat) (lJ : Nat) (aR : Nat) (aL : Nat) (lC : Nat) (aM : Nat) (aP : Nat) (sm : Int64) (p0 : Int32) (sz : Nat) (h1 : 1 ≤ p0) (h2 : p0 ≤ 60) : Met l yX5_pass wsX5_pass ({ frames := 1, cells := 0, slots := 0, locals := 22 }) (va_Pc [.ref h0, .int p0] (pc D eT sz [(h0, .inr (8, [.int 0, .ref lH, .ref lB, .ref lJ, .ref aR, .ref aL, .int 0, .int 0, .int 0, .ref lC, .ref aM, .ref aP, .int 0, .int 0, .int 0, .int (-1), .int (-1), .int 0, .int 0, .long sm])), (lB, .inr (2, [.int 0, .ref eT, .int 0])), (lJ, .inr (2, [.int 0, .ref eT, .int 0]))] [])) (va_Qi (fun (r : Int32) (_ : Unit) => r = 0) (fun _ t => ∃ dy : Int32, va_P D vwCl [(h0, .inr (8, [.int 0, .ref lH, .ref lB, .ref lJ, .ref aR, .ref aL, .int 0, .int 0, .int dy, .ref lC, .ref aM, .ref aP, .int 0, .int 0, .int 0, .int (-1), .int (-1), .int 0, .int 0, .long sm]))] t.heap ∧ va_K D vwCl [] t ∧ va_D (va_A [(h0, .inr (8, [.int 0, .ref lH, .ref lB, .ref lJ, .ref aR, .ref aL, .int 0, .int 0, .int 0, .ref lC, .ref aM, .ref aP, .int 0, .int 0, .int 0, .int (-1), .int (-1), .int 0, .int 0, .long sm])), (lB, .inr (2, [.int 0, .ref eT, .int 0])), (lJ, .inr (2, [.int 0, .ref eT, .int 0]))] sz) [(h0, .inr (8, [.int 0, .ref lH, .ref lB, .ref lJ, .ref aR, .ref aL, .int 0, .int 0, .int dy, .ref lC, .ref aM, .ref aP, .int 0, .int 0, .int 0, .int (-1), .int (-1), .int 0, .int 0, .long sm]))]) (va_A [(h0, .inr (8, [.int 0, .ref lH, .ref lB, .ref lJ, .ref aR, .ref aL, .int 0, .int 0, .int 0, .ref lC, .ref aM, .ref aP, .int 0, .int 0, .int 0, .int (-1), .int (-1), .int 0, .int 0, .long sm])), (lB, .inr (2, [.int 0, .ref eT, .int 0])), (lJ, .inr (2, [.int 0, .ref eT, .int 0]))] sz)) 0 0 (va_A [(h0, .inr (8, [.int 0, .ref lH, .ref lB, .ref lJ, .ref aR, .ref aL, .int 0, .int 0, .int 0, .ref lC, .ref aM, .ref aP, .int 0, .int 0, .int 0, .int (-1), .int (-1), .int 0, .int 0, .long sm])), (lB, .inr (2, [.int 0, .ref eT, .int 0])), (lJ, .inr (2, [.int 0, .ref eT, .int 0]))] sz) := by
  refine Met.ofW (cc := cX5_pass) (maxL := 5) (ret := (some .int)) (by decide +kernel) rfl ?_
  intro p e s m args below meth c s₁ B hml hv
  obtain ⟨rfl, hsz, hP, hK, hD0, hE⟩ := hv
  have hx := B.exec
  have hb := B.bytes
  have hr := B.returns
  have hts := atoms_spec (ws := wsX5_pass) B.pre
  have hown : s.vm.findClass RX5 = some m.cls := findClass_of_methodNamed B.named
  have hlocks := B.notSynchronized
  subst hsz
  have hD := hD0.self (sz := s.heap.size)
  generalize hAe : va_A [(h0, .inr (8, [.int 0, .ref lH, .ref lB, .ref lJ, .ref aR, .ref aL, .int 0, .int 0, .int 0, .ref lC, .ref aM, .ref aP, .int 0, .int 0, .int 0, .int (-1), .int (-1), .int 0, .int 0, .long sm])), (lB, .inr (2, [.int 0, .ref eT, .int 0])), (lJ, .inr (2, [.int 0, .ref eT, .int 0]))] s.heap.size = A at hD hE ⊢
  have hA : ∀ q : Nat, s.heap.size ≤ q → A q := fun q h => by rw [← hAe]; exact Or.inr h
  have hS : va_S A s.heap s.heap [] := va_S.rf
  have hP : va_P D vwCl [(h0, .inr (8, [.int 0, .ref lH, .ref lB, .ref lJ, .ref aR, .ref aL, .int 0, .int 0, .int 0, .ref lC, .ref aM, .ref aP, .int 0, .int 0, .int 0, .int (-1), .int (-1), .int 0, .int 0, .long sm])), (lB, .inr (2, [.int 0, .ref eT, .int 0])), (lJ, .inr (2, [.int 0, .ref eT, .int 0]))] s.heap := hP
  have hl := lv_entry ([.ref h0, .int p0]) (n := 5) (Nat.le_of_ble_eq_true rfl)
  rw [lg_entry_eq]
  generalize (lg_sl ([.ref h0, .int p0]) ++ List.replicate (5 - (lg_sl ([.ref h0, .int p0])).length) Slot.unset).toArray = ls at hl ⊢
  have hl : lv_has ls 5 [(0, .ref h0), (1, .int p0)] := hl
  refine lv_aload_n hx hb dX5_pass_0 rfl (lv_at hl 0 rfl) ?_
  refine lv_iconst (v := 0) hx hb dX5_pass_1 (by decide) ?_
  refine va_put (D := D) (ci := 8) (v := .int 0) (C := RX5) (T := TX5) (N := 20) hx hb hts (by decide +kernel) tyX5 tyX5_ok nmX5 hown hK hP hD hS 0 rfl rfl 0 (by decide) (hts (.fieldLink RX5 50 "PrizeHouseModel" "thrown" "I") (by decide +kernel)) (fun _ h9 => h9) rfl (tyX5_ok 0 (by decide)) rfl rfl (Nat.le_of_ble_eq_true rfl) dX5_pass_2 (fun H locs hP hD hS => ?_)
  have hP : va_P D vwCl [(h0, .inr (8, [.int 0, .ref lH, .ref lB, .ref lJ, .ref aR, .ref aL, .int 0, .int 0, .int 0, .ref lC, .ref aM, .ref aP, .int 0, .int 0, .int 0, .int (-1), .int (-1), .int 0, .int 0, .long sm])), (lB, .inr (2, [.int 0, .ref eT, .int 0])), (lJ, .inr (2, [.int 0, .ref eT, .int 0]))] H := hP
  have hD : va_D A [(h0, .inr (8, [.int 0, .ref lH, .ref lB, .ref lJ, .ref aR, .ref aL, .int 0, .int 0, .int 0, .ref lC, .ref aM, .ref aP, .int 0, .int 0, .int 0, .int (-1), .int (-1), .int 0, .int 0, .long sm])), (lB, .inr (2, [.int 0, .ref eT, .int 0])), (lJ, .inr (2, [.int 0, .ref eT, .int 0]))] := hD
  refine lv_iload_n hx hb dX5_pass_5 rfl (lv_at hl 1 rfl) ?_
  refine lv_iconst (v := 1) hx hb dX5_pass_6 (by decide) ?_
  refine lv_bipush (v := 60) hx hb dX5_pass_7 (by decide) ?_
  have hPc := hP.sub (ws' := []) [] rfl
  have hKc := hK.sub (tys' := []) [] rfl
  refine va_calli (va_runS (As := [.int p0, .int 1, .int 60]) (rest := []) ⟨hx, hb, hml, hown, hts⟩ (k_is_t l D eT p0 1 60 H.size h1 h2) (va_cwS 3 hts gX5_pass_X5_is rfl rfl rfl (by decide +kernel) ⟨Nat.le_of_ble_eq_true rfl, Nat.le_of_ble_eq_true rfl⟩) (pr_s hPc hKc hE hS hA) rfl rfl hl.1 rfl (lv_room (Nat.le_of_ble_eq_true rfl)) dX5_pass_9 ⟨Nat.le_of_ble_eq_true rfl, Nat.le_of_ble_eq_true rfl⟩) hS (fun q h1 h2 => ro_A h1 h2) (fun q h => ro_F hS hA q h) (fun r u t H1 locs ht hvm hw hB hz1 hk1 hS => ?_)
  have hw : r = 1 := hw
  rw [hw]
  have hP := ro_P hP hk1
  generalize H1 = H at hP hS ⊢
  refine lv_if_ne (tgt := 21) hx hb dX5_pass_12 (by decide) (fun _ => ?_) (fun h => absurd h (by decide))
  refine lv_aload_n hx hb dX5_pass_21 rfl (lv_at hl 0 rfl) ?_
  refine va_get (D := D) (ci := 8) (v := .int 0) (C := RX5) (T := TX5) (N := 20) hx hb hts (by decide +kernel) hown hK hP 0 rfl rfl 8 (by decide) (hts (.fieldLink RX5 182 "PrizeHouseModel" "day" "I") (by decide +kernel)) (fun _ h9 => h9) rfl dX5_pass_22 ?_
  refine lv_iload_n hx hb dX5_pass_25 rfl (lv_at hl 1 rfl) ?_
  refine lv_iadd hx hb dX5_pass_26 ?_
  refine lv_sipush (v := 9999) hx hb dX5_pass_27 (by decide) ?_
  refine lv_icmp_le (tgt := 39) hx hb dX5_pass_30 (by decide) (fun hc => ?_) (fun h => absurd (le_days h2) h)
  refine lv_iconst (v := 0) hx hb dX5_pass_39 (by decide) ?_
  refine lv_istore_n (lv' := [(2, .int 0), (0, .ref h0), (1, .int p0)]) hx hb dX5_pass_40 rfl hl (by decide) rfl (fun ls hl => ?_)
  refine lv_iconst (v := 0) hx hb dX5_pass_41 (by decide) ?_
  refine lv_istore_n (lv' := [(3, .int 0), (2, .int 0), (0, .ref h0), (1, .int p0)]) hx hb dX5_pass_42 rfl hl (by decide) rfl (fun ls hl => ?_)
  obtain ⟨N, hN, eN⟩ : ∃ N : Nat, N ≤ 60 ∧ p0 = nI N := nI_of2 (M := 60) rfl (fun h => absurd h (i_le (Int32.le_trans (by decide) h1))) h2
  have K : ∀ (n i : Nat) (x y : Int32), i + n = N → x = nI i → ∀ (H : Heap) (locs : List Loc), va_P D vwCl [(h0, .inr (8, [.int 0, .ref lH, .ref lB, .ref lJ, .ref aR, .ref aL, .int 0, .int 0, .int y, .ref lC, .ref aM, .ref aP, .int 0, .int 0, .int 0, .int (-1), .int (-1), .int 0, .int 0, .long sm])), (lB, .inr (2, [.int 0, .ref eT, .int 0])), (lJ, .inr (2, [.int 0, .ref eT, .int 0]))] H → va_D A [(h0, .inr (8, [.int 0, .ref lH, .ref lB, .ref lJ, .ref aR, .ref aL, .int 0, .int 0, .int y, .ref lC, .ref aM, .ref aP, .int 0, .int 0, .int 0, .int (-1), .int (-1), .int 0, .int 0, .long sm])), (lB, .inr (2, [.int 0, .ref eT, .int 0])), (lJ, .inr (2, [.int 0, .ref eT, .int 0]))] → va_S A s.heap H locs → ∀ (ls : Array Slot), lv_has ls 5 [(3, .int x), (2, .int 0), (0, .ref h0), (1, .int p0)] → W p l e (headSpec wsX5_pass ({ frames := 1, cells := 0, slots := 0, locals := 22 })).room s m [.ref h0, .int p0].toArray below meth c H locs 0 0 (MQ below (va_Qi (fun (r : Int32) (_ : Unit) => r = 0) (fun _ t => ∃ dy : Int32, va_P D vwCl [(h0, .inr (8, [.int 0, .ref lH, .ref lB, .ref lJ, .ref aR, .ref aL, .int 0, .int 0, .int dy, .ref lC, .ref aM, .ref aP, .int 0, .int 0, .int 0, .int (-1), .int (-1), .int 0, .int 0, .long sm]))] t.heap ∧ va_K D vwCl [] t ∧ va_D A [(h0, .inr (8, [.int 0, .ref lH, .ref lB, .ref lJ, .ref aR, .ref aL, .int 0, .int 0, .int dy, .ref lC, .ref aM, .ref aP, .int 0, .int 0, .int 0, .int (-1), .int (-1), .int 0, .int 0, .long sm]))]) A) [.ref h0, .int p0].toArray s 0 0 A) (F0 m 43 ls []) := by
    intro n
    induction n with
    | zero =>
      intro i x y hin hx3 H locs hP hD hS ls hl
      refine lv_iload_n hx hb dX5_pass_43 rfl (lv_at hl 0 rfl) ?_
      refine lv_iload_n hx hb dX5_pass_44 rfl (lv_at hl 3 rfl) ?_
      refine lv_icmp_ge (tgt := 129) hx hb dX5_pass_45 (by decide) (fun hc => ?_) (fun hc => ?_)
      · skip
        refine lv_iload_n hx hb dX5_pass_129 rfl (lv_at hl 1 rfl) ?_
        have hP9 := hP.sub (ws' := [(h0, .inr (8, [.int 0, .ref lH, .ref lB, .ref lJ, .ref aR, .ref aL, .int 0, .int 0, .int y, .ref lC, .ref aM, .ref aP, .int 0, .int 0, .int 0, .int (-1), .int (-1), .int 0, .int 0, .long sm]))]) [0] rfl
        have hD9 := hD.sub (ws' := [(h0, .inr (8, [.int 0, .ref lH, .ref lB, .ref lJ, .ref aR, .ref aL, .int 0, .int 0, .int y, .ref lC, .ref aM, .ref aP, .int 0, .int 0, .int 0, .int (-1), .int (-1), .int 0, .int 0, .long sm]))]) [0] (by decide) rfl
        have hK9 := hK.sub (tys' := []) [] rfl
        exact W.iret (v := 0) hx hb hr (fun t ht hW => ⟨⟨0, (), rfl, rfl, ⟨y, by rw [ht]; exact hP9, va_K.moved hW.alike hK9, hD9⟩⟩, hS.F ht⟩) hS.2.2 dX5_pass_130
      · skip
        exact absurd (by rw [eN, hx3, show i = N from hin]; exact Int32.le_refl _) hc
    | succ n ih =>
      intro i x y hin hx3 H locs hP hD hS ls hl
      refine lv_iload_n hx hb dX5_pass_43 rfl (lv_at hl 0 rfl) ?_
      refine lv_iload_n hx hb dX5_pass_44 rfl (lv_at hl 3 rfl) ?_
      refine lv_icmp_ge (tgt := 129) hx hb dX5_pass_45 (by decide) (fun hc => ?_) (fun hc => ?_)
      · skip
        refine lv_iload_n hx hb dX5_pass_129 rfl (lv_at hl 1 rfl) ?_
        have hP9 := hP.sub (ws' := [(h0, .inr (8, [.int 0, .ref lH, .ref lB, .ref lJ, .ref aR, .ref aL, .int 0, .int 0, .int y, .ref lC, .ref aM, .ref aP, .int 0, .int 0, .int 0, .int (-1), .int (-1), .int 0, .int 0, .long sm]))]) [0] rfl
        have hD9 := hD.sub (ws' := [(h0, .inr (8, [.int 0, .ref lH, .ref lB, .ref lJ, .ref aR, .ref aL, .int 0, .int 0, .int y, .ref lC, .ref aM, .ref aP, .int 0, .int 0, .int 0, .int (-1), .int (-1), .int 0, .int 0, .long sm]))]) [0] (by decide) rfl
        have hK9 := hK.sub (tys' := []) [] rfl
        exact W.iret (v := 0) hx hb hr (fun t ht hW => ⟨⟨0, (), rfl, rfl, ⟨y, by rw [ht]; exact hP9, va_K.moved hW.alike hK9, hD9⟩⟩, hS.F ht⟩) hS.2.2 dX5_pass_130
      · skip
        refine lv_aload_n hx hb dX5_pass_48 rfl (lv_at hl 2 rfl) ?_
        refine lv_dup hx hb dX5_pass_49 rfl ?_
        refine va_get (D := D) (ci := 8) (v := .int y) (C := RX5) (T := TX5) (N := 20) hx hb hts (by decide +kernel) hown hK hP 0 rfl rfl 8 (by decide) (hts (.fieldLink RX5 182 "PrizeHouseModel" "day" "I") (by decide +kernel)) (fun _ h9 => h9) rfl dX5_pass_50 ?_
        refine lv_iconst (v := 1) hx hb dX5_pass_53 (by decide) ?_
        refine lv_iadd hx hb dX5_pass_54 ?_
        refine lv_topi (fun y2 ey2 => ?_)
        refine va_put (D := D) (ci := 8) (v := .int y2) (C := RX5) (T := TX5) (N := 20) hx hb hts (by decide +kernel) tyX5 tyX5_ok nmX5 hown hK hP hD hS 0 rfl rfl 8 (by decide) (hts (.fieldLink RX5 182 "PrizeHouseModel" "day" "I") (by decide +kernel)) (fun _ h9 => h9) rfl (tyX5_ok 8 (by decide)) rfl rfl (Nat.le_of_ble_eq_true rfl) dX5_pass_55 (fun H locs hP hD hS => ?_)
        have hP : va_P D vwCl [(h0, .inr (8, [.int 0, .ref lH, .ref lB, .ref lJ, .ref aR, .ref aL, .int 0, .int 0, .int y2, .ref lC, .ref aM, .ref aP, .int 0, .int 0, .int 0, .int (-1), .int (-1), .int 0, .int 0, .long sm])), (lB, .inr (2, [.int 0, .ref eT, .int 0])), (lJ, .inr (2, [.int 0, .ref eT, .int 0]))] H := hP
        have hD : va_D A [(h0, .inr (8, [.int 0, .ref lH, .ref lB, .ref lJ, .ref aR, .ref aL, .int 0, .int 0, .int y2, .ref lC, .ref aM, .ref aP, .int 0, .int 0, .int 0, .int (-1), .int (-1), .int 0, .int 0, .long sm])), (lB, .inr (2, [.int 0, .ref eT, .int 0])), (lJ, .inr (2, [.int 0, .ref eT, .int 0]))] := hD
        refine lv_iconst (v := 0) hx hb dX5_pass_58 (by decide) ?_
        refine lv_istore (lv' := [(4, .int 0), (3, .int x), (2, .int 0), (0, .ref h0), (1, .int p0)]) hx hb dX5_pass_59 hl (by decide) rfl (fun ls hl => ?_)
        refine lv_iload hx hb dX5_pass_61 (lv_at hl 0 rfl) ?_
        refine lv_aload_n hx hb dX5_pass_63 rfl (lv_at hl 3 rfl) ?_
        refine va_get (D := D) (ci := 8) (v := .ref lJ) (C := RX5) (T := TX5) (N := 20) hx hb hts (by decide +kernel) hown hK hP 0 rfl rfl 3 (by decide) (hts (.fieldLink RX5 19 "PrizeHouseModel" "judges" "Ljava/util/ArrayList;") (by decide +kernel)) (fun _ h9 => h9) rfl dX5_pass_64 ?_
        have hPc := hP.sub (ws' := [(lJ, .inr (2, [.int 0, .ref eT, .int 0]))]) [2] rfl
        have hKc := hK.sub (tys' := []) [] rfl
        refine va_calli (va_runV (As := []) (rest := [.int 0]) ⟨hx, hb, hml, hown, hts⟩ (k_size l D eT lJ eT 0 0 H.size ) (cwV 0 hts gX5_pass_Jx4a65c_size_8abf5 rfl rfl rfl (by decide +kernel) ⟨Nat.le_of_ble_eq_true rfl, Nat.le_of_ble_eq_true rfl⟩) (pr_v (ci := 2) (q0 := 0) rfl rfl hPc hKc hE hS hA) rfl rfl hl.1 rfl (lv_room (Nat.le_of_ble_eq_true rfl)) dX5_pass_67 ⟨Nat.le_of_ble_eq_true rfl, Nat.le_of_ble_eq_true rfl⟩) hS (fun q h1 h2 => ro_A h1 h2) (fun q h => ro_F hS hA q h) (fun r u t H1 locs ht hvm hw hB hz1 hk1 hS => ?_)
        have hw : r = 0 := hw
        rw [hw]
        have hP := ro_P hP hk1
        generalize H1 = H at hP hS ⊢
        refine lv_icmp_ge (tgt := 96) hx hb dX5_pass_70 (by decide) (fun _ => ?_) (fun h => absurd (by decide) h)
        refine lv_iconst (v := 0) hx hb dX5_pass_96 (by decide) ?_
        refine lv_istore (lv' := [(4, .int 0), (3, .int x), (2, .int 0), (0, .ref h0), (1, .int p0)]) hx hb dX5_pass_97 hl (by decide) rfl (fun ls hl => ?_)
        refine lv_iload hx hb dX5_pass_99 (lv_at hl 0 rfl) ?_
        refine lv_aload_n hx hb dX5_pass_101 rfl (lv_at hl 3 rfl) ?_
        refine va_get (D := D) (ci := 8) (v := .ref lB) (C := RX5) (T := TX5) (N := 20) hx hb hts (by decide +kernel) hown hK hP 0 rfl rfl 2 (by decide) (hts (.fieldLink RX5 16 "PrizeHouseModel" "books" "Ljava/util/ArrayList;") (by decide +kernel)) (fun _ h9 => h9) rfl dX5_pass_102 ?_
        have hPc := hP.sub (ws' := [(lB, .inr (2, [.int 0, .ref eT, .int 0]))]) [1] rfl
        have hKc := hK.sub (tys' := []) [] rfl
        refine va_calli (va_runV (As := []) (rest := [.int 0]) ⟨hx, hb, hml, hown, hts⟩ (k_size l D eT lB eT 0 0 H.size ) (cwV 0 hts gX5_pass_Jx4a65c_size_8abf5 rfl rfl rfl (by decide +kernel) ⟨Nat.le_of_ble_eq_true rfl, Nat.le_of_ble_eq_true rfl⟩) (pr_v (ci := 2) (q0 := 0) rfl rfl hPc hKc hE hS hA) rfl rfl hl.1 rfl (lv_room (Nat.le_of_ble_eq_true rfl)) dX5_pass_105 ⟨Nat.le_of_ble_eq_true rfl, Nat.le_of_ble_eq_true rfl⟩) hS (fun q h1 h2 => ro_A h1 h2) (fun q h => ro_F hS hA q h) (fun r u t H1 locs ht hvm hw hB hz1 hk1 hS => ?_)
        have hw : r = 0 := hw
        rw [hw]
        have hP := ro_P hP hk1
        generalize H1 = H at hP hS ⊢
        refine lv_icmp_ge (tgt := 123) hx hb dX5_pass_108 (by decide) (fun _ => ?_) (fun h => absurd (by decide) h)
        refine lv_iinc (v := nI (i + 1)) (lv' := [(3, .int (nI (i + 1))), (4, .int 0), (2, .int 0), (0, .ref h0), (1, .int p0)]) hx hb dX5_pass_123 hl (k := 1) rfl (by rw [hx3]; exact nI_1 i) (by decide) rfl (fun ls hl => ?_)
        refine lv_goto (tgt := 43) hx hb dX5_pass_126 (by decide) ?_
        exact ih (i + 1) _ _ (by omega) rfl _ _ hP hD hS ls (lv_sub hl [0, 2, 3, 4] rfl)
  exact K N 0 0 _ (Nat.zero_add N) nI_0.symm _ _ hP hD hS ls hl
