set_option maxHeartbeats 4000000 in
set_option maxRecDepth 100000 in
theorem c_abs (l : Launch) (D : va_G) (a : Nat → Nat) (cH cB cJ cI : ClassId) (ha : pj a) (g : m_St) (vt : Nat → Int32) (sz : Nat) (bb : UInt64) (hv9 : vn_snl2d (bb.toInt64 &&& 9223372036854775807) = false) : Met l yJ9_abs_294c1 (wc yJ9_abs_294c1 cJ9_abs_294c1 2 (some .double)) ({ frames := 1, cells := 0, slots := 0, locals := 20 }) (va_Pc [.double bb] (pS D a cH cB cJ cI sz g vt)) (va_Qd (fun (r : UInt64) (_ : Unit) => r = ((bb.toInt64 &&& 9223372036854775807).toUInt64)) (fun _ _ => True) (fun q => sz ≤ q)) 0 0 (fun q => sz ≤ q) := by
  refine va_MetF (cc := cJ9_abs_294c1) (maxL := 2) (ret := (some .double)) (by decide +kernel) rfl ?_
  intro p e s m args below meth c s₁ B9 hml hv
  obtain ⟨rfl, hsz, hP, hK, hE⟩ := hv
  have hx := B9.exec
  have hb := B9.bytes
  have hr := B9.returns
  have hts := atoms_spec (ws := (wc yJ9_abs_294c1 cJ9_abs_294c1 2 (some .double))) B9.pre
  have hw : ∀ w ∈ wsL_law0, w.before [.double bb].toArray s = true := fun w h => hts w (List.mem_cons_of_mem _ h)
  have hown : s.vm.findClass RJ9 = some m.cls := findClass_of_methodNamed B9.named
  have hlocks := B9.notSynchronized
  subst hsz
  have hS : va_S (fun q => s.heap.size ≤ q) s.heap s.heap [] := va_S.rf
  have hA : ∀ q : Nat, s.heap.size ≤ q → (fun q : Nat => s.heap.size ≤ q) q := fun _ h => h
  have hl := lv_entry ([.double bb]) (n := 2) (Nat.le_of_ble_eq_true rfl)
  rw [lg_entry_eq]
  generalize (lg_sl ([.double bb]) ++ List.replicate (2 - (lg_sl ([.double bb])).length) Slot.unset).toArray = ls at hl ⊢
  have hl : lv_has ls 2 [(0, .double bb)] := hl
  suffices h9 : ∀ (H : Heap) (locs : List Loc), va_P D vwCl (pw a cH cB cJ cI g vt) H → va_S (fun q => s.heap.size ≤ q) s.heap H locs → W p l e (headSpec (wc yJ9_abs_294c1 cJ9_abs_294c1 2 (some .double)) ({ frames := 1, cells := 0, slots := 0, locals := 20 })).room s m [.double bb].toArray below meth c H locs 0 0 (MQ below (va_Qd (fun (r : UInt64) (_ : Unit) => r = ((bb.toInt64 &&& 9223372036854775807).toUInt64)) (fun _ _ => True) (fun q => s.heap.size ≤ q)) [.double bb].toArray s 0 0 (fun q => s.heap.size ≤ q)) (F0 m 0 ls []) from h9 s.heap [] hP hS
  clear hP hS
  intro H locs hP hS
  refine lv_dload_n hx hb dJ9_abs_294c1_0 rfl (lv_at hl 0 rfl) ?_
  refine vn_d2l hx hb (hml.trans hl.1.symm) hown (hw _ kw_518) (hw _ kw_519) (hw _ kw_520) (hw _ kw_521) (Nat.le_of_ble_eq_true rfl) (Nat.le_of_ble_eq_true rfl) dJ9_abs_294c1_1 ?_
  refine lv_ldc2 (v := 9223372036854775807) hx hb hown (hw _ kw_522) dJ9_abs_294c1_4 ?_
  refine lv_land hx hb dJ9_abs_294c1_7 ?_
  refine vn_l2d hx hb (hml.trans hl.1.symm) hown (hw _ kw_523) (hw _ kw_524) (hw _ kw_525) (hw _ kw_521) hv9 (Nat.le_of_ble_eq_true rfl) (Nat.le_of_ble_eq_true rfl) dJ9_abs_294c1_8 ?_
  exact W.dret (v := ((bb.toInt64 &&& 9223372036854775807).toUInt64)) hx hb hr (fun t ht hW9 => ⟨⟨((bb.toInt64 &&& 9223372036854775807).toUInt64), (), rfl, (by rfl), trivial⟩, hS.F ht⟩) hS.2.2 dJ9_abs_294c1_11
