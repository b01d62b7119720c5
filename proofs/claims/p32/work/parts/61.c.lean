set_option maxHeartbeats 4000000 in
set_option maxRecDepth 100000 in
theorem c_bitCount (l : Launch) (D : va_G) (a : Nat → Nat) (cH cB cJ cI : ClassId) (ha : pj a) (g : m_St) (vt : Nat → Int32) (sz : Nat) (S : Int) (hSS : 0 ≤ S ∧ S < 65536) : Met l yJ6_bitCount_0f7a4 (wc yJ6_bitCount_0f7a4 cJ6_bitCount_0f7a4 1 (some .int)) ({ frames := 0, cells := 0, slots := 0, locals := 0 }) (va_Pc [.int (iI S)] (pS D a cH cB cJ cI sz g vt)) (va_Qi (fun (r : Int32) (_ : Unit) => r = iI (m_pcn S)) (fun _ _ => True) (fun q => sz ≤ q)) 0 0 (fun q => sz ≤ q) := by
  refine Met.ofW (cc := cJ6_bitCount_0f7a4) (maxL := 1) (ret := (some .int)) (by decide +kernel) rfl ?_
  intro p e s m args below meth c s₁ B9 hml hv
  obtain ⟨rfl, hsz, hP, hK, hE⟩ := hv
  have hx := B9.exec
  have hb := B9.bytes
  have hr := B9.returns
  have hts := atoms_spec (ws := (wc yJ6_bitCount_0f7a4 cJ6_bitCount_0f7a4 1 (some .int))) B9.pre
  have hw : ∀ w ∈ wsL_law0, w.before [.int (iI S)].toArray s = true := fun w h => hts w (List.mem_cons_of_mem _ h)
  have hown : s.vm.findClass RJ6 = some m.cls := findClass_of_methodNamed B9.named
  subst hsz
  have hS : va_S (fun q => s.heap.size ≤ q) s.heap s.heap [] := va_S.rf
  have hA : ∀ q : Nat, s.heap.size ≤ q → (fun q : Nat => s.heap.size ≤ q) q := fun _ h => h
  have hl := lv_entry ([.int (iI S)]) (n := 1) (Nat.le_of_ble_eq_true rfl)
  rw [lg_entry_eq]
  generalize (lg_sl ([.int (iI S)]) ++ List.replicate (1 - (lg_sl ([.int (iI S)])).length) Slot.unset).toArray = ls at hl ⊢
  have hl : lv_has ls 1 [(0, .int (iI S))] := hl
  suffices h9 : ∀ (H : Heap) (locs : List Loc), va_P D vwCl (pw a cH cB cJ cI g vt) H → va_S (fun q => s.heap.size ≤ q) s.heap H locs → W p l e (headSpec (wc yJ6_bitCount_0f7a4 cJ6_bitCount_0f7a4 1 (some .int)) ({ frames := 0, cells := 0, slots := 0, locals := 0 })).room s m [.int (iI S)].toArray below meth c H locs 0 0 (MQ below (va_Qi (fun (r : Int32) (_ : Unit) => r = iI (m_pcn S)) (fun _ _ => True) (fun q => s.heap.size ≤ q)) [.int (iI S)].toArray s 0 0 (fun q => s.heap.size ≤ q)) (F0 m 0 ls []) from h9 s.heap [] hP hS
  clear hP hS
  intro H locs hP hS
  refine lv_iload_n hx hb dJ6_bitCount_0f7a4_0 rfl (lv_at hl 0 rfl) ?_
  refine lv_iload_n hx hb dJ6_bitCount_0f7a4_1 rfl (lv_at hl 0 rfl) ?_
  refine lv_iconst (v := iI 1) hx hb dJ6_bitCount_0f7a4_2 (by decide) ?_
  refine lv_iushr hx hb dJ6_bitCount_0f7a4_3 rfl ?_
  refine lv_ldcw (v := 1431655765) hx hb hown (hw _ kw_116) dJ6_bitCount_0f7a4_4 ?_
  refine lv_iand hx hb dJ6_bitCount_0f7a4_7 ?_
  refine lv_isub hx hb dJ6_bitCount_0f7a4_8 ?_
  refine lv_istore_n (lv' := [(0, .int ((iI S) - (((((iI S)).toUInt32 >>> (((iI 1)).toUInt32 &&& Int32.toUInt32 31)).toInt32) &&& (1431655765 : Int32))))]) hx hb dJ6_bitCount_0f7a4_9 rfl hl (by decide) rfl (fun ls hl => ?_)
  refine lv_iload_n hx hb dJ6_bitCount_0f7a4_10 rfl (lv_at hl 0 rfl) ?_
  refine lv_ldcw (v := 858993459) hx hb hown (hw _ kw_117) dJ6_bitCount_0f7a4_11 ?_
  refine lv_iand hx hb dJ6_bitCount_0f7a4_14 ?_
  refine lv_iload_n hx hb dJ6_bitCount_0f7a4_15 rfl (lv_at hl 0 rfl) ?_
  refine lv_iconst (v := iI 2) hx hb dJ6_bitCount_0f7a4_16 (by decide) ?_
  refine lv_iushr hx hb dJ6_bitCount_0f7a4_17 rfl ?_
  refine lv_ldcw (v := 858993459) hx hb hown (hw _ kw_117) dJ6_bitCount_0f7a4_18 ?_
  refine lv_iand hx hb dJ6_bitCount_0f7a4_21 ?_
  refine lv_iadd hx hb dJ6_bitCount_0f7a4_22 ?_
  refine lv_istore_n (lv' := [(0, .int ((((iI S) - (((((iI S)).toUInt32 >>> (((iI 1)).toUInt32 &&& Int32.toUInt32 31)).toInt32) &&& (1431655765 : Int32))) &&& (858993459 : Int32)) + ((((((iI S) - (((((iI S)).toUInt32 >>> (((iI 1)).toUInt32 &&& Int32.toUInt32 31)).toInt32) &&& (1431655765 : Int32)))).toUInt32 >>> (((iI 2)).toUInt32 &&& Int32.toUInt32 31)).toInt32) &&& (858993459 : Int32))))]) hx hb dJ6_bitCount_0f7a4_23 rfl hl (by decide) rfl (fun ls hl => ?_)
  refine lv_iload_n hx hb dJ6_bitCount_0f7a4_24 rfl (lv_at hl 0 rfl) ?_
  refine lv_iload_n hx hb dJ6_bitCount_0f7a4_25 rfl (lv_at hl 0 rfl) ?_
  refine lv_iconst (v := iI 4) hx hb dJ6_bitCount_0f7a4_26 (by decide) ?_
  refine lv_iushr hx hb dJ6_bitCount_0f7a4_27 rfl ?_
  refine lv_iadd hx hb dJ6_bitCount_0f7a4_28 ?_
  refine lv_ldcw (v := 252645135) hx hb hown (hw _ kw_118) dJ6_bitCount_0f7a4_29 ?_
  refine lv_iand hx hb dJ6_bitCount_0f7a4_32 ?_
  refine lv_istore_n (lv' := [(0, .int ((((((iI S) - (((((iI S)).toUInt32 >>> (((iI 1)).toUInt32 &&& Int32.toUInt32 31)).toInt32) &&& (1431655765 : Int32))) &&& (858993459 : Int32)) + ((((((iI S) - (((((iI S)).toUInt32 >>> (((iI 1)).toUInt32 &&& Int32.toUInt32 31)).toInt32) &&& (1431655765 : Int32)))).toUInt32 >>> (((iI 2)).toUInt32 &&& Int32.toUInt32 31)).toInt32) &&& (858993459 : Int32))) + (((((((iI S) - (((((iI S)).toUInt32 >>> (((iI 1)).toUInt32 &&& Int32.toUInt32 31)).toInt32) &&& (1431655765 : Int32))) &&& (858993459 : Int32)) + ((((((iI S) - (((((iI S)).toUInt32 >>> (((iI 1)).toUInt32 &&& Int32.toUInt32 31)).toInt32) &&& (1431655765 : Int32)))).toUInt32 >>> (((iI 2)).toUInt32 &&& Int32.toUInt32 31)).toInt32) &&& (858993459 : Int32)))).toUInt32 >>> (((iI 4)).toUInt32 &&& Int32.toUInt32 31)).toInt32)) &&& (252645135 : Int32)))]) hx hb dJ6_bitCount_0f7a4_33 rfl hl (by decide) rfl (fun ls hl => ?_)
  refine lv_iload_n hx hb dJ6_bitCount_0f7a4_34 rfl (lv_at hl 0 rfl) ?_
  refine lv_iload_n hx hb dJ6_bitCount_0f7a4_35 rfl (lv_at hl 0 rfl) ?_
  refine lv_bipush (v := iI 8) hx hb dJ6_bitCount_0f7a4_36 (by decide) ?_
  refine lv_iushr hx hb dJ6_bitCount_0f7a4_38 rfl ?_
  refine lv_iadd hx hb dJ6_bitCount_0f7a4_39 ?_
  refine lv_istore_n (lv' := [(0, .int (((((((iI S) - (((((iI S)).toUInt32 >>> (((iI 1)).toUInt32 &&& Int32.toUInt32 31)).toInt32) &&& (1431655765 : Int32))) &&& (858993459 : Int32)) + ((((((iI S) - (((((iI S)).toUInt32 >>> (((iI 1)).toUInt32 &&& Int32.toUInt32 31)).toInt32) &&& (1431655765 : Int32)))).toUInt32 >>> (((iI 2)).toUInt32 &&& Int32.toUInt32 31)).toInt32) &&& (858993459 : Int32))) + (((((((iI S) - (((((iI S)).toUInt32 >>> (((iI 1)).toUInt32 &&& Int32.toUInt32 31)).toInt32) &&& (1431655765 : Int32))) &&& (858993459 : Int32)) + ((((((iI S) - (((((iI S)).toUInt32 >>> (((iI 1)).toUInt32 &&& Int32.toUInt32 31)).toInt32) &&& (1431655765 : Int32)))).toUInt32 >>> (((iI 2)).toUInt32 &&& Int32.toUInt32 31)).toInt32) &&& (858993459 : Int32)))).toUInt32 >>> (((iI 4)).toUInt32 &&& Int32.toUInt32 31)).toInt32)) &&& (252645135 : Int32)) + (((((((((iI S) - (((((iI S)).toUInt32 >>> (((iI 1)).toUInt32 &&& Int32.toUInt32 31)).toInt32) &&& (1431655765 : Int32))) &&& (858993459 : Int32)) + ((((((iI S) - (((((iI S)).toUInt32 >>> (((iI 1)).toUInt32 &&& Int32.toUInt32 31)).toInt32) &&& (1431655765 : Int32)))).toUInt32 >>> (((iI 2)).toUInt32 &&& Int32.toUInt32 31)).toInt32) &&& (858993459 : Int32))) + (((((((iI S) - (((((iI S)).toUInt32 >>> (((iI 1)).toUInt32 &&& Int32.toUInt32 31)).toInt32) &&& (1431655765 : Int32))) &&& (858993459 : Int32)) + ((((((iI S) - (((((iI S)).toUInt32 >>> (((iI 1)).toUInt32 &&& Int32.toUInt32 31)).toInt32) &&& (1431655765 : Int32)))).toUInt32 >>> (((iI 2)).toUInt32 &&& Int32.toUInt32 31)).toInt32) &&& (858993459 : Int32)))).toUInt32 >>> (((iI 4)).toUInt32 &&& Int32.toUInt32 31)).toInt32)) &&& (252645135 : Int32))).toUInt32 >>> (((iI 8)).toUInt32 &&& Int32.toUInt32 31)).toInt32)))]) hx hb dJ6_bitCount_0f7a4_40 rfl hl (by decide) rfl (fun ls hl => ?_)
  refine lv_iload_n hx hb dJ6_bitCount_0f7a4_41 rfl (lv_at hl 0 rfl) ?_
  refine lv_iload_n hx hb dJ6_bitCount_0f7a4_42 rfl (lv_at hl 0 rfl) ?_
  refine lv_bipush (v := iI 16) hx hb dJ6_bitCount_0f7a4_43 (by decide) ?_
  refine lv_iushr hx hb dJ6_bitCount_0f7a4_45 rfl ?_
  refine lv_iadd hx hb dJ6_bitCount_0f7a4_46 ?_
  refine lv_istore_n (lv' := [(0, .int ((((((((iI S) - (((((iI S)).toUInt32 >>> (((iI 1)).toUInt32 &&& Int32.toUInt32 31)).toInt32) &&& (1431655765 : Int32))) &&& (858993459 : Int32)) + ((((((iI S) - (((((iI S)).toUInt32 >>> (((iI 1)).toUInt32 &&& Int32.toUInt32 31)).toInt32) &&& (1431655765 : Int32)))).toUInt32 >>> (((iI 2)).toUInt32 &&& Int32.toUInt32 31)).toInt32) &&& (858993459 : Int32))) + (((((((iI S) - (((((iI S)).toUInt32 >>> (((iI 1)).toUInt32 &&& Int32.toUInt32 31)).toInt32) &&& (1431655765 : Int32))) &&& (858993459 : Int32)) + ((((((iI S) - (((((iI S)).toUInt32 >>> (((iI 1)).toUInt32 &&& Int32.toUInt32 31)).toInt32) &&& (1431655765 : Int32)))).toUInt32 >>> (((iI 2)).toUInt32 &&& Int32.toUInt32 31)).toInt32) &&& (858993459 : Int32)))).toUInt32 >>> (((iI 4)).toUInt32 &&& Int32.toUInt32 31)).toInt32)) &&& (252645135 : Int32)) + (((((((((iI S) - (((((iI S)).toUInt32 >>> (((iI 1)).toUInt32 &&& Int32.toUInt32 31)).toInt32) &&& (1431655765 : Int32))) &&& (858993459 : Int32)) + ((((((iI S) - (((((iI S)).toUInt32 >>> (((iI 1)).toUInt32 &&& Int32.toUInt32 31)).toInt32) &&& (1431655765 : Int32)))).toUInt32 >>> (((iI 2)).toUInt32 &&& Int32.toUInt32 31)).toInt32) &&& (858993459 : Int32))) + (((((((iI S) - (((((iI S)).toUInt32 >>> (((iI 1)).toUInt32 &&& Int32.toUInt32 31)).toInt32) &&& (1431655765 : Int32))) &&& (858993459 : Int32)) + ((((((iI S) - (((((iI S)).toUInt32 >>> (((iI 1)).toUInt32 &&& Int32.toUInt32 31)).toInt32) &&& (1431655765 : Int32)))).toUInt32 >>> (((iI 2)).toUInt32 &&& Int32.toUInt32 31)).toInt32) &&& (858993459 : Int32)))).toUInt32 >>> (((iI 4)).toUInt32 &&& Int32.toUInt32 31)).toInt32)) &&& (252645135 : Int32))).toUInt32 >>> (((iI 8)).toUInt32 &&& Int32.toUInt32 31)).toInt32)) + ((((((((((iI S) - (((((iI S)).toUInt32 >>> (((iI 1)).toUInt32 &&& Int32.toUInt32 31)).toInt32) &&& (1431655765 : Int32))) &&& (858993459 : Int32)) + ((((((iI S) - (((((iI S)).toUInt32 >>> (((iI 1)).toUInt32 &&& Int32.toUInt32 31)).toInt32) &&& (1431655765 : Int32)))).toUInt32 >>> (((iI 2)).toUInt32 &&& Int32.toUInt32 31)).toInt32) &&& (858993459 : Int32))) + (((((((iI S) - (((((iI S)).toUInt32 >>> (((iI 1)).toUInt32 &&& Int32.toUInt32 31)).toInt32) &&& (1431655765 : Int32))) &&& (858993459 : Int32)) + ((((((iI S) - (((((iI S)).toUInt32 >>> (((iI 1)).toUInt32 &&& Int32.toUInt32 31)).toInt32) &&& (1431655765 : Int32)))).toUInt32 >>> (((iI 2)).toUInt32 &&& Int32.toUInt32 31)).toInt32) &&& (858993459 : Int32)))).toUInt32 >>> (((iI 4)).toUInt32 &&& Int32.toUInt32 31)).toInt32)) &&& (252645135 : Int32)) + (((((((((iI S) - (((((iI S)).toUInt32 >>> (((iI 1)).toUInt32 &&& Int32.toUInt32 31)).toInt32) &&& (1431655765 : Int32))) &&& (858993459 : Int32)) + ((((((iI S) - (((((iI S)).toUInt32 >>> (((iI 1)).toUInt32 &&& Int32.toUInt32 31)).toInt32) &&& (1431655765 : Int32)))).toUInt32 >>> (((iI 2)).toUInt32 &&& Int32.toUInt32 31)).toInt32) &&& (858993459 : Int32))) + (((((((iI S) - (((((iI S)).toUInt32 >>> (((iI 1)).toUInt32 &&& Int32.toUInt32 31)).toInt32) &&& (1431655765 : Int32))) &&& (858993459 : Int32)) + ((((((iI S) - (((((iI S)).toUInt32 >>> (((iI 1)).toUInt32 &&& Int32.toUInt32 31)).toInt32) &&& (1431655765 : Int32)))).toUInt32 >>> (((iI 2)).toUInt32 &&& Int32.toUInt32 31)).toInt32) &&& (858993459 : Int32)))).toUInt32 >>> (((iI 4)).toUInt32 &&& Int32.toUInt32 31)).toInt32)) &&& (252645135 : Int32))).toUInt32 >>> (((iI 8)).toUInt32 &&& Int32.toUInt32 31)).toInt32))).toUInt32 >>> (((iI 16)).toUInt32 &&& Int32.toUInt32 31)).toInt32)))]) hx hb dJ6_bitCount_0f7a4_47 rfl hl (by decide) rfl (fun ls hl => ?_)
  refine lv_iload_n hx hb dJ6_bitCount_0f7a4_48 rfl (lv_at hl 0 rfl) ?_
  refine lv_bipush (v := iI 63) hx hb dJ6_bitCount_0f7a4_49 (by decide) ?_
  refine lv_iand hx hb dJ6_bitCount_0f7a4_51 ?_
  exact W.iret (v := (((((((((iI S) - (((((iI S)).toUInt32 >>> (((iI 1)).toUInt32 &&& Int32.toUInt32 31)).toInt32) &&& (1431655765 : Int32))) &&& (858993459 : Int32)) + ((((((iI S) - (((((iI S)).toUInt32 >>> (((iI 1)).toUInt32 &&& Int32.toUInt32 31)).toInt32) &&& (1431655765 : Int32)))).toUInt32 >>> (((iI 2)).toUInt32 &&& Int32.toUInt32 31)).toInt32) &&& (858993459 : Int32))) + (((((((iI S) - (((((iI S)).toUInt32 >>> (((iI 1)).toUInt32 &&& Int32.toUInt32 31)).toInt32) &&& (1431655765 : Int32))) &&& (858993459 : Int32)) + ((((((iI S) - (((((iI S)).toUInt32 >>> (((iI 1)).toUInt32 &&& Int32.toUInt32 31)).toInt32) &&& (1431655765 : Int32)))).toUInt32 >>> (((iI 2)).toUInt32 &&& Int32.toUInt32 31)).toInt32) &&& (858993459 : Int32)))).toUInt32 >>> (((iI 4)).toUInt32 &&& Int32.toUInt32 31)).toInt32)) &&& (252645135 : Int32)) + (((((((((iI S) - (((((iI S)).toUInt32 >>> (((iI 1)).toUInt32 &&& Int32.toUInt32 31)).toInt32) &&& (1431655765 : Int32))) &&& (858993459 : Int32)) + ((((((iI S) - (((((iI S)).toUInt32 >>> (((iI 1)).toUInt32 &&& Int32.toUInt32 31)).toInt32) &&& (1431655765 : Int32)))).toUInt32 >>> (((iI 2)).toUInt32 &&& Int32.toUInt32 31)).toInt32) &&& (858993459 : Int32))) + (((((((iI S) - (((((iI S)).toUInt32 >>> (((iI 1)).toUInt32 &&& Int32.toUInt32 31)).toInt32) &&& (1431655765 : Int32))) &&& (858993459 : Int32)) + ((((((iI S) - (((((iI S)).toUInt32 >>> (((iI 1)).toUInt32 &&& Int32.toUInt32 31)).toInt32) &&& (1431655765 : Int32)))).toUInt32 >>> (((iI 2)).toUInt32 &&& Int32.toUInt32 31)).toInt32) &&& (858993459 : Int32)))).toUInt32 >>> (((iI 4)).toUInt32 &&& Int32.toUInt32 31)).toInt32)) &&& (252645135 : Int32))).toUInt32 >>> (((iI 8)).toUInt32 &&& Int32.toUInt32 31)).toInt32)) + ((((((((((iI S) - (((((iI S)).toUInt32 >>> (((iI 1)).toUInt32 &&& Int32.toUInt32 31)).toInt32) &&& (1431655765 : Int32))) &&& (858993459 : Int32)) + ((((((iI S) - (((((iI S)).toUInt32 >>> (((iI 1)).toUInt32 &&& Int32.toUInt32 31)).toInt32) &&& (1431655765 : Int32)))).toUInt32 >>> (((iI 2)).toUInt32 &&& Int32.toUInt32 31)).toInt32) &&& (858993459 : Int32))) + (((((((iI S) - (((((iI S)).toUInt32 >>> (((iI 1)).toUInt32 &&& Int32.toUInt32 31)).toInt32) &&& (1431655765 : Int32))) &&& (858993459 : Int32)) + ((((((iI S) - (((((iI S)).toUInt32 >>> (((iI 1)).toUInt32 &&& Int32.toUInt32 31)).toInt32) &&& (1431655765 : Int32)))).toUInt32 >>> (((iI 2)).toUInt32 &&& Int32.toUInt32 31)).toInt32) &&& (858993459 : Int32)))).toUInt32 >>> (((iI 4)).toUInt32 &&& Int32.toUInt32 31)).toInt32)) &&& (252645135 : Int32)) + (((((((((iI S) - (((((iI S)).toUInt32 >>> (((iI 1)).toUInt32 &&& Int32.toUInt32 31)).toInt32) &&& (1431655765 : Int32))) &&& (858993459 : Int32)) + ((((((iI S) - (((((iI S)).toUInt32 >>> (((iI 1)).toUInt32 &&& Int32.toUInt32 31)).toInt32) &&& (1431655765 : Int32)))).toUInt32 >>> (((iI 2)).toUInt32 &&& Int32.toUInt32 31)).toInt32) &&& (858993459 : Int32))) + (((((((iI S) - (((((iI S)).toUInt32 >>> (((iI 1)).toUInt32 &&& Int32.toUInt32 31)).toInt32) &&& (1431655765 : Int32))) &&& (858993459 : Int32)) + ((((((iI S) - (((((iI S)).toUInt32 >>> (((iI 1)).toUInt32 &&& Int32.toUInt32 31)).toInt32) &&& (1431655765 : Int32)))).toUInt32 >>> (((iI 2)).toUInt32 &&& Int32.toUInt32 31)).toInt32) &&& (858993459 : Int32)))).toUInt32 >>> (((iI 4)).toUInt32 &&& Int32.toUInt32 31)).toInt32)) &&& (252645135 : Int32))).toUInt32 >>> (((iI 8)).toUInt32 &&& Int32.toUInt32 31)).toInt32))).toUInt32 >>> (((iI 16)).toUInt32 &&& Int32.toUInt32 31)).toInt32)) &&& (iI 63))) hx hb hr (fun t ht hW9 => ⟨⟨(((((((((iI S) - (((((iI S)).toUInt32 >>> (((iI 1)).toUInt32 &&& Int32.toUInt32 31)).toInt32) &&& (1431655765 : Int32))) &&& (858993459 : Int32)) + ((((((iI S) - (((((iI S)).toUInt32 >>> (((iI 1)).toUInt32 &&& Int32.toUInt32 31)).toInt32) &&& (1431655765 : Int32)))).toUInt32 >>> (((iI 2)).toUInt32 &&& Int32.toUInt32 31)).toInt32) &&& (858993459 : Int32))) + (((((((iI S) - (((((iI S)).toUInt32 >>> (((iI 1)).toUInt32 &&& Int32.toUInt32 31)).toInt32) &&& (1431655765 : Int32))) &&& (858993459 : Int32)) + ((((((iI S) - (((((iI S)).toUInt32 >>> (((iI 1)).toUInt32 &&& Int32.toUInt32 31)).toInt32) &&& (1431655765 : Int32)))).toUInt32 >>> (((iI 2)).toUInt32 &&& Int32.toUInt32 31)).toInt32) &&& (858993459 : Int32)))).toUInt32 >>> (((iI 4)).toUInt32 &&& Int32.toUInt32 31)).toInt32)) &&& (252645135 : Int32)) + (((((((((iI S) - (((((iI S)).toUInt32 >>> (((iI 1)).toUInt32 &&& Int32.toUInt32 31)).toInt32) &&& (1431655765 : Int32))) &&& (858993459 : Int32)) + ((((((iI S) - (((((iI S)).toUInt32 >>> (((iI 1)).toUInt32 &&& Int32.toUInt32 31)).toInt32) &&& (1431655765 : Int32)))).toUInt32 >>> (((iI 2)).toUInt32 &&& Int32.toUInt32 31)).toInt32) &&& (858993459 : Int32))) + (((((((iI S) - (((((iI S)).toUInt32 >>> (((iI 1)).toUInt32 &&& Int32.toUInt32 31)).toInt32) &&& (1431655765 : Int32))) &&& (858993459 : Int32)) + ((((((iI S) - (((((iI S)).toUInt32 >>> (((iI 1)).toUInt32 &&& Int32.toUInt32 31)).toInt32) &&& (1431655765 : Int32)))).toUInt32 >>> (((iI 2)).toUInt32 &&& Int32.toUInt32 31)).toInt32) &&& (858993459 : Int32)))).toUInt32 >>> (((iI 4)).toUInt32 &&& Int32.toUInt32 31)).toInt32)) &&& (252645135 : Int32))).toUInt32 >>> (((iI 8)).toUInt32 &&& Int32.toUInt32 31)).toInt32)) + ((((((((((iI S) - (((((iI S)).toUInt32 >>> (((iI 1)).toUInt32 &&& Int32.toUInt32 31)).toInt32) &&& (1431655765 : Int32))) &&& (858993459 : Int32)) + ((((((iI S) - (((((iI S)).toUInt32 >>> (((iI 1)).toUInt32 &&& Int32.toUInt32 31)).toInt32) &&& (1431655765 : Int32)))).toUInt32 >>> (((iI 2)).toUInt32 &&& Int32.toUInt32 31)).toInt32) &&& (858993459 : Int32))) + (((((((iI S) - (((((iI S)).toUInt32 >>> (((iI 1)).toUInt32 &&& Int32.toUInt32 31)).toInt32) &&& (1431655765 : Int32))) &&& (858993459 : Int32)) + ((((((iI S) - (((((iI S)).toUInt32 >>> (((iI 1)).toUInt32 &&& Int32.toUInt32 31)).toInt32) &&& (1431655765 : Int32)))).toUInt32 >>> (((iI 2)).toUInt32 &&& Int32.toUInt32 31)).toInt32) &&& (858993459 : Int32)))).toUInt32 >>> (((iI 4)).toUInt32 &&& Int32.toUInt32 31)).toInt32)) &&& (252645135 : Int32)) + (((((((((iI S) - (((((iI S)).toUInt32 >>> (((iI 1)).toUInt32 &&& Int32.toUInt32 31)).toInt32) &&& (1431655765 : Int32))) &&& (858993459 : Int32)) + ((((((iI S) - (((((iI S)).toUInt32 >>> (((iI 1)).toUInt32 &&& Int32.toUInt32 31)).toInt32) &&& (1431655765 : Int32)))).toUInt32 >>> (((iI 2)).toUInt32 &&& Int32.toUInt32 31)).toInt32) &&& (858993459 : Int32))) + (((((((iI S) - (((((iI S)).toUInt32 >>> (((iI 1)).toUInt32 &&& Int32.toUInt32 31)).toInt32) &&& (1431655765 : Int32))) &&& (858993459 : Int32)) + ((((((iI S) - (((((iI S)).toUInt32 >>> (((iI 1)).toUInt32 &&& Int32.toUInt32 31)).toInt32) &&& (1431655765 : Int32)))).toUInt32 >>> (((iI 2)).toUInt32 &&& Int32.toUInt32 31)).toInt32) &&& (858993459 : Int32)))).toUInt32 >>> (((iI 4)).toUInt32 &&& Int32.toUInt32 31)).toInt32)) &&& (252645135 : Int32))).toUInt32 >>> (((iI 8)).toUInt32 &&& Int32.toUInt32 31)).toInt32))).toUInt32 >>> (((iI 16)).toUInt32 &&& Int32.toUInt32 31)).toInt32)) &&& (iI 63)), (), rfl, (by exact pcn_bits (S := S) hSS), trivial⟩, hS.F ht⟩) hS.2.2 dJ6_bitCount_0f7a4_52
set_option maxHeartbeats 4000000 in
set_option maxRecDepth 100000 in
theorem c_floorDiv (l : Launch) (D : va_G) (a : Nat → Nat) (cH cB cJ cI : ClassId) (ha : pj a) (g : m_St) (vt : Nat → Int32) (sz : Nat) (xx : Int) (yy : Int) (r1 : RI xx) (r2 : 0 < yy ∧ yy ≤ 1000000) : Met l yJ9_floorDiv_7cf53 (wc yJ9_floorDiv_7cf53 cJ9_floorDiv_7cf53 3 (some .int)) ({ frames := 0, cells := 0, slots := 0, locals := 0 }) (va_Pc [.int (iI xx), .int (iI yy)] (pS D a cH cB cJ cI sz g vt)) (va_Qi (fun (r : Int32) (_ : Unit) => r = iI (m_fdv xx yy)) (fun _ _ => True) (fun q => sz ≤ q)) 0 0 (fun q => sz ≤ q) := by
  refine va_MetF (cc := cJ9_floorDiv_7cf53) (maxL := 3) (ret := (some .int)) (by decide +kernel) rfl ?_
  intro p e s m args below meth c s₁ B9 hml hv
  obtain ⟨rfl, hsz, hP, hK, hE⟩ := hv
  have hx := B9.exec
  have hb := B9.bytes
  have hr := B9.returns
  have hts := atoms_spec (ws := (wc yJ9_floorDiv_7cf53 cJ9_floorDiv_7cf53 3 (some .int))) B9.pre
  have hw : ∀ w ∈ wsL_law0, w.before [.int (iI xx), .int (iI yy)].toArray s = true := fun w h => hts w (List.mem_cons_of_mem _ h)
  have hown : s.vm.findClass RJ9 = some m.cls := findClass_of_methodNamed B9.named
  subst hsz
  have hS : va_S (fun q => s.heap.size ≤ q) s.heap s.heap [] := va_S.rf
  have hA : ∀ q : Nat, s.heap.size ≤ q → (fun q : Nat => s.heap.size ≤ q) q := fun _ h => h
  have hl := lv_entry ([.int (iI xx), .int (iI yy)]) (n := 3) (Nat.le_of_ble_eq_true rfl)
  rw [lg_entry_eq]
  generalize (lg_sl ([.int (iI xx), .int (iI yy)]) ++ List.replicate (3 - (lg_sl ([.int (iI xx), .int (iI yy)])).length) Slot.unset).toArray = ls at hl ⊢
  have hl : lv_has ls 3 [(0, .int (iI xx)), (1, .int (iI yy))] := hl
  suffices h9 : ∀ (H : Heap) (locs : List Loc), va_P D vwCl (pw a cH cB cJ cI g vt) H → va_S (fun q => s.heap.size ≤ q) s.heap H locs → W p l e (headSpec (wc yJ9_floorDiv_7cf53 cJ9_floorDiv_7cf53 3 (some .int)) ({ frames := 0, cells := 0, slots := 0, locals := 0 })).room s m [.int (iI xx), .int (iI yy)].toArray below meth c H locs 0 0 (MQ below (va_Qi (fun (r : Int32) (_ : Unit) => r = iI (m_fdv xx yy)) (fun _ _ => True) (fun q => s.heap.size ≤ q)) [.int (iI xx), .int (iI yy)].toArray s 0 0 (fun q => s.heap.size ≤ q)) (F0 m 0 ls []) from h9 s.heap [] hP hS
  clear hP hS
  intro H locs hP hS
  have r1 := r1
  have r1u : -2147483648 ≤ xx ∧ xx ≤ 2147483647 := r1
  have q1 := tdiv_le r1u r2.1
  have q2 := tdiv_mul_le r1u r2.1
  refine lv_iload_n hx hb dJ9_floorDiv_7cf53_0 rfl (lv_at hl 0 rfl) ?_
  refine lv_iload_n hx hb dJ9_floorDiv_7cf53_1 rfl (lv_at hl 1 rfl) ?_
  refine n_div hx hb (by unfold RI; omega) (by unfold RI; omega) (by omega) dJ9_floorDiv_7cf53_2 ?_
  refine lv_istore_n (lv' := [(2, .int (iI (xx.tdiv yy))), (0, .int (iI xx)), (1, .int (iI yy))]) hx hb dJ9_floorDiv_7cf53_3 rfl hl (by decide) rfl (fun ls hl => ?_)
  refine lv_iload_n hx hb dJ9_floorDiv_7cf53_4 rfl (lv_at hl 1 rfl) ?_
  refine lv_iload_n hx hb dJ9_floorDiv_7cf53_5 rfl (lv_at hl 2 rfl) ?_
  refine lv_ixor hx hb dJ9_floorDiv_7cf53_6 ?_
  refine lv_if_ge hx hb (tgt := 21) dJ9_floorDiv_7cf53_7 (by decide) (fun hq => ?_) (fun hq => ?_)
  · skip
    have hq : 0 ≤ xx := Int.not_lt.mp (fun w => Int32.not_lt.mpr hq ((xor_neg r1 (by unfold RI; omega) (by omega)).mpr w))
    refine lv_iload_n hx hb dJ9_floorDiv_7cf53_21 rfl (lv_at hl 0 rfl) ?_
    exact W.iret (v := (iI (xx.tdiv yy))) hx hb hr (fun t ht hW9 => ⟨⟨(iI (xx.tdiv yy)), (), rfl, (congrArg iI (by unfold m_fdv; first | rw [if_neg (fun w => absurd w.1 (by omega))] | rw [if_neg (fun w => absurd w.2 (by omega))] | rw [if_pos ⟨by omega, by omega⟩])), trivial⟩, hS.F ht⟩) hS.2.2 dJ9_floorDiv_7cf53_22
  · skip
    have hq : xx < 0 := (xor_neg r1 (by unfold RI; omega) (by omega)).mp (Int32.not_le.mp hq)
    refine lv_iload_n hx hb dJ9_floorDiv_7cf53_10 rfl (lv_at hl 0 rfl) ?_
    refine lv_iload_n hx hb dJ9_floorDiv_7cf53_11 rfl (lv_at hl 2 rfl) ?_
    refine n_mul hx hb dJ9_floorDiv_7cf53_12 ?_
    refine lv_iload_n hx hb dJ9_floorDiv_7cf53_13 rfl (lv_at hl 1 rfl) ?_
    refine n_icmp_eq hx hb (by unfold RI; omega) (by unfold RI; omega) (tgt := 21) dJ9_floorDiv_7cf53_14 (by decide) (fun h1 => ?_) (fun h1 => ?_)
    · skip
      refine lv_iload_n hx hb dJ9_floorDiv_7cf53_21 rfl (lv_at hl 0 rfl) ?_
      exact W.iret (v := (iI (xx.tdiv yy))) hx hb hr (fun t ht hW9 => ⟨⟨(iI (xx.tdiv yy)), (), rfl, (congrArg iI (by unfold m_fdv; first | rw [if_neg (fun w => absurd w.1 (by omega))] | rw [if_neg (fun w => absurd w.2 (by omega))] | rw [if_pos ⟨by omega, by omega⟩])), trivial⟩, hS.F ht⟩) hS.2.2 dJ9_floorDiv_7cf53_22
    · skip
      refine lv_iload_n hx hb dJ9_floorDiv_7cf53_17 rfl (lv_at hl 0 rfl) ?_
      refine lv_iconst (v := iI 1) hx hb dJ9_floorDiv_7cf53_18 (by decide) ?_
      refine n_sub hx hb dJ9_floorDiv_7cf53_19 ?_
      exact W.iret (v := (iI ((xx.tdiv yy) - 1))) hx hb hr (fun t ht hW9 => ⟨⟨(iI ((xx.tdiv yy) - 1)), (), rfl, (congrArg iI (by unfold m_fdv; first | rw [if_neg (fun w => absurd w.1 (by omega))] | rw [if_neg (fun w => absurd w.2 (by omega))] | rw [if_pos ⟨by omega, by omega⟩])), trivial⟩, hS.F ht⟩) hS.2.2 dJ9_floorDiv_7cf53_20
set_option maxHeartbeats 4000000 in
set_option maxRecDepth 100000 in
theorem c_scoreOf (l : Launch) (D : va_G) (a : Nat → Nat) (cH cB cJ cI : ClassId) (ha : pj a) (g : m_St) (vt : Nat → Int32) (sz : Nat) (bb : Int) (hWf : Wf g) (hbb : 0 ≤ bb ∧ bb < 16) : Met l yX4_scoreOf (wc yX4_scoreOf cX4_scoreOf 5 (some .int)) ({ frames := 2, cells := 0, slots := 0, locals := 43 }) (va_Pc [.ref (a 0), .int (iI bb)] (pS D a cH cB cJ cI sz g vt)) (va_Qi (fun (r : Int32) (_ : Unit) => r = iI (m_score g bb)) (fun _ _ => True) (fun q => sz ≤ q)) 0 0 (fun q => sz ≤ q) := by
  refine Met.ofW (cc := cX4_scoreOf) (maxL := 5) (ret := (some .int)) (by decide +kernel) rfl ?_
  intro p e s m args below meth c s₁ B9 hml hv
  obtain ⟨rfl, hsz, hP, hK, hE⟩ := hv
  have hx := B9.exec
  have hb := B9.bytes
  have hr := B9.returns
  have hts := atoms_spec (ws := (wc yX4_scoreOf cX4_scoreOf 5 (some .int))) B9.pre
  have hw : ∀ w ∈ wsL_law0, w.before [.ref (a 0), .int (iI bb)].toArray s = true := fun w h => hts w (List.mem_cons_of_mem _ h)
  have hown : s.vm.findClass RX4 = some m.cls := findClass_of_methodNamed B9.named
  subst hsz
  have hS : va_S (fun q => s.heap.size ≤ q) s.heap s.heap [] := va_S.rf
  have hA : ∀ q : Nat, s.heap.size ≤ q → (fun q : Nat => s.heap.size ≤ q) q := fun _ h => h
  have hl := lv_entry ([.ref (a 0), .int (iI bb)]) (n := 5) (Nat.le_of_ble_eq_true rfl)
  rw [lg_entry_eq]
  generalize (lg_sl ([.ref (a 0), .int (iI bb)]) ++ List.replicate (5 - (lg_sl ([.ref (a 0), .int (iI bb)])).length) Slot.unset).toArray = ls at hl ⊢
  have hl : lv_has ls 5 [(0, .ref (a 0)), (1, .int (iI bb))] := hl
  suffices h9 : ∀ (H : Heap) (locs : List Loc), va_P D vwCl (pw a cH cB cJ cI g vt) H → va_S (fun q => s.heap.size ≤ q) s.heap H locs → W p l e (headSpec (wc yX4_scoreOf cX4_scoreOf 5 (some .int)) ({ frames := 2, cells := 0, slots := 0, locals := 43 })).room s m [.ref (a 0), .int (iI bb)].toArray below meth c H locs 0 0 (MQ below (va_Qi (fun (r : Int32) (_ : Unit) => r = iI (m_score g bb)) (fun _ _ => True) (fun q => s.heap.size ≤ q)) [.ref (a 0), .int (iI bb)].toArray s 0 0 (fun q => s.heap.size ≤ q)) (F0 m 0 ls []) from h9 s.heap [] hP hS
  clear hP hS
  intro H locs hP hS
  have m5 := Wf.m5 hWf
  refine lv_iconst (v := iI 0) hx hb dX4_scoreOf_0 (by decide) ?_
  refine lv_istore_n (lv' := [(2, .int (iI 0)), (0, .ref (a 0)), (1, .int (iI bb))]) hx hb dX4_scoreOf_1 rfl hl (by decide) rfl (fun ls hl => ?_)
  refine lv_iconst (v := iI 0) hx hb dX4_scoreOf_2 (by decide) ?_
  refine lv_istore_n (lv' := [(3, .int (iI 0)), (2, .int (iI 0)), (0, .ref (a 0)), (1, .int (iI bb))]) hx hb dX4_scoreOf_3 rfl hl (by decide) rfl (fun ls hl => ?_)
  refine lv_iconst (v := iI 0) hx hb dX4_scoreOf_4 (by decide) ?_
  refine lv_istore (lv' := [(4, .int (iI 0)), (3, .int (iI 0)), (2, .int (iI 0)), (0, .ref (a 0)), (1, .int (iI bb))]) hx hb dX4_scoreOf_5 hl (by decide) rfl (fun ls hl => ?_)
  have loop7 : ∀ (d n : Nat) (H : Heap) (locs : List Loc) (ls : Array Slot), n + d = (g 0 0 5).toNat → va_P D vwCl (pw a cH cB cJ cI g vt) H → va_S (fun q => s.heap.size ≤ q) s.heap H locs → lv_has ls 5 [(4, .int (iI ((n : Nat) : Int))), (3, .int (iI (m_cnt (fun j => m_fair g j bb) n))), (2, .int (iI (m_sm (fun j => bif m_fair g j bb then 10 * g 6 j bb - m_mean10 g j else 0) n))), (0, .ref (a 0)), (1, .int (iI bb))] → W p l e (headSpec (wc yX4_scoreOf cX4_scoreOf 5 (some .int)) ({ frames := 2, cells := 0, slots := 0, locals := 43 })).room s m [.ref (a 0), .int (iI bb)].toArray below meth c H locs 0 0 (MQ below (va_Qi (fun (r : Int32) (_ : Unit) => r = iI (m_score g bb)) (fun _ _ => True) (fun q => s.heap.size ≤ q)) [.ref (a 0), .int (iI bb)].toArray s 0 0 (fun q => s.heap.size ≤ q)) (F0 m 7 ls []) := by
    intro d
    induction d with
    | zero =>
      intro n H locs ls hn hP hS hl
      obtain rfl : n = (g 0 0 5).toNat := by omega
      have hsc := scs_b hWf hbb (g 0 0 5).toNat (Nat.le_refl _)
      have hcc := cnt5 hWf (fun j => m_fair g j bb)
      refine lv_iload hx hb dX4_scoreOf_7 (lv_at hl 0 rfl) ?_
      refine lv_aload_n hx hb dX4_scoreOf_9 rfl (lv_at hl 3 rfl) ?_
      have s1 := Wf.m5 hWf
      refine va_get (D := D) (ci := 4) (v := .int (iI (g 0 0 5))) (C := RX4) (T := TX4) (N := 19) hx hb hw hin_wsX40 hown hK hP 0 pw_0 rfl 5 (by decide) (hw _ kw_81) (fun _ h9 => h9) rfl dX4_scoreOf_10 ?_
      refine n_icmp_ge hx hb (by unfold RI; omega) (by unfold RI; omega) (tgt := 64) dX4_scoreOf_13 (by decide) (fun h2 => ?_) (fun h2 => absurd h2 (by intro h2; omega))
      refine lv_iload_n hx hb dX4_scoreOf_64 rfl (lv_at hl 1 rfl) ?_
      refine n_if_ne hx hb (by unfold RI; omega) (tgt := 72) dX4_scoreOf_65 (by decide) (fun h3 => ?_) (fun h3 => ?_)
      · skip
        refine lv_iload_n hx hb dX4_scoreOf_72 rfl (lv_at hl 2 rfl) ?_
        refine lv_iload_n hx hb dX4_scoreOf_73 rfl (lv_at hl 1 rfl) ?_
        refine va_calli (va_runS (As := [.int (iI (m_sm (fun j => bif m_fair g j bb then 10 * g 6 j bb - m_mean10 g j else 0) ((g 0 0 5).toNat))), .int (iI (m_cnt (fun j => m_fair g j bb) ((g 0 0 5).toNat)))]) (rest := []) ⟨hx, hb, hml, hown, hw⟩ (c_floorDiv l D a cH cB cJ cI ha g vt H.size (m_sm (fun j => bif m_fair g j bb then 10 * g 6 j bb - m_mean10 g j else 0) ((g 0 0 5).toNat)) (m_cnt (fun j => m_fair g j bb) ((g 0 0 5).toNat)) (by unfold RI; omega) (by omega)) (va_cwS 2 hw (gA_S kw_249 kw_250 kw_251 kw_252) rfl rfl rfl (by decide +kernel) ⟨Nat.le_of_ble_eq_true rfl, Nat.le_of_ble_eq_true rfl⟩) (pS_s hP hK hE) rfl rfl hl.1 rfl (lv_room (Nat.le_of_ble_eq_true rfl)) dX4_scoreOf_74 ⟨Nat.le_of_ble_eq_true rfl, Nat.le_of_ble_eq_true rfl⟩) hS (fun q h1 h2 => ro_A h1 h2) (fun q h => ro_F hS hA q h) (fun r u t H1 locs ht hvm hw9 hB9 hz1 hk1 hS => ?_)
        have hw9 : r = (iI (m_fdv (m_sm (fun j => bif m_fair g j bb then 10 * g 6 j bb - m_mean10 g j else 0) ((g 0 0 5).toNat)) (m_cnt (fun j => m_fair g j bb) ((g 0 0 5).toNat)))) := hw9
        subst hw9
        have hP := ro_P hP hk1
        generalize H1 = H at hP hS ⊢
        refine lv_sipush (v := iI 500) hx hb dX4_scoreOf_77 (by decide) ?_
        refine n_add hx hb dX4_scoreOf_80 ?_
        exact W.iret (v := (iI ((m_fdv (m_sm (fun j => bif m_fair g j bb then 10 * g 6 j bb - m_mean10 g j else 0) ((g 0 0 5).toNat)) (m_cnt (fun j => m_fair g j bb) ((g 0 0 5).toNat))) + 500))) hx hb hr (fun t ht hW9 => ⟨⟨(iI ((m_fdv (m_sm (fun j => bif m_fair g j bb then 10 * g 6 j bb - m_mean10 g j else 0) ((g 0 0 5).toNat)) (m_cnt (fun j => m_fair g j bb) ((g 0 0 5).toNat))) + 500)), (), rfl, (congrArg iI (by unfold m_score; first | rw [if_pos (show m_fairCount g bb = 0 from h3)] | (rw [if_neg (show m_fairCount g bb ≠ 0 from h3)]; rfl))), trivial⟩, hS.F ht⟩) hS.2.2 dX4_scoreOf_81
      · skip
        refine lv_iconst (v := iI 0) hx hb dX4_scoreOf_68 (by decide) ?_
        refine lv_goto (tgt := 81) hx hb dX4_scoreOf_69 (by decide) ?_
        exact W.iret (v := (iI 0)) hx hb hr (fun t ht hW9 => ⟨⟨(iI 0), (), rfl, (congrArg iI (by unfold m_score; first | rw [if_pos (show m_fairCount g bb = 0 from h3)] | (rw [if_neg (show m_fairCount g bb ≠ 0 from h3)]; rfl))), trivial⟩, hS.F ht⟩) hS.2.2 dX4_scoreOf_81
    | succ d ih7 =>
      intro n H locs ls hn hP hS hl
      refine lv_iload hx hb dX4_scoreOf_7 (lv_at hl 0 rfl) ?_
      refine lv_aload_n hx hb dX4_scoreOf_9 rfl (lv_at hl 3 rfl) ?_
      have s4 := Wf.m5 hWf
      refine va_get (D := D) (ci := 4) (v := .int (iI (g 0 0 5))) (C := RX4) (T := TX4) (N := 19) hx hb hw hin_wsX40 hown hK hP 0 pw_0 rfl 5 (by decide) (hw _ kw_81) (fun _ h9 => h9) rfl dX4_scoreOf_10 ?_
      refine n_icmp_ge hx hb (by unfold RI; omega) (by unfold RI; omega) (tgt := 64) dX4_scoreOf_13 (by decide) (fun h5 => absurd h5 (by intro h5; omega)) (fun h5 => ?_)
      refine lv_aload_n hx hb dX4_scoreOf_16 rfl (lv_at hl 3 rfl) ?_
      refine lv_iload hx hb dX4_scoreOf_17 (lv_at hl 0 rfl) ?_
      refine lv_iload_n hx hb dX4_scoreOf_19 rfl (lv_at hl 4 rfl) ?_
      refine va_calli (va_runV (As := [.int (iI ((n : Nat) : Int)), .int (iI bb)]) (rest := []) ⟨hx, hb, hml, hown, hw⟩ (c_isFairMark l D a cH cB cJ cI ha g vt H.size ((n : Nat) : Int) bb hWf (by omega) (by omega)) (cwV 2 hw (gA_V kw_234 kw_235 kw_236 kw_2 kw_237) rfl rfl rfl (by decide +kernel) ⟨Nat.le_of_ble_eq_true rfl, Nat.le_of_ble_eq_true rfl⟩) (pS_v (ci := 4) (q0 := 0) rfl pw_0 hP hK hE) rfl rfl hl.1 rfl (lv_room (Nat.le_of_ble_eq_true rfl)) dX4_scoreOf_20 ⟨Nat.le_of_ble_eq_true rfl, Nat.le_of_ble_eq_true rfl⟩) hS (fun q h1 h2 => ro_A h1 h2) (fun q h => ro_F hS hA q h) (fun r u t H1 locs ht hvm hw9 hB9 hz1 hk1 hS => ?_)
      have hw9 : r = (bi (m_fair g ((n : Nat) : Int) bb)) := hw9
      subst hw9
      have hP := ro_P hP hk1
      generalize H1 = H at hP hS ⊢
      refine n_b_eq hx hb (tgt := 58) dX4_scoreOf_23 (by decide) (fun h6 => ?_) (fun h6 => ?_)
      · skip
        refine n_inc (lv' := [(4, .int (iI (((n : Nat) : Int) + 1))), (3, .int (iI (m_cnt (fun j => m_fair g j bb) n))), (2, .int (iI (m_sm (fun j => bif m_fair g j bb then 10 * g 6 j bb - m_mean10 g j else 0) n))), (0, .ref (a 0)), (1, .int (iI bb))]) hx hb dX4_scoreOf_58 hl (k := 0) rfl (by decide) rfl (fun ls hl => ?_)
        refine lv_goto (tgt := 7) hx hb dX4_scoreOf_61 (by decide) ?_
        have hl : lv_has ls 5 [(4, .int (iI (((n : Nat) : Int) + 1))), (3, .int (iI (m_cnt (fun j => m_fair g j bb) n))), (2, .int (iI (m_sm (fun j => bif m_fair g j bb then 10 * g 6 j bb - m_mean10 g j else 0) n))), (0, .ref (a 0)), (1, .int (iI bb))] := lv_sub hl [0, 1, 2, 3, 4] rfl
        have e7 : (((n : Nat) : Int) + 1) = (((n + 1) : Nat) : Int) := by rfl
        have e8 : (m_cnt (fun j => m_fair g j bb) n) = (m_cnt (fun j => m_fair g j bb) (n + 1)) := by exact (cnt_f (q := fun j => m_fair g j bb) (n := n) (by simp [h5, Int.not_le.mpr h5, h6])).symm
        have e9 : (m_sm (fun j => bif m_fair g j bb then 10 * g 6 j bb - m_mean10 g j else 0) n) = (m_sm (fun j => bif m_fair g j bb then 10 * g 6 j bb - m_mean10 g j else 0) (n + 1)) := by rw [sm_s]; simp [h5, Int.not_le.mpr h5, h6]; try omega
        have hl : lv_has ls 5 [(4, .int (iI (((n + 1) : Nat) : Int))), (3, .int (iI (m_cnt (fun j => m_fair g j bb) (n + 1)))), (2, .int (iI (m_sm (fun j => bif m_fair g j bb then 10 * g 6 j bb - m_mean10 g j else 0) (n + 1)))), (0, .ref (a 0)), (1, .int (iI bb))] := lv_cast hl (by rw [e7, e8, e9])
        exact ih7 (n + 1) H locs ls (by omega) hP hS hl
      · skip
        refine lv_iload_n hx hb dX4_scoreOf_26 rfl (lv_at hl 2 rfl) ?_
        refine lv_bipush (v := iI 10) hx hb dX4_scoreOf_27 (by decide) ?_
        refine lv_aload_n hx hb dX4_scoreOf_29 rfl (lv_at hl 3 rfl) ?_
        refine va_get (D := D) (ci := 4) (v := .ref (a 3)) (C := RX4) (T := TX4) (N := 19) hx hb hw hin_wsX40 hown hK hP 0 pw_0 rfl 2 (by decide) (hw _ kw_19) (fun _ h9 => h9) rfl dX4_scoreOf_30 ?_
        refine lv_iload hx hb dX4_scoreOf_33 (lv_at hl 0 rfl) ?_
        refine p_aldJ hx hb hK hP (k := ((n : Nat) : Int)) (by omega) (by omega) dX4_scoreOf_35 ?_
        refine va_get (D := D) (ci := 2) (v := .ref (a (28 + 3 + 6 * ((n : Nat) : Int).toNat))) (C := RX2) (T := TX2) (N := 16) hx hb hw hin_wsX20 hown hK hP (28 + 6 * ((n : Nat) : Int).toNat) (pw_J (j := ((n : Nat) : Int)) (by omega) (by omega)) rfl 11 (by decide) (hw _ kw_157) (fun _ h9 => h9) rfl dX4_scoreOf_36 ?_
        refine lv_iload_n hx hb dX4_scoreOf_39 rfl (lv_at hl 4 rfl) ?_
        refine p_rd hx hb hK hP (j := ((n : Nat) : Int)) (k := bb) (r := 3) (by omega) (by omega) (by decide) (by omega) (by rw [if_neg (by decide)]; omega) dX4_scoreOf_40 ?_
        have s10 := Wf.r6 hWf (j := ((n : Nat) : Int)) (k := bb) (by omega) (by omega) (by omega) (by omega)
        rw [show g (3 + 3) ((n : Nat) : Int) bb = g 6 ((n : Nat) : Int) bb from rfl]
        refine n_mul hx hb dX4_scoreOf_41 ?_
        refine lv_aload_n hx hb dX4_scoreOf_42 rfl (lv_at hl 3 rfl) ?_
        refine va_get (D := D) (ci := 4) (v := .ref (a 3)) (C := RX4) (T := TX4) (N := 19) hx hb hw hin_wsX40 hown hK hP 0 pw_0 rfl 2 (by decide) (hw _ kw_19) (fun _ h9 => h9) rfl dX4_scoreOf_43 ?_
        refine lv_iload hx hb dX4_scoreOf_46 (lv_at hl 0 rfl) ?_
        refine p_aldJ hx hb hK hP (k := ((n : Nat) : Int)) (by omega) (by omega) dX4_scoreOf_48 ?_
        refine va_calli (va_runV (As := []) (rest := [.int (iI (10 * g 6 ((n : Nat) : Int) bb)), .int (iI (m_sm (fun j => bif m_fair g j bb then 10 * g 6 j bb - m_mean10 g j else 0) n))]) ⟨hx, hb, hml, hown, hw⟩ (c_meanOfTenfoldMarks l D a cH cB cJ cI ha g vt H.size ((n : Nat) : Int) hWf (by omega)) (cwV 0 hw (gA_V kw_243 kw_244 kw_245 kw_34 kw_246) rfl rfl rfl (by decide +kernel) ⟨Nat.le_of_ble_eq_true rfl, Nat.le_of_ble_eq_true rfl⟩) (pS_v (ci := 2) (q0 := (28 + 6 * ((n : Nat) : Int).toNat)) rfl (pw_J (j := ((n : Nat) : Int)) (by omega) (by omega)) hP hK hE) rfl rfl hl.1 rfl (lv_room (Nat.le_of_ble_eq_true rfl)) dX4_scoreOf_49 ⟨Nat.le_of_ble_eq_true rfl, Nat.le_of_ble_eq_true rfl⟩) hS (fun q h1 h2 => ro_A h1 h2) (fun q h => ro_F hS hA q h) (fun r u t H1 locs ht hvm hw9 hB9 hz1 hk1 hS => ?_)
        have hw9 : r = (iI (m_mean10 g ((n : Nat) : Int))) := hw9
        subst hw9
        have hP := ro_P hP hk1
        generalize H1 = H at hP hS ⊢
        have s11 := mean_b hWf (jj := ((n : Nat) : Int)) (by omega)
        refine n_sub hx hb dX4_scoreOf_52 ?_
        refine n_add hx hb dX4_scoreOf_53 ?_
        refine lv_istore_n (lv' := [(2, .int (iI ((m_sm (fun j => bif m_fair g j bb then 10 * g 6 j bb - m_mean10 g j else 0) n) + ((10 * g 6 ((n : Nat) : Int) bb) - (m_mean10 g ((n : Nat) : Int)))))), (4, .int (iI ((n : Nat) : Int))), (3, .int (iI (m_cnt (fun j => m_fair g j bb) n))), (0, .ref (a 0)), (1, .int (iI bb))]) hx hb dX4_scoreOf_54 rfl hl (by decide) rfl (fun ls hl => ?_)
        refine n_inc (lv' := [(3, .int (iI ((m_cnt (fun j => m_fair g j bb) n) + 1))), (2, .int (iI ((m_sm (fun j => bif m_fair g j bb then 10 * g 6 j bb - m_mean10 g j else 0) n) + ((10 * g 6 ((n : Nat) : Int) bb) - (m_mean10 g ((n : Nat) : Int)))))), (4, .int (iI ((n : Nat) : Int))), (0, .ref (a 0)), (1, .int (iI bb))]) hx hb dX4_scoreOf_55 hl (k := 2) rfl (by decide) rfl (fun ls hl => ?_)
        refine n_inc (lv' := [(4, .int (iI (((n : Nat) : Int) + 1))), (3, .int (iI ((m_cnt (fun j => m_fair g j bb) n) + 1))), (2, .int (iI ((m_sm (fun j => bif m_fair g j bb then 10 * g 6 j bb - m_mean10 g j else 0) n) + ((10 * g 6 ((n : Nat) : Int) bb) - (m_mean10 g ((n : Nat) : Int)))))), (0, .ref (a 0)), (1, .int (iI bb))]) hx hb dX4_scoreOf_58 hl (k := 2) rfl (by decide) rfl (fun ls hl => ?_)
        refine lv_goto (tgt := 7) hx hb dX4_scoreOf_61 (by decide) ?_
        have hl : lv_has ls 5 [(4, .int (iI (((n : Nat) : Int) + 1))), (3, .int (iI ((m_cnt (fun j => m_fair g j bb) n) + 1))), (2, .int (iI ((m_sm (fun j => bif m_fair g j bb then 10 * g 6 j bb - m_mean10 g j else 0) n) + ((10 * g 6 ((n : Nat) : Int) bb) - (m_mean10 g ((n : Nat) : Int)))))), (0, .ref (a 0)), (1, .int (iI bb))] := lv_sub hl [0, 1, 2, 3, 4] rfl
        have e12 : (((n : Nat) : Int) + 1) = (((n + 1) : Nat) : Int) := by rfl
        have e13 : ((m_cnt (fun j => m_fair g j bb) n) + 1) = (m_cnt (fun j => m_fair g j bb) (n + 1)) := by exact (cnt_t (q := fun j => m_fair g j bb) (n := n) (by simp [h5, Int.not_le.mpr h5, h6])).symm
        have e14 : ((m_sm (fun j => bif m_fair g j bb then 10 * g 6 j bb - m_mean10 g j else 0) n) + ((10 * g 6 ((n : Nat) : Int) bb) - (m_mean10 g ((n : Nat) : Int)))) = (m_sm (fun j => bif m_fair g j bb then 10 * g 6 j bb - m_mean10 g j else 0) (n + 1)) := by rw [sm_s]; simp [h5, Int.not_le.mpr h5, h6]; try omega
        have hl : lv_has ls 5 [(4, .int (iI (((n + 1) : Nat) : Int))), (3, .int (iI (m_cnt (fun j => m_fair g j bb) (n + 1)))), (2, .int (iI (m_sm (fun j => bif m_fair g j bb then 10 * g 6 j bb - m_mean10 g j else 0) (n + 1)))), (0, .ref (a 0)), (1, .int (iI bb))] := lv_cast hl (by rw [e12, e13, e14])
        exact ih7 (n + 1) H locs ls (by omega) hP hS hl
  have hl : lv_has ls 5 [(4, .int (iI 0)), (3, .int (iI 0)), (2, .int (iI 0)), (0, .ref (a 0)), (1, .int (iI bb))] := lv_sub hl [0, 1, 2, 3, 4] rfl
  have hl : lv_has ls 5 [(4, .int (iI ((0 : Nat) : Int))), (3, .int (iI (m_cnt (fun j => m_fair g j bb) 0))), (2, .int (iI (m_sm (fun j => bif m_fair g j bb then 10 * g 6 j bb - m_mean10 g j else 0) 0))), (0, .ref (a 0)), (1, .int (iI bb))] := hl
  exact loop7 ((g 0 0 5).toNat) 0 H locs ls (by omega) hP hS hl
set_option maxHeartbeats 4000000 in
set_option maxRecDepth 100000 in
theorem c_daysLeft (l : Launch) (D : va_G) (a : Nat → Nat) (cH cB cJ cI : ClassId) (ha : pj a) (g : m_St) (vt : Nat → Int32) (sz : Nat) (jj : Int) (hWf : Wf g) (hjj : 0 ≤ jj ∧ jj < 5) : Met l yX2_daysLeft (wc yX2_daysLeft cX2_daysLeft 3 (some .int)) ({ frames := 2, cells := 0, slots := 0, locals := 34 }) (va_Pc [.ref (a (28 + 6 * jj.toNat))] (pS D a cH cB cJ cI sz g vt)) (va_Qi (fun (r : Int32) (_ : Unit) => r = iI (m_daysLeft g jj)) (fun _ _ => True) (fun q => sz ≤ q)) 0 0 (fun q => sz ≤ q) := by
  refine Met.ofW (cc := cX2_daysLeft) (maxL := 3) (ret := (some .int)) (by decide +kernel) rfl ?_
  intro p e s m args below meth c s₁ B9 hml hv
  obtain ⟨rfl, hsz, hP, hK, hE⟩ := hv
  have hx := B9.exec
  have hb := B9.bytes
  have hr := B9.returns
  have hts := atoms_spec (ws := (wc yX2_daysLeft cX2_daysLeft 3 (some .int))) B9.pre
  have hw : ∀ w ∈ wsL_law0, w.before [.ref (a (28 + 6 * jj.toNat))].toArray s = true := fun w h => hts w (List.mem_cons_of_mem _ h)
  have hown : s.vm.findClass RX2 = some m.cls := findClass_of_methodNamed B9.named
  subst hsz
  have hS : va_S (fun q => s.heap.size ≤ q) s.heap s.heap [] := va_S.rf
  have hA : ∀ q : Nat, s.heap.size ≤ q → (fun q : Nat => s.heap.size ≤ q) q := fun _ h => h
  have hl := lv_entry ([.ref (a (28 + 6 * jj.toNat))]) (n := 3) (Nat.le_of_ble_eq_true rfl)
  rw [lg_entry_eq]
  generalize (lg_sl ([.ref (a (28 + 6 * jj.toNat))]) ++ List.replicate (3 - (lg_sl ([.ref (a (28 + 6 * jj.toNat))])).length) Slot.unset).toArray = ls at hl ⊢
  have hl : lv_has ls 3 [(0, .ref (a (28 + 6 * jj.toNat)))] := hl
  suffices h9 : ∀ (H : Heap) (locs : List Loc), va_P D vwCl (pw a cH cB cJ cI g vt) H → va_S (fun q => s.heap.size ≤ q) s.heap H locs → W p l e (headSpec (wc yX2_daysLeft cX2_daysLeft 3 (some .int)) ({ frames := 2, cells := 0, slots := 0, locals := 34 })).room s m [.ref (a (28 + 6 * jj.toNat))].toArray below meth c H locs 0 0 (MQ below (va_Qi (fun (r : Int32) (_ : Unit) => r = iI (m_daysLeft g jj)) (fun _ _ => True) (fun q => s.heap.size ≤ q)) [.ref (a (28 + 6 * jj.toNat))].toArray s 0 0 (fun q => s.heap.size ≤ q)) (F0 m 0 ls []) from h9 s.heap [] hP hS
  clear hP hS
  intro H locs hP hS
  have j0 := Wf.j0 hWf (k := jj) (by omega) (by omega)
  have j8 := Wf.j8 hWf (k := jj) (by omega) (by omega)
  have j10 := Wf.j10 hWf (k := jj) (by omega) (by omega)
  refine lv_iconst (v := iI 0) hx hb dX2_daysLeft_0 (by decide) ?_
  refine lv_istore_n (lv' := [(1, .int (iI 0)), (0, .ref (a (28 + 6 * jj.toNat)))]) hx hb dX2_daysLeft_1 rfl hl (by decide) rfl (fun ls hl => ?_)
  refine lv_aload_n hx hb dX2_daysLeft_2 rfl (lv_at hl 1 rfl) ?_
  have s1 := Wf.j10 hWf (k := jj) (by omega) (by omega)
  refine va_get (D := D) (ci := 2) (v := .int (iI (g 3 jj 10))) (C := RX2) (T := TX2) (N := 16) hx hb hw hin_wsX20 hown hK hP (28 + 6 * jj.toNat) (pw_J (j := jj) (by omega) (by omega)) rfl 10 (by decide) (hw _ kw_187) (fun _ h9 => h9) rfl dX2_daysLeft_3 ?_
  refine lv_istore_n (lv' := [(2, .int (iI (g 3 jj 10))), (1, .int (iI 0)), (0, .ref (a (28 + 6 * jj.toNat)))]) hx hb dX2_daysLeft_6 rfl hl (by decide) rfl (fun ls hl => ?_)
  have loop7 : ∀ (d n : Nat) (x2 : Int) (H : Heap) (locs : List Loc) (ls : Array Slot), n + d = 10000 → (m_daysLeft g jj = m_dayLoop (g 3 jj 0) (g 3 jj 8) d x2 ((n : Nat) : Int)) → (0 ≤ x2 ∧ x2 ≤ 14600) → va_P D vwCl (pw a cH cB cJ cI g vt) H → va_S (fun q => s.heap.size ≤ q) s.heap H locs → lv_has ls 3 [(2, .int (iI x2)), (1, .int (iI ((n : Nat) : Int))), (0, .ref (a (28 + 6 * jj.toNat)))] → W p l e (headSpec (wc yX2_daysLeft cX2_daysLeft 3 (some .int)) ({ frames := 2, cells := 0, slots := 0, locals := 34 })).room s m [.ref (a (28 + 6 * jj.toNat))].toArray below meth c H locs 0 0 (MQ below (va_Qi (fun (r : Int32) (_ : Unit) => r = iI (m_daysLeft g jj)) (fun _ _ => True) (fun q => s.heap.size ≤ q)) [.ref (a (28 + 6 * jj.toNat))].toArray s 0 0 (fun q => s.heap.size ≤ q)) (F0 m 7 ls []) := by
    intro d
    induction d with
    | zero =>
      intro n x2 H locs ls hn hq hxx hP hS hl
      obtain rfl : n = 10000 := by omega
      refine lv_iload_n hx hb dX2_daysLeft_7 rfl (lv_at hl 0 rfl) ?_
      refine lv_aload_n hx hb dX2_daysLeft_8 rfl (lv_at hl 2 rfl) ?_
      have s2 := Wf.j8 hWf (k := jj) (by omega) (by omega)
      refine va_get (D := D) (ci := 2) (v := .int (iI (g 3 jj 8))) (C := RX2) (T := TX2) (N := 16) hx hb hw hin_wsX20 hown hK hP (28 + 6 * jj.toNat) (pw_J (j := jj) (by omega) (by omega)) rfl 8 (by decide) (hw _ kw_186) (fun _ h9 => h9) rfl dX2_daysLeft_9 ?_
      refine n_icmp_ge hx hb (by unfold RI; omega) (by unfold RI; omega) (tgt := 36) dX2_daysLeft_12 (by decide) (fun h3 => ?_) (fun h3 => ?_)
      · skip
        refine lv_iload_n hx hb dX2_daysLeft_36 rfl (lv_at hl 1 rfl) ?_
        exact W.iret (v := (iI ((10000 : Nat) : Int))) hx hb hr (fun t ht hW9 => ⟨⟨(iI ((10000 : Nat) : Int)), (), rfl, (congrArg iI (by rw [hq]; first | rfl | (unfold m_dayLoop; rw [if_neg (by omega)]))), trivial⟩, hS.F ht⟩) hS.2.2 dX2_daysLeft_37
      · skip
        refine lv_iload_n hx hb dX2_daysLeft_15 rfl (lv_at hl 1 rfl) ?_
        refine lv_sipush (v := iI 10000) hx hb dX2_daysLeft_16 (by decide) ?_
        refine n_icmp_ge hx hb (by unfold RI; omega) (by unfold RI; omega) (tgt := 36) dX2_daysLeft_19 (by decide) (fun h4 => ?_) (fun h4 => absurd h4 (by intro h4; omega))
        refine lv_iload_n hx hb dX2_daysLeft_36 rfl (lv_at hl 1 rfl) ?_
        exact W.iret (v := (iI ((10000 : Nat) : Int))) hx hb hr (fun t ht hW9 => ⟨⟨(iI ((10000 : Nat) : Int)), (), rfl, (congrArg iI (by rw [hq]; first | rfl | (unfold m_dayLoop; rw [if_neg (by omega)]))), trivial⟩, hS.F ht⟩) hS.2.2 dX2_daysLeft_37
    | succ d ih7 =>
      intro n x2 H locs ls hn hq hxx hP hS hl
      refine lv_iload_n hx hb dX2_daysLeft_7 rfl (lv_at hl 0 rfl) ?_
      refine lv_aload_n hx hb dX2_daysLeft_8 rfl (lv_at hl 2 rfl) ?_
      have s5 := Wf.j8 hWf (k := jj) (by omega) (by omega)
      refine va_get (D := D) (ci := 2) (v := .int (iI (g 3 jj 8))) (C := RX2) (T := TX2) (N := 16) hx hb hw hin_wsX20 hown hK hP (28 + 6 * jj.toNat) (pw_J (j := jj) (by omega) (by omega)) rfl 8 (by decide) (hw _ kw_186) (fun _ h9 => h9) rfl dX2_daysLeft_9 ?_
      refine n_icmp_ge hx hb (by unfold RI; omega) (by unfold RI; omega) (tgt := 36) dX2_daysLeft_12 (by decide) (fun h6 => ?_) (fun h6 => ?_)
      · skip
        refine lv_iload_n hx hb dX2_daysLeft_36 rfl (lv_at hl 1 rfl) ?_
        exact W.iret (v := (iI ((n : Nat) : Int))) hx hb hr (fun t ht hW9 => ⟨⟨(iI ((n : Nat) : Int)), (), rfl, (congrArg iI (by rw [hq]; first | rfl | (unfold m_dayLoop; rw [if_neg (by omega)]))), trivial⟩, hS.F ht⟩) hS.2.2 dX2_daysLeft_37
      · skip
        refine lv_iload_n hx hb dX2_daysLeft_15 rfl (lv_at hl 1 rfl) ?_
        refine lv_sipush (v := iI 10000) hx hb dX2_daysLeft_16 (by decide) ?_
        refine n_icmp_ge hx hb (by unfold RI; omega) (by unfold RI; omega) (tgt := 36) dX2_daysLeft_19 (by decide) (fun h7 => absurd h7 (by intro h7; omega)) (fun h7 => ?_)
        refine lv_iload_n hx hb dX2_daysLeft_22 rfl (lv_at hl 0 rfl) ?_
        refine lv_aload_n hx hb dX2_daysLeft_23 rfl (lv_at hl 2 rfl) ?_
        refine lv_iload_n hx hb dX2_daysLeft_24 rfl (lv_at hl 0 rfl) ?_
        refine va_calli (va_runV (As := [.int (iI x2)]) (rest := [.int (iI x2)]) ⟨hx, hb, hml, hown, hw⟩ (c_paceAfter l D a cH cB cJ cI ha g vt H.size jj x2 hWf (by omega) (by omega)) (cwV 1 hw (gA_V kw_311 kw_312 kw_313 kw_34 kw_314) rfl rfl rfl (by decide +kernel) ⟨Nat.le_of_ble_eq_true rfl, Nat.le_of_ble_eq_true rfl⟩) (pS_v (ci := 2) (q0 := (28 + 6 * jj.toNat)) rfl (pw_J (j := jj) (by omega) (by omega)) hP hK hE) rfl rfl hl.1 rfl (lv_room (Nat.le_of_ble_eq_true rfl)) dX2_daysLeft_25 ⟨Nat.le_of_ble_eq_true rfl, Nat.le_of_ble_eq_true rfl⟩) hS (fun q h1 h2 => ro_A h1 h2) (fun q h => ro_F hS hA q h) (fun r u t H1 locs ht hvm hw9 hB9 hz1 hk1 hS => ?_)
        have hw9 : r = (iI (m_pace (g 3 jj 0) x2)) := hw9
        subst hw9
        have hP := ro_P hP hk1
        generalize H1 = H at hP hS ⊢
        have s8 := pace_b (sp := g 3 jj 0) (p := x2) (Wf.j0 hWf (k := jj) (by omega) (by omega)).2 (by omega)
        refine n_add hx hb dX2_daysLeft_28 ?_
        refine lv_istore_n (lv' := [(2, .int (iI (x2 + (m_pace (g 3 jj 0) x2)))), (1, .int (iI ((n : Nat) : Int))), (0, .ref (a (28 + 6 * jj.toNat)))]) hx hb dX2_daysLeft_29 rfl hl (by decide) rfl (fun ls hl => ?_)
        refine n_inc (lv' := [(1, .int (iI (((n : Nat) : Int) + 1))), (2, .int (iI (x2 + (m_pace (g 3 jj 0) x2)))), (0, .ref (a (28 + 6 * jj.toNat)))]) hx hb dX2_daysLeft_30 hl (k := 1) rfl (by decide) rfl (fun ls hl => ?_)
        refine lv_goto (tgt := 7) hx hb dX2_daysLeft_33 (by decide) ?_
        have hl : lv_has ls 3 [(2, .int (iI (x2 + (m_pace (g 3 jj 0) x2)))), (1, .int (iI (((n : Nat) : Int) + 1))), (0, .ref (a (28 + 6 * jj.toNat)))] := lv_sub hl [1, 0, 2] rfl
        have e9 : (((n : Nat) : Int) + 1) = (((n + 1) : Nat) : Int) := by rfl
        have hl : lv_has ls 3 [(2, .int (iI (x2 + (m_pace (g 3 jj 0) x2)))), (1, .int (iI (((n + 1) : Nat) : Int))), (0, .ref (a (28 + 6 * jj.toNat)))] := lv_cast hl (by rw [e9])
        exact ih7 (n + 1) (x2 + (m_pace (g 3 jj 0) x2)) H locs ls (by omega) (by rw [hq]; show (if x2 < g 3 jj 8 then _ else _) = _; rw [if_pos (by omega)]; rfl) (by omega) hP hS hl
  have hl : lv_has ls 3 [(2, .int (iI (g 3 jj 10))), (1, .int (iI 0)), (0, .ref (a (28 + 6 * jj.toNat)))] := lv_sub hl [0, 1, 2] rfl
  have hl : lv_has ls 3 [(2, .int (iI (g 3 jj 10))), (1, .int (iI ((0 : Nat) : Int))), (0, .ref (a (28 + 6 * jj.toNat)))] := hl
  exact loop7 10000 0 (g 3 jj 10) H locs ls (by omega) rfl (by omega) hP hS hl
set_option maxHeartbeats 4000000 in
set_option maxRecDepth 100000 in
theorem c_firstIn (l : Launch) (D : va_G) (a : Nat → Nat) (cH cB cJ cI : ClassId) (ha : pj a) (g : m_St) (vt : Nat → Int32) (sz : Nat) (jj : Int) (S : Int) (hWf : Wf g) (hjj : 0 ≤ jj ∧ jj < 5) (hSS : 0 ≤ S ∧ S < 2147483648) : Met l yX2_firstIn (wc yX2_firstIn cX2_firstIn 3 (some .int)) ({ frames := 1, cells := 0, slots := 0, locals := 21 }) (va_Pc [.ref (a (28 + 6 * jj.toNat)), .int (iI S)] (pS D a cH cB cJ cI sz g vt)) (va_Qi (fun (r : Int32) (_ : Unit) => r = iI (m_firstIn g jj S)) (fun _ _ => True) (fun q => sz ≤ q)) 0 0 (fun q => sz ≤ q) := by
  refine Met.ofW (cc := cX2_firstIn) (maxL := 3) (ret := (some .int)) (by decide +kernel) rfl ?_
  intro p e s m args below meth c s₁ B9 hml hv
  obtain ⟨rfl, hsz, hP, hK, hE⟩ := hv
  have hx := B9.exec
  have hb := B9.bytes
  have hr := B9.returns
  have hts := atoms_spec (ws := (wc yX2_firstIn cX2_firstIn 3 (some .int))) B9.pre
  have hw : ∀ w ∈ wsL_law0, w.before [.ref (a (28 + 6 * jj.toNat)), .int (iI S)].toArray s = true := fun w h => hts w (List.mem_cons_of_mem _ h)
  have hown : s.vm.findClass RX2 = some m.cls := findClass_of_methodNamed B9.named
  subst hsz
  have hS : va_S (fun q => s.heap.size ≤ q) s.heap s.heap [] := va_S.rf
  have hA : ∀ q : Nat, s.heap.size ≤ q → (fun q : Nat => s.heap.size ≤ q) q := fun _ h => h
  have hl := lv_entry ([.ref (a (28 + 6 * jj.toNat)), .int (iI S)]) (n := 3) (Nat.le_of_ble_eq_true rfl)
  rw [lg_entry_eq]
  generalize (lg_sl ([.ref (a (28 + 6 * jj.toNat)), .int (iI S)]) ++ List.replicate (3 - (lg_sl ([.ref (a (28 + 6 * jj.toNat)), .int (iI S)])).length) Slot.unset).toArray = ls at hl ⊢
  have hl : lv_has ls 3 [(0, .ref (a (28 + 6 * jj.toNat))), (1, .int (iI S))] := hl
  suffices h9 : ∀ (H : Heap) (locs : List Loc), va_P D vwCl (pw a cH cB cJ cI g vt) H → va_S (fun q => s.heap.size ≤ q) s.heap H locs → W p l e (headSpec (wc yX2_firstIn cX2_firstIn 3 (some .int)) ({ frames := 1, cells := 0, slots := 0, locals := 21 })).room s m [.ref (a (28 + 6 * jj.toNat)), .int (iI S)].toArray below meth c H locs 0 0 (MQ below (va_Qi (fun (r : Int32) (_ : Unit) => r = iI (m_firstIn g jj S)) (fun _ _ => True) (fun q => s.heap.size ≤ q)) [.ref (a (28 + 6 * jj.toNat)), .int (iI S)].toArray s 0 0 (fun q => s.heap.size ≤ q)) (F0 m 0 ls []) from h9 s.heap [] hP hS
  clear hP hS
  intro H locs hP hS
  have j15 := Wf.j15 hWf (k := jj) (by omega) (by omega)
  refine lv_iconst (v := iI 0) hx hb dX2_firstIn_0 (by decide) ?_
  refine lv_istore_n (lv' := [(2, .int (iI 0)), (0, .ref (a (28 + 6 * jj.toNat))), (1, .int (iI S))]) hx hb dX2_firstIn_1 rfl hl (by decide) rfl (fun ls hl => ?_)
  have loop2 : ∀ (d n : Nat) (H : Heap) (locs : List Loc) (ls : Array Slot), n + d = (g 3 jj 15).toNat → (m_firstIn g jj S = m_firstLoop g jj S d ((n : Nat) : Int)) → va_P D vwCl (pw a cH cB cJ cI g vt) H → va_S (fun q => s.heap.size ≤ q) s.heap H locs → lv_has ls 3 [(2, .int (iI ((n : Nat) : Int))), (0, .ref (a (28 + 6 * jj.toNat))), (1, .int (iI S))] → W p l e (headSpec (wc yX2_firstIn cX2_firstIn 3 (some .int)) ({ frames := 1, cells := 0, slots := 0, locals := 21 })).room s m [.ref (a (28 + 6 * jj.toNat)), .int (iI S)].toArray below meth c H locs 0 0 (MQ below (va_Qi (fun (r : Int32) (_ : Unit) => r = iI (m_firstIn g jj S)) (fun _ _ => True) (fun q => s.heap.size ≤ q)) [.ref (a (28 + 6 * jj.toNat)), .int (iI S)].toArray s 0 0 (fun q => s.heap.size ≤ q)) (F0 m 2 ls []) := by
    intro d
    induction d with
    | zero =>
      intro n H locs ls hn hq hP hS hl
      obtain rfl : n = (g 3 jj 15).toNat := by omega
      refine lv_iload_n hx hb dX2_firstIn_2 rfl (lv_at hl 0 rfl) ?_
      refine lv_aload_n hx hb dX2_firstIn_3 rfl (lv_at hl 1 rfl) ?_
      have s1 := Wf.j15 hWf (k := jj) (by omega) (by omega)
      refine va_get (D := D) (ci := 2) (v := .int (iI (g 3 jj 15))) (C := RX2) (T := TX2) (N := 16) hx hb hw hin_wsX20 hown hK hP (28 + 6 * jj.toNat) (pw_J (j := jj) (by omega) (by omega)) rfl 15 (by decide) (hw _ kw_192) (fun _ h9 => h9) rfl dX2_firstIn_4 ?_
      refine n_icmp_ge hx hb (by unfold RI; omega) (by unfold RI; omega) (tgt := 36) dX2_firstIn_7 (by decide) (fun h2 => ?_) (fun h2 => absurd h2 (by intro h2; omega))
      refine lv_iconst (v := iI (-1)) hx hb dX2_firstIn_36 (by decide) ?_
      exact W.iret (v := (iI (-1))) hx hb hr (fun t ht hW9 => ⟨⟨(iI (-1)), (), rfl, (congrArg iI (by rw [hq]; first | rfl | simp [m_firstLoop, h2, Int.not_lt.mpr h2])), trivial⟩, hS.F ht⟩) hS.2.2 dX2_firstIn_37
    | succ d ih2 =>
      intro n H locs ls hn hq hP hS hl
      refine lv_iload_n hx hb dX2_firstIn_2 rfl (lv_at hl 0 rfl) ?_
      refine lv_aload_n hx hb dX2_firstIn_3 rfl (lv_at hl 1 rfl) ?_
      have s3 := Wf.j15 hWf (k := jj) (by omega) (by omega)
      refine va_get (D := D) (ci := 2) (v := .int (iI (g 3 jj 15))) (C := RX2) (T := TX2) (N := 16) hx hb hw hin_wsX20 hown hK hP (28 + 6 * jj.toNat) (pw_J (j := jj) (by omega) (by omega)) rfl 15 (by decide) (hw _ kw_192) (fun _ h9 => h9) rfl dX2_firstIn_4 ?_
      refine n_icmp_ge hx hb (by unfold RI; omega) (by unfold RI; omega) (tgt := 36) dX2_firstIn_7 (by decide) (fun h4 => absurd h4 (by intro h4; omega)) (fun h4 => ?_)
      refine lv_iload_n hx hb dX2_firstIn_10 rfl (lv_at hl 2 rfl) ?_
      refine lv_aload_n hx hb dX2_firstIn_11 rfl (lv_at hl 1 rfl) ?_
      refine va_get (D := D) (ci := 2) (v := .ref (a (28 + 5 + 6 * jj.toNat))) (C := RX2) (T := TX2) (N := 16) hx hb hw hin_wsX20 hown hK hP (28 + 6 * jj.toNat) (pw_J (j := jj) (by omega) (by omega)) rfl 14 (by decide) (hw _ kw_58) (fun _ h9 => h9) rfl dX2_firstIn_12 ?_
      refine lv_iload_n hx hb dX2_firstIn_15 rfl (lv_at hl 0 rfl) ?_
      refine p_rd hx hb hK hP (j := jj) (k := ((n : Nat) : Int)) (r := 5) (by omega) (by omega) (by decide) (by omega) (by rw [if_pos rfl]; omega) dX2_firstIn_16 ?_
      have s5 := Wf.r8 hWf (j := jj) (k := ((n : Nat) : Int)) (by omega) (by omega) (by omega) (by omega)
      rw [show g (3 + 5) jj ((n : Nat) : Int) = g 8 jj ((n : Nat) : Int) from rfl]
      refine va_calli (va_runSN (As := [.int (iI S), .int (iI (g 8 jj ((n : Nat) : Int)))]) (rest := []) ⟨hx, hb, hml, hown, hw⟩ (c_has l D a cH cB cJ cI ha g vt H.size S (g 8 jj ((n : Nat) : Int)) (by omega) (by omega)) ⟨va_cnB 2 hw (gA_c kw_224) rfl rfl rfl hE.2.2.2.1 (hw _ kw_2) (by decide +kernel) ⟨Nat.le_of_ble_eq_true rfl, Nat.le_of_ble_eq_true rfl⟩, (hw _ kw_223), trivial⟩ (pS_s hP hK hE) rfl rfl hl.1 rfl (lv_room (Nat.le_of_ble_eq_true rfl)) dX2_firstIn_17 ⟨Nat.le_of_ble_eq_true rfl, Nat.le_of_ble_eq_true rfl⟩) hS (fun q h1 h2 => ro_A h1 h2) (fun q h => ro_F hS hA q h) (fun r u t H1 locs ht hvm hw9 hB9 hz1 hk1 hS => ?_)
      have hw9 : r = (bi (m_has S (g 8 jj ((n : Nat) : Int)))) := hw9
      subst hw9
      have hP := ro_P hP hk1
      generalize H1 = H at hP hS ⊢
      refine n_b_eq hx hb (tgt := 30) dX2_firstIn_20 (by decide) (fun h6 => ?_) (fun h6 => ?_)
      · skip
        refine n_inc (lv' := [(2, .int (iI (((n : Nat) : Int) + 1))), (0, .ref (a (28 + 6 * jj.toNat))), (1, .int (iI S))]) hx hb dX2_firstIn_30 hl (k := 0) rfl (by decide) rfl (fun ls hl => ?_)
        refine lv_goto (tgt := 2) hx hb dX2_firstIn_33 (by decide) ?_
        have hl : lv_has ls 3 [(2, .int (iI (((n : Nat) : Int) + 1))), (0, .ref (a (28 + 6 * jj.toNat))), (1, .int (iI S))] := lv_sub hl [0, 1, 2] rfl
        have e7 : (((n : Nat) : Int) + 1) = (((n + 1) : Nat) : Int) := by rfl
        have hl : lv_has ls 3 [(2, .int (iI (((n + 1) : Nat) : Int))), (0, .ref (a (28 + 6 * jj.toNat))), (1, .int (iI S))] := lv_cast hl (by rw [e7])
        exact ih2 (n + 1) H locs ls (by omega) (by rw [hq]; simp [m_firstLoop, h4, Int.not_le.mpr h4, h6]) hP hS hl
      · skip
        refine lv_aload_n hx hb dX2_firstIn_23 rfl (lv_at hl 1 rfl) ?_
        refine va_get (D := D) (ci := 2) (v := .ref (a (28 + 5 + 6 * jj.toNat))) (C := RX2) (T := TX2) (N := 16) hx hb hw hin_wsX20 hown hK hP (28 + 6 * jj.toNat) (pw_J (j := jj) (by omega) (by omega)) rfl 14 (by decide) (hw _ kw_58) (fun _ h9 => h9) rfl dX2_firstIn_24 ?_
        refine lv_iload_n hx hb dX2_firstIn_27 rfl (lv_at hl 0 rfl) ?_
        refine p_rd hx hb hK hP (j := jj) (k := ((n : Nat) : Int)) (r := 5) (by omega) (by omega) (by decide) (by omega) (by rw [if_pos rfl]; omega) dX2_firstIn_28 ?_
        rw [show g (3 + 5) jj ((n : Nat) : Int) = g 8 jj ((n : Nat) : Int) from rfl]
        exact W.iret (v := (iI (g 8 jj ((n : Nat) : Int)))) hx hb hr (fun t ht hW9 => ⟨⟨(iI (g 8 jj ((n : Nat) : Int))), (), rfl, (congrArg iI (by rw [hq]; first | rfl | simp [m_firstLoop, h4, Int.not_le.mpr h4, h6])), trivial⟩, hS.F ht⟩) hS.2.2 dX2_firstIn_29
  have hl : lv_has ls 3 [(2, .int (iI 0)), (0, .ref (a (28 + 6 * jj.toNat))), (1, .int (iI S))] := lv_sub hl [0, 1, 2] rfl
  have hl : lv_has ls 3 [(2, .int (iI ((0 : Nat) : Int))), (0, .ref (a (28 + 6 * jj.toNat))), (1, .int (iI S))] := hl
  exact loop2 ((g 3 jj 15).toNat) 0 H locs ls (by omega) rfl hP hS hl
set_option maxHeartbeats 4000000 in
set_option maxRecDepth 100000 in
theorem c_lightest (l : Launch) (D : va_G) (a : Nat → Nat) (cH cB cJ cI : ClassId) (ha : pj a) (g : m_St) (vt : Nat → Int32) (sz : Nat) (tk : Int) (au : Int) (hWf : Wf g) (htk : 0 ≤ tk ∧ tk < 2147483648) (hau : 0 ≤ au ∧ au ≤ 9) : Met l yX4_lightestWithout (wc yX4_lightestWithout cX4_lightestWithout 5 (some .int)) ({ frames := 1, cells := 0, slots := 0, locals := 21 }) (va_Pc [.ref (a 0), .int (iI tk), .int (iI au)] (pS D a cH cB cJ cI sz g vt)) (va_Qi (fun (r : Int32) (_ : Unit) => r = iI (m_lightest g tk au)) (fun _ _ => True) (fun q => sz ≤ q)) 0 0 (fun q => sz ≤ q) := by
  refine Met.ofW (cc := cX4_lightestWithout) (maxL := 5) (ret := (some .int)) (by decide +kernel) rfl ?_
  intro p e s m args below meth c s₁ B9 hml hv
  obtain ⟨rfl, hsz, hP, hK, hE⟩ := hv
  have hx := B9.exec
  have hb := B9.bytes
  have hr := B9.returns
  have hts := atoms_spec (ws := (wc yX4_lightestWithout cX4_lightestWithout 5 (some .int))) B9.pre
  have hw : ∀ w ∈ wsL_law0, w.before [.ref (a 0), .int (iI tk), .int (iI au)].toArray s = true := fun w h => hts w (List.mem_cons_of_mem _ h)
  have hown : s.vm.findClass RX4 = some m.cls := findClass_of_methodNamed B9.named
  subst hsz
  have hS : va_S (fun q => s.heap.size ≤ q) s.heap s.heap [] := va_S.rf
  have hA : ∀ q : Nat, s.heap.size ≤ q → (fun q : Nat => s.heap.size ≤ q) q := fun _ h => h
  have hl := lv_entry ([.ref (a 0), .int (iI tk), .int (iI au)]) (n := 5) (Nat.le_of_ble_eq_true rfl)
  rw [lg_entry_eq]
  generalize (lg_sl ([.ref (a 0), .int (iI tk), .int (iI au)]) ++ List.replicate (5 - (lg_sl ([.ref (a 0), .int (iI tk), .int (iI au)])).length) Slot.unset).toArray = ls at hl ⊢
  have hl : lv_has ls 5 [(0, .ref (a 0)), (1, .int (iI tk)), (2, .int (iI au))] := hl
  suffices h9 : ∀ (H : Heap) (locs : List Loc), va_P D vwCl (pw a cH cB cJ cI g vt) H → va_S (fun q => s.heap.size ≤ q) s.heap H locs → W p l e (headSpec (wc yX4_lightestWithout cX4_lightestWithout 5 (some .int)) ({ frames := 1, cells := 0, slots := 0, locals := 21 })).room s m [.ref (a 0), .int (iI tk), .int (iI au)].toArray below meth c H locs 0 0 (MQ below (va_Qi (fun (r : Int32) (_ : Unit) => r = iI (m_lightest g tk au)) (fun _ _ => True) (fun q => s.heap.size ≤ q)) [.ref (a 0), .int (iI tk), .int (iI au)].toArray s 0 0 (fun q => s.heap.size ≤ q)) (F0 m 0 ls []) from h9 s.heap [] hP hS
  clear hP hS
  intro H locs hP hS
  have m5 := Wf.m5 hWf
  refine lv_iconst (v := iI (-1)) hx hb dX4_lightestWithout_0 (by decide) ?_
  refine lv_istore_n (lv' := [(3, .int (iI (-1))), (0, .ref (a 0)), (1, .int (iI tk)), (2, .int (iI au))]) hx hb dX4_lightestWithout_1 rfl hl (by decide) rfl (fun ls hl => ?_)
  refine lv_iconst (v := iI 0) hx hb dX4_lightestWithout_2 (by decide) ?_
  refine lv_istore (lv' := [(4, .int (iI 0)), (3, .int (iI (-1))), (0, .ref (a 0)), (1, .int (iI tk)), (2, .int (iI au))]) hx hb dX4_lightestWithout_3 hl (by decide) rfl (fun ls hl => ?_)
  have loop5 : ∀ (d n : Nat) (x3 : Int) (H : Heap) (locs : List Loc) (ls : Array Slot), n + d = (g 0 0 5).toNat → x3 = m_fo (fun j l => bif !m_has tk j && (!m_agn g j au && (l == -1 || decide (g 3 j 8 < g 3 l 8))) then j else l) (-1) n → (x3 = -1 ∨ (0 ≤ x3 ∧ x3 < ((n : Nat) : Int))) → va_P D vwCl (pw a cH cB cJ cI g vt) H → va_S (fun q => s.heap.size ≤ q) s.heap H locs → lv_has ls 5 [(4, .int (iI ((n : Nat) : Int))), (3, .int (iI x3)), (0, .ref (a 0)), (1, .int (iI tk)), (2, .int (iI au))] → W p l e (headSpec (wc yX4_lightestWithout cX4_lightestWithout 5 (some .int)) ({ frames := 1, cells := 0, slots := 0, locals := 21 })).room s m [.ref (a 0), .int (iI tk), .int (iI au)].toArray below meth c H locs 0 0 (MQ below (va_Qi (fun (r : Int32) (_ : Unit) => r = iI (m_lightest g tk au)) (fun _ _ => True) (fun q => s.heap.size ≤ q)) [.ref (a 0), .int (iI tk), .int (iI au)].toArray s 0 0 (fun q => s.heap.size ≤ q)) (F0 m 5 ls []) := by
    intro d
    induction d with
    | zero =>
      intro n x3 H locs ls hn hx3 hxb hP hS hl
      obtain rfl : n = (g 0 0 5).toNat := by omega
      refine lv_iload hx hb dX4_lightestWithout_5 (lv_at hl 0 rfl) ?_
      refine lv_aload_n hx hb dX4_lightestWithout_7 rfl (lv_at hl 2 rfl) ?_
      have s1 := Wf.m5 hWf
      refine va_get (D := D) (ci := 4) (v := .int (iI (g 0 0 5))) (C := RX4) (T := TX4) (N := 19) hx hb hw hin_wsX40 hown hK hP 0 pw_0 rfl 5 (by decide) (hw _ kw_81) (fun _ h9 => h9) rfl dX4_lightestWithout_8 ?_
      refine n_icmp_ge hx hb (by unfold RI; omega) (by unfold RI; omega) (tgt := 73) dX4_lightestWithout_11 (by decide) (fun h2 => ?_) (fun h2 => absurd h2 (by intro h2; omega))
      refine lv_iload_n hx hb dX4_lightestWithout_73 rfl (lv_at hl 1 rfl) ?_
      exact W.iret (v := (iI x3)) hx hb hr (fun t ht hW9 => ⟨⟨(iI x3), (), rfl, (congrArg iI (by rw [hx3]; rfl)), trivial⟩, hS.F ht⟩) hS.2.2 dX4_lightestWithout_74
    | succ d ih5 =>
      intro n x3 H locs ls hn hx3 hxb hP hS hl
      refine lv_iload hx hb dX4_lightestWithout_5 (lv_at hl 0 rfl) ?_
      refine lv_aload_n hx hb dX4_lightestWithout_7 rfl (lv_at hl 2 rfl) ?_
      have s3 := Wf.m5 hWf
      refine va_get (D := D) (ci := 4) (v := .int (iI (g 0 0 5))) (C := RX4) (T := TX4) (N := 19) hx hb hw hin_wsX40 hown hK hP 0 pw_0 rfl 5 (by decide) (hw _ kw_81) (fun _ h9 => h9) rfl dX4_lightestWithout_8 ?_
      refine n_icmp_ge hx hb (by unfold RI; omega) (by unfold RI; omega) (tgt := 73) dX4_lightestWithout_11 (by decide) (fun h4 => absurd h4 (by intro h4; omega)) (fun h4 => ?_)
      refine lv_iload_n hx hb dX4_lightestWithout_14 rfl (lv_at hl 3 rfl) ?_
      refine lv_iload hx hb dX4_lightestWithout_15 (lv_at hl 0 rfl) ?_
      refine va_calli (va_runS (As := [.int (iI tk), .int (iI ((n : Nat) : Int))]) (rest := []) ⟨hx, hb, hml, hown, hw⟩ (c_has l D a cH cB cJ cI ha g vt H.size tk ((n : Nat) : Int) (by omega) (by omega)) (va_cwS 2 hw (gA_S kw_229 kw_223 kw_2 kw_224) rfl rfl rfl (by decide +kernel) ⟨Nat.le_of_ble_eq_true rfl, Nat.le_of_ble_eq_true rfl⟩) (pS_s hP hK hE) rfl rfl hl.1 rfl (lv_room (Nat.le_of_ble_eq_true rfl)) dX4_lightestWithout_17 ⟨Nat.le_of_ble_eq_true rfl, Nat.le_of_ble_eq_true rfl⟩) hS (fun q h1 h2 => ro_A h1 h2) (fun q h => ro_F hS hA q h) (fun r u t H1 locs ht hvm hw9 hB9 hz1 hk1 hS => ?_)
      have hw9 : r = (bi (m_has tk ((n : Nat) : Int))) := hw9
      subst hw9
      have hP := ro_P hP hk1
      generalize H1 = H at hP hS ⊢
      refine n_b_ne hx hb (tgt := 67) dX4_lightestWithout_20 (by decide) (fun h5 => ?_) (fun h5 => ?_)
      · skip
        refine n_inc (lv' := [(4, .int (iI (((n : Nat) : Int) + 1))), (3, .int (iI x3)), (0, .ref (a 0)), (1, .int (iI tk)), (2, .int (iI au))]) hx hb dX4_lightestWithout_67 hl (k := 0) rfl (by decide) rfl (fun ls hl => ?_)
        refine lv_goto (tgt := 5) hx hb dX4_lightestWithout_70 (by decide) ?_
        have hl : lv_has ls 5 [(4, .int (iI (((n : Nat) : Int) + 1))), (3, .int (iI x3)), (0, .ref (a 0)), (1, .int (iI tk)), (2, .int (iI au))] := lv_sub hl [0, 1, 2, 3, 4] rfl
        have e6 : (((n : Nat) : Int) + 1) = (((n + 1) : Nat) : Int) := by rfl
        have hl : lv_has ls 5 [(4, .int (iI (((n + 1) : Nat) : Int))), (3, .int (iI x3)), (0, .ref (a 0)), (1, .int (iI tk)), (2, .int (iI au))] := lv_cast hl (by rw [e6])
        exact ih5 (n + 1) x3 H locs ls (by omega) (by simp only [m_fo, ← hx3]; simp [h4, Int.not_le.mpr h4, h5]; try omega) (by omega) hP hS hl
      · skip
        refine lv_aload_n hx hb dX4_lightestWithout_23 rfl (lv_at hl 2 rfl) ?_
        refine va_get (D := D) (ci := 4) (v := .ref (a 3)) (C := RX4) (T := TX4) (N := 19) hx hb hw hin_wsX40 hown hK hP 0 pw_0 rfl 2 (by decide) (hw _ kw_19) (fun _ h9 => h9) rfl dX4_lightestWithout_24 ?_
        refine lv_iload hx hb dX4_lightestWithout_27 (lv_at hl 0 rfl) ?_
        refine p_aldJ hx hb hK hP (k := ((n : Nat) : Int)) (by omega) (by omega) dX4_lightestWithout_29 ?_
        refine lv_iload_n hx hb dX4_lightestWithout_30 rfl (lv_at hl 4 rfl) ?_
        refine va_calli (va_runV (As := [.int (iI au)]) (rest := []) ⟨hx, hb, hml, hown, hw⟩ (c_isAgainst l D a cH cB cJ cI ha g vt H.size ((n : Nat) : Int) au hWf (by omega) (by omega)) (cwV 1 hw (gA_V kw_238 kw_239 kw_240 kw_34 kw_241) rfl rfl rfl (by decide +kernel) ⟨Nat.le_of_ble_eq_true rfl, Nat.le_of_ble_eq_true rfl⟩) (pS_v (ci := 2) (q0 := (28 + 6 * ((n : Nat) : Int).toNat)) rfl (pw_J (j := ((n : Nat) : Int)) (by omega) (by omega)) hP hK hE) rfl rfl hl.1 rfl (lv_room (Nat.le_of_ble_eq_true rfl)) dX4_lightestWithout_31 ⟨Nat.le_of_ble_eq_true rfl, Nat.le_of_ble_eq_true rfl⟩) hS (fun q h1 h2 => ro_A h1 h2) (fun q h => ro_F hS hA q h) (fun r u t H1 locs ht hvm hw9 hB9 hz1 hk1 hS => ?_)
        have hw9 : r = (bi (m_agn g ((n : Nat) : Int) au)) := hw9
        subst hw9
        have hP := ro_P hP hk1
        generalize H1 = H at hP hS ⊢
        refine n_b_ne hx hb (tgt := 67) dX4_lightestWithout_34 (by decide) (fun h7 => ?_) (fun h7 => ?_)
        · skip
          refine n_inc (lv' := [(4, .int (iI (((n : Nat) : Int) + 1))), (3, .int (iI x3)), (0, .ref (a 0)), (1, .int (iI tk)), (2, .int (iI au))]) hx hb dX4_lightestWithout_67 hl (k := 0) rfl (by decide) rfl (fun ls hl => ?_)
          refine lv_goto (tgt := 5) hx hb dX4_lightestWithout_70 (by decide) ?_
          have hl : lv_has ls 5 [(4, .int (iI (((n : Nat) : Int) + 1))), (3, .int (iI x3)), (0, .ref (a 0)), (1, .int (iI tk)), (2, .int (iI au))] := lv_sub hl [0, 1, 2, 3, 4] rfl
          have e8 : (((n : Nat) : Int) + 1) = (((n + 1) : Nat) : Int) := by rfl
          have hl : lv_has ls 5 [(4, .int (iI (((n + 1) : Nat) : Int))), (3, .int (iI x3)), (0, .ref (a 0)), (1, .int (iI tk)), (2, .int (iI au))] := lv_cast hl (by rw [e8])
          exact ih5 (n + 1) x3 H locs ls (by omega) (by simp only [m_fo, ← hx3]; simp [h4, Int.not_le.mpr h4, h5, h7]; try omega) (by omega) hP hS hl
        · skip
          refine lv_iload_n hx hb dX4_lightestWithout_37 rfl (lv_at hl 1 rfl) ?_
          refine lv_iconst (v := iI (-1)) hx hb dX4_lightestWithout_38 (by decide) ?_
          refine n_icmp_eq hx hb (by unfold RI; omega) (by unfold RI; omega) (tgt := 64) dX4_lightestWithout_39 (by decide) (fun h9 => ?_) (fun h9 => ?_)
          · skip
            refine lv_iload hx hb dX4_lightestWithout_64 (lv_at hl 0 rfl) ?_
            refine lv_istore_n (lv' := [(3, .int (iI ((n : Nat) : Int))), (4, .int (iI ((n : Nat) : Int))), (0, .ref (a 0)), (1, .int (iI tk)), (2, .int (iI au))]) hx hb dX4_lightestWithout_66 rfl hl (by decide) rfl (fun ls hl => ?_)
            refine n_inc (lv' := [(4, .int (iI (((n : Nat) : Int) + 1))), (3, .int (iI ((n : Nat) : Int))), (0, .ref (a 0)), (1, .int (iI tk)), (2, .int (iI au))]) hx hb dX4_lightestWithout_67 hl (k := 1) rfl (by decide) rfl (fun ls hl => ?_)
            refine lv_goto (tgt := 5) hx hb dX4_lightestWithout_70 (by decide) ?_
            have hl : lv_has ls 5 [(4, .int (iI (((n : Nat) : Int) + 1))), (3, .int (iI ((n : Nat) : Int))), (0, .ref (a 0)), (1, .int (iI tk)), (2, .int (iI au))] := lv_sub hl [0, 1, 2, 3, 4] rfl
            have e10 : (((n : Nat) : Int) + 1) = (((n + 1) : Nat) : Int) := by rfl
            have hl : lv_has ls 5 [(4, .int (iI (((n + 1) : Nat) : Int))), (3, .int (iI ((n : Nat) : Int))), (0, .ref (a 0)), (1, .int (iI tk)), (2, .int (iI au))] := lv_cast hl (by rw [e10])
            exact ih5 (n + 1) ((n : Nat) : Int) H locs ls (by omega) (by simp only [m_fo, ← hx3]; simp [h4, Int.not_le.mpr h4, h5, h7, h9]; try omega) (by omega) hP hS hl
          · skip
            refine lv_aload_n hx hb dX4_lightestWithout_42 rfl (lv_at hl 2 rfl) ?_
            refine va_get (D := D) (ci := 4) (v := .ref (a 3)) (C := RX4) (T := TX4) (N := 19) hx hb hw hin_wsX40 hown hK hP 0 pw_0 rfl 2 (by decide) (hw _ kw_19) (fun _ h9 => h9) rfl dX4_lightestWithout_43 ?_
            refine lv_iload hx hb dX4_lightestWithout_46 (lv_at hl 0 rfl) ?_
            refine p_aldJ hx hb hK hP (k := ((n : Nat) : Int)) (by omega) (by omega) dX4_lightestWithout_48 ?_
            have s11 := Wf.j8 hWf (k := ((n : Nat) : Int)) (by omega) (by omega)
            refine va_get (D := D) (ci := 2) (v := .int (iI (g 3 ((n : Nat) : Int) 8))) (C := RX2) (T := TX2) (N := 16) hx hb hw hin_wsX20 hown hK hP (28 + 6 * ((n : Nat) : Int).toNat) (pw_J (j := ((n : Nat) : Int)) (by omega) (by omega)) rfl 8 (by decide) (hw _ kw_328) (fun _ h9 => h9) rfl dX4_lightestWithout_49 ?_
            refine lv_aload_n hx hb dX4_lightestWithout_52 rfl (lv_at hl 2 rfl) ?_
            refine va_get (D := D) (ci := 4) (v := .ref (a 3)) (C := RX4) (T := TX4) (N := 19) hx hb hw hin_wsX40 hown hK hP 0 pw_0 rfl 2 (by decide) (hw _ kw_19) (fun _ h9 => h9) rfl dX4_lightestWithout_53 ?_
            refine lv_iload_n hx hb dX4_lightestWithout_56 rfl (lv_at hl 1 rfl) ?_
            refine p_aldJ hx hb hK hP (k := x3) (by omega) (by omega) dX4_lightestWithout_57 ?_
            have s12 := Wf.j8 hWf (k := x3) (by omega) (by omega)
            refine va_get (D := D) (ci := 2) (v := .int (iI (g 3 x3 8))) (C := RX2) (T := TX2) (N := 16) hx hb hw hin_wsX20 hown hK hP (28 + 6 * x3.toNat) (pw_J (j := x3) (by omega) (by omega)) rfl 8 (by decide) (hw _ kw_328) (fun _ h9 => h9) rfl dX4_lightestWithout_58 ?_
            refine n_icmp_ge hx hb (by unfold RI; omega) (by unfold RI; omega) (tgt := 67) dX4_lightestWithout_61 (by decide) (fun h13 => ?_) (fun h13 => ?_)
            · skip
              refine n_inc (lv' := [(4, .int (iI (((n : Nat) : Int) + 1))), (3, .int (iI x3)), (0, .ref (a 0)), (1, .int (iI tk)), (2, .int (iI au))]) hx hb dX4_lightestWithout_67 hl (k := 0) rfl (by decide) rfl (fun ls hl => ?_)
              refine lv_goto (tgt := 5) hx hb dX4_lightestWithout_70 (by decide) ?_
              have hl : lv_has ls 5 [(4, .int (iI (((n : Nat) : Int) + 1))), (3, .int (iI x3)), (0, .ref (a 0)), (1, .int (iI tk)), (2, .int (iI au))] := lv_sub hl [0, 1, 2, 3, 4] rfl
              have e14 : (((n : Nat) : Int) + 1) = (((n + 1) : Nat) : Int) := by rfl
              have hl : lv_has ls 5 [(4, .int (iI (((n + 1) : Nat) : Int))), (3, .int (iI x3)), (0, .ref (a 0)), (1, .int (iI tk)), (2, .int (iI au))] := lv_cast hl (by rw [e14])
              exact ih5 (n + 1) x3 H locs ls (by omega) (by simp only [m_fo, ← hx3]; simp [h4, Int.not_le.mpr h4, h5, h7, h9, beq_false_of_ne h9, h13, Int.not_lt.mpr h13]; try omega) (by omega) hP hS hl
            · skip
              refine lv_iload hx hb dX4_lightestWithout_64 (lv_at hl 0 rfl) ?_
              refine lv_istore_n (lv' := [(3, .int (iI ((n : Nat) : Int))), (4, .int (iI ((n : Nat) : Int))), (0, .ref (a 0)), (1, .int (iI tk)), (2, .int (iI au))]) hx hb dX4_lightestWithout_66 rfl hl (by decide) rfl (fun ls hl => ?_)
              refine n_inc (lv' := [(4, .int (iI (((n : Nat) : Int) + 1))), (3, .int (iI ((n : Nat) : Int))), (0, .ref (a 0)), (1, .int (iI tk)), (2, .int (iI au))]) hx hb dX4_lightestWithout_67 hl (k := 1) rfl (by decide) rfl (fun ls hl => ?_)
              refine lv_goto (tgt := 5) hx hb dX4_lightestWithout_70 (by decide) ?_
              have hl : lv_has ls 5 [(4, .int (iI (((n : Nat) : Int) + 1))), (3, .int (iI ((n : Nat) : Int))), (0, .ref (a 0)), (1, .int (iI tk)), (2, .int (iI au))] := lv_sub hl [0, 1, 2, 3, 4] rfl
              have e15 : (((n : Nat) : Int) + 1) = (((n + 1) : Nat) : Int) := by rfl
              have hl : lv_has ls 5 [(4, .int (iI (((n + 1) : Nat) : Int))), (3, .int (iI ((n : Nat) : Int))), (0, .ref (a 0)), (1, .int (iI tk)), (2, .int (iI au))] := lv_cast hl (by rw [e15])
              exact ih5 (n + 1) ((n : Nat) : Int) H locs ls (by omega) (by simp only [m_fo, ← hx3]; simp [h4, Int.not_le.mpr h4, h5, h7, h9, beq_false_of_ne h9, h13, Int.not_le.mpr h13]; try omega) (by omega) hP hS hl
  have hl : lv_has ls 5 [(4, .int (iI 0)), (3, .int (iI (-1))), (0, .ref (a 0)), (1, .int (iI tk)), (2, .int (iI au))] := lv_sub hl [0, 1, 2, 3, 4] rfl
  have hl : lv_has ls 5 [(4, .int (iI ((0 : Nat) : Int))), (3, .int (iI (-1))), (0, .ref (a 0)), (1, .int (iI tk)), (2, .int (iI au))] := hl
  exact loop5 ((g 0 0 5).toNat) 0 (-1) H locs ls (by omega) rfl (Or.inl rfl) hP hS hl
set_option maxHeartbeats 4000000 in
set_option maxRecDepth 100000 in
theorem c_areCratesRead (l : Launch) (D : va_G) (a : Nat → Nat) (cH cB cJ cI : ClassId) (ha : pj a) (g : m_St) (vt : Nat → Int32) (sz : Nat) (hWf : Wf g) : Met l yX4_areCratesRead (wc yX4_areCratesRead cX4_areCratesRead 2 (some .boolean)) ({ frames := 1, cells := 0, slots := 0, locals := 20 }) (va_Pc [.ref (a 0)] (pS D a cH cB cJ cI sz g vt)) (va_Qi (fun (r : Int32) (_ : Unit) => r = bi (m_cratesRead g)) (fun _ _ => True) (fun q => sz ≤ q)) 0 0 (fun q => sz ≤ q) := by
  refine Met.ofW (cc := cX4_areCratesRead) (maxL := 2) (ret := (some .boolean)) (by decide +kernel) rfl ?_
  intro p e s m args below meth c s₁ B9 hml hv
  obtain ⟨rfl, hsz, hP, hK, hE⟩ := hv
  have hx := B9.exec
  have hb := B9.bytes
  have hr := B9.returns
  have hts := atoms_spec (ws := (wc yX4_areCratesRead cX4_areCratesRead 2 (some .boolean))) B9.pre
  have hw : ∀ w ∈ wsL_law0, w.before [.ref (a 0)].toArray s = true := fun w h => hts w (List.mem_cons_of_mem _ h)
  have hown : s.vm.findClass RX4 = some m.cls := findClass_of_methodNamed B9.named
  subst hsz
  have hS : va_S (fun q => s.heap.size ≤ q) s.heap s.heap [] := va_S.rf
  have hA : ∀ q : Nat, s.heap.size ≤ q → (fun q : Nat => s.heap.size ≤ q) q := fun _ h => h
  have hl := lv_entry ([.ref (a 0)]) (n := 2) (Nat.le_of_ble_eq_true rfl)
  rw [lg_entry_eq]
  generalize (lg_sl ([.ref (a 0)]) ++ List.replicate (2 - (lg_sl ([.ref (a 0)])).length) Slot.unset).toArray = ls at hl ⊢
  have hl : lv_has ls 2 [(0, .ref (a 0))] := hl
  suffices h9 : ∀ (H : Heap) (locs : List Loc), va_P D vwCl (pw a cH cB cJ cI g vt) H → va_S (fun q => s.heap.size ≤ q) s.heap H locs → W p l e (headSpec (wc yX4_areCratesRead cX4_areCratesRead 2 (some .boolean)) ({ frames := 1, cells := 0, slots := 0, locals := 20 })).room s m [.ref (a 0)].toArray below meth c H locs 0 0 (MQ below (va_Qi (fun (r : Int32) (_ : Unit) => r = bi (m_cratesRead g)) (fun _ _ => True) (fun q => s.heap.size ≤ q)) [.ref (a 0)].toArray s 0 0 (fun q => s.heap.size ≤ q)) (F0 m 0 ls []) from h9 s.heap [] hP hS
  clear hP hS
  intro H locs hP hS
  have m5 := Wf.m5 hWf
  refine lv_iconst (v := iI 0) hx hb dX4_areCratesRead_0 (by decide) ?_
  refine lv_istore_n (lv' := [(1, .int (iI 0)), (0, .ref (a 0))]) hx hb dX4_areCratesRead_1 rfl hl (by decide) rfl (fun ls hl => ?_)
  have loop2 : ∀ (d n : Nat) (H : Heap) (locs : List Loc) (ls : Array Slot), n + d = (g 0 0 5).toNat → (m_cratesRead g = m_al (fun j => !decide (0 < m_pagesLeft g j)) d ((n : Nat) : Int)) → va_P D vwCl (pw a cH cB cJ cI g vt) H → va_S (fun q => s.heap.size ≤ q) s.heap H locs → lv_has ls 2 [(1, .int (iI ((n : Nat) : Int))), (0, .ref (a 0))] → W p l e (headSpec (wc yX4_areCratesRead cX4_areCratesRead 2 (some .boolean)) ({ frames := 1, cells := 0, slots := 0, locals := 20 })).room s m [.ref (a 0)].toArray below meth c H locs 0 0 (MQ below (va_Qi (fun (r : Int32) (_ : Unit) => r = bi (m_cratesRead g)) (fun _ _ => True) (fun q => s.heap.size ≤ q)) [.ref (a 0)].toArray s 0 0 (fun q => s.heap.size ≤ q)) (F0 m 2 ls []) := by
    intro d
    induction d with
    | zero =>
      intro n H locs ls hn hq hP hS hl
      obtain rfl : n = (g 0 0 5).toNat := by omega
      refine lv_iload_n hx hb dX4_areCratesRead_2 rfl (lv_at hl 0 rfl) ?_
      refine lv_aload_n hx hb dX4_areCratesRead_3 rfl (lv_at hl 1 rfl) ?_
      have s1 := Wf.m5 hWf
      refine va_get (D := D) (ci := 4) (v := .int (iI (g 0 0 5))) (C := RX4) (T := TX4) (N := 19) hx hb hw hin_wsX40 hown hK hP 0 pw_0 rfl 5 (by decide) (hw _ kw_81) (fun _ h9 => h9) rfl dX4_areCratesRead_4 ?_
      refine n_icmp_ge hx hb (by unfold RI; omega) (by unfold RI; omega) (tgt := 30) dX4_areCratesRead_7 (by decide) (fun h2 => ?_) (fun h2 => absurd h2 (by intro h2; omega))
      refine lv_iconst (v := iI 1) hx hb dX4_areCratesRead_30 (by decide) ?_
      exact W.zret (v := (iI 1)) (ty := .boolean) hx hb hr (by decide +kernel) (fun t ht hW9 => ⟨⟨(iI 1), (), rfl, (show iI 1 = bi (m_cratesRead g) from by rw [show (m_cratesRead g) = true from by rw [hq]; first | rfl | simp [m_al, h2, Int.not_lt.mpr h2]]; rfl), trivial⟩, hS.F ht⟩) hS.2.2 dX4_areCratesRead_31
    | succ d ih2 =>
      intro n H locs ls hn hq hP hS hl
      refine lv_iload_n hx hb dX4_areCratesRead_2 rfl (lv_at hl 0 rfl) ?_
      refine lv_aload_n hx hb dX4_areCratesRead_3 rfl (lv_at hl 1 rfl) ?_
      have s3 := Wf.m5 hWf
      refine va_get (D := D) (ci := 4) (v := .int (iI (g 0 0 5))) (C := RX4) (T := TX4) (N := 19) hx hb hw hin_wsX40 hown hK hP 0 pw_0 rfl 5 (by decide) (hw _ kw_81) (fun _ h9 => h9) rfl dX4_areCratesRead_4 ?_
      refine n_icmp_ge hx hb (by unfold RI; omega) (by unfold RI; omega) (tgt := 30) dX4_areCratesRead_7 (by decide) (fun h4 => absurd h4 (by intro h4; omega)) (fun h4 => ?_)
      refine lv_aload_n hx hb dX4_areCratesRead_10 rfl (lv_at hl 1 rfl) ?_
      refine va_get (D := D) (ci := 4) (v := .ref (a 3)) (C := RX4) (T := TX4) (N := 19) hx hb hw hin_wsX40 hown hK hP 0 pw_0 rfl 2 (by decide) (hw _ kw_19) (fun _ h9 => h9) rfl dX4_areCratesRead_11 ?_
      refine lv_iload_n hx hb dX4_areCratesRead_14 rfl (lv_at hl 0 rfl) ?_
      refine p_aldJ hx hb hK hP (k := ((n : Nat) : Int)) (by omega) (by omega) dX4_areCratesRead_15 ?_
      refine va_calli (va_runV (As := []) (rest := []) ⟨hx, hb, hml, hown, hw⟩ (c_pagesLeft l D a cH cB cJ cI ha g vt H.size ((n : Nat) : Int) hWf (by omega)) (cwV 0 hw (gA_V kw_182 kw_183 kw_184 kw_34 kw_185) rfl rfl rfl (by decide +kernel) ⟨Nat.le_of_ble_eq_true rfl, Nat.le_of_ble_eq_true rfl⟩) (pS_v (ci := 2) (q0 := (28 + 6 * ((n : Nat) : Int).toNat)) rfl (pw_J (j := ((n : Nat) : Int)) (by omega) (by omega)) hP hK hE) rfl rfl hl.1 rfl (lv_room (Nat.le_of_ble_eq_true rfl)) dX4_areCratesRead_16 ⟨Nat.le_of_ble_eq_true rfl, Nat.le_of_ble_eq_true rfl⟩) hS (fun q h1 h2 => ro_A h1 h2) (fun q h => ro_F hS hA q h) (fun r u t H1 locs ht hvm hw9 hB9 hz1 hk1 hS => ?_)
      have hw9 : r = (iI (m_pagesLeft g ((n : Nat) : Int))) := hw9
      subst hw9
      have hP := ro_P hP hk1
      generalize H1 = H at hP hS ⊢
      have s5 := left_b hWf (jj := ((n : Nat) : Int)) (by omega)
      refine n_if_le hx hb (by unfold RI; omega) (tgt := 24) dX4_areCratesRead_19 (by decide) (fun h6 => ?_) (fun h6 => ?_)
      · skip
        refine n_inc (lv' := [(1, .int (iI (((n : Nat) : Int) + 1))), (0, .ref (a 0))]) hx hb dX4_areCratesRead_24 hl (k := 0) rfl (by decide) rfl (fun ls hl => ?_)
        refine lv_goto (tgt := 2) hx hb dX4_areCratesRead_27 (by decide) ?_
        have hl : lv_has ls 2 [(1, .int (iI (((n : Nat) : Int) + 1))), (0, .ref (a 0))] := lv_sub hl [0, 1] rfl
        have e7 : (((n : Nat) : Int) + 1) = (((n + 1) : Nat) : Int) := by rfl
        have hl : lv_has ls 2 [(1, .int (iI (((n + 1) : Nat) : Int))), (0, .ref (a 0))] := lv_cast hl (by rw [e7])
        exact ih2 (n + 1) H locs ls (by omega) (by rw [hq]; simp [m_al]; try omega) hP hS hl
      · skip
        refine lv_iconst (v := iI 0) hx hb dX4_areCratesRead_22 (by decide) ?_
        exact W.zret (v := (iI 0)) (ty := .boolean) hx hb hr (by decide +kernel) (fun t ht hW9 => ⟨⟨(iI 0), (), rfl, (show iI 0 = bi (m_cratesRead g) from by rw [show (m_cratesRead g) = false from by rw [hq]; first | rfl | simp [m_al, h4, Int.not_le.mpr h4, h6, Int.not_le.mpr h6]]; rfl), trivial⟩, hS.F ht⟩) hS.2.2 dX4_areCratesRead_23
  have hl : lv_has ls 2 [(1, .int (iI 0)), (0, .ref (a 0))] := lv_sub hl [0, 1] rfl
  have hl : lv_has ls 2 [(1, .int (iI ((0 : Nat) : Int))), (0, .ref (a 0))] := hl
  exact loop2 ((g 0 0 5).toNat) 0 H locs ls (by omega) rfl hP hS hl
set_option maxHeartbeats 4000000 in
set_option maxRecDepth 100000 in
theorem c_askedInDay (l : Launch) (D : va_G) (a : Nat → Nat) (cH cB cJ cI : ClassId) (ha : pj a) (g : m_St) (vt : Nat → Int32) (sz : Nat) (bb : Int) (hWf : Wf g) (hbb : 0 ≤ bb ∧ bb < 16) : Met l yX4_askedInDay (wc yX4_askedInDay cX4_askedInDay 2 (some .int)) ({ frames := 1, cells := 0, slots := 0, locals := 21 }) (va_Pc [.ref (a 0), .int (iI bb)] (pS D a cH cB cJ cI sz g vt)) (va_Qi (fun (r : Int32) (_ : Unit) => r = iI (m_asked g bb)) (fun _ _ => True) (fun q => sz ≤ q)) 0 0 (fun q => sz ≤ q) := by
  refine Met.ofW (cc := cX4_askedInDay) (maxL := 2) (ret := (some .int)) (by decide +kernel) rfl ?_
  intro p e s m args below meth c s₁ B9 hml hv
  obtain ⟨rfl, hsz, hP, hK, hE⟩ := hv
  have hx := B9.exec
  have hb := B9.bytes
  have hr := B9.returns
  have hts := atoms_spec (ws := (wc yX4_askedInDay cX4_askedInDay 2 (some .int))) B9.pre
  have hw : ∀ w ∈ wsL_law0, w.before [.ref (a 0), .int (iI bb)].toArray s = true := fun w h => hts w (List.mem_cons_of_mem _ h)
  have hown : s.vm.findClass RX4 = some m.cls := findClass_of_methodNamed B9.named
  subst hsz
  have hS : va_S (fun q => s.heap.size ≤ q) s.heap s.heap [] := va_S.rf
  have hA : ∀ q : Nat, s.heap.size ≤ q → (fun q : Nat => s.heap.size ≤ q) q := fun _ h => h
  have hl := lv_entry ([.ref (a 0), .int (iI bb)]) (n := 2) (Nat.le_of_ble_eq_true rfl)
  rw [lg_entry_eq]
  generalize (lg_sl ([.ref (a 0), .int (iI bb)]) ++ List.replicate (2 - (lg_sl ([.ref (a 0), .int (iI bb)])).length) Slot.unset).toArray = ls at hl ⊢
  have hl : lv_has ls 2 [(0, .ref (a 0)), (1, .int (iI bb))] := hl
  suffices h9 : ∀ (H : Heap) (locs : List Loc), va_P D vwCl (pw a cH cB cJ cI g vt) H → va_S (fun q => s.heap.size ≤ q) s.heap H locs → W p l e (headSpec (wc yX4_askedInDay cX4_askedInDay 2 (some .int)) ({ frames := 1, cells := 0, slots := 0, locals := 21 })).room s m [.ref (a 0), .int (iI bb)].toArray below meth c H locs 0 0 (MQ below (va_Qi (fun (r : Int32) (_ : Unit) => r = iI (m_asked g bb)) (fun _ _ => True) (fun q => s.heap.size ≤ q)) [.ref (a 0), .int (iI bb)].toArray s 0 0 (fun q => s.heap.size ≤ q)) (F0 m 0 ls []) from h9 s.heap [] hP hS
  clear hP hS
  intro H locs hP hS
  refine lv_iload_n hx hb dX4_askedInDay_0 rfl (lv_at hl 1 rfl) ?_
  refine lv_aload_n hx hb dX4_askedInDay_1 rfl (lv_at hl 0 rfl) ?_
  have s1 := Wf.m14 hWf
  refine va_get (D := D) (ci := 4) (v := .int (iI (g 0 0 14))) (C := RX4) (T := TX4) (N := 19) hx hb hw hin_wsX40 hown hK hP 0 pw_0 rfl 14 (by decide) (hw _ kw_26) (fun _ h9 => h9) rfl dX4_askedInDay_2 ?_
  refine n_icmp_eq hx hb (by unfold RI; omega) (by unfold RI; omega) (tgt := 16) dX4_askedInDay_5 (by decide) (fun h2 => ?_) (fun h2 => ?_)
  · skip
    refine lv_bipush (v := iI 90) hx hb dX4_askedInDay_16 (by decide) ?_
    exact W.iret (v := (iI 90)) hx hb hr (fun t ht hW9 => ⟨⟨(iI 90), (), rfl, (congrArg iI (by simp [m_asked, h2])), trivial⟩, hS.F ht⟩) hS.2.2 dX4_askedInDay_18
  · skip
    refine lv_iload_n hx hb dX4_askedInDay_8 rfl (lv_at hl 1 rfl) ?_
    refine lv_aload_n hx hb dX4_askedInDay_9 rfl (lv_at hl 0 rfl) ?_
    have s3 := Wf.m15 hWf
    refine va_get (D := D) (ci := 4) (v := .int (iI (g 0 0 15))) (C := RX4) (T := TX4) (N := 19) hx hb hw hin_wsX40 hown hK hP 0 pw_0 rfl 15 (by decide) (hw _ kw_27) (fun _ h9 => h9) rfl dX4_askedInDay_10 ?_
    refine n_icmp_ne hx hb (by unfold RI; omega) (by unfold RI; omega) (tgt := 19) dX4_askedInDay_13 (by decide) (fun h4 => ?_) (fun h4 => ?_)
    · skip
      refine lv_aload_n hx hb dX4_askedInDay_19 rfl (lv_at hl 0 rfl) ?_
      have s5 := Wf.m13 hWf
      refine va_get (D := D) (ci := 4) (v := .int (iI (g 0 0 13))) (C := RX4) (T := TX4) (N := 19) hx hb hw hin_wsX40 hown hK hP 0 pw_0 rfl 13 (by decide) (hw _ kw_100) (fun _ h9 => h9) rfl dX4_askedInDay_20 ?_
      refine lv_iload_n hx hb dX4_askedInDay_23 rfl (lv_at hl 1 rfl) ?_
      refine va_calli (va_runS (As := [.int (iI (g 0 0 13)), .int (iI bb)]) (rest := []) ⟨hx, hb, hml, hown, hw⟩ (c_has l D a cH cB cJ cI ha g vt H.size (g 0 0 13) bb (by omega) (by omega)) (va_cwS 2 hw (gA_S kw_229 kw_223 kw_2 kw_224) rfl rfl rfl (by decide +kernel) ⟨Nat.le_of_ble_eq_true rfl, Nat.le_of_ble_eq_true rfl⟩) (pS_s hP hK hE) rfl rfl hl.1 rfl (lv_room (Nat.le_of_ble_eq_true rfl)) dX4_askedInDay_24 ⟨Nat.le_of_ble_eq_true rfl, Nat.le_of_ble_eq_true rfl⟩) hS (fun q h1 h2 => ro_A h1 h2) (fun q h => ro_F hS hA q h) (fun r u t H1 locs ht hvm hw9 hB9 hz1 hk1 hS => ?_)
      have hw9 : r = (bi (m_has (g 0 0 13) bb)) := hw9
      subst hw9
      have hP := ro_P hP hk1
      generalize H1 = H at hP hS ⊢
      refine n_b_eq hx hb (tgt := 33) dX4_askedInDay_27 (by decide) (fun h6 => ?_) (fun h6 => ?_)
      · skip
        refine lv_aload_n hx hb dX4_askedInDay_33 rfl (lv_at hl 0 rfl) ?_
        have s7 := Wf.m11 hWf
        refine va_get (D := D) (ci := 4) (v := .int (iI (g 0 0 11))) (C := RX4) (T := TX4) (N := 19) hx hb hw hin_wsX40 hown hK hP 0 pw_0 rfl 11 (by decide) (hw _ kw_99) (fun _ h9 => h9) rfl dX4_askedInDay_34 ?_
        refine lv_iload_n hx hb dX4_askedInDay_37 rfl (lv_at hl 1 rfl) ?_
        refine va_calli (va_runS (As := [.int (iI (g 0 0 11)), .int (iI bb)]) (rest := []) ⟨hx, hb, hml, hown, hw⟩ (c_has l D a cH cB cJ cI ha g vt H.size (g 0 0 11) bb (by omega) (by omega)) (va_cwS 2 hw (gA_S kw_229 kw_223 kw_2 kw_224) rfl rfl rfl (by decide +kernel) ⟨Nat.le_of_ble_eq_true rfl, Nat.le_of_ble_eq_true rfl⟩) (pS_s hP hK hE) rfl rfl hl.1 rfl (lv_room (Nat.le_of_ble_eq_true rfl)) dX4_askedInDay_38 ⟨Nat.le_of_ble_eq_true rfl, Nat.le_of_ble_eq_true rfl⟩) hS (fun q h1 h2 => ro_A h1 h2) (fun q h => ro_F hS hA q h) (fun r u t H1 locs ht hvm hw9 hB9 hz1 hk1 hS => ?_)
        have hw9 : r = (bi (m_has (g 0 0 11) bb)) := hw9
        subst hw9
        have hP := ro_P hP hk1
        generalize H1 = H at hP hS ⊢
        refine n_b_eq hx hb (tgt := 48) dX4_askedInDay_41 (by decide) (fun h8 => ?_) (fun h8 => ?_)
        · skip
          refine lv_iconst (v := iI 1) hx hb dX4_askedInDay_48 (by decide) ?_
          exact W.iret (v := (iI 1)) hx hb hr (fun t ht hW9 => ⟨⟨(iI 1), (), rfl, (congrArg iI (by simp [m_asked, h2, beq_false_of_ne h2, h4, beq_false_of_ne h4, h6, h8])), trivial⟩, hS.F ht⟩) hS.2.2 dX4_askedInDay_49
        · skip
          refine lv_iconst (v := iI 5) hx hb dX4_askedInDay_44 (by decide) ?_
          refine lv_goto (tgt := 49) hx hb dX4_askedInDay_45 (by decide) ?_
          exact W.iret (v := (iI 5)) hx hb hr (fun t ht hW9 => ⟨⟨(iI 5), (), rfl, (congrArg iI (by simp [m_asked, h2, beq_false_of_ne h2, h4, beq_false_of_ne h4, h6, h8])), trivial⟩, hS.F ht⟩) hS.2.2 dX4_askedInDay_49
      · skip
        refine lv_bipush (v := iI 20) hx hb dX4_askedInDay_30 (by decide) ?_
        exact W.iret (v := (iI 20)) hx hb hr (fun t ht hW9 => ⟨⟨(iI 20), (), rfl, (congrArg iI (by simp [m_asked, h2, beq_false_of_ne h2, h4, beq_false_of_ne h4, h6])), trivial⟩, hS.F ht⟩) hS.2.2 dX4_askedInDay_32
    · skip
      refine lv_bipush (v := iI 90) hx hb dX4_askedInDay_16 (by decide) ?_
      exact W.iret (v := (iI 90)) hx hb hr (fun t ht hW9 => ⟨⟨(iI 90), (), rfl, (congrArg iI (by simp [m_asked, h2, beq_false_of_ne h2, h4])), trivial⟩, hS.F ht⟩) hS.2.2 dX4_askedInDay_18
