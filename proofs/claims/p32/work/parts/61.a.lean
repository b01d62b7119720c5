set_option maxHeartbeats 4000000 in
set_option maxRecDepth 100000 in
theorem c_countOfHouse (l : Launch) (D : va_G) (a : Nat → Nat) (cH cB cJ cI : ClassId) (ha : pj a) (g : m_St) (vt : Nat → Int32) (sz : Nat) (hh : Int) (S : Int) (hWf : Wf g) (rh : -2147483648 ≤ hh ∧ hh ≤ 2147483647) (hSS : 0 ≤ S ∧ S < 65536) : Met l yX4_countOfHouse (wc yX4_countOfHouse cX4_countOfHouse 5 (some .int)) ({ frames := 1, cells := 0, slots := 0, locals := 21 }) (va_Pc [.ref (a 0), .int (iI hh), .int (iI S)] (pS D a cH cB cJ cI sz g vt)) (va_Qi (fun (r : Int32) (_ : Unit) => r = iI (m_coh g hh S)) (fun _ _ => True) (fun q => sz ≤ q)) 0 0 (fun q => sz ≤ q) := by
  refine Met.ofW (cc := cX4_countOfHouse) (maxL := 5) (ret := (some .int)) (by decide +kernel) rfl ?_
  intro p e s m args below meth c s₁ B9 hml hv
  obtain ⟨rfl, hsz, hP, hK, hE⟩ := hv
  have hx := B9.exec
  have hb := B9.bytes
  have hr := B9.returns
  have hts := atoms_spec (ws := (wc yX4_countOfHouse cX4_countOfHouse 5 (some .int))) B9.pre
  have hw : ∀ w ∈ wsL_law0, w.before [.ref (a 0), .int (iI hh), .int (iI S)].toArray s = true := fun w h => hts w (List.mem_cons_of_mem _ h)
  have hown : s.vm.findClass RX4 = some m.cls := findClass_of_methodNamed B9.named
  subst hsz
  have hS : va_S (fun q => s.heap.size ≤ q) s.heap s.heap [] := va_S.rf
  have hA : ∀ q : Nat, s.heap.size ≤ q → (fun q : Nat => s.heap.size ≤ q) q := fun _ h => h
  have hl := lv_entry ([.ref (a 0), .int (iI hh), .int (iI S)]) (n := 5) (Nat.le_of_ble_eq_true rfl)
  rw [lg_entry_eq]
  generalize (lg_sl ([.ref (a 0), .int (iI hh), .int (iI S)]) ++ List.replicate (5 - (lg_sl ([.ref (a 0), .int (iI hh), .int (iI S)])).length) Slot.unset).toArray = ls at hl ⊢
  have hl : lv_has ls 5 [(0, .ref (a 0)), (1, .int (iI hh)), (2, .int (iI S))] := hl
  suffices h9 : ∀ (H : Heap) (locs : List Loc), va_P D vwCl (pw a cH cB cJ cI g vt) H → va_S (fun q => s.heap.size ≤ q) s.heap H locs → W p l e (headSpec (wc yX4_countOfHouse cX4_countOfHouse 5 (some .int)) ({ frames := 1, cells := 0, slots := 0, locals := 21 })).room s m [.ref (a 0), .int (iI hh), .int (iI S)].toArray below meth c H locs 0 0 (MQ below (va_Qi (fun (r : Int32) (_ : Unit) => r = iI (m_coh g hh S)) (fun _ _ => True) (fun q => s.heap.size ≤ q)) [.ref (a 0), .int (iI hh), .int (iI S)].toArray s 0 0 (fun q => s.heap.size ≤ q)) (F0 m 0 ls []) from h9 s.heap [] hP hS
  clear hP hS
  intro H locs hP hS
  have m4 := Wf.m4 hWf
  refine lv_iconst (v := iI 0) hx hb dX4_countOfHouse_0 (by decide) ?_
  refine lv_istore_n (lv' := [(3, .int (iI 0)), (0, .ref (a 0)), (1, .int (iI hh)), (2, .int (iI S))]) hx hb dX4_countOfHouse_1 rfl hl (by decide) rfl (fun ls hl => ?_)
  refine lv_iconst (v := iI 0) hx hb dX4_countOfHouse_2 (by decide) ?_
  refine lv_istore (lv' := [(4, .int (iI 0)), (3, .int (iI 0)), (0, .ref (a 0)), (1, .int (iI hh)), (2, .int (iI S))]) hx hb dX4_countOfHouse_3 hl (by decide) rfl (fun ls hl => ?_)
  have loop5 : ∀ (d n : Nat) (H : Heap) (locs : List Loc) (ls : Array Slot), n + d = (g 0 0 4).toNat → va_P D vwCl (pw a cH cB cJ cI g vt) H → va_S (fun q => s.heap.size ≤ q) s.heap H locs → lv_has ls 5 [(4, .int (iI ((n : Nat) : Int))), (3, .int (iI (m_cnt (fun b => m_has S b && g 2 b 0 == hh) n))), (0, .ref (a 0)), (1, .int (iI hh)), (2, .int (iI S))] → W p l e (headSpec (wc yX4_countOfHouse cX4_countOfHouse 5 (some .int)) ({ frames := 1, cells := 0, slots := 0, locals := 21 })).room s m [.ref (a 0), .int (iI hh), .int (iI S)].toArray below meth c H locs 0 0 (MQ below (va_Qi (fun (r : Int32) (_ : Unit) => r = iI (m_coh g hh S)) (fun _ _ => True) (fun q => s.heap.size ≤ q)) [.ref (a 0), .int (iI hh), .int (iI S)].toArray s 0 0 (fun q => s.heap.size ≤ q)) (F0 m 5 ls []) := by
    intro d
    induction d with
    | zero =>
      intro n H locs ls hn hP hS hl
      obtain rfl : n = (g 0 0 4).toNat := by omega
      refine lv_iload hx hb dX4_countOfHouse_5 (lv_at hl 0 rfl) ?_
      refine lv_aload_n hx hb dX4_countOfHouse_7 rfl (lv_at hl 2 rfl) ?_
      have s1 := Wf.m4 hWf
      refine va_get (D := D) (ci := 4) (v := .int (iI (g 0 0 4))) (C := RX4) (T := TX4) (N := 19) hx hb hw hin_wsX40 hown hK hP 0 pw_0 rfl 4 (by decide) (hw _ kw_98) (fun _ h9 => h9) rfl dX4_countOfHouse_8 ?_
      refine n_icmp_ge hx hb (by unfold RI; omega) (by unfold RI; omega) (tgt := 46) dX4_countOfHouse_11 (by decide) (fun h2 => ?_) (fun h2 => absurd h2 (by intro h2; omega))
      refine lv_iload_n hx hb dX4_countOfHouse_46 rfl (lv_at hl 1 rfl) ?_
      exact W.iret (v := (iI (m_cnt (fun b => m_has S b && g 2 b 0 == hh) ((g 0 0 4).toNat)))) hx hb hr (fun t ht hW9 => ⟨⟨(iI (m_cnt (fun b => m_has S b && g 2 b 0 == hh) ((g 0 0 4).toNat))), (), rfl, (congrArg iI (by rfl)), trivial⟩, hS.F ht⟩) hS.2.2 dX4_countOfHouse_47
    | succ d ih5 =>
      intro n H locs ls hn hP hS hl
      refine lv_iload hx hb dX4_countOfHouse_5 (lv_at hl 0 rfl) ?_
      refine lv_aload_n hx hb dX4_countOfHouse_7 rfl (lv_at hl 2 rfl) ?_
      have s3 := Wf.m4 hWf
      refine va_get (D := D) (ci := 4) (v := .int (iI (g 0 0 4))) (C := RX4) (T := TX4) (N := 19) hx hb hw hin_wsX40 hown hK hP 0 pw_0 rfl 4 (by decide) (hw _ kw_98) (fun _ h9 => h9) rfl dX4_countOfHouse_8 ?_
      refine n_icmp_ge hx hb (by unfold RI; omega) (by unfold RI; omega) (tgt := 46) dX4_countOfHouse_11 (by decide) (fun h4 => absurd h4 (by intro h4; omega)) (fun h4 => ?_)
      refine lv_iload_n hx hb dX4_countOfHouse_14 rfl (lv_at hl 4 rfl) ?_
      refine lv_iload hx hb dX4_countOfHouse_15 (lv_at hl 0 rfl) ?_
      refine va_calli (va_runS (As := [.int (iI S), .int (iI ((n : Nat) : Int))]) (rest := []) ⟨hx, hb, hml, hown, hw⟩ (c_has l D a cH cB cJ cI ha g vt H.size S ((n : Nat) : Int) (by omega) (by omega)) (va_cwS 2 hw (gA_S kw_229 kw_223 kw_2 kw_224) rfl rfl rfl (by decide +kernel) ⟨Nat.le_of_ble_eq_true rfl, Nat.le_of_ble_eq_true rfl⟩) (pS_s hP hK hE) rfl rfl hl.1 rfl (lv_room (Nat.le_of_ble_eq_true rfl)) dX4_countOfHouse_17 ⟨Nat.le_of_ble_eq_true rfl, Nat.le_of_ble_eq_true rfl⟩) hS (fun q h1 h2 => ro_A h1 h2) (fun q h => ro_F hS hA q h) (fun r u t H1 locs ht hvm hw9 hB9 hz1 hk1 hS => ?_)
      have hw9 : r = (bi (m_has S ((n : Nat) : Int))) := hw9
      subst hw9
      have hP := ro_P hP hk1
      generalize H1 = H at hP hS ⊢
      refine n_b_eq hx hb (tgt := 40) dX4_countOfHouse_20 (by decide) (fun h5 => ?_) (fun h5 => ?_)
      · skip
        refine n_inc (lv' := [(4, .int (iI (((n : Nat) : Int) + 1))), (3, .int (iI (m_cnt (fun b => m_has S b && g 2 b 0 == hh) n))), (0, .ref (a 0)), (1, .int (iI hh)), (2, .int (iI S))]) hx hb dX4_countOfHouse_40 hl (k := 0) rfl (by decide) rfl (fun ls hl => ?_)
        refine lv_goto (tgt := 5) hx hb dX4_countOfHouse_43 (by decide) ?_
        have hl : lv_has ls 5 [(4, .int (iI (((n : Nat) : Int) + 1))), (3, .int (iI (m_cnt (fun b => m_has S b && g 2 b 0 == hh) n))), (0, .ref (a 0)), (1, .int (iI hh)), (2, .int (iI S))] := lv_sub hl [0, 1, 2, 3, 4] rfl
        have e6 : (((n : Nat) : Int) + 1) = (((n + 1) : Nat) : Int) := by rfl
        have e7 : (m_cnt (fun b => m_has S b && g 2 b 0 == hh) n) = (m_cnt (fun b => m_has S b && g 2 b 0 == hh) (n + 1)) := by exact (cnt_f (q := (fun b => m_has S b && g 2 b 0 == hh)) (n := n) (by simp [h4, Int.not_le.mpr h4, h5])).symm
        have hl : lv_has ls 5 [(4, .int (iI (((n + 1) : Nat) : Int))), (3, .int (iI (m_cnt (fun b => m_has S b && g 2 b 0 == hh) (n + 1)))), (0, .ref (a 0)), (1, .int (iI hh)), (2, .int (iI S))] := lv_cast hl (by rw [e6, e7])
        exact ih5 (n + 1) H locs ls (by omega) hP hS hl
      · skip
        refine lv_aload_n hx hb dX4_countOfHouse_23 rfl (lv_at hl 2 rfl) ?_
        refine va_get (D := D) (ci := 4) (v := .ref (a 2)) (C := RX4) (T := TX4) (N := 19) hx hb hw hin_wsX40 hown hK hP 0 pw_0 rfl 1 (by decide) (hw _ kw_17) (fun _ h9 => h9) rfl dX4_countOfHouse_24 ?_
        refine lv_iload hx hb dX4_countOfHouse_27 (lv_at hl 0 rfl) ?_
        refine p_aldB hx hb hK hP (k := ((n : Nat) : Int)) (by omega) (by omega) dX4_countOfHouse_29 ?_
        have s8 := Wf.b0 hWf (k := ((n : Nat) : Int)) (by omega) (by omega)
        refine va_get (D := D) (ci := 0) (v := .int (iI (g 2 ((n : Nat) : Int) 0))) (C := RX0) (T := TX0) (N := 11) hx hb hw hin_wsX00 hown hK hP (12 + ((n : Nat) : Int).toNat) (pw_B (b := ((n : Nat) : Int)) (by omega) (by omega)) rfl 0 (by decide) (hw _ kw_210) (fun _ h9 => h9) rfl dX4_countOfHouse_30 ?_
        refine lv_iload_n hx hb dX4_countOfHouse_33 rfl (lv_at hl 3 rfl) ?_
        refine n_icmp_ne hx hb (by unfold RI; omega) (by unfold RI; omega) (tgt := 40) dX4_countOfHouse_34 (by decide) (fun h9 => ?_) (fun h9 => ?_)
        · skip
          refine n_inc (lv' := [(4, .int (iI (((n : Nat) : Int) + 1))), (3, .int (iI (m_cnt (fun b => m_has S b && g 2 b 0 == hh) n))), (0, .ref (a 0)), (1, .int (iI hh)), (2, .int (iI S))]) hx hb dX4_countOfHouse_40 hl (k := 0) rfl (by decide) rfl (fun ls hl => ?_)
          refine lv_goto (tgt := 5) hx hb dX4_countOfHouse_43 (by decide) ?_
          have hl : lv_has ls 5 [(4, .int (iI (((n : Nat) : Int) + 1))), (3, .int (iI (m_cnt (fun b => m_has S b && g 2 b 0 == hh) n))), (0, .ref (a 0)), (1, .int (iI hh)), (2, .int (iI S))] := lv_sub hl [0, 1, 2, 3, 4] rfl
          have e10 : (((n : Nat) : Int) + 1) = (((n + 1) : Nat) : Int) := by rfl
          have e11 : (m_cnt (fun b => m_has S b && g 2 b 0 == hh) n) = (m_cnt (fun b => m_has S b && g 2 b 0 == hh) (n + 1)) := by exact (cnt_f (q := (fun b => m_has S b && g 2 b 0 == hh)) (n := n) (by simp [h4, Int.not_le.mpr h4, h5, h9, beq_false_of_ne h9])).symm
          have hl : lv_has ls 5 [(4, .int (iI (((n + 1) : Nat) : Int))), (3, .int (iI (m_cnt (fun b => m_has S b && g 2 b 0 == hh) (n + 1)))), (0, .ref (a 0)), (1, .int (iI hh)), (2, .int (iI S))] := lv_cast hl (by rw [e10, e11])
          exact ih5 (n + 1) H locs ls (by omega) hP hS hl
        · skip
          refine n_inc (lv' := [(3, .int (iI ((m_cnt (fun b => m_has S b && g 2 b 0 == hh) n) + 1))), (4, .int (iI ((n : Nat) : Int))), (0, .ref (a 0)), (1, .int (iI hh)), (2, .int (iI S))]) hx hb dX4_countOfHouse_37 hl (k := 1) rfl (by decide) rfl (fun ls hl => ?_)
          refine n_inc (lv' := [(4, .int (iI (((n : Nat) : Int) + 1))), (3, .int (iI ((m_cnt (fun b => m_has S b && g 2 b 0 == hh) n) + 1))), (0, .ref (a 0)), (1, .int (iI hh)), (2, .int (iI S))]) hx hb dX4_countOfHouse_40 hl (k := 1) rfl (by decide) rfl (fun ls hl => ?_)
          refine lv_goto (tgt := 5) hx hb dX4_countOfHouse_43 (by decide) ?_
          have hl : lv_has ls 5 [(4, .int (iI (((n : Nat) : Int) + 1))), (3, .int (iI ((m_cnt (fun b => m_has S b && g 2 b 0 == hh) n) + 1))), (0, .ref (a 0)), (1, .int (iI hh)), (2, .int (iI S))] := lv_sub hl [0, 1, 2, 3, 4] rfl
          have e12 : (((n : Nat) : Int) + 1) = (((n + 1) : Nat) : Int) := by rfl
          have e13 : ((m_cnt (fun b => m_has S b && g 2 b 0 == hh) n) + 1) = (m_cnt (fun b => m_has S b && g 2 b 0 == hh) (n + 1)) := by exact (cnt_t (q := (fun b => m_has S b && g 2 b 0 == hh)) (n := n) (by simp [h4, Int.not_le.mpr h4, h5, h9])).symm
          have hl : lv_has ls 5 [(4, .int (iI (((n + 1) : Nat) : Int))), (3, .int (iI (m_cnt (fun b => m_has S b && g 2 b 0 == hh) (n + 1)))), (0, .ref (a 0)), (1, .int (iI hh)), (2, .int (iI S))] := lv_cast hl (by rw [e12, e13])
          exact ih5 (n + 1) H locs ls (by omega) hP hS hl
  have hl : lv_has ls 5 [(4, .int (iI 0)), (3, .int (iI 0)), (0, .ref (a 0)), (1, .int (iI hh)), (2, .int (iI S))] := lv_sub hl [0, 1, 2, 3, 4] rfl
  have hl : lv_has ls 5 [(4, .int (iI ((0 : Nat) : Int))), (3, .int (iI (m_cnt (fun b => m_has S b && g 2 b 0 == hh) 0))), (0, .ref (a 0)), (1, .int (iI hh)), (2, .int (iI S))] := hl
  exact loop5 ((g 0 0 4).toNat) 0 H locs ls (by omega) hP hS hl
set_option maxHeartbeats 4000000 in
set_option maxRecDepth 100000 in
theorem c_allBooks (l : Launch) (D : va_G) (a : Nat → Nat) (cH cB cJ cI : ClassId) (ha : pj a) (g : m_St) (vt : Nat → Int32) (sz : Nat) (hWf : Wf g) : Met l yX4_allBooks (wc yX4_allBooks cX4_allBooks 1 (some .int)) ({ frames := 1, cells := 0, slots := 0, locals := 20 }) (va_Pc [.ref (a 0)] (pS D a cH cB cJ cI sz g vt)) (va_Qi (fun (r : Int32) (_ : Unit) => r = iI (m_bt (g 0 0 4) - 1)) (fun _ _ => True) (fun q => sz ≤ q)) 0 0 (fun q => sz ≤ q) := by
  refine Met.ofW (cc := cX4_allBooks) (maxL := 1) (ret := (some .int)) (by decide +kernel) rfl ?_
  intro p e s m args below meth c s₁ B9 hml hv
  obtain ⟨rfl, hsz, hP, hK, hE⟩ := hv
  have hx := B9.exec
  have hb := B9.bytes
  have hr := B9.returns
  have hts := atoms_spec (ws := (wc yX4_allBooks cX4_allBooks 1 (some .int))) B9.pre
  have hw : ∀ w ∈ wsL_law0, w.before [.ref (a 0)].toArray s = true := fun w h => hts w (List.mem_cons_of_mem _ h)
  have hown : s.vm.findClass RX4 = some m.cls := findClass_of_methodNamed B9.named
  subst hsz
  have hS : va_S (fun q => s.heap.size ≤ q) s.heap s.heap [] := va_S.rf
  have hA : ∀ q : Nat, s.heap.size ≤ q → (fun q : Nat => s.heap.size ≤ q) q := fun _ h => h
  have hl := lv_entry ([.ref (a 0)]) (n := 1) (Nat.le_of_ble_eq_true rfl)
  rw [lg_entry_eq]
  generalize (lg_sl ([.ref (a 0)]) ++ List.replicate (1 - (lg_sl ([.ref (a 0)])).length) Slot.unset).toArray = ls at hl ⊢
  have hl : lv_has ls 1 [(0, .ref (a 0))] := hl
  suffices h9 : ∀ (H : Heap) (locs : List Loc), va_P D vwCl (pw a cH cB cJ cI g vt) H → va_S (fun q => s.heap.size ≤ q) s.heap H locs → W p l e (headSpec (wc yX4_allBooks cX4_allBooks 1 (some .int)) ({ frames := 1, cells := 0, slots := 0, locals := 20 })).room s m [.ref (a 0)].toArray below meth c H locs 0 0 (MQ below (va_Qi (fun (r : Int32) (_ : Unit) => r = iI (m_bt (g 0 0 4) - 1)) (fun _ _ => True) (fun q => s.heap.size ≤ q)) [.ref (a 0)].toArray s 0 0 (fun q => s.heap.size ≤ q)) (F0 m 0 ls []) from h9 s.heap [] hP hS
  clear hP hS
  intro H locs hP hS
  refine lv_aload_n hx hb dX4_allBooks_0 rfl (lv_at hl 0 rfl) ?_
  have s1 := Wf.m4 hWf
  refine va_get (D := D) (ci := 4) (v := .int (iI (g 0 0 4))) (C := RX4) (T := TX4) (N := 19) hx hb hw hin_wsX40 hown hK hP 0 pw_0 rfl 4 (by decide) (hw _ kw_98) (fun _ h9 => h9) rfl dX4_allBooks_1 ?_
  refine va_calli (va_runS (As := [.int (iI (g 0 0 4))]) (rest := []) ⟨hx, hb, hml, hown, hw⟩ (c_bit l D a cH cB cJ cI ha g vt H.size (g 0 0 4) (by omega)) (va_cwS 1 hw (gA_S kw_171 kw_172 kw_2 kw_173) rfl rfl rfl (by decide +kernel) ⟨Nat.le_of_ble_eq_true rfl, Nat.le_of_ble_eq_true rfl⟩) (pS_s hP hK hE) rfl rfl hl.1 rfl (lv_room (Nat.le_of_ble_eq_true rfl)) dX4_allBooks_4 ⟨Nat.le_of_ble_eq_true rfl, Nat.le_of_ble_eq_true rfl⟩) hS (fun q h1 h2 => ro_A h1 h2) (fun q h => ro_F hS hA q h) (fun r u t H1 locs ht hvm hw9 hB9 hz1 hk1 hS => ?_)
  have hw9 : r = (iI (m_bt (g 0 0 4))) := hw9
  subst hw9
  have hP := ro_P hP hk1
  generalize H1 = H at hP hS ⊢
  have s2 := bt_nn (g 0 0 4)
  have s3 := bt_lt (n := (g 0 0 4)) (by omega) (by omega)
  refine lv_iconst (v := iI 1) hx hb dX4_allBooks_7 (by decide) ?_
  refine n_sub hx hb dX4_allBooks_8 ?_
  exact W.iret (v := (iI ((m_bt (g 0 0 4)) - 1))) hx hb hr (fun t ht hW9 => ⟨⟨(iI ((m_bt (g 0 0 4)) - 1)), (), rfl, (congrArg iI (by rfl)), trivial⟩, hS.F ht⟩) hS.2.2 dX4_allBooks_9
set_option maxHeartbeats 4000000 in
set_option maxRecDepth 100000 in
theorem c_quotaOf (l : Launch) (D : va_G) (a : Nat → Nat) (cH cB cJ cI : ClassId) (ha : pj a) (g : m_St) (vt : Nat → Int32) (sz : Nat) (hh : Int) (hWf : Wf g) (rh : -2147483648 ≤ hh ∧ hh ≤ 2147483647) : Met l yX4_quotaOf (wc yX4_quotaOf cX4_quotaOf 2 (some .int)) ({ frames := 2, cells := 0, slots := 0, locals := 45 }) (va_Pc [.ref (a 0), .int (iI hh)] (pS D a cH cB cJ cI sz g vt)) (va_Qi (fun (r : Int32) (_ : Unit) => r = iI (m_quota g hh)) (fun _ _ => True) (fun q => sz ≤ q)) 0 0 (fun q => sz ≤ q) := by
  refine Met.ofW (cc := cX4_quotaOf) (maxL := 2) (ret := (some .int)) (by decide +kernel) rfl ?_
  intro p e s m args below meth c s₁ B9 hml hv
  obtain ⟨rfl, hsz, hP, hK, hE⟩ := hv
  have hx := B9.exec
  have hb := B9.bytes
  have hr := B9.returns
  have hts := atoms_spec (ws := (wc yX4_quotaOf cX4_quotaOf 2 (some .int))) B9.pre
  have hw : ∀ w ∈ wsL_law0, w.before [.ref (a 0), .int (iI hh)].toArray s = true := fun w h => hts w (List.mem_cons_of_mem _ h)
  have hown : s.vm.findClass RX4 = some m.cls := findClass_of_methodNamed B9.named
  subst hsz
  have hS : va_S (fun q => s.heap.size ≤ q) s.heap s.heap [] := va_S.rf
  have hA : ∀ q : Nat, s.heap.size ≤ q → (fun q : Nat => s.heap.size ≤ q) q := fun _ h => h
  have hl := lv_entry ([.ref (a 0), .int (iI hh)]) (n := 2) (Nat.le_of_ble_eq_true rfl)
  rw [lg_entry_eq]
  generalize (lg_sl ([.ref (a 0), .int (iI hh)]) ++ List.replicate (2 - (lg_sl ([.ref (a 0), .int (iI hh)])).length) Slot.unset).toArray = ls at hl ⊢
  have hl : lv_has ls 2 [(0, .ref (a 0)), (1, .int (iI hh))] := hl
  suffices h9 : ∀ (H : Heap) (locs : List Loc), va_P D vwCl (pw a cH cB cJ cI g vt) H → va_S (fun q => s.heap.size ≤ q) s.heap H locs → W p l e (headSpec (wc yX4_quotaOf cX4_quotaOf 2 (some .int)) ({ frames := 2, cells := 0, slots := 0, locals := 45 })).room s m [.ref (a 0), .int (iI hh)].toArray below meth c H locs 0 0 (MQ below (va_Qi (fun (r : Int32) (_ : Unit) => r = iI (m_quota g hh)) (fun _ _ => True) (fun q => s.heap.size ≤ q)) [.ref (a 0), .int (iI hh)].toArray s 0 0 (fun q => s.heap.size ≤ q)) (F0 m 0 ls []) from h9 s.heap [] hP hS
  clear hP hS
  intro H locs hP hS
  refine lv_iconst (v := iI 4) hx hb dX4_quotaOf_0 (by decide) ?_
  refine lv_iconst (v := iI 2) hx hb dX4_quotaOf_1 (by decide) ?_
  refine lv_aload_n hx hb dX4_quotaOf_2 rfl (lv_at hl 0 rfl) ?_
  refine lv_iload_n hx hb dX4_quotaOf_3 rfl (lv_at hl 1 rfl) ?_
  refine lv_aload_n hx hb dX4_quotaOf_4 rfl (lv_at hl 0 rfl) ?_
  have s1 := Wf.m12 hWf
  refine va_get (D := D) (ci := 4) (v := .int (iI (g 0 0 12))) (C := RX4) (T := TX4) (N := 19) hx hb hw hin_wsX40 hown hK hP 0 pw_0 rfl 12 (by decide) (hw _ kw_273) (fun _ h9 => h9) rfl dX4_quotaOf_5 ?_
  refine va_calli (va_runV (As := [.int (iI hh), .int (iI (g 0 0 12))]) (rest := [.int (iI 2), .int (iI 4)]) ⟨hx, hb, hml, hown, hw⟩ (c_countOfHouse l D a cH cB cJ cI ha g vt H.size hh (g 0 0 12) hWf (by omega) (by omega)) (cwV 2 hw (gA_V kw_277 kw_278 kw_279 kw_2 kw_280) rfl rfl rfl (by decide +kernel) ⟨Nat.le_of_ble_eq_true rfl, Nat.le_of_ble_eq_true rfl⟩) (pS_v (ci := 4) (q0 := 0) rfl pw_0 hP hK hE) rfl rfl hl.1 rfl (lv_room (Nat.le_of_ble_eq_true rfl)) dX4_quotaOf_8 ⟨Nat.le_of_ble_eq_true rfl, Nat.le_of_ble_eq_true rfl⟩) hS (fun q h1 h2 => ro_A h1 h2) (fun q h => ro_F hS hA q h) (fun r u t H1 locs ht hvm hw9 hB9 hz1 hk1 hS => ?_)
  have hw9 : r = (iI (m_coh g hh (g 0 0 12))) := hw9
  subst hw9
  have hP := ro_P hP hk1
  generalize H1 = H at hP hS ⊢
  have s2 := coh_16 hWf hh (g 0 0 12)
  refine n_add hx hb dX4_quotaOf_11 ?_
  refine va_mmin hx hb (hml.trans hl.1.symm) hown (hw _ kw_274) (hw _ kw_275) (hw _ kw_6) (hw _ kw_276) (Nat.le_of_ble_eq_true rfl) (Nat.le_of_ble_eq_true rfl) (Nat.le_of_ble_eq_true rfl) (Nat.le_of_ble_eq_true rfl) dX4_quotaOf_12 ?_
  rw [n_min (by unfold RI; omega) (by unfold RI; omega)]
  exact W.iret (v := (iI (min 4 (2 + (m_coh g hh (g 0 0 12)))))) hx hb hr (fun t ht hW9 => ⟨⟨(iI (min 4 (2 + (m_coh g hh (g 0 0 12))))), (), rfl, (congrArg iI (by rfl)), trivial⟩, hS.F ht⟩) hS.2.2 dX4_quotaOf_15
set_option maxHeartbeats 4000000 in
set_option maxRecDepth 100000 in
theorem c_isEntered (l : Launch) (D : va_G) (a : Nat → Nat) (cH cB cJ cI : ClassId) (ha : pj a) (g : m_St) (vt : Nat → Int32) (sz : Nat) (bb : Int) (hWf : Wf g) (hbb : 0 ≤ bb ∧ bb < 16) : Met l yX4_isEntered (wc yX4_isEntered cX4_isEntered 2 (some .boolean)) ({ frames := 0, cells := 0, slots := 0, locals := 0 }) (va_Pc [.ref (a 0), .int (iI bb)] (pS D a cH cB cJ cI sz g vt)) (va_Qi (fun (r : Int32) (_ : Unit) => r = bi (m_ent g bb)) (fun _ _ => True) (fun q => sz ≤ q)) 0 0 (fun q => sz ≤ q) := by
  refine Met.ofW (cc := cX4_isEntered) (maxL := 2) (ret := (some .boolean)) (by decide +kernel) rfl ?_
  intro p e s m args below meth c s₁ B9 hml hv
  obtain ⟨rfl, hsz, hP, hK, hE⟩ := hv
  have hx := B9.exec
  have hb := B9.bytes
  have hr := B9.returns
  have hts := atoms_spec (ws := (wc yX4_isEntered cX4_isEntered 2 (some .boolean))) B9.pre
  have hw : ∀ w ∈ wsL_law0, w.before [.ref (a 0), .int (iI bb)].toArray s = true := fun w h => hts w (List.mem_cons_of_mem _ h)
  have hown : s.vm.findClass RX4 = some m.cls := findClass_of_methodNamed B9.named
  subst hsz
  have hS : va_S (fun q => s.heap.size ≤ q) s.heap s.heap [] := va_S.rf
  have hA : ∀ q : Nat, s.heap.size ≤ q → (fun q : Nat => s.heap.size ≤ q) q := fun _ h => h
  have hl := lv_entry ([.ref (a 0), .int (iI bb)]) (n := 2) (Nat.le_of_ble_eq_true rfl)
  rw [lg_entry_eq]
  generalize (lg_sl ([.ref (a 0), .int (iI bb)]) ++ List.replicate (2 - (lg_sl ([.ref (a 0), .int (iI bb)])).length) Slot.unset).toArray = ls at hl ⊢
  have hl : lv_has ls 2 [(0, .ref (a 0)), (1, .int (iI bb))] := hl
  suffices h9 : ∀ (H : Heap) (locs : List Loc), va_P D vwCl (pw a cH cB cJ cI g vt) H → va_S (fun q => s.heap.size ≤ q) s.heap H locs → W p l e (headSpec (wc yX4_isEntered cX4_isEntered 2 (some .boolean)) ({ frames := 0, cells := 0, slots := 0, locals := 0 })).room s m [.ref (a 0), .int (iI bb)].toArray below meth c H locs 0 0 (MQ below (va_Qi (fun (r : Int32) (_ : Unit) => r = bi (m_ent g bb)) (fun _ _ => True) (fun q => s.heap.size ≤ q)) [.ref (a 0), .int (iI bb)].toArray s 0 0 (fun q => s.heap.size ≤ q)) (F0 m 0 ls []) from h9 s.heap [] hP hS
  clear hP hS
  intro H locs hP hS
  refine lv_aload_n hx hb dX4_isEntered_0 rfl (lv_at hl 0 rfl) ?_
  refine va_get (D := D) (ci := 4) (v := .ref (a 2)) (C := RX4) (T := TX4) (N := 19) hx hb hw hin_wsX40 hown hK hP 0 pw_0 rfl 1 (by decide) (hw _ kw_17) (fun _ h9 => h9) rfl dX4_isEntered_1 ?_
  refine lv_iload_n hx hb dX4_isEntered_4 rfl (lv_at hl 1 rfl) ?_
  refine p_aldB hx hb hK hP (k := bb) (by omega) (by omega) dX4_isEntered_5 ?_
  have s1 := Wf.b7 hWf (k := bb) (by omega) (by omega)
  refine va_get (D := D) (ci := 0) (v := .int (iI (g 2 bb 7))) (C := RX0) (T := TX0) (N := 11) hx hb hw hin_wsX00 hown hK hP (12 + bb.toNat) (pw_B (b := bb) (by omega) (by omega)) rfl 7 (by decide) (hw _ kw_111) (fun _ h9 => h9) rfl dX4_isEntered_6 ?_
  refine lv_aload_n hx hb dX4_isEntered_9 rfl (lv_at hl 0 rfl) ?_
  have s2 := Wf.m8 hWf
  refine va_get (D := D) (ci := 4) (v := .int (iI (g 0 0 8))) (C := RX4) (T := TX4) (N := 19) hx hb hw hin_wsX40 hown hK hP 0 pw_0 rfl 8 (by decide) (hw _ kw_96) (fun _ h9 => h9) rfl dX4_isEntered_10 ?_
  refine n_icmp_ne hx hb (by unfold RI; omega) (by unfold RI; omega) (tgt := 20) dX4_isEntered_13 (by decide) (fun h3 => ?_) (fun h3 => ?_)
  · skip
    refine lv_iconst (v := iI 0) hx hb dX4_isEntered_20 (by decide) ?_
    exact W.zret (v := (iI 0)) (ty := .boolean) hx hb hr (by decide +kernel) (fun t ht hW9 => ⟨⟨(iI 0), (), rfl, (show iI 0 = bi (m_ent g bb) from by rw [show (m_ent g bb) = false from by simp [m_ent, h3, beq_false_of_ne h3]]; rfl), trivial⟩, hS.F ht⟩) hS.2.2 dX4_isEntered_21
  · skip
    refine lv_iconst (v := iI 1) hx hb dX4_isEntered_16 (by decide) ?_
    refine lv_goto (tgt := 21) hx hb dX4_isEntered_17 (by decide) ?_
    exact W.zret (v := (iI 1)) (ty := .boolean) hx hb hr (by decide +kernel) (fun t ht hW9 => ⟨⟨(iI 1), (), rfl, (show iI 1 = bi (m_ent g bb) from by rw [show (m_ent g bb) = true from by simp [m_ent, h3]]; rfl), trivial⟩, hS.F ht⟩) hS.2.2 dX4_isEntered_21
set_option maxHeartbeats 4000000 in
set_option maxRecDepth 100000 in
theorem c_admit (l : Launch) (D : va_G) (a : Nat → Nat) (cH cB cJ cI : ClassId) (ha : pj a) (g : m_St) (vt : Nat → Int32) (sz : Nat) (ff : Int) (pg : Int) (hWf : Wf g) (hff : 0 ≤ ff ∧ ff ≤ 2) (rpg : -2147483648 ≤ pg ∧ pg ≤ 2147483647) : Met l yX3_admit (wc yX3_admit cX3_admit 3 (some .boolean)) ({ frames := 1, cells := 0, slots := 0, locals := 22 }) (va_Pc [.ref (a 4), .int (iI ff), .int (iI pg)] (pS D a cH cB cJ cI sz g vt)) (va_Qi (fun (r : Int32) (_ : Unit) => r = bi (m_adm g ff pg)) (fun _ _ => True) (fun q => sz ≤ q)) 0 0 (fun q => sz ≤ q) := by
  refine Met.ofW (cc := cX3_admit) (maxL := 3) (ret := (some .boolean)) (by decide +kernel) rfl ?_
  intro p e s m args below meth c s₁ B9 hml hv
  obtain ⟨rfl, hsz, hP, hK, hE⟩ := hv
  have hx := B9.exec
  have hb := B9.bytes
  have hr := B9.returns
  have hts := atoms_spec (ws := (wc yX3_admit cX3_admit 3 (some .boolean))) B9.pre
  have hw : ∀ w ∈ wsL_law0, w.before [.ref (a 4), .int (iI ff), .int (iI pg)].toArray s = true := fun w h => hts w (List.mem_cons_of_mem _ h)
  have hown : s.vm.findClass RX3 = some m.cls := findClass_of_methodNamed B9.named
  subst hsz
  have hS : va_S (fun q => s.heap.size ≤ q) s.heap s.heap [] := va_S.rf
  have hA : ∀ q : Nat, s.heap.size ≤ q → (fun q : Nat => s.heap.size ≤ q) q := fun _ h => h
  have hl := lv_entry ([.ref (a 4), .int (iI ff), .int (iI pg)]) (n := 3) (Nat.le_of_ble_eq_true rfl)
  rw [lg_entry_eq]
  generalize (lg_sl ([.ref (a 4), .int (iI ff), .int (iI pg)]) ++ List.replicate (3 - (lg_sl ([.ref (a 4), .int (iI ff), .int (iI pg)])).length) Slot.unset).toArray = ls at hl ⊢
  have hl : lv_has ls 3 [(0, .ref (a 4)), (1, .int (iI ff)), (2, .int (iI pg))] := hl
  suffices h9 : ∀ (H : Heap) (locs : List Loc), va_P D vwCl (pw a cH cB cJ cI g vt) H → va_S (fun q => s.heap.size ≤ q) s.heap H locs → W p l e (headSpec (wc yX3_admit cX3_admit 3 (some .boolean)) ({ frames := 1, cells := 0, slots := 0, locals := 22 })).room s m [.ref (a 4), .int (iI ff), .int (iI pg)].toArray below meth c H locs 0 0 (MQ below (va_Qi (fun (r : Int32) (_ : Unit) => r = bi (m_adm g ff pg)) (fun _ _ => True) (fun q => s.heap.size ≤ q)) [.ref (a 4), .int (iI ff), .int (iI pg)].toArray s 0 0 (fun q => s.heap.size ≤ q)) (F0 m 0 ls []) from h9 s.heap [] hP hS
  clear hP hS
  intro H locs hP hS
  refine lv_aload_n hx hb dX3_admit_0 rfl (lv_at hl 0 rfl) ?_
  have s1 := Wf.u0 hWf (k := 0) (by omega) (by omega)
  refine va_get (D := D) (ci := 3) (v := .int (iI (g 9 0 0))) (C := RX3) (T := TX3) (N := 4) hx hb hw hin_wsX30 hown hK hP 4 pw_4 rfl 0 (by decide) (hw _ kw_38) (fun _ h9 => h9) rfl dX3_admit_1 ?_
  refine lv_iload_n hx hb dX3_admit_4 rfl (lv_at hl 1 rfl) ?_
  refine va_calli (va_runSN (As := [.int (iI (g 9 0 0)), .int (iI ff)]) (rest := []) ⟨hx, hb, hml, hown, hw⟩ (c_has l D a cH cB cJ cI ha g vt H.size (g 9 0 0) ff (by omega) (by omega)) ⟨va_cnB 2 hw (gA_c kw_224) rfl rfl rfl hE.2.2.2.2.1 (hw _ kw_2) (by decide +kernel) ⟨Nat.le_of_ble_eq_true rfl, Nat.le_of_ble_eq_true rfl⟩, (hw _ kw_223), trivial⟩ (pS_s hP hK hE) rfl rfl hl.1 rfl (lv_room (Nat.le_of_ble_eq_true rfl)) dX3_admit_5 ⟨Nat.le_of_ble_eq_true rfl, Nat.le_of_ble_eq_true rfl⟩) hS (fun q h1 h2 => ro_A h1 h2) (fun q h => ro_F hS hA q h) (fun r u t H1 locs ht hvm hw9 hB9 hz1 hk1 hS => ?_)
  have hw9 : r = (bi (m_has (g 9 0 0) ff)) := hw9
  subst hw9
  have hP := ro_P hP hk1
  generalize H1 = H at hP hS ⊢
  refine n_b_eq hx hb (tgt := 30) dX3_admit_8 (by decide) (fun h2 => ?_) (fun h2 => ?_)
  · skip
    refine lv_iconst (v := iI 0) hx hb dX3_admit_30 (by decide) ?_
    exact W.zret (v := (iI 0)) (ty := .boolean) hx hb hr (by decide +kernel) (fun t ht hW9 => ⟨⟨(iI 0), (), rfl, (show iI 0 = bi (m_adm g ff pg) from by rw [show (m_adm g ff pg) = false from by simp only [m_adm]; simp [h2]; try omega]; rfl), trivial⟩, hS.F ht⟩) hS.2.2 dX3_admit_31
  · skip
    refine lv_iload_n hx hb dX3_admit_11 rfl (lv_at hl 2 rfl) ?_
    refine lv_aload_n hx hb dX3_admit_12 rfl (lv_at hl 0 rfl) ?_
    have s3 := Wf.u1 hWf (k := 0) (by omega) (by omega)
    refine va_get (D := D) (ci := 3) (v := .int (iI (g 9 0 1))) (C := RX3) (T := TX3) (N := 4) hx hb hw hin_wsX30 hown hK hP 4 pw_4 rfl 1 (by decide) (hw _ kw_39) (fun _ h9 => h9) rfl dX3_admit_13 ?_
    refine lv_aload_n hx hb dX3_admit_16 rfl (lv_at hl 0 rfl) ?_
    have s4 := Wf.u2 hWf (k := 0) (by omega) (by omega)
    refine va_get (D := D) (ci := 3) (v := .int (iI (g 9 0 2))) (C := RX3) (T := TX3) (N := 4) hx hb hw hin_wsX30 hown hK hP 4 pw_4 rfl 2 (by decide) (hw _ kw_40) (fun _ h9 => h9) rfl dX3_admit_17 ?_
    refine va_calli (va_runSN (As := [.int (iI pg), .int (iI (g 9 0 1)), .int (iI (g 9 0 2))]) (rest := []) ⟨hx, hb, hml, hown, hw⟩ (c_isWithin l D a cH cB cJ cI ha g vt H.size pg (g 9 0 1) (g 9 0 2) (by omega) (by omega) (by omega)) ⟨va_cnB 3 hw (gA_c kw_84) rfl rfl rfl hE.2.2.2.2.2 (hw _ kw_2) (by decide +kernel) ⟨Nat.le_of_ble_eq_true rfl, Nat.le_of_ble_eq_true rfl⟩, (hw _ kw_83), trivial⟩ (pS_s hP hK hE) rfl rfl hl.1 rfl (lv_room (Nat.le_of_ble_eq_true rfl)) dX3_admit_20 ⟨Nat.le_of_ble_eq_true rfl, Nat.le_of_ble_eq_true rfl⟩) hS (fun q h1 h2 => ro_A h1 h2) (fun q h => ro_F hS hA q h) (fun r u t H1 locs ht hvm hw9 hB9 hz1 hk1 hS => ?_)
    have hw9 : r = (bi (decide ((g 9 0 1) ≤ pg ∧ pg ≤ (g 9 0 2)))) := hw9
    subst hw9
    have hP := ro_P hP hk1
    generalize H1 = H at hP hS ⊢
    refine n_b_eq hx hb (tgt := 30) dX3_admit_23 (by decide) (fun h5 => ?_) (fun h5 => ?_)
    · skip
      have h5 := of_decide_eq_false h5
      refine lv_iconst (v := iI 0) hx hb dX3_admit_30 (by decide) ?_
      exact W.zret (v := (iI 0)) (ty := .boolean) hx hb hr (by decide +kernel) (fun t ht hW9 => ⟨⟨(iI 0), (), rfl, (show iI 0 = bi (m_adm g ff pg) from by rw [show (m_adm g ff pg) = false from by simp only [m_adm]; simp [h2, h5]; try omega]; rfl), trivial⟩, hS.F ht⟩) hS.2.2 dX3_admit_31
    · skip
      have h5 := of_decide_eq_true h5
      refine lv_iconst (v := iI 1) hx hb dX3_admit_26 (by decide) ?_
      refine lv_goto (tgt := 31) hx hb dX3_admit_27 (by decide) ?_
      exact W.zret (v := (iI 1)) (ty := .boolean) hx hb hr (by decide +kernel) (fun t ht hW9 => ⟨⟨(iI 1), (), rfl, (show iI 1 = bi (m_adm g ff pg) from by rw [show (m_adm g ff pg) = true from by simp only [m_adm]; simp [h2, h5]; try omega]; rfl), trivial⟩, hS.F ht⟩) hS.2.2 dX3_admit_31
set_option maxHeartbeats 4000000 in
set_option maxRecDepth 100000 in
theorem c_isEligible (l : Launch) (D : va_G) (a : Nat → Nat) (cH cB cJ cI : ClassId) (ha : pj a) (g : m_St) (vt : Nat → Int32) (sz : Nat) (bb : Int) (hWf : Wf g) (hbb : 0 ≤ bb ∧ bb < 16) : Met l yX4_isEligible (wc yX4_isEligible cX4_isEligible 4 (some .boolean)) ({ frames := 2, cells := 0, slots := 0, locals := 44 }) (va_Pc [.ref (a 0), .int (iI bb)] (pS D a cH cB cJ cI sz g vt)) (va_Qi (fun (r : Int32) (_ : Unit) => r = bi (m_elig g bb)) (fun _ _ => True) (fun q => sz ≤ q)) 0 0 (fun q => sz ≤ q) := by
  refine Met.ofW (cc := cX4_isEligible) (maxL := 4) (ret := (some .boolean)) (by decide +kernel) rfl ?_
  intro p e s m args below meth c s₁ B9 hml hv
  obtain ⟨rfl, hsz, hP, hK, hE⟩ := hv
  have hx := B9.exec
  have hb := B9.bytes
  have hr := B9.returns
  have hts := atoms_spec (ws := (wc yX4_isEligible cX4_isEligible 4 (some .boolean))) B9.pre
  have hw : ∀ w ∈ wsL_law0, w.before [.ref (a 0), .int (iI bb)].toArray s = true := fun w h => hts w (List.mem_cons_of_mem _ h)
  have hown : s.vm.findClass RX4 = some m.cls := findClass_of_methodNamed B9.named
  subst hsz
  have hS : va_S (fun q => s.heap.size ≤ q) s.heap s.heap [] := va_S.rf
  have hA : ∀ q : Nat, s.heap.size ≤ q → (fun q : Nat => s.heap.size ≤ q) q := fun _ h => h
  have hl := lv_entry ([.ref (a 0), .int (iI bb)]) (n := 4) (Nat.le_of_ble_eq_true rfl)
  rw [lg_entry_eq]
  generalize (lg_sl ([.ref (a 0), .int (iI bb)]) ++ List.replicate (4 - (lg_sl ([.ref (a 0), .int (iI bb)])).length) Slot.unset).toArray = ls at hl ⊢
  have hl : lv_has ls 4 [(0, .ref (a 0)), (1, .int (iI bb))] := hl
  suffices h9 : ∀ (H : Heap) (locs : List Loc), va_P D vwCl (pw a cH cB cJ cI g vt) H → va_S (fun q => s.heap.size ≤ q) s.heap H locs → W p l e (headSpec (wc yX4_isEligible cX4_isEligible 4 (some .boolean)) ({ frames := 2, cells := 0, slots := 0, locals := 44 })).room s m [.ref (a 0), .int (iI bb)].toArray below meth c H locs 0 0 (MQ below (va_Qi (fun (r : Int32) (_ : Unit) => r = bi (m_elig g bb)) (fun _ _ => True) (fun q => s.heap.size ≤ q)) [.ref (a 0), .int (iI bb)].toArray s 0 0 (fun q => s.heap.size ≤ q)) (F0 m 0 ls []) from h9 s.heap [] hP hS
  clear hP hS
  intro H locs hP hS
  refine lv_aload_n hx hb dX4_isEligible_0 rfl (lv_at hl 0 rfl) ?_
  refine va_get (D := D) (ci := 4) (v := .ref (a 2)) (C := RX4) (T := TX4) (N := 19) hx hb hw hin_wsX40 hown hK hP 0 pw_0 rfl 1 (by decide) (hw _ kw_17) (fun _ h9 => h9) rfl dX4_isEligible_1 ?_
  refine lv_iload_n hx hb dX4_isEligible_4 rfl (lv_at hl 1 rfl) ?_
  refine p_aldB hx hb hK hP (k := bb) (by omega) (by omega) dX4_isEligible_5 ?_
  refine lv_astore_n (lv' := [(2, .ref (a (12 + bb.toNat))), (0, .ref (a 0)), (1, .int (iI bb))]) hx hb dX4_isEligible_6 rfl hl (by decide) rfl (fun ls hl => ?_)
  refine lv_aload_n hx hb dX4_isEligible_7 rfl (lv_at hl 0 rfl) ?_
  have s1 := Wf.b7 hWf (k := bb) (by omega) (by omega)
  refine va_get (D := D) (ci := 0) (v := .int (iI (g 2 bb 7))) (C := RX0) (T := TX0) (N := 11) hx hb hw hin_wsX00 hown hK hP (12 + bb.toNat) (pw_B (b := bb) (by omega) (by omega)) rfl 7 (by decide) (hw _ kw_111) (fun _ h9 => h9) rfl dX4_isEligible_8 ?_
  refine lv_iconst (v := iI (-1)) hx hb dX4_isEligible_11 (by decide) ?_
  refine n_icmp_eq hx hb (by unfold RI; omega) (by unfold RI; omega) (tgt := 26) dX4_isEligible_12 (by decide) (fun h2 => ?_) (fun h2 => ?_)
  · skip
    refine lv_iconst (v := iI 1) hx hb dX4_isEligible_26 (by decide) ?_
    refine lv_goto (tgt := 31) hx hb dX4_isEligible_27 (by decide) ?_
    refine lv_istore_n (lv' := [(3, .int (iI 1)), (2, .ref (a (12 + bb.toNat))), (0, .ref (a 0)), (1, .int (iI bb))]) hx hb dX4_isEligible_31 rfl hl (by decide) rfl (fun ls hl => ?_)
    refine lv_iload_n hx hb dX4_isEligible_32 rfl (lv_at hl 0 rfl) ?_
    refine n_if_eq hx hb (by unfold RI; omega) (tgt := 71) dX4_isEligible_33 (by decide) (fun h3 => absurd h3 (by intro h3; omega)) (fun h3 => ?_)
    refine lv_aload_n hx hb dX4_isEligible_36 rfl (lv_at hl 2 rfl) ?_
    have s4 := Wf.m8 hWf
    refine va_get (D := D) (ci := 4) (v := .int (iI (g 0 0 8))) (C := RX4) (T := TX4) (N := 19) hx hb hw hin_wsX40 hown hK hP 0 pw_0 rfl 8 (by decide) (hw _ kw_96) (fun _ h9 => h9) rfl dX4_isEligible_37 ?_
    refine lv_aload_n hx hb dX4_isEligible_40 rfl (lv_at hl 1 rfl) ?_
    have s5 := Wf.b6 hWf (k := bb) (by omega) (by omega)
    refine va_get (D := D) (ci := 0) (v := .int (iI (g 2 bb 6))) (C := RX0) (T := TX0) (N := 11) hx hb hw hin_wsX00 hown hK hP (12 + bb.toNat) (pw_B (b := bb) (by omega) (by omega)) rfl 6 (by decide) (hw _ kw_135) (fun _ h9 => h9) rfl dX4_isEligible_41 ?_
    refine n_sub hx hb dX4_isEligible_44 ?_
    refine lv_iconst (v := iI 1) hx hb dX4_isEligible_45 (by decide) ?_
    refine n_icmp_gt hx hb (by unfold RI; omega) (by unfold RI; omega) (tgt := 71) dX4_isEligible_46 (by decide) (fun h6 => ?_) (fun h6 => ?_)
    · skip
      refine lv_iconst (v := iI 0) hx hb dX4_isEligible_71 (by decide) ?_
      exact W.zret (v := (iI 0)) (ty := .boolean) hx hb hr (by decide +kernel) (fun t ht hW9 => ⟨⟨(iI 0), (), rfl, (show iI 0 = bi (m_elig g bb) from by rw [show (m_elig g bb) = false from by simp only [m_elig]; simp [h2, h3, beq_false_of_ne h3, h6, Int.not_le.mpr h6]; try omega]; rfl), trivial⟩, hS.F ht⟩) hS.2.2 dX4_isEligible_72
    · skip
      refine lv_aload_n hx hb dX4_isEligible_49 rfl (lv_at hl 2 rfl) ?_
      refine va_get (D := D) (ci := 4) (v := .ref (a 4)) (C := RX4) (T := TX4) (N := 19) hx hb hw hin_wsX40 hown hK hP 0 pw_0 rfl 6 (by decide) (hw _ kw_23) (fun _ h9 => h9) rfl dX4_isEligible_50 ?_
      refine lv_aload_n hx hb dX4_isEligible_53 rfl (lv_at hl 1 rfl) ?_
      have s7 := Wf.b2 hWf (k := bb) (by omega) (by omega)
      refine va_get (D := D) (ci := 0) (v := .int (iI (g 2 bb 2))) (C := RX0) (T := TX0) (N := 11) hx hb hw hin_wsX00 hown hK hP (12 + bb.toNat) (pw_B (b := bb) (by omega) (by omega)) rfl 2 (by decide) (hw _ kw_217) (fun _ h9 => h9) rfl dX4_isEligible_54 ?_
      refine lv_aload_n hx hb dX4_isEligible_57 rfl (lv_at hl 1 rfl) ?_
      have s8 := Wf.b3 hWf (k := bb) (by omega) (by omega)
      refine va_get (D := D) (ci := 0) (v := .int (iI (g 2 bb 3))) (C := RX0) (T := TX0) (N := 11) hx hb hw hin_wsX00 hown hK hP (12 + bb.toNat) (pw_B (b := bb) (by omega) (by omega)) rfl 3 (by decide) (hw _ kw_218) (fun _ h9 => h9) rfl dX4_isEligible_58 ?_
      refine va_calli (va_runV (As := [.int (iI (g 2 bb 2)), .int (iI (g 2 bb 3))]) (rest := []) ⟨hx, hb, hml, hown, hw⟩ (c_admit l D a cH cB cJ cI ha g vt H.size (g 2 bb 2) (g 2 bb 3) hWf (by omega) (by omega)) (cwV 2 hw (gA_V kw_219 kw_220 kw_221 kw_22 kw_222) rfl rfl rfl (by decide +kernel) ⟨Nat.le_of_ble_eq_true rfl, Nat.le_of_ble_eq_true rfl⟩) (pS_v (ci := 3) (q0 := 4) rfl pw_4 hP hK hE) rfl rfl hl.1 rfl (lv_room (Nat.le_of_ble_eq_true rfl)) dX4_isEligible_61 ⟨Nat.le_of_ble_eq_true rfl, Nat.le_of_ble_eq_true rfl⟩) hS (fun q h1 h2 => ro_A h1 h2) (fun q h => ro_F hS hA q h) (fun r u t H1 locs ht hvm hw9 hB9 hz1 hk1 hS => ?_)
      have hw9 : r = (bi (m_adm g (g 2 bb 2) (g 2 bb 3))) := hw9
      subst hw9
      have hP := ro_P hP hk1
      generalize H1 = H at hP hS ⊢
      refine n_b_eq hx hb (tgt := 71) dX4_isEligible_64 (by decide) (fun h9 => ?_) (fun h9 => ?_)
      · skip
        refine lv_iconst (v := iI 0) hx hb dX4_isEligible_71 (by decide) ?_
        exact W.zret (v := (iI 0)) (ty := .boolean) hx hb hr (by decide +kernel) (fun t ht hW9 => ⟨⟨(iI 0), (), rfl, (show iI 0 = bi (m_elig g bb) from by rw [show (m_elig g bb) = false from by simp only [m_elig]; simp [h2, h3, beq_false_of_ne h3, h6, Int.not_lt.mpr h6, h9]; try omega]; rfl), trivial⟩, hS.F ht⟩) hS.2.2 dX4_isEligible_72
      · skip
        refine lv_iconst (v := iI 1) hx hb dX4_isEligible_67 (by decide) ?_
        refine lv_goto (tgt := 72) hx hb dX4_isEligible_68 (by decide) ?_
        exact W.zret (v := (iI 1)) (ty := .boolean) hx hb hr (by decide +kernel) (fun t ht hW9 => ⟨⟨(iI 1), (), rfl, (show iI 1 = bi (m_elig g bb) from by rw [show (m_elig g bb) = true from by simp only [m_elig]; simp [h2, h3, beq_false_of_ne h3, h6, Int.not_lt.mpr h6, h9]; try omega]; rfl), trivial⟩, hS.F ht⟩) hS.2.2 dX4_isEligible_72
  · skip
    refine lv_aload_n hx hb dX4_isEligible_15 rfl (lv_at hl 0 rfl) ?_
    refine va_get (D := D) (ci := 0) (v := .int (iI (g 2 bb 7))) (C := RX0) (T := TX0) (N := 11) hx hb hw hin_wsX00 hown hK hP (12 + bb.toNat) (pw_B (b := bb) (by omega) (by omega)) rfl 7 (by decide) (hw _ kw_111) (fun _ h9 => h9) rfl dX4_isEligible_16 ?_
    refine lv_aload_n hx hb dX4_isEligible_19 rfl (lv_at hl 1 rfl) ?_
    have s10 := Wf.m8 hWf
    refine va_get (D := D) (ci := 4) (v := .int (iI (g 0 0 8))) (C := RX4) (T := TX4) (N := 19) hx hb hw hin_wsX40 hown hK hP 0 pw_0 rfl 8 (by decide) (hw _ kw_96) (fun _ h9 => h9) rfl dX4_isEligible_20 ?_
    refine n_icmp_ne hx hb (by unfold RI; omega) (by unfold RI; omega) (tgt := 30) dX4_isEligible_23 (by decide) (fun h11 => ?_) (fun h11 => ?_)
    · skip
      refine lv_iconst (v := iI 0) hx hb dX4_isEligible_30 (by decide) ?_
      refine lv_istore_n (lv' := [(3, .int (iI 0)), (2, .ref (a (12 + bb.toNat))), (0, .ref (a 0)), (1, .int (iI bb))]) hx hb dX4_isEligible_31 rfl hl (by decide) rfl (fun ls hl => ?_)
      refine lv_iload_n hx hb dX4_isEligible_32 rfl (lv_at hl 0 rfl) ?_
      refine n_if_eq hx hb (by unfold RI; omega) (tgt := 71) dX4_isEligible_33 (by decide) (fun h12 => ?_) (fun h12 => absurd h12 (by intro h12; omega))
      refine lv_iconst (v := iI 0) hx hb dX4_isEligible_71 (by decide) ?_
      exact W.zret (v := (iI 0)) (ty := .boolean) hx hb hr (by decide +kernel) (fun t ht hW9 => ⟨⟨(iI 0), (), rfl, (show iI 0 = bi (m_elig g bb) from by rw [show (m_elig g bb) = false from by simp only [m_elig]; simp [h2, beq_false_of_ne h2, h11, beq_false_of_ne h11, h12]; try omega]; rfl), trivial⟩, hS.F ht⟩) hS.2.2 dX4_isEligible_72
    · skip
      refine lv_iconst (v := iI 1) hx hb dX4_isEligible_26 (by decide) ?_
      refine lv_goto (tgt := 31) hx hb dX4_isEligible_27 (by decide) ?_
      refine lv_istore_n (lv' := [(3, .int (iI 1)), (2, .ref (a (12 + bb.toNat))), (0, .ref (a 0)), (1, .int (iI bb))]) hx hb dX4_isEligible_31 rfl hl (by decide) rfl (fun ls hl => ?_)
      refine lv_iload_n hx hb dX4_isEligible_32 rfl (lv_at hl 0 rfl) ?_
      refine n_if_eq hx hb (by unfold RI; omega) (tgt := 71) dX4_isEligible_33 (by decide) (fun h13 => absurd h13 (by intro h13; omega)) (fun h13 => ?_)
      refine lv_aload_n hx hb dX4_isEligible_36 rfl (lv_at hl 2 rfl) ?_
      refine va_get (D := D) (ci := 4) (v := .int (iI (g 0 0 8))) (C := RX4) (T := TX4) (N := 19) hx hb hw hin_wsX40 hown hK hP 0 pw_0 rfl 8 (by decide) (hw _ kw_96) (fun _ h9 => h9) rfl dX4_isEligible_37 ?_
      refine lv_aload_n hx hb dX4_isEligible_40 rfl (lv_at hl 1 rfl) ?_
      have s14 := Wf.b6 hWf (k := bb) (by omega) (by omega)
      refine va_get (D := D) (ci := 0) (v := .int (iI (g 2 bb 6))) (C := RX0) (T := TX0) (N := 11) hx hb hw hin_wsX00 hown hK hP (12 + bb.toNat) (pw_B (b := bb) (by omega) (by omega)) rfl 6 (by decide) (hw _ kw_135) (fun _ h9 => h9) rfl dX4_isEligible_41 ?_
      refine n_sub hx hb dX4_isEligible_44 ?_
      refine lv_iconst (v := iI 1) hx hb dX4_isEligible_45 (by decide) ?_
      refine n_icmp_gt hx hb (by unfold RI; omega) (by unfold RI; omega) (tgt := 71) dX4_isEligible_46 (by decide) (fun h15 => ?_) (fun h15 => ?_)
      · skip
        refine lv_iconst (v := iI 0) hx hb dX4_isEligible_71 (by decide) ?_
        exact W.zret (v := (iI 0)) (ty := .boolean) hx hb hr (by decide +kernel) (fun t ht hW9 => ⟨⟨(iI 0), (), rfl, (show iI 0 = bi (m_elig g bb) from by rw [show (m_elig g bb) = false from by simp only [m_elig]; simp [h2, beq_false_of_ne h2, h11, h13, beq_false_of_ne h13, h15, Int.not_le.mpr h15]; try omega]; rfl), trivial⟩, hS.F ht⟩) hS.2.2 dX4_isEligible_72
      · skip
        refine lv_aload_n hx hb dX4_isEligible_49 rfl (lv_at hl 2 rfl) ?_
        refine va_get (D := D) (ci := 4) (v := .ref (a 4)) (C := RX4) (T := TX4) (N := 19) hx hb hw hin_wsX40 hown hK hP 0 pw_0 rfl 6 (by decide) (hw _ kw_23) (fun _ h9 => h9) rfl dX4_isEligible_50 ?_
        refine lv_aload_n hx hb dX4_isEligible_53 rfl (lv_at hl 1 rfl) ?_
        have s16 := Wf.b2 hWf (k := bb) (by omega) (by omega)
        refine va_get (D := D) (ci := 0) (v := .int (iI (g 2 bb 2))) (C := RX0) (T := TX0) (N := 11) hx hb hw hin_wsX00 hown hK hP (12 + bb.toNat) (pw_B (b := bb) (by omega) (by omega)) rfl 2 (by decide) (hw _ kw_217) (fun _ h9 => h9) rfl dX4_isEligible_54 ?_
        refine lv_aload_n hx hb dX4_isEligible_57 rfl (lv_at hl 1 rfl) ?_
        have s17 := Wf.b3 hWf (k := bb) (by omega) (by omega)
        refine va_get (D := D) (ci := 0) (v := .int (iI (g 2 bb 3))) (C := RX0) (T := TX0) (N := 11) hx hb hw hin_wsX00 hown hK hP (12 + bb.toNat) (pw_B (b := bb) (by omega) (by omega)) rfl 3 (by decide) (hw _ kw_218) (fun _ h9 => h9) rfl dX4_isEligible_58 ?_
        refine va_calli (va_runV (As := [.int (iI (g 2 bb 2)), .int (iI (g 2 bb 3))]) (rest := []) ⟨hx, hb, hml, hown, hw⟩ (c_admit l D a cH cB cJ cI ha g vt H.size (g 2 bb 2) (g 2 bb 3) hWf (by omega) (by omega)) (cwV 2 hw (gA_V kw_219 kw_220 kw_221 kw_22 kw_222) rfl rfl rfl (by decide +kernel) ⟨Nat.le_of_ble_eq_true rfl, Nat.le_of_ble_eq_true rfl⟩) (pS_v (ci := 3) (q0 := 4) rfl pw_4 hP hK hE) rfl rfl hl.1 rfl (lv_room (Nat.le_of_ble_eq_true rfl)) dX4_isEligible_61 ⟨Nat.le_of_ble_eq_true rfl, Nat.le_of_ble_eq_true rfl⟩) hS (fun q h1 h2 => ro_A h1 h2) (fun q h => ro_F hS hA q h) (fun r u t H1 locs ht hvm hw9 hB9 hz1 hk1 hS => ?_)
        have hw9 : r = (bi (m_adm g (g 2 bb 2) (g 2 bb 3))) := hw9
        subst hw9
        have hP := ro_P hP hk1
        generalize H1 = H at hP hS ⊢
        refine n_b_eq hx hb (tgt := 71) dX4_isEligible_64 (by decide) (fun h18 => ?_) (fun h18 => ?_)
        · skip
          refine lv_iconst (v := iI 0) hx hb dX4_isEligible_71 (by decide) ?_
          exact W.zret (v := (iI 0)) (ty := .boolean) hx hb hr (by decide +kernel) (fun t ht hW9 => ⟨⟨(iI 0), (), rfl, (show iI 0 = bi (m_elig g bb) from by rw [show (m_elig g bb) = false from by simp only [m_elig]; simp [h2, beq_false_of_ne h2, h11, h13, beq_false_of_ne h13, h15, Int.not_lt.mpr h15, h18]; try omega]; rfl), trivial⟩, hS.F ht⟩) hS.2.2 dX4_isEligible_72
        · skip
          refine lv_iconst (v := iI 1) hx hb dX4_isEligible_67 (by decide) ?_
          refine lv_goto (tgt := 72) hx hb dX4_isEligible_68 (by decide) ?_
          exact W.zret (v := (iI 1)) (ty := .boolean) hx hb hr (by decide +kernel) (fun t ht hW9 => ⟨⟨(iI 1), (), rfl, (show iI 1 = bi (m_elig g bb) from by rw [show (m_elig g bb) = true from by simp only [m_elig]; simp [h2, beq_false_of_ne h2, h11, h13, beq_false_of_ne h13, h15, Int.not_lt.mpr h15, h18]; try omega]; rfl), trivial⟩, hS.F ht⟩) hS.2.2 dX4_isEligible_72
set_option maxHeartbeats 4000000 in
set_option maxRecDepth 100000 in
theorem c_enteredCount (l : Launch) (D : va_G) (a : Nat → Nat) (cH cB cJ cI : ClassId) (ha : pj a) (g : m_St) (vt : Nat → Int32) (sz : Nat) (hWf : Wf g) : Met l yX4_enteredCount (wc yX4_enteredCount cX4_enteredCount 3 (some .int)) ({ frames := 1, cells := 0, slots := 0, locals := 21 }) (va_Pc [.ref (a 0)] (pS D a cH cB cJ cI sz g vt)) (va_Qi (fun (r : Int32) (_ : Unit) => r = iI (m_entCount g)) (fun _ _ => True) (fun q => sz ≤ q)) 0 0 (fun q => sz ≤ q) := by
  refine Met.ofW (cc := cX4_enteredCount) (maxL := 3) (ret := (some .int)) (by decide +kernel) rfl ?_
  intro p e s m args below meth c s₁ B9 hml hv
  obtain ⟨rfl, hsz, hP, hK, hE⟩ := hv
  have hx := B9.exec
  have hb := B9.bytes
  have hr := B9.returns
  have hts := atoms_spec (ws := (wc yX4_enteredCount cX4_enteredCount 3 (some .int))) B9.pre
  have hw : ∀ w ∈ wsL_law0, w.before [.ref (a 0)].toArray s = true := fun w h => hts w (List.mem_cons_of_mem _ h)
  have hown : s.vm.findClass RX4 = some m.cls := findClass_of_methodNamed B9.named
  subst hsz
  have hS : va_S (fun q => s.heap.size ≤ q) s.heap s.heap [] := va_S.rf
  have hA : ∀ q : Nat, s.heap.size ≤ q → (fun q : Nat => s.heap.size ≤ q) q := fun _ h => h
  have hl := lv_entry ([.ref (a 0)]) (n := 3) (Nat.le_of_ble_eq_true rfl)
  rw [lg_entry_eq]
  generalize (lg_sl ([.ref (a 0)]) ++ List.replicate (3 - (lg_sl ([.ref (a 0)])).length) Slot.unset).toArray = ls at hl ⊢
  have hl : lv_has ls 3 [(0, .ref (a 0))] := hl
  suffices h9 : ∀ (H : Heap) (locs : List Loc), va_P D vwCl (pw a cH cB cJ cI g vt) H → va_S (fun q => s.heap.size ≤ q) s.heap H locs → W p l e (headSpec (wc yX4_enteredCount cX4_enteredCount 3 (some .int)) ({ frames := 1, cells := 0, slots := 0, locals := 21 })).room s m [.ref (a 0)].toArray below meth c H locs 0 0 (MQ below (va_Qi (fun (r : Int32) (_ : Unit) => r = iI (m_entCount g)) (fun _ _ => True) (fun q => s.heap.size ≤ q)) [.ref (a 0)].toArray s 0 0 (fun q => s.heap.size ≤ q)) (F0 m 0 ls []) from h9 s.heap [] hP hS
  clear hP hS
  intro H locs hP hS
  have m4 := Wf.m4 hWf
  refine lv_iconst (v := iI 0) hx hb dX4_enteredCount_0 (by decide) ?_
  refine lv_istore_n (lv' := [(1, .int (iI 0)), (0, .ref (a 0))]) hx hb dX4_enteredCount_1 rfl hl (by decide) rfl (fun ls hl => ?_)
  refine lv_iconst (v := iI 0) hx hb dX4_enteredCount_2 (by decide) ?_
  refine lv_istore_n (lv' := [(2, .int (iI 0)), (1, .int (iI 0)), (0, .ref (a 0))]) hx hb dX4_enteredCount_3 rfl hl (by decide) rfl (fun ls hl => ?_)
  have loop4 : ∀ (d n : Nat) (H : Heap) (locs : List Loc) (ls : Array Slot), n + d = (g 0 0 4).toNat → va_P D vwCl (pw a cH cB cJ cI g vt) H → va_S (fun q => s.heap.size ≤ q) s.heap H locs → lv_has ls 3 [(2, .int (iI ((n : Nat) : Int))), (1, .int (iI (m_cnt (m_ent g) n))), (0, .ref (a 0))] → W p l e (headSpec (wc yX4_enteredCount cX4_enteredCount 3 (some .int)) ({ frames := 1, cells := 0, slots := 0, locals := 21 })).room s m [.ref (a 0)].toArray below meth c H locs 0 0 (MQ below (va_Qi (fun (r : Int32) (_ : Unit) => r = iI (m_entCount g)) (fun _ _ => True) (fun q => s.heap.size ≤ q)) [.ref (a 0)].toArray s 0 0 (fun q => s.heap.size ≤ q)) (F0 m 4 ls []) := by
    intro d
    induction d with
    | zero =>
      intro n H locs ls hn hP hS hl
      obtain rfl : n = (g 0 0 4).toNat := by omega
      refine lv_iload_n hx hb dX4_enteredCount_4 rfl (lv_at hl 0 rfl) ?_
      refine lv_aload_n hx hb dX4_enteredCount_5 rfl (lv_at hl 2 rfl) ?_
      have s1 := Wf.m4 hWf
      refine va_get (D := D) (ci := 4) (v := .int (iI (g 0 0 4))) (C := RX4) (T := TX4) (N := 19) hx hb hw hin_wsX40 hown hK hP 0 pw_0 rfl 4 (by decide) (hw _ kw_98) (fun _ h9 => h9) rfl dX4_enteredCount_6 ?_
      refine n_icmp_ge hx hb (by unfold RI; omega) (by unfold RI; omega) (tgt := 29) dX4_enteredCount_9 (by decide) (fun h2 => ?_) (fun h2 => absurd h2 (by intro h2; omega))
      refine lv_iload_n hx hb dX4_enteredCount_29 rfl (lv_at hl 1 rfl) ?_
      exact W.iret (v := (iI (m_cnt (m_ent g) ((g 0 0 4).toNat)))) hx hb hr (fun t ht hW9 => ⟨⟨(iI (m_cnt (m_ent g) ((g 0 0 4).toNat))), (), rfl, (congrArg iI (by rfl)), trivial⟩, hS.F ht⟩) hS.2.2 dX4_enteredCount_30
    | succ d ih4 =>
      intro n H locs ls hn hP hS hl
      refine lv_iload_n hx hb dX4_enteredCount_4 rfl (lv_at hl 0 rfl) ?_
      refine lv_aload_n hx hb dX4_enteredCount_5 rfl (lv_at hl 2 rfl) ?_
      have s3 := Wf.m4 hWf
      refine va_get (D := D) (ci := 4) (v := .int (iI (g 0 0 4))) (C := RX4) (T := TX4) (N := 19) hx hb hw hin_wsX40 hown hK hP 0 pw_0 rfl 4 (by decide) (hw _ kw_98) (fun _ h9 => h9) rfl dX4_enteredCount_6 ?_
      refine n_icmp_ge hx hb (by unfold RI; omega) (by unfold RI; omega) (tgt := 29) dX4_enteredCount_9 (by decide) (fun h4 => absurd h4 (by intro h4; omega)) (fun h4 => ?_)
      refine lv_aload_n hx hb dX4_enteredCount_12 rfl (lv_at hl 2 rfl) ?_
      refine lv_iload_n hx hb dX4_enteredCount_13 rfl (lv_at hl 0 rfl) ?_
      refine va_calli (va_runV (As := [.int (iI ((n : Nat) : Int))]) (rest := []) ⟨hx, hb, hml, hown, hw⟩ (c_isEntered l D a cH cB cJ cI ha g vt H.size ((n : Nat) : Int) hWf (by omega)) (cwV 1 hw (gA_V kw_107 kw_108 kw_109 kw_2 kw_110) rfl rfl rfl (by decide +kernel) ⟨Nat.le_of_ble_eq_true rfl, Nat.le_of_ble_eq_true rfl⟩) (pS_v (ci := 4) (q0 := 0) rfl pw_0 hP hK hE) rfl rfl hl.1 rfl (lv_room (Nat.le_of_ble_eq_true rfl)) dX4_enteredCount_14 ⟨Nat.le_of_ble_eq_true rfl, Nat.le_of_ble_eq_true rfl⟩) hS (fun q h1 h2 => ro_A h1 h2) (fun q h => ro_F hS hA q h) (fun r u t H1 locs ht hvm hw9 hB9 hz1 hk1 hS => ?_)
      have hw9 : r = (bi (m_ent g ((n : Nat) : Int))) := hw9
      subst hw9
      have hP := ro_P hP hk1
      generalize H1 = H at hP hS ⊢
      refine n_b_eq hx hb (tgt := 23) dX4_enteredCount_17 (by decide) (fun h5 => ?_) (fun h5 => ?_)
      · skip
        refine n_inc (lv' := [(2, .int (iI (((n : Nat) : Int) + 1))), (1, .int (iI (m_cnt (m_ent g) n))), (0, .ref (a 0))]) hx hb dX4_enteredCount_23 hl (k := 0) rfl (by decide) rfl (fun ls hl => ?_)
        refine lv_goto (tgt := 4) hx hb dX4_enteredCount_26 (by decide) ?_
        have hl : lv_has ls 3 [(2, .int (iI (((n : Nat) : Int) + 1))), (1, .int (iI (m_cnt (m_ent g) n))), (0, .ref (a 0))] := lv_sub hl [0, 1, 2] rfl
        have e6 : (((n : Nat) : Int) + 1) = (((n + 1) : Nat) : Int) := by rfl
        have e7 : (m_cnt (m_ent g) n) = (m_cnt (m_ent g) (n + 1)) := by exact (cnt_f (q := (m_ent g)) (n := n) (by simp [h4, Int.not_le.mpr h4, h5])).symm
        have hl : lv_has ls 3 [(2, .int (iI (((n + 1) : Nat) : Int))), (1, .int (iI (m_cnt (m_ent g) (n + 1)))), (0, .ref (a 0))] := lv_cast hl (by rw [e6, e7])
        exact ih4 (n + 1) H locs ls (by omega) hP hS hl
      · skip
        refine n_inc (lv' := [(1, .int (iI ((m_cnt (m_ent g) n) + 1))), (2, .int (iI ((n : Nat) : Int))), (0, .ref (a 0))]) hx hb dX4_enteredCount_20 hl (k := 1) rfl (by decide) rfl (fun ls hl => ?_)
        refine n_inc (lv' := [(2, .int (iI (((n : Nat) : Int) + 1))), (1, .int (iI ((m_cnt (m_ent g) n) + 1))), (0, .ref (a 0))]) hx hb dX4_enteredCount_23 hl (k := 1) rfl (by decide) rfl (fun ls hl => ?_)
        refine lv_goto (tgt := 4) hx hb dX4_enteredCount_26 (by decide) ?_
        have hl : lv_has ls 3 [(2, .int (iI (((n : Nat) : Int) + 1))), (1, .int (iI ((m_cnt (m_ent g) n) + 1))), (0, .ref (a 0))] := lv_sub hl [0, 1, 2] rfl
        have e8 : (((n : Nat) : Int) + 1) = (((n + 1) : Nat) : Int) := by rfl
        have e9 : ((m_cnt (m_ent g) n) + 1) = (m_cnt (m_ent g) (n + 1)) := by exact (cnt_t (q := (m_ent g)) (n := n) (by simp [h4, Int.not_le.mpr h4, h5])).symm
        have hl : lv_has ls 3 [(2, .int (iI (((n + 1) : Nat) : Int))), (1, .int (iI (m_cnt (m_ent g) (n + 1)))), (0, .ref (a 0))] := lv_cast hl (by rw [e8, e9])
        exact ih4 (n + 1) H locs ls (by omega) hP hS hl
  have hl : lv_has ls 3 [(2, .int (iI 0)), (1, .int (iI 0)), (0, .ref (a 0))] := lv_sub hl [0, 1, 2] rfl
  have hl : lv_has ls 3 [(2, .int (iI ((0 : Nat) : Int))), (1, .int (iI (m_cnt (m_ent g) 0))), (0, .ref (a 0))] := hl
  exact loop4 ((g 0 0 4).toNat) 0 H locs ls (by omega) hP hS hl
set_option maxHeartbeats 4000000 in
set_option maxRecDepth 100000 in
theorem c_soldEver (l : Launch) (D : va_G) (a : Nat → Nat) (cH cB cJ cI : ClassId) (ha : pj a) (g : m_St) (vt : Nat → Int32) (sz : Nat) (hWf : Wf g) : Met l yX4_soldEver (wc yX4_soldEver cX4_soldEver 3 (some .int)) ({ frames := 0, cells := 0, slots := 0, locals := 0 }) (va_Pc [.ref (a 0)] (pS D a cH cB cJ cI sz g vt)) (va_Qi (fun (r : Int32) (_ : Unit) => r = iI (m_soldEver g)) (fun _ _ => True) (fun q => sz ≤ q)) 0 0 (fun q => sz ≤ q) := by
  refine Met.ofW (cc := cX4_soldEver) (maxL := 3) (ret := (some .int)) (by decide +kernel) rfl ?_
  intro p e s m args below meth c s₁ B9 hml hv
  obtain ⟨rfl, hsz, hP, hK, hE⟩ := hv
  have hx := B9.exec
  have hb := B9.bytes
  have hr := B9.returns
  have hts := atoms_spec (ws := (wc yX4_soldEver cX4_soldEver 3 (some .int))) B9.pre
  have hw : ∀ w ∈ wsL_law0, w.before [.ref (a 0)].toArray s = true := fun w h => hts w (List.mem_cons_of_mem _ h)
  have hown : s.vm.findClass RX4 = some m.cls := findClass_of_methodNamed B9.named
  subst hsz
  have hS : va_S (fun q => s.heap.size ≤ q) s.heap s.heap [] := va_S.rf
  have hA : ∀ q : Nat, s.heap.size ≤ q → (fun q : Nat => s.heap.size ≤ q) q := fun _ h => h
  have hl := lv_entry ([.ref (a 0)]) (n := 3) (Nat.le_of_ble_eq_true rfl)
  rw [lg_entry_eq]
  generalize (lg_sl ([.ref (a 0)]) ++ List.replicate (3 - (lg_sl ([.ref (a 0)])).length) Slot.unset).toArray = ls at hl ⊢
  have hl : lv_has ls 3 [(0, .ref (a 0))] := hl
  suffices h9 : ∀ (H : Heap) (locs : List Loc), va_P D vwCl (pw a cH cB cJ cI g vt) H → va_S (fun q => s.heap.size ≤ q) s.heap H locs → W p l e (headSpec (wc yX4_soldEver cX4_soldEver 3 (some .int)) ({ frames := 0, cells := 0, slots := 0, locals := 0 })).room s m [.ref (a 0)].toArray below meth c H locs 0 0 (MQ below (va_Qi (fun (r : Int32) (_ : Unit) => r = iI (m_soldEver g)) (fun _ _ => True) (fun q => s.heap.size ≤ q)) [.ref (a 0)].toArray s 0 0 (fun q => s.heap.size ≤ q)) (F0 m 0 ls []) from h9 s.heap [] hP hS
  clear hP hS
  intro H locs hP hS
  have m4 := Wf.m4 hWf
  refine lv_iconst (v := iI 0) hx hb dX4_soldEver_0 (by decide) ?_
  refine lv_istore_n (lv' := [(1, .int (iI 0)), (0, .ref (a 0))]) hx hb dX4_soldEver_1 rfl hl (by decide) rfl (fun ls hl => ?_)
  refine lv_iconst (v := iI 0) hx hb dX4_soldEver_2 (by decide) ?_
  refine lv_istore_n (lv' := [(2, .int (iI 0)), (1, .int (iI 0)), (0, .ref (a 0))]) hx hb dX4_soldEver_3 rfl hl (by decide) rfl (fun ls hl => ?_)
  have loop4 : ∀ (d n : Nat) (H : Heap) (locs : List Loc) (ls : Array Slot), n + d = (g 0 0 4).toNat → va_P D vwCl (pw a cH cB cJ cI g vt) H → va_S (fun q => s.heap.size ≤ q) s.heap H locs → lv_has ls 3 [(2, .int (iI ((n : Nat) : Int))), (1, .int (iI (m_sm (fun b => g 2 b 9) n))), (0, .ref (a 0))] → W p l e (headSpec (wc yX4_soldEver cX4_soldEver 3 (some .int)) ({ frames := 0, cells := 0, slots := 0, locals := 0 })).room s m [.ref (a 0)].toArray below meth c H locs 0 0 (MQ below (va_Qi (fun (r : Int32) (_ : Unit) => r = iI (m_soldEver g)) (fun _ _ => True) (fun q => s.heap.size ≤ q)) [.ref (a 0)].toArray s 0 0 (fun q => s.heap.size ≤ q)) (F0 m 4 ls []) := by
    intro d
    induction d with
    | zero =>
      intro n H locs ls hn hP hS hl
      obtain rfl : n = (g 0 0 4).toNat := by omega
      refine lv_iload_n hx hb dX4_soldEver_4 rfl (lv_at hl 0 rfl) ?_
      refine lv_aload_n hx hb dX4_soldEver_5 rfl (lv_at hl 2 rfl) ?_
      have s1 := Wf.m4 hWf
      refine va_get (D := D) (ci := 4) (v := .int (iI (g 0 0 4))) (C := RX4) (T := TX4) (N := 19) hx hb hw hin_wsX40 hown hK hP 0 pw_0 rfl 4 (by decide) (hw _ kw_98) (fun _ h9 => h9) rfl dX4_soldEver_6 ?_
      refine n_icmp_ge hx hb (by unfold RI; omega) (by unfold RI; omega) (tgt := 30) dX4_soldEver_9 (by decide) (fun h2 => ?_) (fun h2 => absurd h2 (by intro h2; omega))
      refine lv_iload_n hx hb dX4_soldEver_30 rfl (lv_at hl 1 rfl) ?_
      exact W.iret (v := (iI (m_sm (fun b => g 2 b 9) ((g 0 0 4).toNat)))) hx hb hr (fun t ht hW9 => ⟨⟨(iI (m_sm (fun b => g 2 b 9) ((g 0 0 4).toNat))), (), rfl, (congrArg iI (by rfl)), trivial⟩, hS.F ht⟩) hS.2.2 dX4_soldEver_31
    | succ d ih4 =>
      intro n H locs ls hn hP hS hl
      refine lv_iload_n hx hb dX4_soldEver_4 rfl (lv_at hl 0 rfl) ?_
      refine lv_aload_n hx hb dX4_soldEver_5 rfl (lv_at hl 2 rfl) ?_
      have s3 := Wf.m4 hWf
      refine va_get (D := D) (ci := 4) (v := .int (iI (g 0 0 4))) (C := RX4) (T := TX4) (N := 19) hx hb hw hin_wsX40 hown hK hP 0 pw_0 rfl 4 (by decide) (hw _ kw_98) (fun _ h9 => h9) rfl dX4_soldEver_6 ?_
      refine n_icmp_ge hx hb (by unfold RI; omega) (by unfold RI; omega) (tgt := 30) dX4_soldEver_9 (by decide) (fun h4 => absurd h4 (by intro h4; omega)) (fun h4 => ?_)
      refine lv_iload_n hx hb dX4_soldEver_12 rfl (lv_at hl 1 rfl) ?_
      refine lv_aload_n hx hb dX4_soldEver_13 rfl (lv_at hl 2 rfl) ?_
      refine va_get (D := D) (ci := 4) (v := .ref (a 2)) (C := RX4) (T := TX4) (N := 19) hx hb hw hin_wsX40 hown hK hP 0 pw_0 rfl 1 (by decide) (hw _ kw_17) (fun _ h9 => h9) rfl dX4_soldEver_14 ?_
      refine lv_iload_n hx hb dX4_soldEver_17 rfl (lv_at hl 0 rfl) ?_
      refine p_aldB hx hb hK hP (k := ((n : Nat) : Int)) (by omega) (by omega) dX4_soldEver_18 ?_
      refine va_get (D := D) (ci := 0) (v := .int (iI (g 2 ((n : Nat) : Int) 9))) (C := RX0) (T := TX0) (N := 11) hx hb hw hin_wsX00 hown hK hP (12 + ((n : Nat) : Int).toNat) (pw_B (b := ((n : Nat) : Int)) (by omega) (by omega)) rfl 9 (by decide) (hw _ kw_123) (fun _ h9 => h9) rfl dX4_soldEver_19 ?_
      refine n_add hx hb dX4_soldEver_22 ?_
      refine lv_istore_n (lv' := [(1, .int (iI ((m_sm (fun b => g 2 b 9) n) + g 2 ((n : Nat) : Int) 9))), (2, .int (iI ((n : Nat) : Int))), (0, .ref (a 0))]) hx hb dX4_soldEver_23 rfl hl (by decide) rfl (fun ls hl => ?_)
      refine n_inc (lv' := [(2, .int (iI (((n : Nat) : Int) + 1))), (1, .int (iI ((m_sm (fun b => g 2 b 9) n) + g 2 ((n : Nat) : Int) 9))), (0, .ref (a 0))]) hx hb dX4_soldEver_24 hl (k := 1) rfl (by decide) rfl (fun ls hl => ?_)
      refine lv_goto (tgt := 4) hx hb dX4_soldEver_27 (by decide) ?_
      have hl : lv_has ls 3 [(2, .int (iI (((n : Nat) : Int) + 1))), (1, .int (iI ((m_sm (fun b => g 2 b 9) n) + g 2 ((n : Nat) : Int) 9))), (0, .ref (a 0))] := lv_sub hl [0, 1, 2] rfl
      have e5 : (((n : Nat) : Int) + 1) = (((n + 1) : Nat) : Int) := by rfl
      have e6 : ((m_sm (fun b => g 2 b 9) n) + g 2 ((n : Nat) : Int) 9) = (m_sm (fun b => g 2 b 9) (n + 1)) := by first | rfl | (rw [sm_s]; simp [h4, Int.not_le.mpr h4])
      have hl : lv_has ls 3 [(2, .int (iI (((n + 1) : Nat) : Int))), (1, .int (iI (m_sm (fun b => g 2 b 9) (n + 1)))), (0, .ref (a 0))] := lv_cast hl (by rw [e5, e6])
      exact ih4 (n + 1) H locs ls (by omega) hP hS hl
  have hl : lv_has ls 3 [(2, .int (iI 0)), (1, .int (iI 0)), (0, .ref (a 0))] := lv_sub hl [0, 1, 2] rfl
  have hl : lv_has ls 3 [(2, .int (iI ((0 : Nat) : Int))), (1, .int (iI (m_sm (fun b => g 2 b 9) 0))), (0, .ref (a 0))] := hl
  exact loop4 ((g 0 0 4).toNat) 0 H locs ls (by omega) hP hS hl
set_option maxHeartbeats 4000000 in
set_option maxRecDepth 100000 in
theorem c_missedEver (l : Launch) (D : va_G) (a : Nat → Nat) (cH cB cJ cI : ClassId) (ha : pj a) (g : m_St) (vt : Nat → Int32) (sz : Nat) (hWf : Wf g) : Met l yX4_missedEver (wc yX4_missedEver cX4_missedEver 3 (some .int)) ({ frames := 0, cells := 0, slots := 0, locals := 0 }) (va_Pc [.ref (a 0)] (pS D a cH cB cJ cI sz g vt)) (va_Qi (fun (r : Int32) (_ : Unit) => r = iI (m_missedEver g)) (fun _ _ => True) (fun q => sz ≤ q)) 0 0 (fun q => sz ≤ q) := by
  refine Met.ofW (cc := cX4_missedEver) (maxL := 3) (ret := (some .int)) (by decide +kernel) rfl ?_
  intro p e s m args below meth c s₁ B9 hml hv
  obtain ⟨rfl, hsz, hP, hK, hE⟩ := hv
  have hx := B9.exec
  have hb := B9.bytes
  have hr := B9.returns
  have hts := atoms_spec (ws := (wc yX4_missedEver cX4_missedEver 3 (some .int))) B9.pre
  have hw : ∀ w ∈ wsL_law0, w.before [.ref (a 0)].toArray s = true := fun w h => hts w (List.mem_cons_of_mem _ h)
  have hown : s.vm.findClass RX4 = some m.cls := findClass_of_methodNamed B9.named
  subst hsz
  have hS : va_S (fun q => s.heap.size ≤ q) s.heap s.heap [] := va_S.rf
  have hA : ∀ q : Nat, s.heap.size ≤ q → (fun q : Nat => s.heap.size ≤ q) q := fun _ h => h
  have hl := lv_entry ([.ref (a 0)]) (n := 3) (Nat.le_of_ble_eq_true rfl)
  rw [lg_entry_eq]
  generalize (lg_sl ([.ref (a 0)]) ++ List.replicate (3 - (lg_sl ([.ref (a 0)])).length) Slot.unset).toArray = ls at hl ⊢
  have hl : lv_has ls 3 [(0, .ref (a 0))] := hl
  suffices h9 : ∀ (H : Heap) (locs : List Loc), va_P D vwCl (pw a cH cB cJ cI g vt) H → va_S (fun q => s.heap.size ≤ q) s.heap H locs → W p l e (headSpec (wc yX4_missedEver cX4_missedEver 3 (some .int)) ({ frames := 0, cells := 0, slots := 0, locals := 0 })).room s m [.ref (a 0)].toArray below meth c H locs 0 0 (MQ below (va_Qi (fun (r : Int32) (_ : Unit) => r = iI (m_missedEver g)) (fun _ _ => True) (fun q => s.heap.size ≤ q)) [.ref (a 0)].toArray s 0 0 (fun q => s.heap.size ≤ q)) (F0 m 0 ls []) from h9 s.heap [] hP hS
  clear hP hS
  intro H locs hP hS
  have m4 := Wf.m4 hWf
  refine lv_iconst (v := iI 0) hx hb dX4_missedEver_0 (by decide) ?_
  refine lv_istore_n (lv' := [(1, .int (iI 0)), (0, .ref (a 0))]) hx hb dX4_missedEver_1 rfl hl (by decide) rfl (fun ls hl => ?_)
  refine lv_iconst (v := iI 0) hx hb dX4_missedEver_2 (by decide) ?_
  refine lv_istore_n (lv' := [(2, .int (iI 0)), (1, .int (iI 0)), (0, .ref (a 0))]) hx hb dX4_missedEver_3 rfl hl (by decide) rfl (fun ls hl => ?_)
  have loop4 : ∀ (d n : Nat) (H : Heap) (locs : List Loc) (ls : Array Slot), n + d = (g 0 0 4).toNat → va_P D vwCl (pw a cH cB cJ cI g vt) H → va_S (fun q => s.heap.size ≤ q) s.heap H locs → lv_has ls 3 [(2, .int (iI ((n : Nat) : Int))), (1, .int (iI (m_sm (fun b => g 2 b 10) n))), (0, .ref (a 0))] → W p l e (headSpec (wc yX4_missedEver cX4_missedEver 3 (some .int)) ({ frames := 0, cells := 0, slots := 0, locals := 0 })).room s m [.ref (a 0)].toArray below meth c H locs 0 0 (MQ below (va_Qi (fun (r : Int32) (_ : Unit) => r = iI (m_missedEver g)) (fun _ _ => True) (fun q => s.heap.size ≤ q)) [.ref (a 0)].toArray s 0 0 (fun q => s.heap.size ≤ q)) (F0 m 4 ls []) := by
    intro d
    induction d with
    | zero =>
      intro n H locs ls hn hP hS hl
      obtain rfl : n = (g 0 0 4).toNat := by omega
      refine lv_iload_n hx hb dX4_missedEver_4 rfl (lv_at hl 0 rfl) ?_
      refine lv_aload_n hx hb dX4_missedEver_5 rfl (lv_at hl 2 rfl) ?_
      have s1 := Wf.m4 hWf
      refine va_get (D := D) (ci := 4) (v := .int (iI (g 0 0 4))) (C := RX4) (T := TX4) (N := 19) hx hb hw hin_wsX40 hown hK hP 0 pw_0 rfl 4 (by decide) (hw _ kw_98) (fun _ h9 => h9) rfl dX4_missedEver_6 ?_
      refine n_icmp_ge hx hb (by unfold RI; omega) (by unfold RI; omega) (tgt := 30) dX4_missedEver_9 (by decide) (fun h2 => ?_) (fun h2 => absurd h2 (by intro h2; omega))
      refine lv_iload_n hx hb dX4_missedEver_30 rfl (lv_at hl 1 rfl) ?_
      exact W.iret (v := (iI (m_sm (fun b => g 2 b 10) ((g 0 0 4).toNat)))) hx hb hr (fun t ht hW9 => ⟨⟨(iI (m_sm (fun b => g 2 b 10) ((g 0 0 4).toNat))), (), rfl, (congrArg iI (by rfl)), trivial⟩, hS.F ht⟩) hS.2.2 dX4_missedEver_31
    | succ d ih4 =>
      intro n H locs ls hn hP hS hl
      refine lv_iload_n hx hb dX4_missedEver_4 rfl (lv_at hl 0 rfl) ?_
      refine lv_aload_n hx hb dX4_missedEver_5 rfl (lv_at hl 2 rfl) ?_
      have s3 := Wf.m4 hWf
      refine va_get (D := D) (ci := 4) (v := .int (iI (g 0 0 4))) (C := RX4) (T := TX4) (N := 19) hx hb hw hin_wsX40 hown hK hP 0 pw_0 rfl 4 (by decide) (hw _ kw_98) (fun _ h9 => h9) rfl dX4_missedEver_6 ?_
      refine n_icmp_ge hx hb (by unfold RI; omega) (by unfold RI; omega) (tgt := 30) dX4_missedEver_9 (by decide) (fun h4 => absurd h4 (by intro h4; omega)) (fun h4 => ?_)
      refine lv_iload_n hx hb dX4_missedEver_12 rfl (lv_at hl 1 rfl) ?_
      refine lv_aload_n hx hb dX4_missedEver_13 rfl (lv_at hl 2 rfl) ?_
      refine va_get (D := D) (ci := 4) (v := .ref (a 2)) (C := RX4) (T := TX4) (N := 19) hx hb hw hin_wsX40 hown hK hP 0 pw_0 rfl 1 (by decide) (hw _ kw_17) (fun _ h9 => h9) rfl dX4_missedEver_14 ?_
      refine lv_iload_n hx hb dX4_missedEver_17 rfl (lv_at hl 0 rfl) ?_
      refine p_aldB hx hb hK hP (k := ((n : Nat) : Int)) (by omega) (by omega) dX4_missedEver_18 ?_
      refine va_get (D := D) (ci := 0) (v := .int (iI (g 2 ((n : Nat) : Int) 10))) (C := RX0) (T := TX0) (N := 11) hx hb hw hin_wsX00 hown hK hP (12 + ((n : Nat) : Int).toNat) (pw_B (b := ((n : Nat) : Int)) (by omega) (by omega)) rfl 10 (by decide) (hw _ kw_128) (fun _ h9 => h9) rfl dX4_missedEver_19 ?_
      refine n_add hx hb dX4_missedEver_22 ?_
      refine lv_istore_n (lv' := [(1, .int (iI ((m_sm (fun b => g 2 b 10) n) + g 2 ((n : Nat) : Int) 10))), (2, .int (iI ((n : Nat) : Int))), (0, .ref (a 0))]) hx hb dX4_missedEver_23 rfl hl (by decide) rfl (fun ls hl => ?_)
      refine n_inc (lv' := [(2, .int (iI (((n : Nat) : Int) + 1))), (1, .int (iI ((m_sm (fun b => g 2 b 10) n) + g 2 ((n : Nat) : Int) 10))), (0, .ref (a 0))]) hx hb dX4_missedEver_24 hl (k := 1) rfl (by decide) rfl (fun ls hl => ?_)
      refine lv_goto (tgt := 4) hx hb dX4_missedEver_27 (by decide) ?_
      have hl : lv_has ls 3 [(2, .int (iI (((n : Nat) : Int) + 1))), (1, .int (iI ((m_sm (fun b => g 2 b 10) n) + g 2 ((n : Nat) : Int) 10))), (0, .ref (a 0))] := lv_sub hl [0, 1, 2] rfl
      have e5 : (((n : Nat) : Int) + 1) = (((n + 1) : Nat) : Int) := by rfl
      have e6 : ((m_sm (fun b => g 2 b 10) n) + g 2 ((n : Nat) : Int) 10) = (m_sm (fun b => g 2 b 10) (n + 1)) := by first | rfl | (rw [sm_s]; simp [h4, Int.not_le.mpr h4])
      have hl : lv_has ls 3 [(2, .int (iI (((n + 1) : Nat) : Int))), (1, .int (iI (m_sm (fun b => g 2 b 10) (n + 1)))), (0, .ref (a 0))] := lv_cast hl (by rw [e5, e6])
      exact ih4 (n + 1) H locs ls (by omega) hP hS hl
  have hl : lv_has ls 3 [(2, .int (iI 0)), (1, .int (iI 0)), (0, .ref (a 0))] := lv_sub hl [0, 1, 2] rfl
  have hl : lv_has ls 3 [(2, .int (iI ((0 : Nat) : Int))), (1, .int (iI (m_sm (fun b => g 2 b 10) 0))), (0, .ref (a 0))] := hl
  exact loop4 ((g 0 0 4).toNat) 0 H locs ls (by omega) hP hS hl
