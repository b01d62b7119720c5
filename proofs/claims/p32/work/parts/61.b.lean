set_option maxHeartbeats 4000000 in
set_option maxRecDepth 100000 in
theorem c_isFairMark (l : Launch) (D : va_G) (a : Nat → Nat) (cH cB cJ cI : ClassId) (ha : pj a) (g : m_St) (vt : Nat → Int32) (sz : Nat) (jj : Int) (bb : Int) (hWf : Wf g) (hjj : 0 ≤ jj ∧ jj < 5) (hbb : 0 ≤ bb ∧ bb < 16) : Met l yX4_isFairMark (wc yX4_isFairMark cX4_isFairMark 3 (some .boolean)) ({ frames := 1, cells := 0, slots := 0, locals := 21 }) (va_Pc [.ref (a 0), .int (iI jj), .int (iI bb)] (pS D a cH cB cJ cI sz g vt)) (va_Qi (fun (r : Int32) (_ : Unit) => r = bi (m_fair g jj bb)) (fun _ _ => True) (fun q => sz ≤ q)) 0 0 (fun q => sz ≤ q) := by
  refine Met.ofW (cc := cX4_isFairMark) (maxL := 3) (ret := (some .boolean)) (by decide +kernel) rfl ?_
  intro p e s m args below meth c s₁ B9 hml hv
  obtain ⟨rfl, hsz, hP, hK, hE⟩ := hv
  have hx := B9.exec
  have hb := B9.bytes
  have hr := B9.returns
  have hts := atoms_spec (ws := (wc yX4_isFairMark cX4_isFairMark 3 (some .boolean))) B9.pre
  have hw : ∀ w ∈ wsL_law0, w.before [.ref (a 0), .int (iI jj), .int (iI bb)].toArray s = true := fun w h => hts w (List.mem_cons_of_mem _ h)
  have hown : s.vm.findClass RX4 = some m.cls := findClass_of_methodNamed B9.named
  subst hsz
  have hS : va_S (fun q => s.heap.size ≤ q) s.heap s.heap [] := va_S.rf
  have hA : ∀ q : Nat, s.heap.size ≤ q → (fun q : Nat => s.heap.size ≤ q) q := fun _ h => h
  have hl := lv_entry ([.ref (a 0), .int (iI jj), .int (iI bb)]) (n := 3) (Nat.le_of_ble_eq_true rfl)
  rw [lg_entry_eq]
  generalize (lg_sl ([.ref (a 0), .int (iI jj), .int (iI bb)]) ++ List.replicate (3 - (lg_sl ([.ref (a 0), .int (iI jj), .int (iI bb)])).length) Slot.unset).toArray = ls at hl ⊢
  have hl : lv_has ls 3 [(0, .ref (a 0)), (1, .int (iI jj)), (2, .int (iI bb))] := hl
  suffices h9 : ∀ (H : Heap) (locs : List Loc), va_P D vwCl (pw a cH cB cJ cI g vt) H → va_S (fun q => s.heap.size ≤ q) s.heap H locs → W p l e (headSpec (wc yX4_isFairMark cX4_isFairMark 3 (some .boolean)) ({ frames := 1, cells := 0, slots := 0, locals := 21 })).room s m [.ref (a 0), .int (iI jj), .int (iI bb)].toArray below meth c H locs 0 0 (MQ below (va_Qi (fun (r : Int32) (_ : Unit) => r = bi (m_fair g jj bb)) (fun _ _ => True) (fun q => s.heap.size ≤ q)) [.ref (a 0), .int (iI jj), .int (iI bb)].toArray s 0 0 (fun q => s.heap.size ≤ q)) (F0 m 0 ls []) from h9 s.heap [] hP hS
  clear hP hS
  intro H locs hP hS
  refine lv_aload_n hx hb dX4_isFairMark_0 rfl (lv_at hl 0 rfl) ?_
  refine va_get (D := D) (ci := 4) (v := .ref (a 3)) (C := RX4) (T := TX4) (N := 19) hx hb hw hin_wsX40 hown hK hP 0 pw_0 rfl 2 (by decide) (hw _ kw_19) (fun _ h9 => h9) rfl dX4_isFairMark_1 ?_
  refine lv_iload_n hx hb dX4_isFairMark_4 rfl (lv_at hl 1 rfl) ?_
  refine p_aldJ hx hb hK hP (k := jj) (by omega) (by omega) dX4_isFairMark_5 ?_
  refine va_get (D := D) (ci := 2) (v := .ref (a (28 + 3 + 6 * jj.toNat))) (C := RX2) (T := TX2) (N := 16) hx hb hw hin_wsX20 hown hK hP (28 + 6 * jj.toNat) (pw_J (j := jj) (by omega) (by omega)) rfl 11 (by decide) (hw _ kw_157) (fun _ h9 => h9) rfl dX4_isFairMark_6 ?_
  refine lv_iload_n hx hb dX4_isFairMark_9 rfl (lv_at hl 2 rfl) ?_
  refine p_rd hx hb hK hP (j := jj) (k := bb) (r := 3) (by omega) (by omega) (by decide) (by omega) (by rw [if_neg (by decide)]; omega) dX4_isFairMark_10 ?_
  have s1 := Wf.r6 hWf (j := jj) (k := bb) (by omega) (by omega) (by omega) (by omega)
  rw [show g (3 + 3) jj bb = g 6 jj bb from rfl]
  refine lv_iconst (v := iI (-1)) hx hb dX4_isFairMark_11 (by decide) ?_
  refine n_icmp_eq hx hb (by unfold RI; omega) (by unfold RI; omega) (tgt := 40) dX4_isFairMark_12 (by decide) (fun h2 => ?_) (fun h2 => ?_)
  · skip
    refine lv_iconst (v := iI 0) hx hb dX4_isFairMark_40 (by decide) ?_
    exact W.zret (v := (iI 0)) (ty := .boolean) hx hb hr (by decide +kernel) (fun t ht hW9 => ⟨⟨(iI 0), (), rfl, (show iI 0 = bi (m_fair g jj bb) from by rw [show (m_fair g jj bb) = false from by simp [m_fair, h2]]; rfl), trivial⟩, hS.F ht⟩) hS.2.2 dX4_isFairMark_41
  · skip
    refine lv_aload_n hx hb dX4_isFairMark_15 rfl (lv_at hl 0 rfl) ?_
    refine va_get (D := D) (ci := 4) (v := .ref (a 3)) (C := RX4) (T := TX4) (N := 19) hx hb hw hin_wsX40 hown hK hP 0 pw_0 rfl 2 (by decide) (hw _ kw_19) (fun _ h9 => h9) rfl dX4_isFairMark_16 ?_
    refine lv_iload_n hx hb dX4_isFairMark_19 rfl (lv_at hl 1 rfl) ?_
    refine p_aldJ hx hb hK hP (k := jj) (by omega) (by omega) dX4_isFairMark_20 ?_
    refine lv_aload_n hx hb dX4_isFairMark_21 rfl (lv_at hl 0 rfl) ?_
    refine va_get (D := D) (ci := 4) (v := .ref (a 2)) (C := RX4) (T := TX4) (N := 19) hx hb hw hin_wsX40 hown hK hP 0 pw_0 rfl 1 (by decide) (hw _ kw_17) (fun _ h9 => h9) rfl dX4_isFairMark_22 ?_
    refine lv_iload_n hx hb dX4_isFairMark_25 rfl (lv_at hl 2 rfl) ?_
    refine p_aldB hx hb hK hP (k := bb) (by omega) (by omega) dX4_isFairMark_26 ?_
    have s3 := Wf.b1 hWf (k := bb) (by omega) (by omega)
    refine va_get (D := D) (ci := 0) (v := .int (iI (g 2 bb 1))) (C := RX0) (T := TX0) (N := 11) hx hb hw hin_wsX00 hown hK hP (12 + bb.toNat) (pw_B (b := bb) (by omega) (by omega)) rfl 1 (by decide) (hw _ kw_211) (fun _ h9 => h9) rfl dX4_isFairMark_27 ?_
    refine va_calli (va_runV (As := [.int (iI (g 2 bb 1))]) (rest := []) ⟨hx, hb, hml, hown, hw⟩ (c_isAgainst l D a cH cB cJ cI ha g vt H.size jj (g 2 bb 1) hWf (by omega) (by omega)) (cwV 1 hw (gA_V kw_238 kw_239 kw_240 kw_34 kw_241) rfl rfl rfl (by decide +kernel) ⟨Nat.le_of_ble_eq_true rfl, Nat.le_of_ble_eq_true rfl⟩) (pS_v (ci := 2) (q0 := (28 + 6 * jj.toNat)) rfl (pw_J (j := jj) (by omega) (by omega)) hP hK hE) rfl rfl hl.1 rfl (lv_room (Nat.le_of_ble_eq_true rfl)) dX4_isFairMark_30 ⟨Nat.le_of_ble_eq_true rfl, Nat.le_of_ble_eq_true rfl⟩) hS (fun q h1 h2 => ro_A h1 h2) (fun q h => ro_F hS hA q h) (fun r u t H1 locs ht hvm hw9 hB9 hz1 hk1 hS => ?_)
    have hw9 : r = (bi (m_agn g jj (g 2 bb 1))) := hw9
    subst hw9
    have hP := ro_P hP hk1
    generalize H1 = H at hP hS ⊢
    refine n_b_ne hx hb (tgt := 40) dX4_isFairMark_33 (by decide) (fun h4 => ?_) (fun h4 => ?_)
    · skip
      refine lv_iconst (v := iI 0) hx hb dX4_isFairMark_40 (by decide) ?_
      exact W.zret (v := (iI 0)) (ty := .boolean) hx hb hr (by decide +kernel) (fun t ht hW9 => ⟨⟨(iI 0), (), rfl, (show iI 0 = bi (m_fair g jj bb) from by rw [show (m_fair g jj bb) = false from by simp [m_fair, h2, beq_false_of_ne h2, h4]]; rfl), trivial⟩, hS.F ht⟩) hS.2.2 dX4_isFairMark_41
    · skip
      refine lv_iconst (v := iI 1) hx hb dX4_isFairMark_36 (by decide) ?_
      refine lv_goto (tgt := 41) hx hb dX4_isFairMark_37 (by decide) ?_
      exact W.zret (v := (iI 1)) (ty := .boolean) hx hb hr (by decide +kernel) (fun t ht hW9 => ⟨⟨(iI 1), (), rfl, (show iI 1 = bi (m_fair g jj bb) from by rw [show (m_fair g jj bb) = true from by simp [m_fair, h2, beq_false_of_ne h2, h4]]; rfl), trivial⟩, hS.F ht⟩) hS.2.2 dX4_isFairMark_41
set_option maxHeartbeats 4000000 in
set_option maxRecDepth 100000 in
theorem c_fairMarksOf (l : Launch) (D : va_G) (a : Nat → Nat) (cH cB cJ cI : ClassId) (ha : pj a) (g : m_St) (vt : Nat → Int32) (sz : Nat) (bb : Int) (hWf : Wf g) (hbb : 0 ≤ bb ∧ bb < 16) : Met l yX4_fairMarksOf (wc yX4_fairMarksOf cX4_fairMarksOf 4 (some .int)) ({ frames := 2, cells := 0, slots := 0, locals := 43 }) (va_Pc [.ref (a 0), .int (iI bb)] (pS D a cH cB cJ cI sz g vt)) (va_Qi (fun (r : Int32) (_ : Unit) => r = iI (m_fairCount g bb)) (fun _ _ => True) (fun q => sz ≤ q)) 0 0 (fun q => sz ≤ q) := by
  refine Met.ofW (cc := cX4_fairMarksOf) (maxL := 4) (ret := (some .int)) (by decide +kernel) rfl ?_
  intro p e s m args below meth c s₁ B9 hml hv
  obtain ⟨rfl, hsz, hP, hK, hE⟩ := hv
  have hx := B9.exec
  have hb := B9.bytes
  have hr := B9.returns
  have hts := atoms_spec (ws := (wc yX4_fairMarksOf cX4_fairMarksOf 4 (some .int))) B9.pre
  have hw : ∀ w ∈ wsL_law0, w.before [.ref (a 0), .int (iI bb)].toArray s = true := fun w h => hts w (List.mem_cons_of_mem _ h)
  have hown : s.vm.findClass RX4 = some m.cls := findClass_of_methodNamed B9.named
  subst hsz
  have hS : va_S (fun q => s.heap.size ≤ q) s.heap s.heap [] := va_S.rf
  have hA : ∀ q : Nat, s.heap.size ≤ q → (fun q : Nat => s.heap.size ≤ q) q := fun _ h => h
  have hl := lv_entry ([.ref (a 0), .int (iI bb)]) (n := 4) (Nat.le_of_ble_eq_true rfl)
  rw [lg_entry_eq]
  generalize (lg_sl ([.ref (a 0), .int (iI bb)]) ++ List.replicate (4 - (lg_sl ([.ref (a 0), .int (iI bb)])).length) Slot.unset).toArray = ls at hl ⊢
  have hl : lv_has ls 4 [(0, .ref (a 0)), (1, .int (iI bb))] := hl
  suffices h9 : ∀ (H : Heap) (locs : List Loc), va_P D vwCl (pw a cH cB cJ cI g vt) H → va_S (fun q => s.heap.size ≤ q) s.heap H locs → W p l e (headSpec (wc yX4_fairMarksOf cX4_fairMarksOf 4 (some .int)) ({ frames := 2, cells := 0, slots := 0, locals := 43 })).room s m [.ref (a 0), .int (iI bb)].toArray below meth c H locs 0 0 (MQ below (va_Qi (fun (r : Int32) (_ : Unit) => r = iI (m_fairCount g bb)) (fun _ _ => True) (fun q => s.heap.size ≤ q)) [.ref (a 0), .int (iI bb)].toArray s 0 0 (fun q => s.heap.size ≤ q)) (F0 m 0 ls []) from h9 s.heap [] hP hS
  clear hP hS
  intro H locs hP hS
  have m5 := Wf.m5 hWf
  refine lv_iconst (v := iI 0) hx hb dX4_fairMarksOf_0 (by decide) ?_
  refine lv_istore_n (lv' := [(2, .int (iI 0)), (0, .ref (a 0)), (1, .int (iI bb))]) hx hb dX4_fairMarksOf_1 rfl hl (by decide) rfl (fun ls hl => ?_)
  refine lv_iconst (v := iI 0) hx hb dX4_fairMarksOf_2 (by decide) ?_
  refine lv_istore_n (lv' := [(3, .int (iI 0)), (2, .int (iI 0)), (0, .ref (a 0)), (1, .int (iI bb))]) hx hb dX4_fairMarksOf_3 rfl hl (by decide) rfl (fun ls hl => ?_)
  have loop4 : ∀ (d n : Nat) (H : Heap) (locs : List Loc) (ls : Array Slot), n + d = (g 0 0 5).toNat → va_P D vwCl (pw a cH cB cJ cI g vt) H → va_S (fun q => s.heap.size ≤ q) s.heap H locs → lv_has ls 4 [(3, .int (iI ((n : Nat) : Int))), (2, .int (iI (m_cnt (fun j => m_fair g j bb) n))), (0, .ref (a 0)), (1, .int (iI bb))] → W p l e (headSpec (wc yX4_fairMarksOf cX4_fairMarksOf 4 (some .int)) ({ frames := 2, cells := 0, slots := 0, locals := 43 })).room s m [.ref (a 0), .int (iI bb)].toArray below meth c H locs 0 0 (MQ below (va_Qi (fun (r : Int32) (_ : Unit) => r = iI (m_fairCount g bb)) (fun _ _ => True) (fun q => s.heap.size ≤ q)) [.ref (a 0), .int (iI bb)].toArray s 0 0 (fun q => s.heap.size ≤ q)) (F0 m 4 ls []) := by
    intro d
    induction d with
    | zero =>
      intro n H locs ls hn hP hS hl
      obtain rfl : n = (g 0 0 5).toNat := by omega
      refine lv_iload_n hx hb dX4_fairMarksOf_4 rfl (lv_at hl 0 rfl) ?_
      refine lv_aload_n hx hb dX4_fairMarksOf_5 rfl (lv_at hl 2 rfl) ?_
      have s1 := Wf.m5 hWf
      refine va_get (D := D) (ci := 4) (v := .int (iI (g 0 0 5))) (C := RX4) (T := TX4) (N := 19) hx hb hw hin_wsX40 hown hK hP 0 pw_0 rfl 5 (by decide) (hw _ kw_81) (fun _ h9 => h9) rfl dX4_fairMarksOf_6 ?_
      refine n_icmp_ge hx hb (by unfold RI; omega) (by unfold RI; omega) (tgt := 30) dX4_fairMarksOf_9 (by decide) (fun h2 => ?_) (fun h2 => absurd h2 (by intro h2; omega))
      refine lv_iload_n hx hb dX4_fairMarksOf_30 rfl (lv_at hl 1 rfl) ?_
      exact W.iret (v := (iI (m_cnt (fun j => m_fair g j bb) ((g 0 0 5).toNat)))) hx hb hr (fun t ht hW9 => ⟨⟨(iI (m_cnt (fun j => m_fair g j bb) ((g 0 0 5).toNat))), (), rfl, (congrArg iI (by rfl)), trivial⟩, hS.F ht⟩) hS.2.2 dX4_fairMarksOf_31
    | succ d ih4 =>
      intro n H locs ls hn hP hS hl
      refine lv_iload_n hx hb dX4_fairMarksOf_4 rfl (lv_at hl 0 rfl) ?_
      refine lv_aload_n hx hb dX4_fairMarksOf_5 rfl (lv_at hl 2 rfl) ?_
      have s3 := Wf.m5 hWf
      refine va_get (D := D) (ci := 4) (v := .int (iI (g 0 0 5))) (C := RX4) (T := TX4) (N := 19) hx hb hw hin_wsX40 hown hK hP 0 pw_0 rfl 5 (by decide) (hw _ kw_81) (fun _ h9 => h9) rfl dX4_fairMarksOf_6 ?_
      refine n_icmp_ge hx hb (by unfold RI; omega) (by unfold RI; omega) (tgt := 30) dX4_fairMarksOf_9 (by decide) (fun h4 => absurd h4 (by intro h4; omega)) (fun h4 => ?_)
      refine lv_aload_n hx hb dX4_fairMarksOf_12 rfl (lv_at hl 2 rfl) ?_
      refine lv_iload_n hx hb dX4_fairMarksOf_13 rfl (lv_at hl 0 rfl) ?_
      refine lv_iload_n hx hb dX4_fairMarksOf_14 rfl (lv_at hl 3 rfl) ?_
      refine va_calli (va_runV (As := [.int (iI ((n : Nat) : Int)), .int (iI bb)]) (rest := []) ⟨hx, hb, hml, hown, hw⟩ (c_isFairMark l D a cH cB cJ cI ha g vt H.size ((n : Nat) : Int) bb hWf (by omega) (by omega)) (cwV 2 hw (gA_V kw_234 kw_235 kw_236 kw_2 kw_237) rfl rfl rfl (by decide +kernel) ⟨Nat.le_of_ble_eq_true rfl, Nat.le_of_ble_eq_true rfl⟩) (pS_v (ci := 4) (q0 := 0) rfl pw_0 hP hK hE) rfl rfl hl.1 rfl (lv_room (Nat.le_of_ble_eq_true rfl)) dX4_fairMarksOf_15 ⟨Nat.le_of_ble_eq_true rfl, Nat.le_of_ble_eq_true rfl⟩) hS (fun q h1 h2 => ro_A h1 h2) (fun q h => ro_F hS hA q h) (fun r u t H1 locs ht hvm hw9 hB9 hz1 hk1 hS => ?_)
      have hw9 : r = (bi (m_fair g ((n : Nat) : Int) bb)) := hw9
      subst hw9
      have hP := ro_P hP hk1
      generalize H1 = H at hP hS ⊢
      refine n_b_eq hx hb (tgt := 24) dX4_fairMarksOf_18 (by decide) (fun h5 => ?_) (fun h5 => ?_)
      · skip
        refine n_inc (lv' := [(3, .int (iI (((n : Nat) : Int) + 1))), (2, .int (iI (m_cnt (fun j => m_fair g j bb) n))), (0, .ref (a 0)), (1, .int (iI bb))]) hx hb dX4_fairMarksOf_24 hl (k := 0) rfl (by decide) rfl (fun ls hl => ?_)
        refine lv_goto (tgt := 4) hx hb dX4_fairMarksOf_27 (by decide) ?_
        have hl : lv_has ls 4 [(3, .int (iI (((n : Nat) : Int) + 1))), (2, .int (iI (m_cnt (fun j => m_fair g j bb) n))), (0, .ref (a 0)), (1, .int (iI bb))] := lv_sub hl [0, 1, 2, 3] rfl
        have e6 : (((n : Nat) : Int) + 1) = (((n + 1) : Nat) : Int) := by rfl
        have e7 : (m_cnt (fun j => m_fair g j bb) n) = (m_cnt (fun j => m_fair g j bb) (n + 1)) := by exact (cnt_f (q := (fun j => m_fair g j bb)) (n := n) (by simp [h4, Int.not_le.mpr h4, h5])).symm
        have hl : lv_has ls 4 [(3, .int (iI (((n + 1) : Nat) : Int))), (2, .int (iI (m_cnt (fun j => m_fair g j bb) (n + 1)))), (0, .ref (a 0)), (1, .int (iI bb))] := lv_cast hl (by rw [e6, e7])
        exact ih4 (n + 1) H locs ls (by omega) hP hS hl
      · skip
        refine n_inc (lv' := [(2, .int (iI ((m_cnt (fun j => m_fair g j bb) n) + 1))), (3, .int (iI ((n : Nat) : Int))), (0, .ref (a 0)), (1, .int (iI bb))]) hx hb dX4_fairMarksOf_21 hl (k := 1) rfl (by decide) rfl (fun ls hl => ?_)
        refine n_inc (lv' := [(3, .int (iI (((n : Nat) : Int) + 1))), (2, .int (iI ((m_cnt (fun j => m_fair g j bb) n) + 1))), (0, .ref (a 0)), (1, .int (iI bb))]) hx hb dX4_fairMarksOf_24 hl (k := 1) rfl (by decide) rfl (fun ls hl => ?_)
        refine lv_goto (tgt := 4) hx hb dX4_fairMarksOf_27 (by decide) ?_
        have hl : lv_has ls 4 [(3, .int (iI (((n : Nat) : Int) + 1))), (2, .int (iI ((m_cnt (fun j => m_fair g j bb) n) + 1))), (0, .ref (a 0)), (1, .int (iI bb))] := lv_sub hl [0, 1, 2, 3] rfl
        have e8 : (((n : Nat) : Int) + 1) = (((n + 1) : Nat) : Int) := by rfl
        have e9 : ((m_cnt (fun j => m_fair g j bb) n) + 1) = (m_cnt (fun j => m_fair g j bb) (n + 1)) := by exact (cnt_t (q := (fun j => m_fair g j bb)) (n := n) (by simp [h4, Int.not_le.mpr h4, h5])).symm
        have hl : lv_has ls 4 [(3, .int (iI (((n + 1) : Nat) : Int))), (2, .int (iI (m_cnt (fun j => m_fair g j bb) (n + 1)))), (0, .ref (a 0)), (1, .int (iI bb))] := lv_cast hl (by rw [e8, e9])
        exact ih4 (n + 1) H locs ls (by omega) hP hS hl
  have hl : lv_has ls 4 [(3, .int (iI 0)), (2, .int (iI 0)), (0, .ref (a 0)), (1, .int (iI bb))] := lv_sub hl [0, 1, 2, 3] rfl
  have hl : lv_has ls 4 [(3, .int (iI ((0 : Nat) : Int))), (2, .int (iI (m_cnt (fun j => m_fair g j bb) 0))), (0, .ref (a 0)), (1, .int (iI bb))] := hl
  exact loop4 ((g 0 0 5).toNat) 0 H locs ls (by omega) hP hS hl
set_option maxHeartbeats 4000000 in
set_option maxRecDepth 100000 in
theorem c_meanOfTenfoldMarks (l : Launch) (D : va_G) (a : Nat → Nat) (cH cB cJ cI : ClassId) (ha : pj a) (g : m_St) (vt : Nat → Int32) (sz : Nat) (jj : Int) (hWf : Wf g) (hjj : 0 ≤ jj ∧ jj < 5) : Met l yX2_meanOfTenfoldMarks (wc yX2_meanOfTenfoldMarks cX2_meanOfTenfoldMarks 1 (some .int)) ({ frames := 0, cells := 0, slots := 0, locals := 0 }) (va_Pc [.ref (a (28 + 6 * jj.toNat))] (pS D a cH cB cJ cI sz g vt)) (va_Qi (fun (r : Int32) (_ : Unit) => r = iI (m_mean10 g jj)) (fun _ _ => True) (fun q => sz ≤ q)) 0 0 (fun q => sz ≤ q) := by
  refine Met.ofW (cc := cX2_meanOfTenfoldMarks) (maxL := 1) (ret := (some .int)) (by decide +kernel) rfl ?_
  intro p e s m args below meth c s₁ B9 hml hv
  obtain ⟨rfl, hsz, hP, hK, hE⟩ := hv
  have hx := B9.exec
  have hb := B9.bytes
  have hr := B9.returns
  have hts := atoms_spec (ws := (wc yX2_meanOfTenfoldMarks cX2_meanOfTenfoldMarks 1 (some .int))) B9.pre
  have hw : ∀ w ∈ wsL_law0, w.before [.ref (a (28 + 6 * jj.toNat))].toArray s = true := fun w h => hts w (List.mem_cons_of_mem _ h)
  have hown : s.vm.findClass RX2 = some m.cls := findClass_of_methodNamed B9.named
  subst hsz
  have hS : va_S (fun q => s.heap.size ≤ q) s.heap s.heap [] := va_S.rf
  have hA : ∀ q : Nat, s.heap.size ≤ q → (fun q : Nat => s.heap.size ≤ q) q := fun _ h => h
  have hl := lv_entry ([.ref (a (28 + 6 * jj.toNat))]) (n := 1) (Nat.le_of_ble_eq_true rfl)
  rw [lg_entry_eq]
  generalize (lg_sl ([.ref (a (28 + 6 * jj.toNat))]) ++ List.replicate (1 - (lg_sl ([.ref (a (28 + 6 * jj.toNat))])).length) Slot.unset).toArray = ls at hl ⊢
  have hl : lv_has ls 1 [(0, .ref (a (28 + 6 * jj.toNat)))] := hl
  suffices h9 : ∀ (H : Heap) (locs : List Loc), va_P D vwCl (pw a cH cB cJ cI g vt) H → va_S (fun q => s.heap.size ≤ q) s.heap H locs → W p l e (headSpec (wc yX2_meanOfTenfoldMarks cX2_meanOfTenfoldMarks 1 (some .int)) ({ frames := 0, cells := 0, slots := 0, locals := 0 })).room s m [.ref (a (28 + 6 * jj.toNat))].toArray below meth c H locs 0 0 (MQ below (va_Qi (fun (r : Int32) (_ : Unit) => r = iI (m_mean10 g jj)) (fun _ _ => True) (fun q => s.heap.size ≤ q)) [.ref (a (28 + 6 * jj.toNat))].toArray s 0 0 (fun q => s.heap.size ≤ q)) (F0 m 0 ls []) from h9 s.heap [] hP hS
  clear hP hS
  intro H locs hP hS
  refine lv_aload_n hx hb dX2_meanOfTenfoldMarks_0 rfl (lv_at hl 0 rfl) ?_
  have s1 := Wf.j9 hWf (k := jj) (by omega) (by omega)
  refine va_get (D := D) (ci := 2) (v := .int (iI (g 3 jj 9))) (C := RX2) (T := TX2) (N := 16) hx hb hw hin_wsX20 hown hK hP (28 + 6 * jj.toNat) (pw_J (j := jj) (by omega) (by omega)) rfl 9 (by decide) (hw _ kw_247) (fun _ h9 => h9) rfl dX2_meanOfTenfoldMarks_1 ?_
  refine n_if_ne hx hb (by unfold RI; omega) (tgt := 11) dX2_meanOfTenfoldMarks_4 (by decide) (fun h2 => ?_) (fun h2 => ?_)
  · skip
    refine lv_bipush (v := iI 10) hx hb dX2_meanOfTenfoldMarks_11 (by decide) ?_
    refine lv_aload_n hx hb dX2_meanOfTenfoldMarks_13 rfl (lv_at hl 0 rfl) ?_
    have s3 := Wf.j12 hWf (k := jj) (by omega) (by omega)
    refine va_get (D := D) (ci := 2) (v := .int (iI (g 3 jj 12))) (C := RX2) (T := TX2) (N := 16) hx hb hw hin_wsX20 hown hK hP (28 + 6 * jj.toNat) (pw_J (j := jj) (by omega) (by omega)) rfl 12 (by decide) (hw _ kw_248) (fun _ h9 => h9) rfl dX2_meanOfTenfoldMarks_14 ?_
    refine n_mul hx hb dX2_meanOfTenfoldMarks_17 ?_
    refine lv_aload_n hx hb dX2_meanOfTenfoldMarks_18 rfl (lv_at hl 0 rfl) ?_
    refine va_get (D := D) (ci := 2) (v := .int (iI (g 3 jj 9))) (C := RX2) (T := TX2) (N := 16) hx hb hw hin_wsX20 hown hK hP (28 + 6 * jj.toNat) (pw_J (j := jj) (by omega) (by omega)) rfl 9 (by decide) (hw _ kw_247) (fun _ h9 => h9) rfl dX2_meanOfTenfoldMarks_19 ?_
    refine n_div hx hb (by unfold RI; omega) (by unfold RI; omega) (by omega) dX2_meanOfTenfoldMarks_22 ?_
    exact W.iret (v := (iI ((10 * g 3 jj 12).tdiv (g 3 jj 9)))) hx hb hr (fun t ht hW9 => ⟨⟨(iI ((10 * g 3 jj 12).tdiv (g 3 jj 9))), (), rfl, (congrArg iI (by unfold m_mean10; first | rw [if_pos h2] | rw [if_neg h2])), trivial⟩, hS.F ht⟩) hS.2.2 dX2_meanOfTenfoldMarks_23
  · skip
    refine lv_iconst (v := iI 0) hx hb dX2_meanOfTenfoldMarks_7 (by decide) ?_
    refine lv_goto (tgt := 23) hx hb dX2_meanOfTenfoldMarks_8 (by decide) ?_
    exact W.iret (v := (iI 0)) hx hb hr (fun t ht hW9 => ⟨⟨(iI 0), (), rfl, (congrArg iI (by unfold m_mean10; first | rw [if_pos h2] | rw [if_neg h2])), trivial⟩, hS.F ht⟩) hS.2.2 dX2_meanOfTenfoldMarks_23
set_option maxHeartbeats 4000000 in
set_option maxRecDepth 100000 in
theorem c_pointsOf (l : Launch) (D : va_G) (a : Nat → Nat) (cH cB cJ cI : ClassId) (ha : pj a) (g : m_St) (vt : Nat → Int32) (sz : Nat) (bb : Int) (hWf : Wf g) (hbb : 0 ≤ bb ∧ bb < 16) : Met l yX4_pointsOf (wc yX4_pointsOf cX4_pointsOf 4 (some .int)) ({ frames := 1, cells := 0, slots := 0, locals := 21 }) (va_Pc [.ref (a 0), .int (iI bb)] (pS D a cH cB cJ cI sz g vt)) (va_Qi (fun (r : Int32) (_ : Unit) => r = iI (m_pts g bb)) (fun _ _ => True) (fun q => sz ≤ q)) 0 0 (fun q => sz ≤ q) := by
  refine Met.ofW (cc := cX4_pointsOf) (maxL := 4) (ret := (some .int)) (by decide +kernel) rfl ?_
  intro p e s m args below meth c s₁ B9 hml hv
  obtain ⟨rfl, hsz, hP, hK, hE⟩ := hv
  have hx := B9.exec
  have hb := B9.bytes
  have hr := B9.returns
  have hts := atoms_spec (ws := (wc yX4_pointsOf cX4_pointsOf 4 (some .int))) B9.pre
  have hw : ∀ w ∈ wsL_law0, w.before [.ref (a 0), .int (iI bb)].toArray s = true := fun w h => hts w (List.mem_cons_of_mem _ h)
  have hown : s.vm.findClass RX4 = some m.cls := findClass_of_methodNamed B9.named
  subst hsz
  have hS : va_S (fun q => s.heap.size ≤ q) s.heap s.heap [] := va_S.rf
  have hA : ∀ q : Nat, s.heap.size ≤ q → (fun q : Nat => s.heap.size ≤ q) q := fun _ h => h
  have hl := lv_entry ([.ref (a 0), .int (iI bb)]) (n := 4) (Nat.le_of_ble_eq_true rfl)
  rw [lg_entry_eq]
  generalize (lg_sl ([.ref (a 0), .int (iI bb)]) ++ List.replicate (4 - (lg_sl ([.ref (a 0), .int (iI bb)])).length) Slot.unset).toArray = ls at hl ⊢
  have hl : lv_has ls 4 [(0, .ref (a 0)), (1, .int (iI bb))] := hl
  suffices h9 : ∀ (H : Heap) (locs : List Loc), va_P D vwCl (pw a cH cB cJ cI g vt) H → va_S (fun q => s.heap.size ≤ q) s.heap H locs → W p l e (headSpec (wc yX4_pointsOf cX4_pointsOf 4 (some .int)) ({ frames := 1, cells := 0, slots := 0, locals := 21 })).room s m [.ref (a 0), .int (iI bb)].toArray below meth c H locs 0 0 (MQ below (va_Qi (fun (r : Int32) (_ : Unit) => r = iI (m_pts g bb)) (fun _ _ => True) (fun q => s.heap.size ≤ q)) [.ref (a 0), .int (iI bb)].toArray s 0 0 (fun q => s.heap.size ≤ q)) (F0 m 0 ls []) from h9 s.heap [] hP hS
  clear hP hS
  intro H locs hP hS
  have m5 := Wf.m5 hWf
  refine lv_iconst (v := iI 0) hx hb dX4_pointsOf_0 (by decide) ?_
  refine lv_istore_n (lv' := [(2, .int (iI 0)), (0, .ref (a 0)), (1, .int (iI bb))]) hx hb dX4_pointsOf_1 rfl hl (by decide) rfl (fun ls hl => ?_)
  refine lv_iconst (v := iI 0) hx hb dX4_pointsOf_2 (by decide) ?_
  refine lv_istore_n (lv' := [(3, .int (iI 0)), (2, .int (iI 0)), (0, .ref (a 0)), (1, .int (iI bb))]) hx hb dX4_pointsOf_3 rfl hl (by decide) rfl (fun ls hl => ?_)
  have loop4 : ∀ (d n : Nat) (H : Heap) (locs : List Loc) (ls : Array Slot), n + d = (g 0 0 5).toNat → va_P D vwCl (pw a cH cB cJ cI g vt) H → va_S (fun q => s.heap.size ≤ q) s.heap H locs → lv_has ls 4 [(3, .int (iI ((n : Nat) : Int))), (2, .int (iI (m_sm (fun j => bif m_agn g j (g 2 bb 1) then 0 else g 7 j bb) n))), (0, .ref (a 0)), (1, .int (iI bb))] → W p l e (headSpec (wc yX4_pointsOf cX4_pointsOf 4 (some .int)) ({ frames := 1, cells := 0, slots := 0, locals := 21 })).room s m [.ref (a 0), .int (iI bb)].toArray below meth c H locs 0 0 (MQ below (va_Qi (fun (r : Int32) (_ : Unit) => r = iI (m_pts g bb)) (fun _ _ => True) (fun q => s.heap.size ≤ q)) [.ref (a 0), .int (iI bb)].toArray s 0 0 (fun q => s.heap.size ≤ q)) (F0 m 4 ls []) := by
    intro d
    induction d with
    | zero =>
      intro n H locs ls hn hP hS hl
      obtain rfl : n = (g 0 0 5).toNat := by omega
      refine lv_iload_n hx hb dX4_pointsOf_4 rfl (lv_at hl 0 rfl) ?_
      refine lv_aload_n hx hb dX4_pointsOf_5 rfl (lv_at hl 2 rfl) ?_
      have s1 := Wf.m5 hWf
      refine va_get (D := D) (ci := 4) (v := .int (iI (g 0 0 5))) (C := RX4) (T := TX4) (N := 19) hx hb hw hin_wsX40 hown hK hP 0 pw_0 rfl 5 (by decide) (hw _ kw_81) (fun _ h9 => h9) rfl dX4_pointsOf_6 ?_
      refine n_icmp_ge hx hb (by unfold RI; omega) (by unfold RI; omega) (tgt := 53) dX4_pointsOf_9 (by decide) (fun h2 => ?_) (fun h2 => absurd h2 (by intro h2; omega))
      refine lv_iload_n hx hb dX4_pointsOf_53 rfl (lv_at hl 1 rfl) ?_
      exact W.iret (v := (iI (m_sm (fun j => bif m_agn g j (g 2 bb 1) then 0 else g 7 j bb) ((g 0 0 5).toNat)))) hx hb hr (fun t ht hW9 => ⟨⟨(iI (m_sm (fun j => bif m_agn g j (g 2 bb 1) then 0 else g 7 j bb) ((g 0 0 5).toNat))), (), rfl, (congrArg iI (by rfl)), trivial⟩, hS.F ht⟩) hS.2.2 dX4_pointsOf_54
    | succ d ih4 =>
      intro n H locs ls hn hP hS hl
      refine lv_iload_n hx hb dX4_pointsOf_4 rfl (lv_at hl 0 rfl) ?_
      refine lv_aload_n hx hb dX4_pointsOf_5 rfl (lv_at hl 2 rfl) ?_
      have s3 := Wf.m5 hWf
      refine va_get (D := D) (ci := 4) (v := .int (iI (g 0 0 5))) (C := RX4) (T := TX4) (N := 19) hx hb hw hin_wsX40 hown hK hP 0 pw_0 rfl 5 (by decide) (hw _ kw_81) (fun _ h9 => h9) rfl dX4_pointsOf_6 ?_
      refine n_icmp_ge hx hb (by unfold RI; omega) (by unfold RI; omega) (tgt := 53) dX4_pointsOf_9 (by decide) (fun h4 => absurd h4 (by intro h4; omega)) (fun h4 => ?_)
      refine lv_aload_n hx hb dX4_pointsOf_12 rfl (lv_at hl 2 rfl) ?_
      refine va_get (D := D) (ci := 4) (v := .ref (a 3)) (C := RX4) (T := TX4) (N := 19) hx hb hw hin_wsX40 hown hK hP 0 pw_0 rfl 2 (by decide) (hw _ kw_19) (fun _ h9 => h9) rfl dX4_pointsOf_13 ?_
      refine lv_iload_n hx hb dX4_pointsOf_16 rfl (lv_at hl 0 rfl) ?_
      refine p_aldJ hx hb hK hP (k := ((n : Nat) : Int)) (by omega) (by omega) dX4_pointsOf_17 ?_
      refine lv_aload_n hx hb dX4_pointsOf_18 rfl (lv_at hl 2 rfl) ?_
      refine va_get (D := D) (ci := 4) (v := .ref (a 2)) (C := RX4) (T := TX4) (N := 19) hx hb hw hin_wsX40 hown hK hP 0 pw_0 rfl 1 (by decide) (hw _ kw_17) (fun _ h9 => h9) rfl dX4_pointsOf_19 ?_
      refine lv_iload_n hx hb dX4_pointsOf_22 rfl (lv_at hl 3 rfl) ?_
      refine p_aldB hx hb hK hP (k := bb) (by omega) (by omega) dX4_pointsOf_23 ?_
      have s5 := Wf.b1 hWf (k := bb) (by omega) (by omega)
      refine va_get (D := D) (ci := 0) (v := .int (iI (g 2 bb 1))) (C := RX0) (T := TX0) (N := 11) hx hb hw hin_wsX00 hown hK hP (12 + bb.toNat) (pw_B (b := bb) (by omega) (by omega)) rfl 1 (by decide) (hw _ kw_211) (fun _ h9 => h9) rfl dX4_pointsOf_24 ?_
      refine va_calli (va_runV (As := [.int (iI (g 2 bb 1))]) (rest := []) ⟨hx, hb, hml, hown, hw⟩ (c_isAgainst l D a cH cB cJ cI ha g vt H.size ((n : Nat) : Int) (g 2 bb 1) hWf (by omega) (by omega)) (cwV 1 hw (gA_V kw_238 kw_239 kw_240 kw_34 kw_241) rfl rfl rfl (by decide +kernel) ⟨Nat.le_of_ble_eq_true rfl, Nat.le_of_ble_eq_true rfl⟩) (pS_v (ci := 2) (q0 := (28 + 6 * ((n : Nat) : Int).toNat)) rfl (pw_J (j := ((n : Nat) : Int)) (by omega) (by omega)) hP hK hE) rfl rfl hl.1 rfl (lv_room (Nat.le_of_ble_eq_true rfl)) dX4_pointsOf_27 ⟨Nat.le_of_ble_eq_true rfl, Nat.le_of_ble_eq_true rfl⟩) hS (fun q h1 h2 => ro_A h1 h2) (fun q h => ro_F hS hA q h) (fun r u t H1 locs ht hvm hw9 hB9 hz1 hk1 hS => ?_)
      have hw9 : r = (bi (m_agn g ((n : Nat) : Int) (g 2 bb 1))) := hw9
      subst hw9
      have hP := ro_P hP hk1
      generalize H1 = H at hP hS ⊢
      refine n_b_ne hx hb (tgt := 47) dX4_pointsOf_30 (by decide) (fun h6 => ?_) (fun h6 => ?_)
      · skip
        refine n_inc (lv' := [(3, .int (iI (((n : Nat) : Int) + 1))), (2, .int (iI (m_sm (fun j => bif m_agn g j (g 2 bb 1) then 0 else g 7 j bb) n))), (0, .ref (a 0)), (1, .int (iI bb))]) hx hb dX4_pointsOf_47 hl (k := 0) rfl (by decide) rfl (fun ls hl => ?_)
        refine lv_goto (tgt := 4) hx hb dX4_pointsOf_50 (by decide) ?_
        have hl : lv_has ls 4 [(3, .int (iI (((n : Nat) : Int) + 1))), (2, .int (iI (m_sm (fun j => bif m_agn g j (g 2 bb 1) then 0 else g 7 j bb) n))), (0, .ref (a 0)), (1, .int (iI bb))] := lv_sub hl [0, 1, 2, 3] rfl
        have e7 : (((n : Nat) : Int) + 1) = (((n + 1) : Nat) : Int) := by rfl
        have e8 : (m_sm (fun j => bif m_agn g j (g 2 bb 1) then 0 else g 7 j bb) n) = (m_sm (fun j => bif m_agn g j (g 2 bb 1) then 0 else g 7 j bb) (n + 1)) := by first | rfl | (rw [sm_s]; simp [h4, Int.not_le.mpr h4, h6])
        have hl : lv_has ls 4 [(3, .int (iI (((n + 1) : Nat) : Int))), (2, .int (iI (m_sm (fun j => bif m_agn g j (g 2 bb 1) then 0 else g 7 j bb) (n + 1)))), (0, .ref (a 0)), (1, .int (iI bb))] := lv_cast hl (by rw [e7, e8])
        exact ih4 (n + 1) H locs ls (by omega) hP hS hl
      · skip
        refine lv_iload_n hx hb dX4_pointsOf_33 rfl (lv_at hl 1 rfl) ?_
        refine lv_aload_n hx hb dX4_pointsOf_34 rfl (lv_at hl 2 rfl) ?_
        refine va_get (D := D) (ci := 4) (v := .ref (a 3)) (C := RX4) (T := TX4) (N := 19) hx hb hw hin_wsX40 hown hK hP 0 pw_0 rfl 2 (by decide) (hw _ kw_19) (fun _ h9 => h9) rfl dX4_pointsOf_35 ?_
        refine lv_iload_n hx hb dX4_pointsOf_38 rfl (lv_at hl 0 rfl) ?_
        refine p_aldJ hx hb hK hP (k := ((n : Nat) : Int)) (by omega) (by omega) dX4_pointsOf_39 ?_
        refine va_get (D := D) (ci := 2) (v := .ref (a (28 + 4 + 6 * ((n : Nat) : Int).toNat))) (C := RX2) (T := TX2) (N := 16) hx hb hw hin_wsX20 hown hK hP (28 + 6 * ((n : Nat) : Int).toNat) (pw_J (j := ((n : Nat) : Int)) (by omega) (by omega)) rfl 13 (by decide) (hw _ kw_261) (fun _ h9 => h9) rfl dX4_pointsOf_40 ?_
        refine lv_iload_n hx hb dX4_pointsOf_43 rfl (lv_at hl 3 rfl) ?_
        refine p_rd hx hb hK hP (j := ((n : Nat) : Int)) (k := bb) (r := 4) (by omega) (by omega) (by decide) (by omega) (by rw [if_neg (by decide)]; omega) dX4_pointsOf_44 ?_
        have s9 := Wf.r7 hWf (j := ((n : Nat) : Int)) (k := bb) (by omega) (by omega) (by omega) (by omega)
        rw [show g (3 + 4) ((n : Nat) : Int) bb = g 7 ((n : Nat) : Int) bb from rfl]
        refine n_add hx hb dX4_pointsOf_45 ?_
        refine lv_istore_n (lv' := [(2, .int (iI ((m_sm (fun j => bif m_agn g j (g 2 bb 1) then 0 else g 7 j bb) n) + g 7 ((n : Nat) : Int) bb))), (3, .int (iI ((n : Nat) : Int))), (0, .ref (a 0)), (1, .int (iI bb))]) hx hb dX4_pointsOf_46 rfl hl (by decide) rfl (fun ls hl => ?_)
        refine n_inc (lv' := [(3, .int (iI (((n : Nat) : Int) + 1))), (2, .int (iI ((m_sm (fun j => bif m_agn g j (g 2 bb 1) then 0 else g 7 j bb) n) + g 7 ((n : Nat) : Int) bb))), (0, .ref (a 0)), (1, .int (iI bb))]) hx hb dX4_pointsOf_47 hl (k := 1) rfl (by decide) rfl (fun ls hl => ?_)
        refine lv_goto (tgt := 4) hx hb dX4_pointsOf_50 (by decide) ?_
        have hl : lv_has ls 4 [(3, .int (iI (((n : Nat) : Int) + 1))), (2, .int (iI ((m_sm (fun j => bif m_agn g j (g 2 bb 1) then 0 else g 7 j bb) n) + g 7 ((n : Nat) : Int) bb))), (0, .ref (a 0)), (1, .int (iI bb))] := lv_sub hl [0, 1, 2, 3] rfl
        have e10 : (((n : Nat) : Int) + 1) = (((n + 1) : Nat) : Int) := by rfl
        have e11 : ((m_sm (fun j => bif m_agn g j (g 2 bb 1) then 0 else g 7 j bb) n) + g 7 ((n : Nat) : Int) bb) = (m_sm (fun j => bif m_agn g j (g 2 bb 1) then 0 else g 7 j bb) (n + 1)) := by first | rfl | (rw [sm_s]; simp [h4, Int.not_le.mpr h4, h6])
        have hl : lv_has ls 4 [(3, .int (iI (((n + 1) : Nat) : Int))), (2, .int (iI (m_sm (fun j => bif m_agn g j (g 2 bb 1) then 0 else g 7 j bb) (n + 1)))), (0, .ref (a 0)), (1, .int (iI bb))] := lv_cast hl (by rw [e10, e11])
        exact ih4 (n + 1) H locs ls (by omega) hP hS hl
  have hl : lv_has ls 4 [(3, .int (iI 0)), (2, .int (iI 0)), (0, .ref (a 0)), (1, .int (iI bb))] := lv_sub hl [0, 1, 2, 3] rfl
  have hl : lv_has ls 4 [(3, .int (iI ((0 : Nat) : Int))), (2, .int (iI (m_sm (fun j => bif m_agn g j (g 2 bb 1) then 0 else g 7 j bb) 0))), (0, .ref (a 0)), (1, .int (iI bb))] := hl
  exact loop4 ((g 0 0 5).toNat) 0 H locs ls (by omega) hP hS hl
set_option maxHeartbeats 4000000 in
set_option maxRecDepth 100000 in
theorem c_giversTo (l : Launch) (D : va_G) (a : Nat → Nat) (cH cB cJ cI : ClassId) (ha : pj a) (g : m_St) (vt : Nat → Int32) (sz : Nat) (bb : Int) (hWf : Wf g) (hbb : 0 ≤ bb ∧ bb < 16) : Met l yX4_giversTo (wc yX4_giversTo cX4_giversTo 4 (some .int)) ({ frames := 1, cells := 0, slots := 0, locals := 21 }) (va_Pc [.ref (a 0), .int (iI bb)] (pS D a cH cB cJ cI sz g vt)) (va_Qi (fun (r : Int32) (_ : Unit) => r = iI (m_giv g bb)) (fun _ _ => True) (fun q => sz ≤ q)) 0 0 (fun q => sz ≤ q) := by
  refine Met.ofW (cc := cX4_giversTo) (maxL := 4) (ret := (some .int)) (by decide +kernel) rfl ?_
  intro p e s m args below meth c s₁ B9 hml hv
  obtain ⟨rfl, hsz, hP, hK, hE⟩ := hv
  have hx := B9.exec
  have hb := B9.bytes
  have hr := B9.returns
  have hts := atoms_spec (ws := (wc yX4_giversTo cX4_giversTo 4 (some .int))) B9.pre
  have hw : ∀ w ∈ wsL_law0, w.before [.ref (a 0), .int (iI bb)].toArray s = true := fun w h => hts w (List.mem_cons_of_mem _ h)
  have hown : s.vm.findClass RX4 = some m.cls := findClass_of_methodNamed B9.named
  subst hsz
  have hS : va_S (fun q => s.heap.size ≤ q) s.heap s.heap [] := va_S.rf
  have hA : ∀ q : Nat, s.heap.size ≤ q → (fun q : Nat => s.heap.size ≤ q) q := fun _ h => h
  have hl := lv_entry ([.ref (a 0), .int (iI bb)]) (n := 4) (Nat.le_of_ble_eq_true rfl)
  rw [lg_entry_eq]
  generalize (lg_sl ([.ref (a 0), .int (iI bb)]) ++ List.replicate (4 - (lg_sl ([.ref (a 0), .int (iI bb)])).length) Slot.unset).toArray = ls at hl ⊢
  have hl : lv_has ls 4 [(0, .ref (a 0)), (1, .int (iI bb))] := hl
  suffices h9 : ∀ (H : Heap) (locs : List Loc), va_P D vwCl (pw a cH cB cJ cI g vt) H → va_S (fun q => s.heap.size ≤ q) s.heap H locs → W p l e (headSpec (wc yX4_giversTo cX4_giversTo 4 (some .int)) ({ frames := 1, cells := 0, slots := 0, locals := 21 })).room s m [.ref (a 0), .int (iI bb)].toArray below meth c H locs 0 0 (MQ below (va_Qi (fun (r : Int32) (_ : Unit) => r = iI (m_giv g bb)) (fun _ _ => True) (fun q => s.heap.size ≤ q)) [.ref (a 0), .int (iI bb)].toArray s 0 0 (fun q => s.heap.size ≤ q)) (F0 m 0 ls []) from h9 s.heap [] hP hS
  clear hP hS
  intro H locs hP hS
  have m5 := Wf.m5 hWf
  refine lv_iconst (v := iI 0) hx hb dX4_giversTo_0 (by decide) ?_
  refine lv_istore_n (lv' := [(2, .int (iI 0)), (0, .ref (a 0)), (1, .int (iI bb))]) hx hb dX4_giversTo_1 rfl hl (by decide) rfl (fun ls hl => ?_)
  refine lv_iconst (v := iI 0) hx hb dX4_giversTo_2 (by decide) ?_
  refine lv_istore_n (lv' := [(3, .int (iI 0)), (2, .int (iI 0)), (0, .ref (a 0)), (1, .int (iI bb))]) hx hb dX4_giversTo_3 rfl hl (by decide) rfl (fun ls hl => ?_)
  have loop4 : ∀ (d n : Nat) (H : Heap) (locs : List Loc) (ls : Array Slot), n + d = (g 0 0 5).toNat → va_P D vwCl (pw a cH cB cJ cI g vt) H → va_S (fun q => s.heap.size ≤ q) s.heap H locs → lv_has ls 4 [(3, .int (iI ((n : Nat) : Int))), (2, .int (iI (m_cnt (fun j => decide (0 < g 7 j bb) && !m_agn g j (g 2 bb 1)) n))), (0, .ref (a 0)), (1, .int (iI bb))] → W p l e (headSpec (wc yX4_giversTo cX4_giversTo 4 (some .int)) ({ frames := 1, cells := 0, slots := 0, locals := 21 })).room s m [.ref (a 0), .int (iI bb)].toArray below meth c H locs 0 0 (MQ below (va_Qi (fun (r : Int32) (_ : Unit) => r = iI (m_giv g bb)) (fun _ _ => True) (fun q => s.heap.size ≤ q)) [.ref (a 0), .int (iI bb)].toArray s 0 0 (fun q => s.heap.size ≤ q)) (F0 m 4 ls []) := by
    intro d
    induction d with
    | zero =>
      intro n H locs ls hn hP hS hl
      obtain rfl : n = (g 0 0 5).toNat := by omega
      refine lv_iload_n hx hb dX4_giversTo_4 rfl (lv_at hl 0 rfl) ?_
      refine lv_aload_n hx hb dX4_giversTo_5 rfl (lv_at hl 2 rfl) ?_
      have s1 := Wf.m5 hWf
      refine va_get (D := D) (ci := 4) (v := .int (iI (g 0 0 5))) (C := RX4) (T := TX4) (N := 19) hx hb hw hin_wsX40 hown hK hP 0 pw_0 rfl 5 (by decide) (hw _ kw_81) (fun _ h9 => h9) rfl dX4_giversTo_6 ?_
      refine n_icmp_ge hx hb (by unfold RI; omega) (by unfold RI; omega) (tgt := 56) dX4_giversTo_9 (by decide) (fun h2 => ?_) (fun h2 => absurd h2 (by intro h2; omega))
      refine lv_iload_n hx hb dX4_giversTo_56 rfl (lv_at hl 1 rfl) ?_
      exact W.iret (v := (iI (m_cnt (fun j => decide (0 < g 7 j bb) && !m_agn g j (g 2 bb 1)) ((g 0 0 5).toNat)))) hx hb hr (fun t ht hW9 => ⟨⟨(iI (m_cnt (fun j => decide (0 < g 7 j bb) && !m_agn g j (g 2 bb 1)) ((g 0 0 5).toNat))), (), rfl, (congrArg iI (by rfl)), trivial⟩, hS.F ht⟩) hS.2.2 dX4_giversTo_57
    | succ d ih4 =>
      intro n H locs ls hn hP hS hl
      refine lv_iload_n hx hb dX4_giversTo_4 rfl (lv_at hl 0 rfl) ?_
      refine lv_aload_n hx hb dX4_giversTo_5 rfl (lv_at hl 2 rfl) ?_
      have s3 := Wf.m5 hWf
      refine va_get (D := D) (ci := 4) (v := .int (iI (g 0 0 5))) (C := RX4) (T := TX4) (N := 19) hx hb hw hin_wsX40 hown hK hP 0 pw_0 rfl 5 (by decide) (hw _ kw_81) (fun _ h9 => h9) rfl dX4_giversTo_6 ?_
      refine n_icmp_ge hx hb (by unfold RI; omega) (by unfold RI; omega) (tgt := 56) dX4_giversTo_9 (by decide) (fun h4 => absurd h4 (by intro h4; omega)) (fun h4 => ?_)
      refine lv_aload_n hx hb dX4_giversTo_12 rfl (lv_at hl 2 rfl) ?_
      refine va_get (D := D) (ci := 4) (v := .ref (a 3)) (C := RX4) (T := TX4) (N := 19) hx hb hw hin_wsX40 hown hK hP 0 pw_0 rfl 2 (by decide) (hw _ kw_19) (fun _ h9 => h9) rfl dX4_giversTo_13 ?_
      refine lv_iload_n hx hb dX4_giversTo_16 rfl (lv_at hl 0 rfl) ?_
      refine p_aldJ hx hb hK hP (k := ((n : Nat) : Int)) (by omega) (by omega) dX4_giversTo_17 ?_
      refine va_get (D := D) (ci := 2) (v := .ref (a (28 + 4 + 6 * ((n : Nat) : Int).toNat))) (C := RX2) (T := TX2) (N := 16) hx hb hw hin_wsX20 hown hK hP (28 + 6 * ((n : Nat) : Int).toNat) (pw_J (j := ((n : Nat) : Int)) (by omega) (by omega)) rfl 13 (by decide) (hw _ kw_261) (fun _ h9 => h9) rfl dX4_giversTo_18 ?_
      refine lv_iload_n hx hb dX4_giversTo_21 rfl (lv_at hl 3 rfl) ?_
      refine p_rd hx hb hK hP (j := ((n : Nat) : Int)) (k := bb) (r := 4) (by omega) (by omega) (by decide) (by omega) (by rw [if_neg (by decide)]; omega) dX4_giversTo_22 ?_
      have s5 := Wf.r7 hWf (j := ((n : Nat) : Int)) (k := bb) (by omega) (by omega) (by omega) (by omega)
      rw [show g (3 + 4) ((n : Nat) : Int) bb = g 7 ((n : Nat) : Int) bb from rfl]
      refine n_if_le hx hb (by unfold RI; omega) (tgt := 50) dX4_giversTo_23 (by decide) (fun h6 => ?_) (fun h6 => ?_)
      · skip
        refine n_inc (lv' := [(3, .int (iI (((n : Nat) : Int) + 1))), (2, .int (iI (m_cnt (fun j => decide (0 < g 7 j bb) && !m_agn g j (g 2 bb 1)) n))), (0, .ref (a 0)), (1, .int (iI bb))]) hx hb dX4_giversTo_50 hl (k := 0) rfl (by decide) rfl (fun ls hl => ?_)
        refine lv_goto (tgt := 4) hx hb dX4_giversTo_53 (by decide) ?_
        have hl : lv_has ls 4 [(3, .int (iI (((n : Nat) : Int) + 1))), (2, .int (iI (m_cnt (fun j => decide (0 < g 7 j bb) && !m_agn g j (g 2 bb 1)) n))), (0, .ref (a 0)), (1, .int (iI bb))] := lv_sub hl [0, 1, 2, 3] rfl
        have e7 : (((n : Nat) : Int) + 1) = (((n + 1) : Nat) : Int) := by rfl
        have e8 : (m_cnt (fun j => decide (0 < g 7 j bb) && !m_agn g j (g 2 bb 1)) n) = (m_cnt (fun j => decide (0 < g 7 j bb) && !m_agn g j (g 2 bb 1)) (n + 1)) := by exact (cnt_f (q := (fun j => decide (0 < g 7 j bb) && !m_agn g j (g 2 bb 1))) (n := n) (by simp [h4, Int.not_le.mpr h4, h6, Int.not_lt.mpr h6]; try omega)).symm
        have hl : lv_has ls 4 [(3, .int (iI (((n + 1) : Nat) : Int))), (2, .int (iI (m_cnt (fun j => decide (0 < g 7 j bb) && !m_agn g j (g 2 bb 1)) (n + 1)))), (0, .ref (a 0)), (1, .int (iI bb))] := lv_cast hl (by rw [e7, e8])
        exact ih4 (n + 1) H locs ls (by omega) hP hS hl
      · skip
        refine lv_aload_n hx hb dX4_giversTo_26 rfl (lv_at hl 2 rfl) ?_
        refine va_get (D := D) (ci := 4) (v := .ref (a 3)) (C := RX4) (T := TX4) (N := 19) hx hb hw hin_wsX40 hown hK hP 0 pw_0 rfl 2 (by decide) (hw _ kw_19) (fun _ h9 => h9) rfl dX4_giversTo_27 ?_
        refine lv_iload_n hx hb dX4_giversTo_30 rfl (lv_at hl 0 rfl) ?_
        refine p_aldJ hx hb hK hP (k := ((n : Nat) : Int)) (by omega) (by omega) dX4_giversTo_31 ?_
        refine lv_aload_n hx hb dX4_giversTo_32 rfl (lv_at hl 2 rfl) ?_
        refine va_get (D := D) (ci := 4) (v := .ref (a 2)) (C := RX4) (T := TX4) (N := 19) hx hb hw hin_wsX40 hown hK hP 0 pw_0 rfl 1 (by decide) (hw _ kw_17) (fun _ h9 => h9) rfl dX4_giversTo_33 ?_
        refine lv_iload_n hx hb dX4_giversTo_36 rfl (lv_at hl 3 rfl) ?_
        refine p_aldB hx hb hK hP (k := bb) (by omega) (by omega) dX4_giversTo_37 ?_
        have s9 := Wf.b1 hWf (k := bb) (by omega) (by omega)
        refine va_get (D := D) (ci := 0) (v := .int (iI (g 2 bb 1))) (C := RX0) (T := TX0) (N := 11) hx hb hw hin_wsX00 hown hK hP (12 + bb.toNat) (pw_B (b := bb) (by omega) (by omega)) rfl 1 (by decide) (hw _ kw_211) (fun _ h9 => h9) rfl dX4_giversTo_38 ?_
        refine va_calli (va_runV (As := [.int (iI (g 2 bb 1))]) (rest := []) ⟨hx, hb, hml, hown, hw⟩ (c_isAgainst l D a cH cB cJ cI ha g vt H.size ((n : Nat) : Int) (g 2 bb 1) hWf (by omega) (by omega)) (cwV 1 hw (gA_V kw_238 kw_239 kw_240 kw_34 kw_241) rfl rfl rfl (by decide +kernel) ⟨Nat.le_of_ble_eq_true rfl, Nat.le_of_ble_eq_true rfl⟩) (pS_v (ci := 2) (q0 := (28 + 6 * ((n : Nat) : Int).toNat)) rfl (pw_J (j := ((n : Nat) : Int)) (by omega) (by omega)) hP hK hE) rfl rfl hl.1 rfl (lv_room (Nat.le_of_ble_eq_true rfl)) dX4_giversTo_41 ⟨Nat.le_of_ble_eq_true rfl, Nat.le_of_ble_eq_true rfl⟩) hS (fun q h1 h2 => ro_A h1 h2) (fun q h => ro_F hS hA q h) (fun r u t H1 locs ht hvm hw9 hB9 hz1 hk1 hS => ?_)
        have hw9 : r = (bi (m_agn g ((n : Nat) : Int) (g 2 bb 1))) := hw9
        subst hw9
        have hP := ro_P hP hk1
        generalize H1 = H at hP hS ⊢
        refine n_b_ne hx hb (tgt := 50) dX4_giversTo_44 (by decide) (fun h10 => ?_) (fun h10 => ?_)
        · skip
          refine n_inc (lv' := [(3, .int (iI (((n : Nat) : Int) + 1))), (2, .int (iI (m_cnt (fun j => decide (0 < g 7 j bb) && !m_agn g j (g 2 bb 1)) n))), (0, .ref (a 0)), (1, .int (iI bb))]) hx hb dX4_giversTo_50 hl (k := 0) rfl (by decide) rfl (fun ls hl => ?_)
          refine lv_goto (tgt := 4) hx hb dX4_giversTo_53 (by decide) ?_
          have hl : lv_has ls 4 [(3, .int (iI (((n : Nat) : Int) + 1))), (2, .int (iI (m_cnt (fun j => decide (0 < g 7 j bb) && !m_agn g j (g 2 bb 1)) n))), (0, .ref (a 0)), (1, .int (iI bb))] := lv_sub hl [0, 1, 2, 3] rfl
          have e11 : (((n : Nat) : Int) + 1) = (((n + 1) : Nat) : Int) := by rfl
          have e12 : (m_cnt (fun j => decide (0 < g 7 j bb) && !m_agn g j (g 2 bb 1)) n) = (m_cnt (fun j => decide (0 < g 7 j bb) && !m_agn g j (g 2 bb 1)) (n + 1)) := by exact (cnt_f (q := (fun j => decide (0 < g 7 j bb) && !m_agn g j (g 2 bb 1))) (n := n) (by simp [h4, Int.not_le.mpr h4, h6, Int.not_le.mpr h6, h10]; try omega)).symm
          have hl : lv_has ls 4 [(3, .int (iI (((n + 1) : Nat) : Int))), (2, .int (iI (m_cnt (fun j => decide (0 < g 7 j bb) && !m_agn g j (g 2 bb 1)) (n + 1)))), (0, .ref (a 0)), (1, .int (iI bb))] := lv_cast hl (by rw [e11, e12])
          exact ih4 (n + 1) H locs ls (by omega) hP hS hl
        · skip
          refine n_inc (lv' := [(2, .int (iI ((m_cnt (fun j => decide (0 < g 7 j bb) && !m_agn g j (g 2 bb 1)) n) + 1))), (3, .int (iI ((n : Nat) : Int))), (0, .ref (a 0)), (1, .int (iI bb))]) hx hb dX4_giversTo_47 hl (k := 1) rfl (by decide) rfl (fun ls hl => ?_)
          refine n_inc (lv' := [(3, .int (iI (((n : Nat) : Int) + 1))), (2, .int (iI ((m_cnt (fun j => decide (0 < g 7 j bb) && !m_agn g j (g 2 bb 1)) n) + 1))), (0, .ref (a 0)), (1, .int (iI bb))]) hx hb dX4_giversTo_50 hl (k := 1) rfl (by decide) rfl (fun ls hl => ?_)
          refine lv_goto (tgt := 4) hx hb dX4_giversTo_53 (by decide) ?_
          have hl : lv_has ls 4 [(3, .int (iI (((n : Nat) : Int) + 1))), (2, .int (iI ((m_cnt (fun j => decide (0 < g 7 j bb) && !m_agn g j (g 2 bb 1)) n) + 1))), (0, .ref (a 0)), (1, .int (iI bb))] := lv_sub hl [0, 1, 2, 3] rfl
          have e13 : (((n : Nat) : Int) + 1) = (((n + 1) : Nat) : Int) := by rfl
          have e14 : ((m_cnt (fun j => decide (0 < g 7 j bb) && !m_agn g j (g 2 bb 1)) n) + 1) = (m_cnt (fun j => decide (0 < g 7 j bb) && !m_agn g j (g 2 bb 1)) (n + 1)) := by exact (cnt_t (q := (fun j => decide (0 < g 7 j bb) && !m_agn g j (g 2 bb 1))) (n := n) (by simp [h4, Int.not_le.mpr h4, h6, Int.not_le.mpr h6, h10]; try omega)).symm
          have hl : lv_has ls 4 [(3, .int (iI (((n + 1) : Nat) : Int))), (2, .int (iI (m_cnt (fun j => decide (0 < g 7 j bb) && !m_agn g j (g 2 bb 1)) (n + 1)))), (0, .ref (a 0)), (1, .int (iI bb))] := lv_cast hl (by rw [e13, e14])
          exact ih4 (n + 1) H locs ls (by omega) hP hS hl
  have hl : lv_has ls 4 [(3, .int (iI 0)), (2, .int (iI 0)), (0, .ref (a 0)), (1, .int (iI bb))] := lv_sub hl [0, 1, 2, 3] rfl
  have hl : lv_has ls 4 [(3, .int (iI ((0 : Nat) : Int))), (2, .int (iI (m_cnt (fun j => decide (0 < g 7 j bb) && !m_agn g j (g 2 bb 1)) 0))), (0, .ref (a 0)), (1, .int (iI bb))] := hl
  exact loop4 ((g 0 0 5).toNat) 0 H locs ls (by omega) hP hS hl
set_option maxHeartbeats 4000000 in
set_option maxRecDepth 100000 in
theorem c_standingOf (l : Launch) (D : va_G) (a : Nat → Nat) (cH cB cJ cI : ClassId) (ha : pj a) (g : m_St) (vt : Nat → Int32) (sz : Nat) (bb : Int) (hWf : Wf g) (hbb : 0 ≤ bb ∧ bb < 16) : Met l yX4_standingOf (wc yX4_standingOf cX4_standingOf 2 (some .int)) ({ frames := 1, cells := 0, slots := 0, locals := 21 }) (va_Pc [.ref (a 0), .int (iI bb)] (pS D a cH cB cJ cI sz g vt)) (va_Qi (fun (r : Int32) (_ : Unit) => r = iI (m_standing g bb)) (fun _ _ => True) (fun q => sz ≤ q)) 0 0 (fun q => sz ≤ q) := by
  refine Met.ofW (cc := cX4_standingOf) (maxL := 2) (ret := (some .int)) (by decide +kernel) rfl ?_
  intro p e s m args below meth c s₁ B9 hml hv
  obtain ⟨rfl, hsz, hP, hK, hE⟩ := hv
  have hx := B9.exec
  have hb := B9.bytes
  have hr := B9.returns
  have hts := atoms_spec (ws := (wc yX4_standingOf cX4_standingOf 2 (some .int))) B9.pre
  have hw : ∀ w ∈ wsL_law0, w.before [.ref (a 0), .int (iI bb)].toArray s = true := fun w h => hts w (List.mem_cons_of_mem _ h)
  have hown : s.vm.findClass RX4 = some m.cls := findClass_of_methodNamed B9.named
  subst hsz
  have hS : va_S (fun q => s.heap.size ≤ q) s.heap s.heap [] := va_S.rf
  have hA : ∀ q : Nat, s.heap.size ≤ q → (fun q : Nat => s.heap.size ≤ q) q := fun _ h => h
  have hl := lv_entry ([.ref (a 0), .int (iI bb)]) (n := 2) (Nat.le_of_ble_eq_true rfl)
  rw [lg_entry_eq]
  generalize (lg_sl ([.ref (a 0), .int (iI bb)]) ++ List.replicate (2 - (lg_sl ([.ref (a 0), .int (iI bb)])).length) Slot.unset).toArray = ls at hl ⊢
  have hl : lv_has ls 2 [(0, .ref (a 0)), (1, .int (iI bb))] := hl
  suffices h9 : ∀ (H : Heap) (locs : List Loc), va_P D vwCl (pw a cH cB cJ cI g vt) H → va_S (fun q => s.heap.size ≤ q) s.heap H locs → W p l e (headSpec (wc yX4_standingOf cX4_standingOf 2 (some .int)) ({ frames := 1, cells := 0, slots := 0, locals := 21 })).room s m [.ref (a 0), .int (iI bb)].toArray below meth c H locs 0 0 (MQ below (va_Qi (fun (r : Int32) (_ : Unit) => r = iI (m_standing g bb)) (fun _ _ => True) (fun q => s.heap.size ≤ q)) [.ref (a 0), .int (iI bb)].toArray s 0 0 (fun q => s.heap.size ≤ q)) (F0 m 0 ls []) from h9 s.heap [] hP hS
  clear hP hS
  intro H locs hP hS
  refine lv_iload_n hx hb dX4_standingOf_0 rfl (lv_at hl 1 rfl) ?_
  refine lv_aload_n hx hb dX4_standingOf_1 rfl (lv_at hl 0 rfl) ?_
  have s1 := Wf.m14 hWf
  refine va_get (D := D) (ci := 4) (v := .int (iI (g 0 0 14))) (C := RX4) (T := TX4) (N := 19) hx hb hw hin_wsX40 hown hK hP 0 pw_0 rfl 14 (by decide) (hw _ kw_26) (fun _ h9 => h9) rfl dX4_standingOf_2 ?_
  refine n_icmp_ne hx hb (by unfold RI; omega) (by unfold RI; omega) (tgt := 10) dX4_standingOf_5 (by decide) (fun h2 => ?_) (fun h2 => ?_)
  · skip
    refine lv_aload_n hx hb dX4_standingOf_10 rfl (lv_at hl 0 rfl) ?_
    have s3 := Wf.m13 hWf
    refine va_get (D := D) (ci := 4) (v := .int (iI (g 0 0 13))) (C := RX4) (T := TX4) (N := 19) hx hb hw hin_wsX40 hown hK hP 0 pw_0 rfl 13 (by decide) (hw _ kw_100) (fun _ h9 => h9) rfl dX4_standingOf_11 ?_
    refine lv_iload_n hx hb dX4_standingOf_14 rfl (lv_at hl 1 rfl) ?_
    refine va_calli (va_runS (As := [.int (iI (g 0 0 13)), .int (iI bb)]) (rest := []) ⟨hx, hb, hml, hown, hw⟩ (c_has l D a cH cB cJ cI ha g vt H.size (g 0 0 13) bb (by omega) (by omega)) (va_cwS 2 hw (gA_S kw_229 kw_223 kw_2 kw_224) rfl rfl rfl (by decide +kernel) ⟨Nat.le_of_ble_eq_true rfl, Nat.le_of_ble_eq_true rfl⟩) (pS_s hP hK hE) rfl rfl hl.1 rfl (lv_room (Nat.le_of_ble_eq_true rfl)) dX4_standingOf_15 ⟨Nat.le_of_ble_eq_true rfl, Nat.le_of_ble_eq_true rfl⟩) hS (fun q h1 h2 => ro_A h1 h2) (fun q h => ro_F hS hA q h) (fun r u t H1 locs ht hvm hw9 hB9 hz1 hk1 hS => ?_)
    have hw9 : r = (bi (m_has (g 0 0 13) bb)) := hw9
    subst hw9
    have hP := ro_P hP hk1
    generalize H1 = H at hP hS ⊢
    refine n_b_eq hx hb (tgt := 23) dX4_standingOf_18 (by decide) (fun h4 => ?_) (fun h4 => ?_)
    · skip
      refine lv_aload_n hx hb dX4_standingOf_23 rfl (lv_at hl 0 rfl) ?_
      have s5 := Wf.m11 hWf
      refine va_get (D := D) (ci := 4) (v := .int (iI (g 0 0 11))) (C := RX4) (T := TX4) (N := 19) hx hb hw hin_wsX40 hown hK hP 0 pw_0 rfl 11 (by decide) (hw _ kw_99) (fun _ h9 => h9) rfl dX4_standingOf_24 ?_
      refine lv_iload_n hx hb dX4_standingOf_27 rfl (lv_at hl 1 rfl) ?_
      refine va_calli (va_runS (As := [.int (iI (g 0 0 11)), .int (iI bb)]) (rest := []) ⟨hx, hb, hml, hown, hw⟩ (c_has l D a cH cB cJ cI ha g vt H.size (g 0 0 11) bb (by omega) (by omega)) (va_cwS 2 hw (gA_S kw_229 kw_223 kw_2 kw_224) rfl rfl rfl (by decide +kernel) ⟨Nat.le_of_ble_eq_true rfl, Nat.le_of_ble_eq_true rfl⟩) (pS_s hP hK hE) rfl rfl hl.1 rfl (lv_room (Nat.le_of_ble_eq_true rfl)) dX4_standingOf_28 ⟨Nat.le_of_ble_eq_true rfl, Nat.le_of_ble_eq_true rfl⟩) hS (fun q h1 h2 => ro_A h1 h2) (fun q h => ro_F hS hA q h) (fun r u t H1 locs ht hvm hw9 hB9 hz1 hk1 hS => ?_)
      have hw9 : r = (bi (m_has (g 0 0 11) bb)) := hw9
      subst hw9
      have hP := ro_P hP hk1
      generalize H1 = H at hP hS ⊢
      refine n_b_eq hx hb (tgt := 38) dX4_standingOf_31 (by decide) (fun h6 => ?_) (fun h6 => ?_)
      · skip
        refine lv_iconst (v := iI 0) hx hb dX4_standingOf_38 (by decide) ?_
        exact W.iret (v := (iI 0)) hx hb hr (fun t ht hW9 => ⟨⟨(iI 0), (), rfl, (congrArg iI (by simp [m_standing, h2, beq_false_of_ne h2, h4, h6])), trivial⟩, hS.F ht⟩) hS.2.2 dX4_standingOf_39
      · skip
        refine lv_iconst (v := iI 1) hx hb dX4_standingOf_34 (by decide) ?_
        refine lv_goto (tgt := 39) hx hb dX4_standingOf_35 (by decide) ?_
        exact W.iret (v := (iI 1)) hx hb hr (fun t ht hW9 => ⟨⟨(iI 1), (), rfl, (congrArg iI (by simp [m_standing, h2, beq_false_of_ne h2, h4, h6])), trivial⟩, hS.F ht⟩) hS.2.2 dX4_standingOf_39
    · skip
      refine lv_iconst (v := iI 2) hx hb dX4_standingOf_21 (by decide) ?_
      exact W.iret (v := (iI 2)) hx hb hr (fun t ht hW9 => ⟨⟨(iI 2), (), rfl, (congrArg iI (by simp [m_standing, h2, beq_false_of_ne h2, h4])), trivial⟩, hS.F ht⟩) hS.2.2 dX4_standingOf_22
  · skip
    refine lv_iconst (v := iI 3) hx hb dX4_standingOf_8 (by decide) ?_
    exact W.iret (v := (iI 3)) hx hb hr (fun t ht hW9 => ⟨⟨(iI 3), (), rfl, (congrArg iI (by simp [m_standing, h2])), trivial⟩, hS.F ht⟩) hS.2.2 dX4_standingOf_9
set_option maxHeartbeats 4000000 in
set_option maxRecDepth 100000 in
theorem c_fairJudgesOf (l : Launch) (D : va_G) (a : Nat → Nat) (cH cB cJ cI : ClassId) (ha : pj a) (g : m_St) (vt : Nat → Int32) (sz : Nat) (au : Int) (hWf : Wf g) (hau : 0 ≤ au ∧ au ≤ 9) : Met l yX4_fairJudgesOf (wc yX4_fairJudgesOf cX4_fairJudgesOf 4 (some .int)) ({ frames := 1, cells := 0, slots := 0, locals := 21 }) (va_Pc [.ref (a 0), .int (iI au)] (pS D a cH cB cJ cI sz g vt)) (va_Qi (fun (r : Int32) (_ : Unit) => r = iI (m_fairJudges g au)) (fun _ _ => True) (fun q => sz ≤ q)) 0 0 (fun q => sz ≤ q) := by
  refine Met.ofW (cc := cX4_fairJudgesOf) (maxL := 4) (ret := (some .int)) (by decide +kernel) rfl ?_
  intro p e s m args below meth c s₁ B9 hml hv
  obtain ⟨rfl, hsz, hP, hK, hE⟩ := hv
  have hx := B9.exec
  have hb := B9.bytes
  have hr := B9.returns
  have hts := atoms_spec (ws := (wc yX4_fairJudgesOf cX4_fairJudgesOf 4 (some .int))) B9.pre
  have hw : ∀ w ∈ wsL_law0, w.before [.ref (a 0), .int (iI au)].toArray s = true := fun w h => hts w (List.mem_cons_of_mem _ h)
  have hown : s.vm.findClass RX4 = some m.cls := findClass_of_methodNamed B9.named
  subst hsz
  have hS : va_S (fun q => s.heap.size ≤ q) s.heap s.heap [] := va_S.rf
  have hA : ∀ q : Nat, s.heap.size ≤ q → (fun q : Nat => s.heap.size ≤ q) q := fun _ h => h
  have hl := lv_entry ([.ref (a 0), .int (iI au)]) (n := 4) (Nat.le_of_ble_eq_true rfl)
  rw [lg_entry_eq]
  generalize (lg_sl ([.ref (a 0), .int (iI au)]) ++ List.replicate (4 - (lg_sl ([.ref (a 0), .int (iI au)])).length) Slot.unset).toArray = ls at hl ⊢
  have hl : lv_has ls 4 [(0, .ref (a 0)), (1, .int (iI au))] := hl
  suffices h9 : ∀ (H : Heap) (locs : List Loc), va_P D vwCl (pw a cH cB cJ cI g vt) H → va_S (fun q => s.heap.size ≤ q) s.heap H locs → W p l e (headSpec (wc yX4_fairJudgesOf cX4_fairJudgesOf 4 (some .int)) ({ frames := 1, cells := 0, slots := 0, locals := 21 })).room s m [.ref (a 0), .int (iI au)].toArray below meth c H locs 0 0 (MQ below (va_Qi (fun (r : Int32) (_ : Unit) => r = iI (m_fairJudges g au)) (fun _ _ => True) (fun q => s.heap.size ≤ q)) [.ref (a 0), .int (iI au)].toArray s 0 0 (fun q => s.heap.size ≤ q)) (F0 m 0 ls []) from h9 s.heap [] hP hS
  clear hP hS
  intro H locs hP hS
  have m5 := Wf.m5 hWf
  refine lv_iconst (v := iI 0) hx hb dX4_fairJudgesOf_0 (by decide) ?_
  refine lv_istore_n (lv' := [(2, .int (iI 0)), (0, .ref (a 0)), (1, .int (iI au))]) hx hb dX4_fairJudgesOf_1 rfl hl (by decide) rfl (fun ls hl => ?_)
  refine lv_iconst (v := iI 0) hx hb dX4_fairJudgesOf_2 (by decide) ?_
  refine lv_istore_n (lv' := [(3, .int (iI 0)), (2, .int (iI 0)), (0, .ref (a 0)), (1, .int (iI au))]) hx hb dX4_fairJudgesOf_3 rfl hl (by decide) rfl (fun ls hl => ?_)
  have loop4 : ∀ (d n : Nat) (H : Heap) (locs : List Loc) (ls : Array Slot), n + d = (g 0 0 5).toNat → va_P D vwCl (pw a cH cB cJ cI g vt) H → va_S (fun q => s.heap.size ≤ q) s.heap H locs → lv_has ls 4 [(3, .int (iI ((n : Nat) : Int))), (2, .int (iI (m_cnt (fun j => !m_agn g j au) n))), (0, .ref (a 0)), (1, .int (iI au))] → W p l e (headSpec (wc yX4_fairJudgesOf cX4_fairJudgesOf 4 (some .int)) ({ frames := 1, cells := 0, slots := 0, locals := 21 })).room s m [.ref (a 0), .int (iI au)].toArray below meth c H locs 0 0 (MQ below (va_Qi (fun (r : Int32) (_ : Unit) => r = iI (m_fairJudges g au)) (fun _ _ => True) (fun q => s.heap.size ≤ q)) [.ref (a 0), .int (iI au)].toArray s 0 0 (fun q => s.heap.size ≤ q)) (F0 m 4 ls []) := by
    intro d
    induction d with
    | zero =>
      intro n H locs ls hn hP hS hl
      obtain rfl : n = (g 0 0 5).toNat := by omega
      refine lv_iload_n hx hb dX4_fairJudgesOf_4 rfl (lv_at hl 0 rfl) ?_
      refine lv_aload_n hx hb dX4_fairJudgesOf_5 rfl (lv_at hl 2 rfl) ?_
      have s1 := Wf.m5 hWf
      refine va_get (D := D) (ci := 4) (v := .int (iI (g 0 0 5))) (C := RX4) (T := TX4) (N := 19) hx hb hw hin_wsX40 hown hK hP 0 pw_0 rfl 5 (by decide) (hw _ kw_81) (fun _ h9 => h9) rfl dX4_fairJudgesOf_6 ?_
      refine n_icmp_ge hx hb (by unfold RI; omega) (by unfold RI; omega) (tgt := 34) dX4_fairJudgesOf_9 (by decide) (fun h2 => ?_) (fun h2 => absurd h2 (by intro h2; omega))
      refine lv_iload_n hx hb dX4_fairJudgesOf_34 rfl (lv_at hl 1 rfl) ?_
      exact W.iret (v := (iI (m_cnt (fun j => !m_agn g j au) ((g 0 0 5).toNat)))) hx hb hr (fun t ht hW9 => ⟨⟨(iI (m_cnt (fun j => !m_agn g j au) ((g 0 0 5).toNat))), (), rfl, (congrArg iI (by rfl)), trivial⟩, hS.F ht⟩) hS.2.2 dX4_fairJudgesOf_35
    | succ d ih4 =>
      intro n H locs ls hn hP hS hl
      refine lv_iload_n hx hb dX4_fairJudgesOf_4 rfl (lv_at hl 0 rfl) ?_
      refine lv_aload_n hx hb dX4_fairJudgesOf_5 rfl (lv_at hl 2 rfl) ?_
      have s3 := Wf.m5 hWf
      refine va_get (D := D) (ci := 4) (v := .int (iI (g 0 0 5))) (C := RX4) (T := TX4) (N := 19) hx hb hw hin_wsX40 hown hK hP 0 pw_0 rfl 5 (by decide) (hw _ kw_81) (fun _ h9 => h9) rfl dX4_fairJudgesOf_6 ?_
      refine n_icmp_ge hx hb (by unfold RI; omega) (by unfold RI; omega) (tgt := 34) dX4_fairJudgesOf_9 (by decide) (fun h4 => absurd h4 (by intro h4; omega)) (fun h4 => ?_)
      refine lv_aload_n hx hb dX4_fairJudgesOf_12 rfl (lv_at hl 2 rfl) ?_
      refine va_get (D := D) (ci := 4) (v := .ref (a 3)) (C := RX4) (T := TX4) (N := 19) hx hb hw hin_wsX40 hown hK hP 0 pw_0 rfl 2 (by decide) (hw _ kw_19) (fun _ h9 => h9) rfl dX4_fairJudgesOf_13 ?_
      refine lv_iload_n hx hb dX4_fairJudgesOf_16 rfl (lv_at hl 0 rfl) ?_
      refine p_aldJ hx hb hK hP (k := ((n : Nat) : Int)) (by omega) (by omega) dX4_fairJudgesOf_17 ?_
      refine lv_iload_n hx hb dX4_fairJudgesOf_18 rfl (lv_at hl 3 rfl) ?_
      refine va_calli (va_runV (As := [.int (iI au)]) (rest := []) ⟨hx, hb, hml, hown, hw⟩ (c_isAgainst l D a cH cB cJ cI ha g vt H.size ((n : Nat) : Int) au hWf (by omega) (by omega)) (cwV 1 hw (gA_V kw_238 kw_239 kw_240 kw_34 kw_241) rfl rfl rfl (by decide +kernel) ⟨Nat.le_of_ble_eq_true rfl, Nat.le_of_ble_eq_true rfl⟩) (pS_v (ci := 2) (q0 := (28 + 6 * ((n : Nat) : Int).toNat)) rfl (pw_J (j := ((n : Nat) : Int)) (by omega) (by omega)) hP hK hE) rfl rfl hl.1 rfl (lv_room (Nat.le_of_ble_eq_true rfl)) dX4_fairJudgesOf_19 ⟨Nat.le_of_ble_eq_true rfl, Nat.le_of_ble_eq_true rfl⟩) hS (fun q h1 h2 => ro_A h1 h2) (fun q h => ro_F hS hA q h) (fun r u t H1 locs ht hvm hw9 hB9 hz1 hk1 hS => ?_)
      have hw9 : r = (bi (m_agn g ((n : Nat) : Int) au)) := hw9
      subst hw9
      have hP := ro_P hP hk1
      generalize H1 = H at hP hS ⊢
      refine n_b_ne hx hb (tgt := 28) dX4_fairJudgesOf_22 (by decide) (fun h5 => ?_) (fun h5 => ?_)
      · skip
        refine n_inc (lv' := [(3, .int (iI (((n : Nat) : Int) + 1))), (2, .int (iI (m_cnt (fun j => !m_agn g j au) n))), (0, .ref (a 0)), (1, .int (iI au))]) hx hb dX4_fairJudgesOf_28 hl (k := 0) rfl (by decide) rfl (fun ls hl => ?_)
        refine lv_goto (tgt := 4) hx hb dX4_fairJudgesOf_31 (by decide) ?_
        have hl : lv_has ls 4 [(3, .int (iI (((n : Nat) : Int) + 1))), (2, .int (iI (m_cnt (fun j => !m_agn g j au) n))), (0, .ref (a 0)), (1, .int (iI au))] := lv_sub hl [0, 1, 2, 3] rfl
        have e6 : (((n : Nat) : Int) + 1) = (((n + 1) : Nat) : Int) := by rfl
        have e7 : (m_cnt (fun j => !m_agn g j au) n) = (m_cnt (fun j => !m_agn g j au) (n + 1)) := by exact (cnt_f (q := (fun j => !m_agn g j au)) (n := n) (by simp [h4, Int.not_le.mpr h4, h5])).symm
        have hl : lv_has ls 4 [(3, .int (iI (((n + 1) : Nat) : Int))), (2, .int (iI (m_cnt (fun j => !m_agn g j au) (n + 1)))), (0, .ref (a 0)), (1, .int (iI au))] := lv_cast hl (by rw [e6, e7])
        exact ih4 (n + 1) H locs ls (by omega) hP hS hl
      · skip
        refine n_inc (lv' := [(2, .int (iI ((m_cnt (fun j => !m_agn g j au) n) + 1))), (3, .int (iI ((n : Nat) : Int))), (0, .ref (a 0)), (1, .int (iI au))]) hx hb dX4_fairJudgesOf_25 hl (k := 1) rfl (by decide) rfl (fun ls hl => ?_)
        refine n_inc (lv' := [(3, .int (iI (((n : Nat) : Int) + 1))), (2, .int (iI ((m_cnt (fun j => !m_agn g j au) n) + 1))), (0, .ref (a 0)), (1, .int (iI au))]) hx hb dX4_fairJudgesOf_28 hl (k := 1) rfl (by decide) rfl (fun ls hl => ?_)
        refine lv_goto (tgt := 4) hx hb dX4_fairJudgesOf_31 (by decide) ?_
        have hl : lv_has ls 4 [(3, .int (iI (((n : Nat) : Int) + 1))), (2, .int (iI ((m_cnt (fun j => !m_agn g j au) n) + 1))), (0, .ref (a 0)), (1, .int (iI au))] := lv_sub hl [0, 1, 2, 3] rfl
        have e8 : (((n : Nat) : Int) + 1) = (((n + 1) : Nat) : Int) := by rfl
        have e9 : ((m_cnt (fun j => !m_agn g j au) n) + 1) = (m_cnt (fun j => !m_agn g j au) (n + 1)) := by exact (cnt_t (q := (fun j => !m_agn g j au)) (n := n) (by simp [h4, Int.not_le.mpr h4, h5])).symm
        have hl : lv_has ls 4 [(3, .int (iI (((n + 1) : Nat) : Int))), (2, .int (iI (m_cnt (fun j => !m_agn g j au) (n + 1)))), (0, .ref (a 0)), (1, .int (iI au))] := lv_cast hl (by rw [e8, e9])
        exact ih4 (n + 1) H locs ls (by omega) hP hS hl
  have hl : lv_has ls 4 [(3, .int (iI 0)), (2, .int (iI 0)), (0, .ref (a 0)), (1, .int (iI au))] := lv_sub hl [0, 1, 2, 3] rfl
  have hl : lv_has ls 4 [(3, .int (iI ((0 : Nat) : Int))), (2, .int (iI (m_cnt (fun j => !m_agn g j au) 0))), (0, .ref (a 0)), (1, .int (iI au))] := hl
  exact loop4 ((g 0 0 5).toNat) 0 H locs ls (by omega) hP hS hl
set_option maxHeartbeats 4000000 in
set_option maxRecDepth 100000 in
theorem c_hasMarksEnough (l : Launch) (D : va_G) (a : Nat → Nat) (cH cB cJ cI : ClassId) (ha : pj a) (g : m_St) (vt : Nat → Int32) (sz : Nat) (bb : Int) (hWf : Wf g) (hbb : 0 ≤ bb ∧ bb < 16) : Met l yX4_hasMarksEnough (wc yX4_hasMarksEnough cX4_hasMarksEnough 3 (some .boolean)) ({ frames := 3, cells := 0, slots := 0, locals := 66 }) (va_Pc [.ref (a 0), .int (iI bb)] (pS D a cH cB cJ cI sz g vt)) (va_Qi (fun (r : Int32) (_ : Unit) => r = bi (m_marksEnough g bb)) (fun _ _ => True) (fun q => sz ≤ q)) 0 0 (fun q => sz ≤ q) := by
  refine Met.ofW (cc := cX4_hasMarksEnough) (maxL := 3) (ret := (some .boolean)) (by decide +kernel) rfl ?_
  intro p e s m args below meth c s₁ B9 hml hv
  obtain ⟨rfl, hsz, hP, hK, hE⟩ := hv
  have hx := B9.exec
  have hb := B9.bytes
  have hr := B9.returns
  have hts := atoms_spec (ws := (wc yX4_hasMarksEnough cX4_hasMarksEnough 3 (some .boolean))) B9.pre
  have hw : ∀ w ∈ wsL_law0, w.before [.ref (a 0), .int (iI bb)].toArray s = true := fun w h => hts w (List.mem_cons_of_mem _ h)
  have hown : s.vm.findClass RX4 = some m.cls := findClass_of_methodNamed B9.named
  subst hsz
  have hS : va_S (fun q => s.heap.size ≤ q) s.heap s.heap [] := va_S.rf
  have hA : ∀ q : Nat, s.heap.size ≤ q → (fun q : Nat => s.heap.size ≤ q) q := fun _ h => h
  have hl := lv_entry ([.ref (a 0), .int (iI bb)]) (n := 3) (Nat.le_of_ble_eq_true rfl)
  rw [lg_entry_eq]
  generalize (lg_sl ([.ref (a 0), .int (iI bb)]) ++ List.replicate (3 - (lg_sl ([.ref (a 0), .int (iI bb)])).length) Slot.unset).toArray = ls at hl ⊢
  have hl : lv_has ls 3 [(0, .ref (a 0)), (1, .int (iI bb))] := hl
  suffices h9 : ∀ (H : Heap) (locs : List Loc), va_P D vwCl (pw a cH cB cJ cI g vt) H → va_S (fun q => s.heap.size ≤ q) s.heap H locs → W p l e (headSpec (wc yX4_hasMarksEnough cX4_hasMarksEnough 3 (some .boolean)) ({ frames := 3, cells := 0, slots := 0, locals := 66 })).room s m [.ref (a 0), .int (iI bb)].toArray below meth c H locs 0 0 (MQ below (va_Qi (fun (r : Int32) (_ : Unit) => r = bi (m_marksEnough g bb)) (fun _ _ => True) (fun q => s.heap.size ≤ q)) [.ref (a 0), .int (iI bb)].toArray s 0 0 (fun q => s.heap.size ≤ q)) (F0 m 0 ls []) from h9 s.heap [] hP hS
  clear hP hS
  intro H locs hP hS
  refine lv_aload_n hx hb dX4_hasMarksEnough_0 rfl (lv_at hl 0 rfl) ?_
  refine lv_iload_n hx hb dX4_hasMarksEnough_1 rfl (lv_at hl 1 rfl) ?_
  refine va_calli (va_runV (As := [.int (iI bb)]) (rest := []) ⟨hx, hb, hml, hown, hw⟩ (c_fairMarksOf l D a cH cB cJ cI ha g vt H.size bb hWf (by omega)) (cwV 1 hw (gA_V kw_253 kw_254 kw_255 kw_2 kw_256) rfl rfl rfl (by decide +kernel) ⟨Nat.le_of_ble_eq_true rfl, Nat.le_of_ble_eq_true rfl⟩) (pS_v (ci := 4) (q0 := 0) rfl pw_0 hP hK hE) rfl rfl hl.1 rfl (lv_room (Nat.le_of_ble_eq_true rfl)) dX4_hasMarksEnough_2 ⟨Nat.le_of_ble_eq_true rfl, Nat.le_of_ble_eq_true rfl⟩) hS (fun q h1 h2 => ro_A h1 h2) (fun q h => ro_F hS hA q h) (fun r u t H1 locs ht hvm hw9 hB9 hz1 hk1 hS => ?_)
  have hw9 : r = (iI (m_fairCount g bb)) := hw9
  subst hw9
  have hP := ro_P hP hk1
  generalize H1 = H at hP hS ⊢
  have s1 := cnt5 hWf (fun j => m_fair g j bb)
  have s2 := (show 0 ≤ m_fairCount g bb ∧ m_fairCount g bb ≤ 5 from cnt5 hWf (fun j => m_fair g j bb))
  refine lv_istore_n (lv' := [(2, .int (iI (m_fairCount g bb))), (0, .ref (a 0)), (1, .int (iI bb))]) hx hb dX4_hasMarksEnough_5 rfl hl (by decide) rfl (fun ls hl => ?_)
  refine lv_iload_n hx hb dX4_hasMarksEnough_6 rfl (lv_at hl 0 rfl) ?_
  refine lv_iconst (v := iI 2) hx hb dX4_hasMarksEnough_7 (by decide) ?_
  refine n_icmp_ge hx hb (by unfold RI; omega) (by unfold RI; omega) (tgt := 33) dX4_hasMarksEnough_8 (by decide) (fun h3 => ?_) (fun h3 => ?_)
  · skip
    refine lv_iconst (v := iI 1) hx hb dX4_hasMarksEnough_33 (by decide) ?_
    refine lv_goto (tgt := 38) hx hb dX4_hasMarksEnough_34 (by decide) ?_
    exact W.zret (v := (iI 1)) (ty := .boolean) hx hb hr (by decide +kernel) (fun t ht hW9 => ⟨⟨(iI 1), (), rfl, (show iI 1 = bi (m_marksEnough g bb) from by rw [show (m_marksEnough g bb) = true from by simp only [m_marksEnough]; simp [h3, Int.not_lt.mpr h3]; try omega]; rfl), trivial⟩, hS.F ht⟩) hS.2.2 dX4_hasMarksEnough_38
  · skip
    refine lv_iload_n hx hb dX4_hasMarksEnough_11 rfl (lv_at hl 0 rfl) ?_
    refine lv_iconst (v := iI 1) hx hb dX4_hasMarksEnough_12 (by decide) ?_
    refine n_icmp_ne hx hb (by unfold RI; omega) (by unfold RI; omega) (tgt := 37) dX4_hasMarksEnough_13 (by decide) (fun h4 => ?_) (fun h4 => ?_)
    · skip
      refine lv_iconst (v := iI 0) hx hb dX4_hasMarksEnough_37 (by decide) ?_
      exact W.zret (v := (iI 0)) (ty := .boolean) hx hb hr (by decide +kernel) (fun t ht hW9 => ⟨⟨(iI 0), (), rfl, (show iI 0 = bi (m_marksEnough g bb) from by rw [show (m_marksEnough g bb) = false from by simp only [m_marksEnough]; simp [h3, Int.not_le.mpr h3, h4, beq_false_of_ne h4]; try omega]; rfl), trivial⟩, hS.F ht⟩) hS.2.2 dX4_hasMarksEnough_38
    · skip
      refine lv_aload_n hx hb dX4_hasMarksEnough_16 rfl (lv_at hl 1 rfl) ?_
      refine lv_aload_n hx hb dX4_hasMarksEnough_17 rfl (lv_at hl 1 rfl) ?_
      refine va_get (D := D) (ci := 4) (v := .ref (a 2)) (C := RX4) (T := TX4) (N := 19) hx hb hw hin_wsX40 hown hK hP 0 pw_0 rfl 1 (by decide) (hw _ kw_17) (fun _ h9 => h9) rfl dX4_hasMarksEnough_18 ?_
      refine lv_iload_n hx hb dX4_hasMarksEnough_21 rfl (lv_at hl 2 rfl) ?_
      refine p_aldB hx hb hK hP (k := bb) (by omega) (by omega) dX4_hasMarksEnough_22 ?_
      have s5 := Wf.b1 hWf (k := bb) (by omega) (by omega)
      refine va_get (D := D) (ci := 0) (v := .int (iI (g 2 bb 1))) (C := RX0) (T := TX0) (N := 11) hx hb hw hin_wsX00 hown hK hP (12 + bb.toNat) (pw_B (b := bb) (by omega) (by omega)) rfl 1 (by decide) (hw _ kw_211) (fun _ h9 => h9) rfl dX4_hasMarksEnough_23 ?_
      refine va_calli (va_runV (As := [.int (iI (g 2 bb 1))]) (rest := []) ⟨hx, hb, hml, hown, hw⟩ (c_fairJudgesOf l D a cH cB cJ cI ha g vt H.size (g 2 bb 1) hWf (by omega)) (cwV 1 hw (gA_V kw_354 kw_355 kw_356 kw_2 kw_357) rfl rfl rfl (by decide +kernel) ⟨Nat.le_of_ble_eq_true rfl, Nat.le_of_ble_eq_true rfl⟩) (pS_v (ci := 4) (q0 := 0) rfl pw_0 hP hK hE) rfl rfl hl.1 rfl (lv_room (Nat.le_of_ble_eq_true rfl)) dX4_hasMarksEnough_26 ⟨Nat.le_of_ble_eq_true rfl, Nat.le_of_ble_eq_true rfl⟩) hS (fun q h1 h2 => ro_A h1 h2) (fun q h => ro_F hS hA q h) (fun r u t H1 locs ht hvm hw9 hB9 hz1 hk1 hS => ?_)
      have hw9 : r = (iI (m_fairJudges g (g 2 bb 1))) := hw9
      subst hw9
      have hP := ro_P hP hk1
      generalize H1 = H at hP hS ⊢
      have s6 := (show 0 ≤ m_fairJudges g (g 2 bb 1) ∧ m_fairJudges g (g 2 bb 1) ≤ 5 from cnt5 hWf _)
      refine lv_iconst (v := iI 1) hx hb dX4_hasMarksEnough_29 (by decide) ?_
      refine n_icmp_ne hx hb (by unfold RI; omega) (by unfold RI; omega) (tgt := 37) dX4_hasMarksEnough_30 (by decide) (fun h7 => ?_) (fun h7 => ?_)
      · skip
        refine lv_iconst (v := iI 0) hx hb dX4_hasMarksEnough_37 (by decide) ?_
        exact W.zret (v := (iI 0)) (ty := .boolean) hx hb hr (by decide +kernel) (fun t ht hW9 => ⟨⟨(iI 0), (), rfl, (show iI 0 = bi (m_marksEnough g bb) from by rw [show (m_marksEnough g bb) = false from by simp only [m_marksEnough]; simp [h3, Int.not_le.mpr h3, h4, h7, beq_false_of_ne h7]; try omega]; rfl), trivial⟩, hS.F ht⟩) hS.2.2 dX4_hasMarksEnough_38
      · skip
        refine lv_iconst (v := iI 1) hx hb dX4_hasMarksEnough_33 (by decide) ?_
        refine lv_goto (tgt := 38) hx hb dX4_hasMarksEnough_34 (by decide) ?_
        exact W.zret (v := (iI 1)) (ty := .boolean) hx hb hr (by decide +kernel) (fun t ht hW9 => ⟨⟨(iI 1), (), rfl, (show iI 1 = bi (m_marksEnough g bb) from by rw [show (m_marksEnough g bb) = true from by simp only [m_marksEnough]; simp [h3, Int.not_le.mpr h3, h4, h7]; try omega]; rfl), trivial⟩, hS.F ht⟩) hS.2.2 dX4_hasMarksEnough_38
set_option maxHeartbeats 4000000 in
set_option maxRecDepth 100000 in
theorem c_pagesLeft (l : Launch) (D : va_G) (a : Nat → Nat) (cH cB cJ cI : ClassId) (ha : pj a) (g : m_St) (vt : Nat → Int32) (sz : Nat) (jj : Int) (hWf : Wf g) (hjj : 0 ≤ jj ∧ jj < 5) : Met l yX2_pagesLeft (wc yX2_pagesLeft cX2_pagesLeft 1 (some .int)) ({ frames := 0, cells := 0, slots := 0, locals := 0 }) (va_Pc [.ref (a (28 + 6 * jj.toNat))] (pS D a cH cB cJ cI sz g vt)) (va_Qi (fun (r : Int32) (_ : Unit) => r = iI (m_pagesLeft g jj)) (fun _ _ => True) (fun q => sz ≤ q)) 0 0 (fun q => sz ≤ q) := by
  refine Met.ofW (cc := cX2_pagesLeft) (maxL := 1) (ret := (some .int)) (by decide +kernel) rfl ?_
  intro p e s m args below meth c s₁ B9 hml hv
  obtain ⟨rfl, hsz, hP, hK, hE⟩ := hv
  have hx := B9.exec
  have hb := B9.bytes
  have hr := B9.returns
  have hts := atoms_spec (ws := (wc yX2_pagesLeft cX2_pagesLeft 1 (some .int))) B9.pre
  have hw : ∀ w ∈ wsL_law0, w.before [.ref (a (28 + 6 * jj.toNat))].toArray s = true := fun w h => hts w (List.mem_cons_of_mem _ h)
  have hown : s.vm.findClass RX2 = some m.cls := findClass_of_methodNamed B9.named
  subst hsz
  have hS : va_S (fun q => s.heap.size ≤ q) s.heap s.heap [] := va_S.rf
  have hA : ∀ q : Nat, s.heap.size ≤ q → (fun q : Nat => s.heap.size ≤ q) q := fun _ h => h
  have hl := lv_entry ([.ref (a (28 + 6 * jj.toNat))]) (n := 1) (Nat.le_of_ble_eq_true rfl)
  rw [lg_entry_eq]
  generalize (lg_sl ([.ref (a (28 + 6 * jj.toNat))]) ++ List.replicate (1 - (lg_sl ([.ref (a (28 + 6 * jj.toNat))])).length) Slot.unset).toArray = ls at hl ⊢
  have hl : lv_has ls 1 [(0, .ref (a (28 + 6 * jj.toNat)))] := hl
  suffices h9 : ∀ (H : Heap) (locs : List Loc), va_P D vwCl (pw a cH cB cJ cI g vt) H → va_S (fun q => s.heap.size ≤ q) s.heap H locs → W p l e (headSpec (wc yX2_pagesLeft cX2_pagesLeft 1 (some .int)) ({ frames := 0, cells := 0, slots := 0, locals := 0 })).room s m [.ref (a (28 + 6 * jj.toNat))].toArray below meth c H locs 0 0 (MQ below (va_Qi (fun (r : Int32) (_ : Unit) => r = iI (m_pagesLeft g jj)) (fun _ _ => True) (fun q => s.heap.size ≤ q)) [.ref (a (28 + 6 * jj.toNat))].toArray s 0 0 (fun q => s.heap.size ≤ q)) (F0 m 0 ls []) from h9 s.heap [] hP hS
  clear hP hS
  intro H locs hP hS
  refine lv_aload_n hx hb dX2_pagesLeft_0 rfl (lv_at hl 0 rfl) ?_
  have s1 := Wf.j8 hWf (k := jj) (by omega) (by omega)
  refine va_get (D := D) (ci := 2) (v := .int (iI (g 3 jj 8))) (C := RX2) (T := TX2) (N := 16) hx hb hw hin_wsX20 hown hK hP (28 + 6 * jj.toNat) (pw_J (j := jj) (by omega) (by omega)) rfl 8 (by decide) (hw _ kw_186) (fun _ h9 => h9) rfl dX2_pagesLeft_1 ?_
  refine lv_aload_n hx hb dX2_pagesLeft_4 rfl (lv_at hl 0 rfl) ?_
  have s2 := Wf.j10 hWf (k := jj) (by omega) (by omega)
  refine va_get (D := D) (ci := 2) (v := .int (iI (g 3 jj 10))) (C := RX2) (T := TX2) (N := 16) hx hb hw hin_wsX20 hown hK hP (28 + 6 * jj.toNat) (pw_J (j := jj) (by omega) (by omega)) rfl 10 (by decide) (hw _ kw_187) (fun _ h9 => h9) rfl dX2_pagesLeft_5 ?_
  refine n_sub hx hb dX2_pagesLeft_8 ?_
  exact W.iret (v := (iI (g 3 jj 8 - g 3 jj 10))) hx hb hr (fun t ht hW9 => ⟨⟨(iI (g 3 jj 8 - g 3 jj 10)), (), rfl, (congrArg iI (by rfl)), trivial⟩, hS.F ht⟩) hS.2.2 dX2_pagesLeft_9
set_option maxHeartbeats 4000000 in
set_option maxRecDepth 100000 in
theorem c_paceAfter (l : Launch) (D : va_G) (a : Nat → Nat) (cH cB cJ cI : ClassId) (ha : pj a) (g : m_St) (vt : Nat → Int32) (sz : Nat) (jj : Int) (pp : Int) (hWf : Wf g) (hjj : 0 ≤ jj ∧ jj < 5) (hpp : 0 ≤ pp ∧ pp ≤ 1000000) : Met l yX2_paceAfter (wc yX2_paceAfter cX2_paceAfter 2 (some .int)) ({ frames := 1, cells := 0, slots := 0, locals := 13 }) (va_Pc [.ref (a (28 + 6 * jj.toNat)), .int (iI pp)] (pS D a cH cB cJ cI sz g vt)) (va_Qi (fun (r : Int32) (_ : Unit) => r = iI (m_pace (g 3 jj 0) pp)) (fun _ _ => True) (fun q => sz ≤ q)) 0 0 (fun q => sz ≤ q) := by
  refine Met.ofW (cc := cX2_paceAfter) (maxL := 2) (ret := (some .int)) (by decide +kernel) rfl ?_
  intro p e s m args below meth c s₁ B9 hml hv
  obtain ⟨rfl, hsz, hP, hK, hE⟩ := hv
  have hx := B9.exec
  have hb := B9.bytes
  have hr := B9.returns
  have hts := atoms_spec (ws := (wc yX2_paceAfter cX2_paceAfter 2 (some .int))) B9.pre
  have hw : ∀ w ∈ wsL_law0, w.before [.ref (a (28 + 6 * jj.toNat)), .int (iI pp)].toArray s = true := fun w h => hts w (List.mem_cons_of_mem _ h)
  have hown : s.vm.findClass RX2 = some m.cls := findClass_of_methodNamed B9.named
  subst hsz
  have hS : va_S (fun q => s.heap.size ≤ q) s.heap s.heap [] := va_S.rf
  have hA : ∀ q : Nat, s.heap.size ≤ q → (fun q : Nat => s.heap.size ≤ q) q := fun _ h => h
  have hl := lv_entry ([.ref (a (28 + 6 * jj.toNat)), .int (iI pp)]) (n := 2) (Nat.le_of_ble_eq_true rfl)
  rw [lg_entry_eq]
  generalize (lg_sl ([.ref (a (28 + 6 * jj.toNat)), .int (iI pp)]) ++ List.replicate (2 - (lg_sl ([.ref (a (28 + 6 * jj.toNat)), .int (iI pp)])).length) Slot.unset).toArray = ls at hl ⊢
  have hl : lv_has ls 2 [(0, .ref (a (28 + 6 * jj.toNat))), (1, .int (iI pp))] := hl
  suffices h9 : ∀ (H : Heap) (locs : List Loc), va_P D vwCl (pw a cH cB cJ cI g vt) H → va_S (fun q => s.heap.size ≤ q) s.heap H locs → W p l e (headSpec (wc yX2_paceAfter cX2_paceAfter 2 (some .int)) ({ frames := 1, cells := 0, slots := 0, locals := 13 })).room s m [.ref (a (28 + 6 * jj.toNat)), .int (iI pp)].toArray below meth c H locs 0 0 (MQ below (va_Qi (fun (r : Int32) (_ : Unit) => r = iI (m_pace (g 3 jj 0) pp)) (fun _ _ => True) (fun q => s.heap.size ≤ q)) [.ref (a (28 + 6 * jj.toNat)), .int (iI pp)].toArray s 0 0 (fun q => s.heap.size ≤ q)) (F0 m 0 ls []) from h9 s.heap [] hP hS
  clear hP hS
  intro H locs hP hS
  refine lv_bipush (v := iI 10) hx hb dX2_paceAfter_0 (by decide) ?_
  refine lv_aload_n hx hb dX2_paceAfter_2 rfl (lv_at hl 0 rfl) ?_
  have s1 := Wf.j0 hWf (k := jj) (by omega) (by omega)
  refine va_get (D := D) (ci := 2) (v := .int (iI (g 3 jj 0))) (C := RX2) (T := TX2) (N := 16) hx hb hw hin_wsX20 hown hK hP (28 + 6 * jj.toNat) (pw_J (j := jj) (by omega) (by omega)) rfl 0 (by decide) (hw _ kw_89) (fun _ h9 => h9) rfl dX2_paceAfter_3 ?_
  refine lv_iconst (v := iI 5) hx hb dX2_paceAfter_6 (by decide) ?_
  refine lv_iload_n hx hb dX2_paceAfter_7 rfl (lv_at hl 1 rfl) ?_
  refine lv_sipush (v := iI 500) hx hb dX2_paceAfter_8 (by decide) ?_
  refine n_div hx hb (by unfold RI; omega) (by unfold RI; omega) (by omega) dX2_paceAfter_11 ?_
  have f2 := tdiv_b (x := pp) (by omega)
  refine n_mul hx hb dX2_paceAfter_12 ?_
  refine n_sub hx hb dX2_paceAfter_13 ?_
  refine va_mmax hx hb (hml.trans hl.1.symm) hown (hw _ kw_315) (hw _ kw_5) (hw _ kw_6) (hw _ kw_7) (Nat.le_of_ble_eq_true rfl) (Nat.le_of_ble_eq_true rfl) (Nat.le_of_ble_eq_true rfl) (Nat.le_of_ble_eq_true rfl) dX2_paceAfter_14 ?_
  rw [n_max (by unfold RI; omega) (by unfold RI; omega)]
  exact W.iret (v := (iI (max 10 (g 3 jj 0 - (5 * (pp.tdiv 500)))))) hx hb hr (fun t ht hW9 => ⟨⟨(iI (max 10 (g 3 jj 0 - (5 * (pp.tdiv 500))))), (), rfl, (congrArg iI (by rfl)), trivial⟩, hS.F ht⟩) hS.2.2 dX2_paceAfter_17
set_option maxHeartbeats 4000000 in
set_option maxRecDepth 100000 in
theorem c_markFor (l : Launch) (D : va_G) (a : Nat → Nat) (cH cB cJ cI : ClassId) (ha : pj a) (g : m_St) (vt : Nat → Int32) (sz : Nat) (jj : Int) (bb : Int) (hWf : Wf g) (hjj : 0 ≤ jj ∧ jj < 5) (hbb : 0 ≤ bb ∧ bb < 16) : Met l yX2_markFor (wc yX2_markFor cX2_markFor 3 (some .int)) ({ frames := 1, cells := 0, slots := 0, locals := 15 }) (va_Pc [.ref (a (28 + 6 * jj.toNat)), .ref (a (12 + bb.toNat))] (pS D a cH cB cJ cI sz g vt)) (va_Qi (fun (r : Int32) (_ : Unit) => r = iI (m_markFor g jj bb)) (fun _ _ => True) (fun q => sz ≤ q)) 0 0 (fun q => sz ≤ q) := by
  refine Met.ofW (cc := cX2_markFor) (maxL := 3) (ret := (some .int)) (by decide +kernel) rfl ?_
  intro p e s m args below meth c s₁ B9 hml hv
  obtain ⟨rfl, hsz, hP, hK, hE⟩ := hv
  have hx := B9.exec
  have hb := B9.bytes
  have hr := B9.returns
  have hts := atoms_spec (ws := (wc yX2_markFor cX2_markFor 3 (some .int))) B9.pre
  have hw : ∀ w ∈ wsL_law0, w.before [.ref (a (28 + 6 * jj.toNat)), .ref (a (12 + bb.toNat))].toArray s = true := fun w h => hts w (List.mem_cons_of_mem _ h)
  have hown : s.vm.findClass RX2 = some m.cls := findClass_of_methodNamed B9.named
  subst hsz
  have hS : va_S (fun q => s.heap.size ≤ q) s.heap s.heap [] := va_S.rf
  have hA : ∀ q : Nat, s.heap.size ≤ q → (fun q : Nat => s.heap.size ≤ q) q := fun _ h => h
  have hl := lv_entry ([.ref (a (28 + 6 * jj.toNat)), .ref (a (12 + bb.toNat))]) (n := 3) (Nat.le_of_ble_eq_true rfl)
  rw [lg_entry_eq]
  generalize (lg_sl ([.ref (a (28 + 6 * jj.toNat)), .ref (a (12 + bb.toNat))]) ++ List.replicate (3 - (lg_sl ([.ref (a (28 + 6 * jj.toNat)), .ref (a (12 + bb.toNat))])).length) Slot.unset).toArray = ls at hl ⊢
  have hl : lv_has ls 3 [(0, .ref (a (28 + 6 * jj.toNat))), (1, .ref (a (12 + bb.toNat)))] := hl
  suffices h9 : ∀ (H : Heap) (locs : List Loc), va_P D vwCl (pw a cH cB cJ cI g vt) H → va_S (fun q => s.heap.size ≤ q) s.heap H locs → W p l e (headSpec (wc yX2_markFor cX2_markFor 3 (some .int)) ({ frames := 1, cells := 0, slots := 0, locals := 15 })).room s m [.ref (a (28 + 6 * jj.toNat)), .ref (a (12 + bb.toNat))].toArray below meth c H locs 0 0 (MQ below (va_Qi (fun (r : Int32) (_ : Unit) => r = iI (m_markFor g jj bb)) (fun _ _ => True) (fun q => s.heap.size ≤ q)) [.ref (a (28 + 6 * jj.toNat)), .ref (a (12 + bb.toNat))].toArray s 0 0 (fun q => s.heap.size ≤ q)) (F0 m 0 ls []) from h9 s.heap [] hP hS
  clear hP hS
  intro H locs hP hS
  refine lv_aload_n hx hb dX2_markFor_0 rfl (lv_at hl 1 rfl) ?_
  have s1 := Wf.b4 hWf (k := bb) (by omega) (by omega)
  refine va_get (D := D) (ci := 0) (v := .int (iI (g 2 bb 4))) (C := RX0) (T := TX0) (N := 11) hx hb hw hin_wsX00 hown hK hP (12 + bb.toNat) (pw_B (b := bb) (by omega) (by omega)) rfl 4 (by decide) (hw _ kw_489) (fun _ h9 => h9) rfl dX2_markFor_1 ?_
  refine lv_aload_n hx hb dX2_markFor_4 rfl (lv_at hl 0 rfl) ?_
  have s2 := Wf.j2 hWf (k := jj) (by omega) (by omega)
  refine va_get (D := D) (ci := 2) (v := .int (iI (g 3 jj 2))) (C := RX2) (T := TX2) (N := 16) hx hb hw hin_wsX20 hown hK hP (28 + 6 * jj.toNat) (pw_J (j := jj) (by omega) (by omega)) rfl 2 (by decide) (hw _ kw_91) (fun _ h9 => h9) rfl dX2_markFor_5 ?_
  refine n_add hx hb dX2_markFor_8 ?_
  refine lv_bipush (v := iI 10) hx hb dX2_markFor_9 (by decide) ?_
  refine n_add hx hb dX2_markFor_11 ?_
  refine lv_iconst (v := iI 2) hx hb dX2_markFor_12 (by decide) ?_
  refine lv_aload_n hx hb dX2_markFor_13 rfl (lv_at hl 0 rfl) ?_
  have s3 := Wf.j1 hWf (k := jj) (by omega) (by omega)
  refine va_get (D := D) (ci := 2) (v := .int (iI (g 3 jj 1))) (C := RX2) (T := TX2) (N := 16) hx hb hw hin_wsX20 hown hK hP (28 + 6 * jj.toNat) (pw_J (j := jj) (by omega) (by omega)) rfl 1 (by decide) (hw _ kw_90) (fun _ h9 => h9) rfl dX2_markFor_14 ?_
  refine lv_aload_n hx hb dX2_markFor_17 rfl (lv_at hl 1 rfl) ?_
  have s4 := Wf.b5 hWf (k := bb) (by omega) (by omega)
  refine va_get (D := D) (ci := 0) (v := .int (iI (g 2 bb 5))) (C := RX0) (T := TX0) (N := 11) hx hb hw hin_wsX00 hown hK hP (12 + bb.toNat) (pw_B (b := bb) (by omega) (by omega)) rfl 5 (by decide) (hw _ kw_490) (fun _ h9 => h9) rfl dX2_markFor_18 ?_
  refine n_sub hx hb dX2_markFor_21 ?_
  refine va_mabs hx hb (hml.trans hl.1.symm) hown (hw _ kw_491) (hw _ kw_492) (hw _ kw_6) (hw _ kw_493) (Nat.le_of_ble_eq_true rfl) (Nat.le_of_ble_eq_true rfl) (Nat.le_of_ble_eq_true rfl) (Nat.le_of_ble_eq_true rfl) dX2_markFor_22 ?_
  rw [n_abs (by unfold RI; omega)]
  refine n_mul hx hb dX2_markFor_25 ?_
  refine n_sub hx hb dX2_markFor_26 ?_
  refine lv_istore_n (lv' := [(2, .int (iI (((g 2 bb 4 + g 3 jj 2) + 10) - (2 * (((g 3 jj 1 - g 2 bb 5)).natAbs : Int))))), (0, .ref (a (28 + 6 * jj.toNat))), (1, .ref (a (12 + bb.toNat)))]) hx hb dX2_markFor_27 rfl hl (by decide) rfl (fun ls hl => ?_)
  refine lv_iconst (v := iI 0) hx hb dX2_markFor_28 (by decide) ?_
  refine lv_bipush (v := iI 99) hx hb dX2_markFor_29 (by decide) ?_
  refine lv_iload_n hx hb dX2_markFor_31 rfl (lv_at hl 0 rfl) ?_
  refine va_mmin hx hb (hml.trans hl.1.symm) hown (hw _ kw_483) (hw _ kw_275) (hw _ kw_6) (hw _ kw_276) (Nat.le_of_ble_eq_true rfl) (Nat.le_of_ble_eq_true rfl) (Nat.le_of_ble_eq_true rfl) (Nat.le_of_ble_eq_true rfl) dX2_markFor_32 ?_
  rw [n_min (by unfold RI; omega) (by unfold RI; omega)]
  refine va_mmax hx hb (hml.trans hl.1.symm) hown (hw _ kw_315) (hw _ kw_5) (hw _ kw_6) (hw _ kw_7) (Nat.le_of_ble_eq_true rfl) (Nat.le_of_ble_eq_true rfl) (Nat.le_of_ble_eq_true rfl) (Nat.le_of_ble_eq_true rfl) dX2_markFor_35 ?_
  rw [n_max (by unfold RI; omega) (by unfold RI; omega)]
  exact W.iret (v := (iI (max 0 (min 99 (((g 2 bb 4 + g 3 jj 2) + 10) - (2 * (((g 3 jj 1 - g 2 bb 5)).natAbs : Int))))))) hx hb hr (fun t ht hW9 => ⟨⟨(iI (max 0 (min 99 (((g 2 bb 4 + g 3 jj 2) + 10) - (2 * (((g 3 jj 1 - g 2 bb 5)).natAbs : Int)))))), (), rfl, (congrArg iI (by rfl)), trivial⟩, hS.F ht⟩) hS.2.2 dX2_markFor_38
set_option maxHeartbeats 4000000 in
set_option maxRecDepth 100000 in
theorem c_pointsLeft (l : Launch) (D : va_G) (a : Nat → Nat) (cH cB cJ cI : ClassId) (ha : pj a) (g : m_St) (vt : Nat → Int32) (sz : Nat) (jj : Int) (hWf : Wf g) (hjj : 0 ≤ jj ∧ jj < 5) : Met l yX2_pointsLeft (wc yX2_pointsLeft cX2_pointsLeft 3 (some .int)) ({ frames := 0, cells := 0, slots := 0, locals := 0 }) (va_Pc [.ref (a (28 + 6 * jj.toNat))] (pS D a cH cB cJ cI sz g vt)) (va_Qi (fun (r : Int32) (_ : Unit) => r = iI (m_ptsLeft g jj)) (fun _ _ => True) (fun q => sz ≤ q)) 0 0 (fun q => sz ≤ q) := by
  refine Met.ofW (cc := cX2_pointsLeft) (maxL := 3) (ret := (some .int)) (by decide +kernel) rfl ?_
  intro p e s m args below meth c s₁ B9 hml hv
  obtain ⟨rfl, hsz, hP, hK, hE⟩ := hv
  have hx := B9.exec
  have hb := B9.bytes
  have hr := B9.returns
  have hts := atoms_spec (ws := (wc yX2_pointsLeft cX2_pointsLeft 3 (some .int))) B9.pre
  have hw : ∀ w ∈ wsL_law0, w.before [.ref (a (28 + 6 * jj.toNat))].toArray s = true := fun w h => hts w (List.mem_cons_of_mem _ h)
  have hown : s.vm.findClass RX2 = some m.cls := findClass_of_methodNamed B9.named
  subst hsz
  have hS : va_S (fun q => s.heap.size ≤ q) s.heap s.heap [] := va_S.rf
  have hA : ∀ q : Nat, s.heap.size ≤ q → (fun q : Nat => s.heap.size ≤ q) q := fun _ h => h
  have hl := lv_entry ([.ref (a (28 + 6 * jj.toNat))]) (n := 3) (Nat.le_of_ble_eq_true rfl)
  rw [lg_entry_eq]
  generalize (lg_sl ([.ref (a (28 + 6 * jj.toNat))]) ++ List.replicate (3 - (lg_sl ([.ref (a (28 + 6 * jj.toNat))])).length) Slot.unset).toArray = ls at hl ⊢
  have hl : lv_has ls 3 [(0, .ref (a (28 + 6 * jj.toNat)))] := hl
  suffices h9 : ∀ (H : Heap) (locs : List Loc), va_P D vwCl (pw a cH cB cJ cI g vt) H → va_S (fun q => s.heap.size ≤ q) s.heap H locs → W p l e (headSpec (wc yX2_pointsLeft cX2_pointsLeft 3 (some .int)) ({ frames := 0, cells := 0, slots := 0, locals := 0 })).room s m [.ref (a (28 + 6 * jj.toNat))].toArray below meth c H locs 0 0 (MQ below (va_Qi (fun (r : Int32) (_ : Unit) => r = iI (m_ptsLeft g jj)) (fun _ _ => True) (fun q => s.heap.size ≤ q)) [.ref (a (28 + 6 * jj.toNat))].toArray s 0 0 (fun q => s.heap.size ≤ q)) (F0 m 0 ls []) from h9 s.heap [] hP hS
  clear hP hS
  intro H locs hP hS
  refine lv_bipush (v := iI 12) hx hb dX2_pointsLeft_0 (by decide) ?_
  refine lv_istore_n (lv' := [(1, .int (iI 12)), (0, .ref (a (28 + 6 * jj.toNat)))]) hx hb dX2_pointsLeft_2 rfl hl (by decide) rfl (fun ls hl => ?_)
  refine lv_iconst (v := iI 0) hx hb dX2_pointsLeft_3 (by decide) ?_
  refine lv_istore_n (lv' := [(2, .int (iI 0)), (1, .int (iI 12)), (0, .ref (a (28 + 6 * jj.toNat)))]) hx hb dX2_pointsLeft_4 rfl hl (by decide) rfl (fun ls hl => ?_)
  have loop5 : ∀ (d n : Nat) (H : Heap) (locs : List Loc) (ls : Array Slot), n + d = 16 → va_P D vwCl (pw a cH cB cJ cI g vt) H → va_S (fun q => s.heap.size ≤ q) s.heap H locs → lv_has ls 3 [(2, .int (iI ((n : Nat) : Int))), (1, .int (iI (12 - m_sm (fun b => g 7 jj b) n))), (0, .ref (a (28 + 6 * jj.toNat)))] → W p l e (headSpec (wc yX2_pointsLeft cX2_pointsLeft 3 (some .int)) ({ frames := 0, cells := 0, slots := 0, locals := 0 })).room s m [.ref (a (28 + 6 * jj.toNat))].toArray below meth c H locs 0 0 (MQ below (va_Qi (fun (r : Int32) (_ : Unit) => r = iI (m_ptsLeft g jj)) (fun _ _ => True) (fun q => s.heap.size ≤ q)) [.ref (a (28 + 6 * jj.toNat))].toArray s 0 0 (fun q => s.heap.size ≤ q)) (F0 m 5 ls []) := by
    intro d
    induction d with
    | zero =>
      intro n H locs ls hn hP hS hl
      obtain rfl : n = 16 := by omega
      refine lv_iload_n hx hb dX2_pointsLeft_5 rfl (lv_at hl 0 rfl) ?_
      refine lv_bipush (v := iI 16) hx hb dX2_pointsLeft_6 (by decide) ?_
      refine n_icmp_ge hx hb (by unfold RI; omega) (by unfold RI; omega) (tgt := 26) dX2_pointsLeft_8 (by decide) (fun h1 => ?_) (fun h1 => absurd h1 (by intro h1; omega))
      refine lv_iload_n hx hb dX2_pointsLeft_26 rfl (lv_at hl 1 rfl) ?_
      exact W.iret (v := (iI (12 - m_sm (fun b => g 7 jj b) 16))) hx hb hr (fun t ht hW9 => ⟨⟨(iI (12 - m_sm (fun b => g 7 jj b) 16)), (), rfl, (congrArg iI (by rfl)), trivial⟩, hS.F ht⟩) hS.2.2 dX2_pointsLeft_27
    | succ d ih5 =>
      intro n H locs ls hn hP hS hl
      refine lv_iload_n hx hb dX2_pointsLeft_5 rfl (lv_at hl 0 rfl) ?_
      refine lv_bipush (v := iI 16) hx hb dX2_pointsLeft_6 (by decide) ?_
      refine n_icmp_ge hx hb (by unfold RI; omega) (by unfold RI; omega) (tgt := 26) dX2_pointsLeft_8 (by decide) (fun h2 => absurd h2 (by intro h2; omega)) (fun h2 => ?_)
      refine lv_iload_n hx hb dX2_pointsLeft_11 rfl (lv_at hl 1 rfl) ?_
      refine lv_aload_n hx hb dX2_pointsLeft_12 rfl (lv_at hl 2 rfl) ?_
      refine va_get (D := D) (ci := 2) (v := .ref (a (28 + 4 + 6 * jj.toNat))) (C := RX2) (T := TX2) (N := 16) hx hb hw hin_wsX20 hown hK hP (28 + 6 * jj.toNat) (pw_J (j := jj) (by omega) (by omega)) rfl 13 (by decide) (hw _ kw_57) (fun _ h9 => h9) rfl dX2_pointsLeft_13 ?_
      refine lv_iload_n hx hb dX2_pointsLeft_16 rfl (lv_at hl 0 rfl) ?_
      refine p_rd hx hb hK hP (j := jj) (k := ((n : Nat) : Int)) (r := 4) (by omega) (by omega) (by decide) (by omega) (by rw [if_neg (by decide)]; omega) dX2_pointsLeft_17 ?_
      have s3 := Wf.r7 hWf (j := jj) (k := ((n : Nat) : Int)) (by omega) (by omega) (by omega) (by omega)
      rw [show g (3 + 4) jj ((n : Nat) : Int) = g 7 jj ((n : Nat) : Int) from rfl]
      refine n_sub hx hb dX2_pointsLeft_18 ?_
      refine lv_istore_n (lv' := [(1, .int (iI ((12 - m_sm (fun b => g 7 jj b) n) - g 7 jj ((n : Nat) : Int)))), (2, .int (iI ((n : Nat) : Int))), (0, .ref (a (28 + 6 * jj.toNat)))]) hx hb dX2_pointsLeft_19 rfl hl (by decide) rfl (fun ls hl => ?_)
      refine n_inc (lv' := [(2, .int (iI (((n : Nat) : Int) + 1))), (1, .int (iI ((12 - m_sm (fun b => g 7 jj b) n) - g 7 jj ((n : Nat) : Int)))), (0, .ref (a (28 + 6 * jj.toNat)))]) hx hb dX2_pointsLeft_20 hl (k := 1) rfl (by decide) rfl (fun ls hl => ?_)
      refine lv_goto (tgt := 5) hx hb dX2_pointsLeft_23 (by decide) ?_
      have hl : lv_has ls 3 [(2, .int (iI (((n : Nat) : Int) + 1))), (1, .int (iI ((12 - m_sm (fun b => g 7 jj b) n) - g 7 jj ((n : Nat) : Int)))), (0, .ref (a (28 + 6 * jj.toNat)))] := lv_sub hl [0, 1, 2] rfl
      have e4 : (((n : Nat) : Int) + 1) = (((n + 1) : Nat) : Int) := by rfl
      have e5 : ((12 - m_sm (fun b => g 7 jj b) n) - g 7 jj ((n : Nat) : Int)) = (12 - m_sm (fun b => g 7 jj b) (n + 1)) := by simp only [m_sm]; omega
      have hl : lv_has ls 3 [(2, .int (iI (((n + 1) : Nat) : Int))), (1, .int (iI (12 - m_sm (fun b => g 7 jj b) (n + 1)))), (0, .ref (a (28 + 6 * jj.toNat)))] := lv_cast hl (by rw [e4, e5])
      exact ih5 (n + 1) H locs ls (by omega) hP hS hl
  have hl : lv_has ls 3 [(2, .int (iI 0)), (1, .int (iI 12)), (0, .ref (a (28 + 6 * jj.toNat)))] := lv_sub hl [0, 1, 2] rfl
  have hl : lv_has ls 3 [(2, .int (iI ((0 : Nat) : Int))), (1, .int (iI (12 - m_sm (fun b => g 7 jj b) 0))), (0, .ref (a (28 + 6 * jj.toNat)))] := hl
  exact loop5 16 0 H locs ls (by omega) hP hS hl
set_option maxHeartbeats 4000000 in
set_option maxRecDepth 100000 in
theorem c_hasOrder (l : Launch) (D : va_G) (a : Nat → Nat) (cH cB cJ cI : ClassId) (ha : pj a) (g : m_St) (vt : Nat → Int32) (sz : Nat) (jj : Int) (hWf : Wf g) (hjj : 0 ≤ jj ∧ jj < 5) : Met l yX2_hasOrder (wc yX2_hasOrder cX2_hasOrder 1 (some .boolean)) ({ frames := 0, cells := 0, slots := 0, locals := 0 }) (va_Pc [.ref (a (28 + 6 * jj.toNat))] (pS D a cH cB cJ cI sz g vt)) (va_Qi (fun (r : Int32) (_ : Unit) => r = bi (decide (0 < g 3 jj 15))) (fun _ _ => True) (fun q => sz ≤ q)) 0 0 (fun q => sz ≤ q) := by
  refine Met.ofW (cc := cX2_hasOrder) (maxL := 1) (ret := (some .boolean)) (by decide +kernel) rfl ?_
  intro p e s m args below meth c s₁ B9 hml hv
  obtain ⟨rfl, hsz, hP, hK, hE⟩ := hv
  have hx := B9.exec
  have hb := B9.bytes
  have hr := B9.returns
  have hts := atoms_spec (ws := (wc yX2_hasOrder cX2_hasOrder 1 (some .boolean))) B9.pre
  have hw : ∀ w ∈ wsL_law0, w.before [.ref (a (28 + 6 * jj.toNat))].toArray s = true := fun w h => hts w (List.mem_cons_of_mem _ h)
  have hown : s.vm.findClass RX2 = some m.cls := findClass_of_methodNamed B9.named
  subst hsz
  have hS : va_S (fun q => s.heap.size ≤ q) s.heap s.heap [] := va_S.rf
  have hA : ∀ q : Nat, s.heap.size ≤ q → (fun q : Nat => s.heap.size ≤ q) q := fun _ h => h
  have hl := lv_entry ([.ref (a (28 + 6 * jj.toNat))]) (n := 1) (Nat.le_of_ble_eq_true rfl)
  rw [lg_entry_eq]
  generalize (lg_sl ([.ref (a (28 + 6 * jj.toNat))]) ++ List.replicate (1 - (lg_sl ([.ref (a (28 + 6 * jj.toNat))])).length) Slot.unset).toArray = ls at hl ⊢
  have hl : lv_has ls 1 [(0, .ref (a (28 + 6 * jj.toNat)))] := hl
  suffices h9 : ∀ (H : Heap) (locs : List Loc), va_P D vwCl (pw a cH cB cJ cI g vt) H → va_S (fun q => s.heap.size ≤ q) s.heap H locs → W p l e (headSpec (wc yX2_hasOrder cX2_hasOrder 1 (some .boolean)) ({ frames := 0, cells := 0, slots := 0, locals := 0 })).room s m [.ref (a (28 + 6 * jj.toNat))].toArray below meth c H locs 0 0 (MQ below (va_Qi (fun (r : Int32) (_ : Unit) => r = bi (decide (0 < g 3 jj 15))) (fun _ _ => True) (fun q => s.heap.size ≤ q)) [.ref (a (28 + 6 * jj.toNat))].toArray s 0 0 (fun q => s.heap.size ≤ q)) (F0 m 0 ls []) from h9 s.heap [] hP hS
  clear hP hS
  intro H locs hP hS
  refine lv_aload_n hx hb dX2_hasOrder_0 rfl (lv_at hl 0 rfl) ?_
  have s1 := Wf.j15 hWf (k := jj) (by omega) (by omega)
  refine va_get (D := D) (ci := 2) (v := .int (iI (g 3 jj 15))) (C := RX2) (T := TX2) (N := 16) hx hb hw hin_wsX20 hown hK hP (28 + 6 * jj.toNat) (pw_J (j := jj) (by omega) (by omega)) rfl 15 (by decide) (hw _ kw_192) (fun _ h9 => h9) rfl dX2_hasOrder_1 ?_
  refine n_if_le hx hb (by unfold RI; omega) (tgt := 11) dX2_hasOrder_4 (by decide) (fun h2 => ?_) (fun h2 => ?_)
  · skip
    refine lv_iconst (v := iI 0) hx hb dX2_hasOrder_11 (by decide) ?_
    exact W.zret (v := (iI 0)) (ty := .boolean) hx hb hr (by decide +kernel) (fun t ht hW9 => ⟨⟨(iI 0), (), rfl, (show iI 0 = bi (decide (0 < g 3 jj 15)) from by rw [show (decide (0 < g 3 jj 15)) = false from by first | exact decide_eq_true (by omega) | exact decide_eq_false (by omega)]; rfl), trivial⟩, hS.F ht⟩) hS.2.2 dX2_hasOrder_12
  · skip
    refine lv_iconst (v := iI 1) hx hb dX2_hasOrder_7 (by decide) ?_
    refine lv_goto (tgt := 12) hx hb dX2_hasOrder_8 (by decide) ?_
    exact W.zret (v := (iI 1)) (ty := .boolean) hx hb hr (by decide +kernel) (fun t ht hW9 => ⟨⟨(iI 1), (), rfl, (show iI 1 = bi (decide (0 < g 3 jj 15)) from by rw [show (decide (0 < g 3 jj 15)) = true from by first | exact decide_eq_true (by omega) | exact decide_eq_false (by omega)]; rfl), trivial⟩, hS.F ht⟩) hS.2.2 dX2_hasOrder_12
