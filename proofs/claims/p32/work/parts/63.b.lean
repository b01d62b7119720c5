set_option maxHeartbeats 4000000 in
set_option maxRecDepth 100000 in
theorem c_handOut (l : Launch) (D : va_G) (a : Nat → Nat) (cH cB cJ cI : ClassId) (ha : pj a) (g : m_St) (vt : Nat → Int32) (sz : Nat) (bb : Int) (hWf : Wf g) (hbb : 0 ≤ bb ∧ bb < 16) (he : m_ent g bb = true) (hp0 : 0 < g 2 bb 3) (hC : ∀ j, 0 ≤ j → j < 5 → Cj g j bb ∧ g 3 j 7 ≤ bb) : Met l yX4_handOut (wc yX4_handOut cX4_handOut 5 (some .int)) ({ frames := 2, cells := 0, slots := 0, locals := 45 }) (va_Pc [.ref (a 0), .int (iI bb)] (pS D a cH cB cJ cI sz g vt)) (va_Qi (fun (r : Int32) (_ : Unit) => r = iI (m_pcn (m_handOut g bb).2)) (fun _ t => ∃ vt1 : Nat → Int32, va_P D vwCl (pw a cH cB cJ cI ((m_handOut g bb).1) vt1) t.heap) (pA a sz)) 0 0 (pA a sz) := by
  refine Met.ofW (cc := cX4_handOut) (maxL := 5) (ret := (some .int)) (by decide +kernel) rfl ?_
  intro p e s m args below meth c s₁ B9 hml hv
  obtain ⟨rfl, hsz, hP, hK, hE⟩ := hv
  have hx := B9.exec
  have hb := B9.bytes
  have hr := B9.returns
  have hts := atoms_spec (ws := (wc yX4_handOut cX4_handOut 5 (some .int))) B9.pre
  have hw : ∀ w ∈ wsL_law0, w.before [.ref (a 0), .int (iI bb)].toArray s = true := fun w h => hts w (List.mem_cons_of_mem _ h)
  have hown : s.vm.findClass RX4 = some m.cls := findClass_of_methodNamed B9.named
  subst hsz
  have hS : va_S (pA a s.heap.size) s.heap s.heap [] := va_S.rf
  have hA : ∀ q : Nat, s.heap.size ≤ q → pA a s.heap.size q := fun _ h => pA_new h
  have hB : ∀ k, k < 58 → pA a s.heap.size (a k) := fun _ h => pA_in h
  have hl := lv_entry ([.ref (a 0), .int (iI bb)]) (n := 5) (Nat.le_of_ble_eq_true rfl)
  rw [lg_entry_eq]
  generalize (lg_sl ([.ref (a 0), .int (iI bb)]) ++ List.replicate (5 - (lg_sl ([.ref (a 0), .int (iI bb)])).length) Slot.unset).toArray = ls at hl ⊢
  have hl : lv_has ls 5 [(0, .ref (a 0)), (1, .int (iI bb))] := hl
  suffices h9 : ∀ (H : Heap) (locs : List Loc), va_P D vwCl (pw a cH cB cJ cI g vt) H → va_S (pA a s.heap.size) s.heap H locs → W p l e (headSpec (wc yX4_handOut cX4_handOut 5 (some .int)) ({ frames := 2, cells := 0, slots := 0, locals := 45 })).room s m [.ref (a 0), .int (iI bb)].toArray below meth c H locs 0 0 (MQ below (va_Qi (fun (r : Int32) (_ : Unit) => r = iI (m_pcn (m_handOut g bb).2)) (fun _ t => ∃ vt1 : Nat → Int32, va_P D vwCl (pw a cH cB cJ cI ((m_handOut g bb).1) vt1) t.heap) (pA a s.heap.size)) [.ref (a 0), .int (iI bb)].toArray s 0 0 (pA a s.heap.size)) (F0 m 0 ls []) from h9 s.heap [] hP hS
  clear hP hS
  intro H locs hP hS
  refine lv_iconst (v := iI 0) hx hb dX4_handOut_0 (by decide) ?_
  refine lv_istore_n (lv' := [(2, .int (iI 0)), (0, .ref (a 0)), (1, .int (iI bb))]) hx hb dX4_handOut_1 rfl hl (by decide) rfl (fun ls hl => ?_)
  refine lv_iconst (v := iI 0) hx hb dX4_handOut_2 (by decide) ?_
  refine lv_istore_n (lv' := [(3, .int (iI 0)), (2, .int (iI 0)), (0, .ref (a 0)), (1, .int (iI bb))]) hx hb dX4_handOut_3 rfl hl (by decide) rfl (fun ls hl => ?_)
  have loop4 : ∀ (d n : Nat) (x2 : Int) (gq : m_St) (vq : Nat → Int32) (H : Heap) (locs : List Loc) (ls : Array Slot), n + d = 3 → ((gq, x2) = m_fo (m_handStep bb) (g, 0) n) → (HO g bb n (gq, x2)) → va_P D vwCl (pw a cH cB cJ cI gq vq) H → va_S (pA a s.heap.size) s.heap H locs → lv_has ls 5 [(3, .int (iI ((n : Nat) : Int))), (2, .int (iI x2)), (0, .ref (a 0)), (1, .int (iI bb))] → W p l e (headSpec (wc yX4_handOut cX4_handOut 5 (some .int)) ({ frames := 2, cells := 0, slots := 0, locals := 45 })).room s m [.ref (a 0), .int (iI bb)].toArray below meth c H locs 0 0 (MQ below (va_Qi (fun (r : Int32) (_ : Unit) => r = iI (m_pcn (m_handOut g bb).2)) (fun _ t => ∃ vt1 : Nat → Int32, va_P D vwCl (pw a cH cB cJ cI ((m_handOut g bb).1) vt1) t.heap) (pA a s.heap.size)) [.ref (a 0), .int (iI bb)].toArray s 0 0 (pA a s.heap.size)) (F0 m 4 ls []) := by
    intro d
    induction d with
    | zero =>
      intro n x2 gq vq H locs ls hn hq ho hP hS hl
      obtain rfl : n = 3 := by omega
      have hWq : Wf gq := ho.1
      have hx2 := ho_x ho
      refine lv_iload_n hx hb dX4_handOut_4 rfl (lv_at hl 0 rfl) ?_
      refine lv_iconst (v := iI 3) hx hb dX4_handOut_5 (by decide) ?_
      refine n_icmp_ge hx hb (by unfold RI; omega) (by unfold RI; omega) (tgt := 65) dX4_handOut_6 (by decide) (fun h1 => ?_) (fun h1 => absurd h1 (by intro h1; omega))
      refine lv_iload_n hx hb dX4_handOut_65 rfl (lv_at hl 1 rfl) ?_
      refine va_calli (va_runS (As := [.int (iI x2)]) (rest := []) ⟨hx, hb, hml, hown, hw⟩ (c_bitCount l D a cH cB cJ cI ha gq vq H.size x2 (by omega)) (va_cwS 1 hw (gA_S kw_112 kw_113 kw_114 kw_115) rfl rfl rfl (by decide +kernel) ⟨Nat.le_of_ble_eq_true rfl, Nat.le_of_ble_eq_true rfl⟩) (pS_s hP hK hE) rfl rfl hl.1 rfl (lv_room (Nat.le_of_ble_eq_true rfl)) dX4_handOut_66 ⟨Nat.le_of_ble_eq_true rfl, Nat.le_of_ble_eq_true rfl⟩) hS (fun q h1 h2 => ro_A h1 h2) (fun q h => ro_F hS hA q h) (fun r u t H1 locs ht hvm hw9 hB9 hz1 hk1 hS => ?_)
      have hw9 : r = (iI (m_pcn x2)) := hw9
      subst hw9
      have hP := ro_P hP hk1
      generalize H1 = H at hP hS ⊢
      have s2 := pcn_b x2
      have hf3 : gq = (m_handOut g bb).1 := by rw [show m_handOut g bb = (gq, x2) from hq.symm]
      rw [hf3] at hP
      exact W.iret (v := (iI (m_pcn x2))) hx hb hr (fun t ht hW9 => ⟨⟨(iI (m_pcn x2)), (), rfl, (congrArg iI (by rw [show m_handOut g bb = (gq, x2) from hq.symm])), ⟨vq, by rw [ht]; exact hP⟩⟩, hS.F ht⟩) hS.2.2 dX4_handOut_69
    | succ d ih4 =>
      intro n x2 gq vq H locs ls hn hq ho hP hS hl
      have hWq : Wf gq := ho.1
      have hx2 := ho_x ho
      refine lv_iload_n hx hb dX4_handOut_4 rfl (lv_at hl 0 rfl) ?_
      refine lv_iconst (v := iI 3) hx hb dX4_handOut_5 (by decide) ?_
      refine n_icmp_ge hx hb (by unfold RI; omega) (by unfold RI; omega) (tgt := 65) dX4_handOut_6 (by decide) (fun h4 => absurd h4 (by intro h4; omega)) (fun h4 => ?_)
      refine lv_aload_n hx hb dX4_handOut_9 rfl (lv_at hl 2 rfl) ?_
      refine lv_iload_n hx hb dX4_handOut_10 rfl (lv_at hl 1 rfl) ?_
      refine lv_aload_n hx hb dX4_handOut_11 rfl (lv_at hl 2 rfl) ?_
      refine va_get (D := D) (ci := 4) (v := .ref (a 2)) (C := RX4) (T := TX4) (N := 19) hx hb hw hin_wsX40 hown hK hP 0 pw_0 rfl 1 (by decide) (hw _ kw_17) (fun _ h9 => h9) rfl dX4_handOut_12 ?_
      refine lv_iload_n hx hb dX4_handOut_15 rfl (lv_at hl 3 rfl) ?_
      refine p_aldB hx hb hK hP (k := bb) (by omega) (by omega) dX4_handOut_16 ?_
      have s5 := Wf.b1 hWq (k := bb) (by omega) (by omega)
      refine va_get (D := D) (ci := 0) (v := .int (iI (gq 2 bb 1))) (C := RX0) (T := TX0) (N := 11) hx hb hw hin_wsX00 hown hK hP (12 + bb.toNat) (pw_B (b := bb) (by omega) (by omega)) rfl 1 (by decide) (hw _ kw_211) (fun _ h9 => h9) rfl dX4_handOut_17 ?_
      refine va_calli (va_runV (As := [.int (iI x2), .int (iI (gq 2 bb 1))]) (rest := []) ⟨hx, hb, hml, hown, hw⟩ (c_lightest l D a cH cB cJ cI ha gq vq H.size x2 (gq 2 bb 1) hWq (by omega) (by omega)) (cwV 2 hw (gA_V kw_324 kw_325 kw_326 kw_2 kw_327) rfl rfl rfl (by decide +kernel) ⟨Nat.le_of_ble_eq_true rfl, Nat.le_of_ble_eq_true rfl⟩) (pS_v (ci := 4) (q0 := 0) rfl pw_0 hP hK hE) rfl rfl hl.1 rfl (lv_room (Nat.le_of_ble_eq_true rfl)) dX4_handOut_20 ⟨Nat.le_of_ble_eq_true rfl, Nat.le_of_ble_eq_true rfl⟩) hS (fun q h1 h2 => ro_A h1 h2) (fun q h => ro_F hS hA q h) (fun r u t H1 locs ht hvm hw9 hB9 hz1 hk1 hS => ?_)
      have hw9 : r = (iI (m_lightest gq x2 (gq 2 bb 1))) := hw9
      subst hw9
      have hP := ro_P hP hk1
      generalize H1 = H at hP hS ⊢
      have s6 := light_in gq x2 (gq 2 bb 1) (by have := Wf.m5 hWq; omega)
      have s7 := Wf.m5 hWq
      refine lv_istore (lv' := [(4, .int (iI (m_lightest gq x2 (gq 2 bb 1)))), (3, .int (iI ((n : Nat) : Int))), (2, .int (iI x2)), (0, .ref (a 0)), (1, .int (iI bb))]) hx hb dX4_handOut_23 hl (by decide) rfl (fun ls hl => ?_)
      refine lv_iload hx hb dX4_handOut_25 (lv_at hl 0 rfl) ?_
      refine lv_iconst (v := iI (-1)) hx hb dX4_handOut_27 (by decide) ?_
      refine n_icmp_eq hx hb (by unfold RI; omega) (by unfold RI; omega) (tgt := 59) dX4_handOut_28 (by decide) (fun h8 => ?_) (fun h8 => ?_)
      · skip
        refine n_inc (lv' := [(3, .int (iI (((n : Nat) : Int) + 1))), (4, .int (iI (m_lightest gq x2 (gq 2 bb 1)))), (2, .int (iI x2)), (0, .ref (a 0)), (1, .int (iI bb))]) hx hb dX4_handOut_59 hl (k := 1) rfl (by decide) rfl (fun ls hl => ?_)
        refine lv_goto (tgt := 4) hx hb dX4_handOut_62 (by decide) ?_
        have hl : lv_has ls 5 [(3, .int (iI (((n : Nat) : Int) + 1))), (2, .int (iI x2)), (0, .ref (a 0)), (1, .int (iI bb))] := lv_sub hl [0, 2, 3, 4] rfl
        have e9 : (((n : Nat) : Int) + 1) = (((n + 1) : Nat) : Int) := by rfl
        have hl : lv_has ls 5 [(3, .int (iI (((n + 1) : Nat) : Int))), (2, .int (iI x2)), (0, .ref (a 0)), (1, .int (iI bb))] := lv_cast hl (by rw [e9])
        have hst : (gq, x2) = m_handStep bb ((n : Nat) : Int) (gq, x2) := by unfold m_handStep; first | (rw [if_pos (by assumption)]) | (rw [if_neg (by assumption), rfl])
        exact ih4 (n + 1) x2 gq vq H locs ls (by omega) (by rw [hst, hq]; rfl) (by rw [hst]; exact HO.step hbb he hp0 (fun j a b => (hC j a b).2) ho) hP hS hl
      · skip
        refine lv_aload_n hx hb dX4_handOut_31 rfl (lv_at hl 3 rfl) ?_
        refine va_get (D := D) (ci := 4) (v := .ref (a 3)) (C := RX4) (T := TX4) (N := 19) hx hb hw hin_wsX40 hown hK hP 0 pw_0 rfl 2 (by decide) (hw _ kw_19) (fun _ h9 => h9) rfl dX4_handOut_32 ?_
        refine lv_iload hx hb dX4_handOut_35 (lv_at hl 0 rfl) ?_
        refine p_aldJ hx hb hK hP (k := (m_lightest gq x2 (gq 2 bb 1))) (by omega) (by omega) dX4_handOut_37 ?_
        refine lv_iload_n hx hb dX4_handOut_38 rfl (lv_at hl 4 rfl) ?_
        refine lv_aload_n hx hb dX4_handOut_39 rfl (lv_at hl 3 rfl) ?_
        refine va_get (D := D) (ci := 4) (v := .ref (a 2)) (C := RX4) (T := TX4) (N := 19) hx hb hw hin_wsX40 hown hK hP 0 pw_0 rfl 1 (by decide) (hw _ kw_17) (fun _ h9 => h9) rfl dX4_handOut_40 ?_
        refine lv_iload_n hx hb dX4_handOut_43 rfl (lv_at hl 4 rfl) ?_
        refine p_aldB hx hb hK hP (k := bb) (by omega) (by omega) dX4_handOut_44 ?_
        have s10 := Wf.b3 hWq (k := bb) (by omega) (by omega)
        refine va_get (D := D) (ci := 0) (v := .int (iI (gq 2 bb 3))) (C := RX0) (T := TX0) (N := 11) hx hb hw hin_wsX00 hown hK hP (12 + bb.toNat) (pw_B (b := bb) (by omega) (by omega)) rfl 3 (by decide) (hw _ kw_218) (fun _ h9 => h9) rfl dX4_handOut_45 ?_
        have hlt := ho_lt ho hbb (fun j a b => (hC j a b).2) (by assumption)
        refine va_callv (va_runV (As := [.int (iI bb), .int (iI (gq 2 bb 3))]) (rest := []) ⟨hx, hb, hml, hown, hw⟩ (c_takeIn l D a cH cB cJ cI ha gq vq H.size (m_lightest gq x2 (gq 2 bb 1)) bb (gq 2 bb 3) hWq (by omega) (hlt.1)) (cwV 2 hw (gA_V kw_329 kw_330 kw_331 kw_34 kw_332) rfl rfl rfl (by decide +kernel) ⟨Nat.le_of_ble_eq_true rfl, Nat.le_of_ble_eq_true rfl⟩) (pS_v (ci := 2) (q0 := (28 + 6 * (m_lightest gq x2 (gq 2 bb 1)).toNat)) rfl (pw_J (j := (m_lightest gq x2 (gq 2 bb 1))) (by omega) (by omega)) hP hK hE) rfl rfl hl.1 rfl (lv_room (Nat.le_of_ble_eq_true rfl)) dX4_handOut_48 ⟨Nat.le_of_ble_eq_true rfl, Nat.le_of_ble_eq_true rfl⟩) hS (fun q _ h => rw_A hS hA hB q h) (fun q h => rw_A hS hA hB q h) (fun u t H1 locs ht hvm hw9 hB9 hz1 hk1 hS => ?_)
        obtain ⟨v11, hP1⟩ := hB9
        rw [ht] at hP1
        obtain ⟨g12, hg12⟩ : ∃ z, z = (m_takeIn gq (m_lightest gq x2 (gq 2 bb 1)) bb (gq 2 bb 3)) := ⟨_, rfl⟩
        rw [← hg12] at hP1
        have hP : va_P D vwCl (pw a cH cB cJ cI g12 v11) H1 := hP1
        generalize H1 = H at hP hS ⊢
        refine lv_iload_n hx hb dX4_handOut_51 rfl (lv_at hl 2 rfl) ?_
        refine lv_iload hx hb dX4_handOut_52 (lv_at hl 0 rfl) ?_
        refine va_calli (va_runS (As := [.int (iI (m_lightest gq x2 (gq 2 bb 1)))]) (rest := [.int (iI x2)]) ⟨hx, hb, hml, hown, hw⟩ (c_bit l D a cH cB cJ cI ha g12 v11 H.size (m_lightest gq x2 (gq 2 bb 1)) (by omega)) (va_cwS 1 hw (gA_S kw_171 kw_172 kw_2 kw_173) rfl rfl rfl (by decide +kernel) ⟨Nat.le_of_ble_eq_true rfl, Nat.le_of_ble_eq_true rfl⟩) (pS_s hP hK hE) rfl rfl hl.1 rfl (lv_room (Nat.le_of_ble_eq_true rfl)) dX4_handOut_54 ⟨Nat.le_of_ble_eq_true rfl, Nat.le_of_ble_eq_true rfl⟩) hS (fun q h1 h2 => ro_A h1 h2) (fun q h => ro_F hS hA q h) (fun r u t H1 locs ht hvm hw9 hB9 hz1 hk1 hS => ?_)
        have hw9 : r = (iI (m_bt (m_lightest gq x2 (gq 2 bb 1)))) := hw9
        subst hw9
        have hP := ro_P hP hk1
        generalize H1 = H at hP hS ⊢
        have s13 := bt_nn (m_lightest gq x2 (gq 2 bb 1))
        have s14 := bt_lt (n := (m_lightest gq x2 (gq 2 bb 1))) (by omega) (by omega)
        refine n_or hx hb (by omega) (by omega) dX4_handOut_57 ?_
        have s15 := bo_nn x2 (m_bt (m_lightest gq x2 (gq 2 bb 1)))
        refine lv_istore_n (lv' := [(2, .int (iI (m_bo x2 (m_bt (m_lightest gq x2 (gq 2 bb 1)))))), (4, .int (iI (m_lightest gq x2 (gq 2 bb 1)))), (3, .int (iI ((n : Nat) : Int))), (0, .ref (a 0)), (1, .int (iI bb))]) hx hb dX4_handOut_58 rfl hl (by decide) rfl (fun ls hl => ?_)
        refine n_inc (lv' := [(3, .int (iI (((n : Nat) : Int) + 1))), (2, .int (iI (m_bo x2 (m_bt (m_lightest gq x2 (gq 2 bb 1)))))), (4, .int (iI (m_lightest gq x2 (gq 2 bb 1)))), (0, .ref (a 0)), (1, .int (iI bb))]) hx hb dX4_handOut_59 hl (k := 2) rfl (by decide) rfl (fun ls hl => ?_)
        refine lv_goto (tgt := 4) hx hb dX4_handOut_62 (by decide) ?_
        have hl : lv_has ls 5 [(3, .int (iI (((n : Nat) : Int) + 1))), (2, .int (iI (m_bo x2 (m_bt (m_lightest gq x2 (gq 2 bb 1)))))), (0, .ref (a 0)), (1, .int (iI bb))] := lv_sub hl [0, 1, 3, 4] rfl
        have e16 : (((n : Nat) : Int) + 1) = (((n + 1) : Nat) : Int) := by rfl
        have hl : lv_has ls 5 [(3, .int (iI (((n + 1) : Nat) : Int))), (2, .int (iI (m_bo x2 (m_bt (m_lightest gq x2 (gq 2 bb 1)))))), (0, .ref (a 0)), (1, .int (iI bb))] := lv_cast hl (by rw [e16])
        have hst : (g12, (m_bo x2 (m_bt (m_lightest gq x2 (gq 2 bb 1))))) = m_handStep bb ((n : Nat) : Int) (gq, x2) := by unfold m_handStep; first | (rw [if_pos (by assumption)]) | (rw [if_neg (by assumption), hg12])
        exact ih4 (n + 1) (m_bo x2 (m_bt (m_lightest gq x2 (gq 2 bb 1)))) g12 v11 H locs ls (by omega) (by rw [hst, hq]; rfl) (by rw [hst]; exact HO.step hbb he hp0 (fun j a b => (hC j a b).2) ho) hP hS hl
  have hl : lv_has ls 5 [(3, .int (iI 0)), (2, .int (iI 0)), (0, .ref (a 0)), (1, .int (iI bb))] := lv_sub hl [0, 1, 2, 3] rfl
  have hl : lv_has ls 5 [(3, .int (iI ((0 : Nat) : Int))), (2, .int (iI 0)), (0, .ref (a 0)), (1, .int (iI bb))] := hl
  exact loop4 3 0 0 g vt H locs ls (by omega) rfl (ho_0 hWf hC) hP hS hl
set_option maxHeartbeats 4000000 in
set_option maxRecDepth 100000 in
theorem c_read (l : Launch) (D : va_G) (a : Nat → Nat) (cH cB cJ cI : ClassId) (ha : pj a) (g : m_St) (vt : Nat → Int32) (sz : Nat) (hWf : Wf g) (h9 : g 0 0 9 = 0) (h5 : 3 ≤ g 0 0 5) (he3 : 3 ≤ m_entCount g) (h70 : ∀ j, 0 ≤ j → j < 5 → g 3 j 7 = 0) (hp0 : ∀ b, 0 ≤ b → b < g 0 0 4 → 0 < g 2 b 3) : Met l yX4_read (wc yX4_read cX4_read 3 (some .int)) ({ frames := 3, cells := 0, slots := 0, locals := 69 }) (va_Pc [.ref (a 0)] (pS D a cH cB cJ cI sz g vt)) (va_Qi (fun (r : Int32) (_ : Unit) => r = iI ((m_readAll g).2)) (fun _ t => ∃ vt1 : Nat → Int32, va_P D vwCl (pw a cH cB cJ cI (m_read g) vt1) t.heap) (pA a sz)) 0 0 (pA a sz) := by
  refine Met.ofW (cc := cX4_read) (maxL := 3) (ret := (some .int)) (by decide +kernel) rfl ?_
  intro p e s m args below meth c s₁ B9 hml hv
  obtain ⟨rfl, hsz, hP, hK, hE⟩ := hv
  have hx := B9.exec
  have hb := B9.bytes
  have hr := B9.returns
  have hts := atoms_spec (ws := (wc yX4_read cX4_read 3 (some .int))) B9.pre
  have hw : ∀ w ∈ wsL_law0, w.before [.ref (a 0)].toArray s = true := fun w h => hts w (List.mem_cons_of_mem _ h)
  have hown : s.vm.findClass RX4 = some m.cls := findClass_of_methodNamed B9.named
  subst hsz
  have hS : va_S (pA a s.heap.size) s.heap s.heap [] := va_S.rf
  have hA : ∀ q : Nat, s.heap.size ≤ q → pA a s.heap.size q := fun _ h => pA_new h
  have hB : ∀ k, k < 58 → pA a s.heap.size (a k) := fun _ h => pA_in h
  have hl := lv_entry ([.ref (a 0)]) (n := 3) (Nat.le_of_ble_eq_true rfl)
  rw [lg_entry_eq]
  generalize (lg_sl ([.ref (a 0)]) ++ List.replicate (3 - (lg_sl ([.ref (a 0)])).length) Slot.unset).toArray = ls at hl ⊢
  have hl : lv_has ls 3 [(0, .ref (a 0))] := hl
  suffices h9 : ∀ (H : Heap) (locs : List Loc), va_P D vwCl (pw a cH cB cJ cI g vt) H → va_S (pA a s.heap.size) s.heap H locs → W p l e (headSpec (wc yX4_read cX4_read 3 (some .int)) ({ frames := 3, cells := 0, slots := 0, locals := 69 })).room s m [.ref (a 0)].toArray below meth c H locs 0 0 (MQ below (va_Qi (fun (r : Int32) (_ : Unit) => r = iI ((m_readAll g).2)) (fun _ t => ∃ vt1 : Nat → Int32, va_P D vwCl (pw a cH cB cJ cI (m_read g) vt1) t.heap) (pA a s.heap.size)) [.ref (a 0)].toArray s 0 0 (pA a s.heap.size)) (F0 m 0 ls []) from h9 s.heap [] hP hS
  clear hP hS
  intro H locs hP hS
  have m4 := Wf.m4 hWf
  have m5 := Wf.m5 hWf
  refine lv_aload_n hx hb dX4_read_0 rfl (lv_at hl 0 rfl) ?_
  have s1 := Wf.m9 hWf
  refine va_get (D := D) (ci := 4) (v := .int (iI (g 0 0 9))) (C := RX4) (T := TX4) (N := 19) hx hb hw hin_wsX40 hown hK hP 0 pw_0 rfl 9 (by decide) (hw _ kw_25) (fun _ h9 => h9) rfl dX4_read_1 ?_
  refine n_if_ne hx hb (by unfold RI; omega) (tgt := 23) dX4_read_4 (by decide) (fun h2 => absurd h2 (by intro h2; omega)) (fun h2 => ?_)
  refine lv_aload_n hx hb dX4_read_7 rfl (lv_at hl 0 rfl) ?_
  have s3 := Wf.m5 hWf
  refine va_get (D := D) (ci := 4) (v := .int (iI (g 0 0 5))) (C := RX4) (T := TX4) (N := 19) hx hb hw hin_wsX40 hown hK hP 0 pw_0 rfl 5 (by decide) (hw _ kw_81) (fun _ h9 => h9) rfl dX4_read_8 ?_
  refine lv_iconst (v := iI 3) hx hb dX4_read_11 (by decide) ?_
  refine n_icmp_lt hx hb (by unfold RI; omega) (by unfold RI; omega) (tgt := 23) dX4_read_12 (by decide) (fun h4 => absurd h4 (by intro h4; omega)) (fun h4 => ?_)
  refine lv_aload_n hx hb dX4_read_15 rfl (lv_at hl 0 rfl) ?_
  refine va_calli (va_runV (As := []) (rest := []) ⟨hx, hb, hml, hown, hw⟩ (c_enteredCount l D a cH cB cJ cI ha g vt H.size  hWf) (cwV 0 hw (gA_V kw_103 kw_104 kw_105 kw_2 kw_106) rfl rfl rfl (by decide +kernel) ⟨Nat.le_of_ble_eq_true rfl, Nat.le_of_ble_eq_true rfl⟩) (pS_v (ci := 4) (q0 := 0) rfl pw_0 hP hK hE) rfl rfl hl.1 rfl (lv_room (Nat.le_of_ble_eq_true rfl)) dX4_read_16 ⟨Nat.le_of_ble_eq_true rfl, Nat.le_of_ble_eq_true rfl⟩) hS (fun q h1 h2 => ro_A h1 h2) (fun q h => ro_F hS hA q h) (fun r u t H1 locs ht hvm hw9 hB9 hz1 hk1 hS => ?_)
  have hw9 : r = (iI (m_entCount g)) := hw9
  subst hw9
  have hP := ro_P hP hk1
  generalize H1 = H at hP hS ⊢
  have s5 := ent_b hWf
  refine lv_iconst (v := iI 3) hx hb dX4_read_19 (by decide) ?_
  refine n_icmp_ge hx hb (by unfold RI; omega) (by unfold RI; omega) (tgt := 33) dX4_read_20 (by decide) (fun h6 => ?_) (fun h6 => absurd h6 (by intro h6; omega))
  refine lv_iconst (v := iI 0) hx hb dX4_read_33 (by decide) ?_
  refine lv_istore_n (lv' := [(1, .int (iI 0)), (0, .ref (a 0))]) hx hb dX4_read_34 rfl hl (by decide) rfl (fun ls hl => ?_)
  refine lv_iconst (v := iI 0) hx hb dX4_read_35 (by decide) ?_
  refine lv_istore_n (lv' := [(2, .int (iI 0)), (1, .int (iI 0)), (0, .ref (a 0))]) hx hb dX4_read_36 rfl hl (by decide) rfl (fun ls hl => ?_)
  have loop37 : ∀ (d n : Nat) (x1 : Int) (gq : m_St) (vq : Nat → Int32) (H : Heap) (locs : List Loc) (ls : Array Slot), n + d = (g 0 0 4).toNat → ((gq, x1) = m_fo m_readStep (g, 0) n) → (RD g n (gq, x1)) → va_P D vwCl (pw a cH cB cJ cI gq vq) H → va_S (pA a s.heap.size) s.heap H locs → lv_has ls 3 [(2, .int (iI ((n : Nat) : Int))), (1, .int (iI x1)), (0, .ref (a 0))] → W p l e (headSpec (wc yX4_read cX4_read 3 (some .int)) ({ frames := 3, cells := 0, slots := 0, locals := 69 })).room s m [.ref (a 0)].toArray below meth c H locs 0 0 (MQ below (va_Qi (fun (r : Int32) (_ : Unit) => r = iI ((m_readAll g).2)) (fun _ t => ∃ vt1 : Nat → Int32, va_P D vwCl (pw a cH cB cJ cI (m_read g) vt1) t.heap) (pA a s.heap.size)) [.ref (a 0)].toArray s 0 0 (pA a s.heap.size)) (F0 m 37 ls []) := by
    intro d
    induction d with
    | zero =>
      intro n x1 gq vq H locs ls hn hq rd hP hS hl
      obtain rfl : n = (g 0 0 4).toNat := by omega
      have hWq : Wf gq := rd.1
      have q4 : gq 0 0 4 = g 0 0 4 := rd.2.1 0 0 4 (by decide) (by decide) (by decide)
      refine lv_iload_n hx hb dX4_read_37 rfl (lv_at hl 0 rfl) ?_
      refine lv_aload_n hx hb dX4_read_38 rfl (lv_at hl 2 rfl) ?_
      have s7 := Wf.m4 hWq
      refine va_get (D := D) (ci := 4) (v := .int (iI (gq 0 0 4))) (C := RX4) (T := TX4) (N := 19) hx hb hw hin_wsX40 hown hK hP 0 pw_0 rfl 4 (by decide) (hw _ kw_98) (fun _ h9 => h9) rfl dX4_read_39 ?_
      refine n_icmp_ge hx hb (by unfold RI; omega) (by unfold RI; omega) (tgt := 67) dX4_read_42 (by decide) (fun h8 => ?_) (fun h8 => absurd h8 (by intro h8; omega))
      refine lv_aload_n hx hb dX4_read_67 rfl (lv_at hl 2 rfl) ?_
      refine lv_iconst (v := iI 1) hx hb dX4_read_68 (by decide) ?_
      refine va_put (D := D) (ci := 4) (v := .int (iI 1)) (C := RX4) (T := TX4) (N := 19) (ty := .int) hx hb hw hin_wsX40 tyX4 tyX4_ok nmX4 hown hK hP (pw_D ha (fun k hk => pA_in hk)) hS 0 pw_0 rfl 9 (by decide) (hw _ kw_25) (fun _ h9 => h9) rfl (tyX4_ok 9 (by decide)) rfl rfl (show 9 < 19 from by decide) dX4_read_69 (fun H locs hP _ hS => ?_)
      rw [pw_setM (by decide) (by decide) (by decide) (by decide)] at hP
      have hP : va_P D vwCl (pw a cH cB cJ cI (m_up gq 0 0 9 1) vq) H := hP
      obtain ⟨g9, hg9⟩ : ∃ z, z = m_up gq 0 0 9 1 := ⟨_, rfl⟩
      rw [← hg9] at hP
      refine lv_iload_n hx hb dX4_read_72 rfl (lv_at hl 1 rfl) ?_
      have hf10 : g9 = (m_read g) := by rw [hg9]; show _ = m_up (m_readAll g).1 0 0 9 1; rw [show m_readAll g = (gq, x1) from hq.symm]
      rw [hf10] at hP
      exact W.iret (v := (iI x1)) hx hb hr (fun t ht hW9 => ⟨⟨(iI x1), (), rfl, (congrArg iI (by rw [show m_readAll g = (gq, x1) from hq.symm])), ⟨vq, by rw [ht]; exact hP⟩⟩, hS.F ht⟩) hS.2.2 dX4_read_73
    | succ d ih37 =>
      intro n x1 gq vq H locs ls hn hq rd hP hS hl
      have hWq : Wf gq := rd.1
      have q4 : gq 0 0 4 = g 0 0 4 := rd.2.1 0 0 4 (by decide) (by decide) (by decide)
      refine lv_iload_n hx hb dX4_read_37 rfl (lv_at hl 0 rfl) ?_
      refine lv_aload_n hx hb dX4_read_38 rfl (lv_at hl 2 rfl) ?_
      have s11 := Wf.m4 hWq
      refine va_get (D := D) (ci := 4) (v := .int (iI (gq 0 0 4))) (C := RX4) (T := TX4) (N := 19) hx hb hw hin_wsX40 hown hK hP 0 pw_0 rfl 4 (by decide) (hw _ kw_98) (fun _ h9 => h9) rfl dX4_read_39 ?_
      refine n_icmp_ge hx hb (by unfold RI; omega) (by unfold RI; omega) (tgt := 67) dX4_read_42 (by decide) (fun h12 => absurd h12 (by intro h12; omega)) (fun h12 => ?_)
      refine lv_aload_n hx hb dX4_read_45 rfl (lv_at hl 2 rfl) ?_
      refine lv_iload_n hx hb dX4_read_46 rfl (lv_at hl 0 rfl) ?_
      refine va_calli (va_runV (As := [.int (iI ((n : Nat) : Int))]) (rest := []) ⟨hx, hb, hml, hown, hw⟩ (c_isEntered l D a cH cB cJ cI ha gq vq H.size ((n : Nat) : Int) hWq (by omega)) (cwV 1 hw (gA_V kw_107 kw_108 kw_109 kw_2 kw_110) rfl rfl rfl (by decide +kernel) ⟨Nat.le_of_ble_eq_true rfl, Nat.le_of_ble_eq_true rfl⟩) (pS_v (ci := 4) (q0 := 0) rfl pw_0 hP hK hE) rfl rfl hl.1 rfl (lv_room (Nat.le_of_ble_eq_true rfl)) dX4_read_47 ⟨Nat.le_of_ble_eq_true rfl, Nat.le_of_ble_eq_true rfl⟩) hS (fun q h1 h2 => ro_A h1 h2) (fun q h => ro_F hS hA q h) (fun r u t H1 locs ht hvm hw9 hB9 hz1 hk1 hS => ?_)
      have hw9 : r = (bi (m_ent gq ((n : Nat) : Int))) := hw9
      subst hw9
      have hP := ro_P hP hk1
      generalize H1 = H at hP hS ⊢
      refine n_b_eq hx hb (tgt := 61) dX4_read_50 (by decide) (fun h13 => ?_) (fun h13 => ?_)
      · skip
        refine n_inc (lv' := [(2, .int (iI (((n : Nat) : Int) + 1))), (1, .int (iI x1)), (0, .ref (a 0))]) hx hb dX4_read_61 hl (k := 0) rfl (by decide) rfl (fun ls hl => ?_)
        refine lv_goto (tgt := 37) hx hb dX4_read_64 (by decide) ?_
        have hl : lv_has ls 3 [(2, .int (iI (((n : Nat) : Int) + 1))), (1, .int (iI x1)), (0, .ref (a 0))] := lv_sub hl [0, 1, 2] rfl
        have e14 : (((n : Nat) : Int) + 1) = (((n + 1) : Nat) : Int) := by rfl
        have hl : lv_has ls 3 [(2, .int (iI (((n + 1) : Nat) : Int))), (1, .int (iI x1)), (0, .ref (a 0))] := lv_cast hl (by rw [e14])
        have hst : (gq, x1) = m_readStep ((n : Nat) : Int) (gq, x1) := by unfold m_readStep; first | (rw [show m_ent gq ((n : Nat) : Int) = false from by assumption]; rfl) | (rw [show m_ent gq ((n : Nat) : Int) = true from by assumption, rfl]; rfl)
        exact ih37 (n + 1) x1 gq vq H locs ls (by omega) (by rw [hst, hq]; rfl) (by rw [hst]; exact RD.step (by omega) (hp0 _ (by omega) (by omega)) rd) hP hS hl
      · skip
        refine lv_iload_n hx hb dX4_read_53 rfl (lv_at hl 1 rfl) ?_
        refine lv_aload_n hx hb dX4_read_54 rfl (lv_at hl 2 rfl) ?_
        refine lv_iload_n hx hb dX4_read_55 rfl (lv_at hl 0 rfl) ?_
        refine va_calli (va_runV (As := [.int (iI ((n : Nat) : Int))]) (rest := [.int (iI x1)]) ⟨hx, hb, hml, hown, hw⟩ (c_handOut l D a cH cB cJ cI ha gq vq H.size ((n : Nat) : Int) hWq (by omega) (by assumption) (by have z := rd.2.1 2 ((n : Nat) : Int) 3 (by decide) (by decide) (by decide); have z2 : gq 2 ((n : Nat) : Int) 3 = g 2 ((n : Nat) : Int) 3 := z; have := hp0 ((n : Nat) : Int) (by omega) (by omega); omega) (rd.2.2.2.1)) (cwV 1 hw (gA_V kw_320 kw_321 kw_322 kw_2 kw_323) rfl rfl rfl (by decide +kernel) ⟨Nat.le_of_ble_eq_true rfl, Nat.le_of_ble_eq_true rfl⟩) (pS_v (ci := 4) (q0 := 0) rfl pw_0 hP hK hE) rfl rfl hl.1 rfl (lv_room (Nat.le_of_ble_eq_true rfl)) dX4_read_56 ⟨Nat.le_of_ble_eq_true rfl, Nat.le_of_ble_eq_true rfl⟩) hS (fun q _ h => rw_A hS hA hB q h) (fun q h => rw_A hS hA hB q h) (fun r u t H1 locs ht hvm hw9 hB9 hz1 hk1 hS => ?_)
        have hw9 : r = (iI (m_pcn (m_handOut gq ((n : Nat) : Int)).2)) := hw9
        subst hw9
        obtain ⟨v15, hP1⟩ := hB9
        rw [ht] at hP1
        obtain ⟨g16, hg16⟩ : ∃ z, z = (m_handOut gq ((n : Nat) : Int)).1 := ⟨_, rfl⟩
        rw [← hg16] at hP1
        have hP : va_P D vwCl (pw a cH cB cJ cI g16 v15) H1 := hP1
        generalize H1 = H at hP hS ⊢
        refine n_add hx hb dX4_read_59 ?_
        refine lv_istore_n (lv' := [(1, .int (iI (x1 + (m_pcn (m_handOut gq ((n : Nat) : Int)).2)))), (2, .int (iI ((n : Nat) : Int))), (0, .ref (a 0))]) hx hb dX4_read_60 rfl hl (by decide) rfl (fun ls hl => ?_)
        refine n_inc (lv' := [(2, .int (iI (((n : Nat) : Int) + 1))), (1, .int (iI (x1 + (m_pcn (m_handOut gq ((n : Nat) : Int)).2)))), (0, .ref (a 0))]) hx hb dX4_read_61 hl (k := 1) rfl (by decide) rfl (fun ls hl => ?_)
        refine lv_goto (tgt := 37) hx hb dX4_read_64 (by decide) ?_
        have hl : lv_has ls 3 [(2, .int (iI (((n : Nat) : Int) + 1))), (1, .int (iI (x1 + (m_pcn (m_handOut gq ((n : Nat) : Int)).2)))), (0, .ref (a 0))] := lv_sub hl [0, 1, 2] rfl
        have e17 : (((n : Nat) : Int) + 1) = (((n + 1) : Nat) : Int) := by rfl
        have hl : lv_has ls 3 [(2, .int (iI (((n + 1) : Nat) : Int))), (1, .int (iI (x1 + (m_pcn (m_handOut gq ((n : Nat) : Int)).2)))), (0, .ref (a 0))] := lv_cast hl (by rw [e17])
        have hst : (g16, (x1 + (m_pcn (m_handOut gq ((n : Nat) : Int)).2))) = m_readStep ((n : Nat) : Int) (gq, x1) := by unfold m_readStep; first | (rw [show m_ent gq ((n : Nat) : Int) = false from by assumption]; rfl) | (rw [show m_ent gq ((n : Nat) : Int) = true from by assumption, hg16]; rfl)
        exact ih37 (n + 1) (x1 + (m_pcn (m_handOut gq ((n : Nat) : Int)).2)) g16 v15 H locs ls (by omega) (by rw [hst, hq]; rfl) (by rw [hst]; exact RD.step (by omega) (hp0 _ (by omega) (by omega)) rd) hP hS hl
  have hl : lv_has ls 3 [(2, .int (iI 0)), (1, .int (iI 0)), (0, .ref (a 0))] := lv_sub hl [0, 1, 2] rfl
  have hl : lv_has ls 3 [(2, .int (iI ((0 : Nat) : Int))), (1, .int (iI 0)), (0, .ref (a 0))] := hl
  exact loop37 ((g 0 0 4).toNat) 0 0 g vt H locs ls (by omega) rfl (RD.all hWf h70 hp0 0 (by omega)) hP hS hl
set_option maxHeartbeats 4000000 in
set_option maxRecDepth 100000 in
theorem c_fillLong (l : Launch) (D : va_G) (a : Nat → Nat) (cH cB cJ cI : ClassId) (ha : pj a) (g : m_St) (vt : Nat → Int32) (sz : Nat) (mm : Int) (hWf : Wf g) (hmm : 3 ≤ mm ∧ mm ≤ 8) : Met l yX4_fillLongList (wc yX4_fillLongList cX4_fillLongList 5 none) ({ frames := 5, cells := 0, slots := 0, locals := 114 }) (va_Pc [.ref (a 0), .int (iI mm)] (pS D a cH cB cJ cI sz g vt)) (va_Qv (fun (_ : Unit) => True) (fun _ t => ∃ vt1 : Nat → Int32, va_P D vwCl (pw a cH cB cJ cI (m_up g 0 0 11 (m_fillLong g mm 16 (m_listable g) (g 0 0 11))) vt1) t.heap) (pA a sz)) 0 0 (pA a sz) := by
  refine Met.ofW (cc := cX4_fillLongList) (maxL := 5) (ret := none) (by decide +kernel) rfl ?_
  intro p e s m args below meth c s₁ B9 hml hv
  obtain ⟨rfl, hsz, hP, hK, hE⟩ := hv
  have hx := B9.exec
  have hb := B9.bytes
  have hr := B9.returns
  have hts := atoms_spec (ws := (wc yX4_fillLongList cX4_fillLongList 5 none)) B9.pre
  have hw : ∀ w ∈ wsL_law0, w.before [.ref (a 0), .int (iI mm)].toArray s = true := fun w h => hts w (List.mem_cons_of_mem _ h)
  have hown : s.vm.findClass RX4 = some m.cls := findClass_of_methodNamed B9.named
  have hlocks := B9.notSynchronized
  subst hsz
  have hS : va_S (pA a s.heap.size) s.heap s.heap [] := va_S.rf
  have hA : ∀ q : Nat, s.heap.size ≤ q → pA a s.heap.size q := fun _ h => pA_new h
  have hB : ∀ k, k < 58 → pA a s.heap.size (a k) := fun _ h => pA_in h
  have hl := lv_entry ([.ref (a 0), .int (iI mm)]) (n := 5) (Nat.le_of_ble_eq_true rfl)
  rw [lg_entry_eq]
  generalize (lg_sl ([.ref (a 0), .int (iI mm)]) ++ List.replicate (5 - (lg_sl ([.ref (a 0), .int (iI mm)])).length) Slot.unset).toArray = ls at hl ⊢
  have hl : lv_has ls 5 [(0, .ref (a 0)), (1, .int (iI mm))] := hl
  suffices h9 : ∀ (H : Heap) (locs : List Loc), va_P D vwCl (pw a cH cB cJ cI g vt) H → va_S (pA a s.heap.size) s.heap H locs → W p l e (headSpec (wc yX4_fillLongList cX4_fillLongList 5 none) ({ frames := 5, cells := 0, slots := 0, locals := 114 })).room s m [.ref (a 0), .int (iI mm)].toArray below meth c H locs 0 0 (MQ below (va_Qv (fun (_ : Unit) => True) (fun _ t => ∃ vt1 : Nat → Int32, va_P D vwCl (pw a cH cB cJ cI (m_up g 0 0 11 (m_fillLong g mm 16 (m_listable g) (g 0 0 11))) vt1) t.heap) (pA a s.heap.size)) [.ref (a 0), .int (iI mm)].toArray s 0 0 (pA a s.heap.size)) (F0 m 0 ls []) from h9 s.heap [] hP hS
  clear hP hS
  intro H locs hP hS
  have m4 := Wf.m4 hWf
  refine lv_aload_n hx hb dX4_fillLongList_0 rfl (lv_at hl 0 rfl) ?_
  refine va_calli (va_runV (As := []) (rest := []) ⟨hx, hb, hml, hown, hw⟩ (c_longListable l D a cH cB cJ cI ha g vt H.size  hWf) (cwV 0 hw (gA_V kw_346 kw_347 kw_348 kw_2 kw_349) rfl rfl rfl (by decide +kernel) ⟨Nat.le_of_ble_eq_true rfl, Nat.le_of_ble_eq_true rfl⟩) (pS_v (ci := 4) (q0 := 0) rfl pw_0 hP hK hE) rfl rfl hl.1 rfl (lv_room (Nat.le_of_ble_eq_true rfl)) dX4_fillLongList_1 ⟨Nat.le_of_ble_eq_true rfl, Nat.le_of_ble_eq_true rfl⟩) hS (fun q h1 h2 => ro_A h1 h2) (fun q h => ro_F hS hA q h) (fun r u t H1 locs ht hvm hw9 hB9 hz1 hk1 hS => ?_)
  have hw9 : r = (iI (m_listable g)) := hw9
  subst hw9
  have hP := ro_P hP hk1
  generalize H1 = H at hP hS ⊢
  have s1 := list_b hWf
  refine lv_istore_n (lv' := [(2, .int (iI (m_listable g))), (0, .ref (a 0)), (1, .int (iI mm))]) hx hb dX4_fillLongList_4 rfl hl (by decide) rfl (fun ls hl => ?_)
  refine lv_iconst (v := iI 0) hx hb dX4_fillLongList_5 (by decide) ?_
  refine lv_istore_n (lv' := [(3, .int (iI 0)), (2, .int (iI (m_listable g))), (0, .ref (a 0)), (1, .int (iI mm))]) hx hb dX4_fillLongList_6 rfl hl (by decide) rfl (fun ls hl => ?_)
  have loop7 : ∀ (d n : Nat) (x2 : Int) (y9 : Int) (gq : m_St) (H : Heap) (locs : List Loc) (ls : Array Slot), n + d = 16 → gq = m_up g 0 0 11 y9 → (m_fillLong g mm 16 (m_listable g) (g 0 0 11) = m_fillLong g mm d x2 y9) → (0 ≤ x2 ∧ x2 < 65536) → (0 ≤ y9 ∧ y9 < 65536) → va_P D vwCl (pw a cH cB cJ cI gq vt) H → va_S (pA a s.heap.size) s.heap H locs → lv_has ls 5 [(3, .int (iI ((n : Nat) : Int))), (2, .int (iI x2)), (0, .ref (a 0)), (1, .int (iI mm))] → W p l e (headSpec (wc yX4_fillLongList cX4_fillLongList 5 none) ({ frames := 5, cells := 0, slots := 0, locals := 114 })).room s m [.ref (a 0), .int (iI mm)].toArray below meth c H locs 0 0 (MQ below (va_Qv (fun (_ : Unit) => True) (fun _ t => ∃ vt1 : Nat → Int32, va_P D vwCl (pw a cH cB cJ cI (m_up g 0 0 11 (m_fillLong g mm 16 (m_listable g) (g 0 0 11))) vt1) t.heap) (pA a s.heap.size)) [.ref (a 0), .int (iI mm)].toArray s 0 0 (pA a s.heap.size)) (F0 m 7 ls []) := by
    intro d
    induction d with
    | zero =>
      intro n x2 y9 gq H locs ls hn hgq hq hs hy hP hS hl
      obtain rfl : n = 16 := by omega
      have hWq : Wf gq := by rw [hgq]; exact Wf.s11 hWf hy
      have hpc := pcn_b y9
      refine lv_iload_n hx hb dX4_fillLongList_7 rfl (lv_at hl 0 rfl) ?_
      refine lv_bipush (v := iI 16) hx hb dX4_fillLongList_8 (by decide) ?_
      refine n_icmp_ge hx hb (by unfold RI; omega) (by unfold RI; omega) (tgt := 90) dX4_fillLongList_10 (by decide) (fun h2 => ?_) (fun h2 => absurd h2 (by intro h2; omega))
      have hf3 : gq = (m_up g 0 0 11 (m_fillLong g mm 16 (m_listable g) (g 0 0 11))) := by rw [hgq]; exact congrArg (m_up g 0 0 11) (by rw [hq]; first | rfl | (unfold m_fillLong; rw [if_neg (by omega)]) | (unfold m_fillLong; rw [if_pos (by omega), if_pos (by assumption)]))
      rw [hf3] at hP
      exact W.vret hx hb hr (fun t ht hW9 => ⟨⟨(), rfl, trivial, ⟨vt, by rw [ht]; exact hP⟩⟩, hS.F ht⟩) hS.2.2 dX4_fillLongList_90
    | succ d ih7 =>
      intro n x2 y9 gq H locs ls hn hgq hq hs hy hP hS hl
      have hWq : Wf gq := by rw [hgq]; exact Wf.s11 hWf hy
      have hpc := pcn_b y9
      refine lv_iload_n hx hb dX4_fillLongList_7 rfl (lv_at hl 0 rfl) ?_
      refine lv_bipush (v := iI 16) hx hb dX4_fillLongList_8 (by decide) ?_
      refine n_icmp_ge hx hb (by unfold RI; omega) (by unfold RI; omega) (tgt := 90) dX4_fillLongList_10 (by decide) (fun h4 => absurd h4 (by intro h4; omega)) (fun h4 => ?_)
      refine lv_aload_n hx hb dX4_fillLongList_13 rfl (lv_at hl 2 rfl) ?_
      have e5 : gq 0 0 11 = y9 := by simp [hgq, m_up]
      refine va_get (D := D) (ci := 4) (v := .int (iI y9)) (C := RX4) (T := TX4) (N := 19) hx hb hw hin_wsX40 hown hK hP 0 pw_0 rfl 11 (by decide) (hw _ kw_99) (fun _ h9 => h9) (by rw [← e5]; rfl) dX4_fillLongList_14 ?_
      refine va_calli (va_runS (As := [.int (iI y9)]) (rest := []) ⟨hx, hb, hml, hown, hw⟩ (c_bitCount l D a cH cB cJ cI ha gq vt H.size y9 (by omega)) (va_cwS 1 hw (gA_S kw_112 kw_113 kw_114 kw_115) rfl rfl rfl (by decide +kernel) ⟨Nat.le_of_ble_eq_true rfl, Nat.le_of_ble_eq_true rfl⟩) (pS_s hP hK hE) rfl rfl hl.1 rfl (lv_room (Nat.le_of_ble_eq_true rfl)) dX4_fillLongList_17 ⟨Nat.le_of_ble_eq_true rfl, Nat.le_of_ble_eq_true rfl⟩) hS (fun q h1 h2 => ro_A h1 h2) (fun q h => ro_F hS hA q h) (fun r u t H1 locs ht hvm hw9 hB9 hz1 hk1 hS => ?_)
      have hw9 : r = (iI (m_pcn y9)) := hw9
      subst hw9
      have hP := ro_P hP hk1
      generalize H1 = H at hP hS ⊢
      have s6 := pcn_b y9
      refine lv_iload_n hx hb dX4_fillLongList_20 rfl (lv_at hl 3 rfl) ?_
      refine n_icmp_ge hx hb (by unfold RI; omega) (by unfold RI; omega) (tgt := 90) dX4_fillLongList_21 (by decide) (fun h7 => ?_) (fun h7 => ?_)
      · skip
        have hf8 : gq = (m_up g 0 0 11 (m_fillLong g mm 16 (m_listable g) (g 0 0 11))) := by rw [hgq]; exact congrArg (m_up g 0 0 11) (by rw [hq]; first | rfl | (unfold m_fillLong; rw [if_neg (by omega)]) | (unfold m_fillLong; rw [if_pos (by omega), if_pos (by assumption)]))
        rw [hf8] at hP
        exact W.vret hx hb hr (fun t ht hW9 => ⟨⟨(), rfl, trivial, ⟨vt, by rw [ht]; exact hP⟩⟩, hS.F ht⟩) hS.2.2 dX4_fillLongList_90
      · skip
        refine lv_aload_n hx hb dX4_fillLongList_24 rfl (lv_at hl 2 rfl) ?_
        refine lv_iload_n hx hb dX4_fillLongList_25 rfl (lv_at hl 1 rfl) ?_
        refine va_calli (va_runV (As := [.int (iI x2)]) (rest := []) ⟨hx, hb, hml, hown, hw⟩ (c_bestOf l D a cH cB cJ cI ha gq vt H.size x2 hWq (by omega)) (cwV 1 hw (gA_V kw_358 kw_359 kw_360 kw_2 kw_361) rfl rfl rfl (by decide +kernel) ⟨Nat.le_of_ble_eq_true rfl, Nat.le_of_ble_eq_true rfl⟩) (pS_v (ci := 4) (q0 := 0) rfl pw_0 hP hK hE) rfl rfl hl.1 rfl (lv_room (Nat.le_of_ble_eq_true rfl)) dX4_fillLongList_26 ⟨Nat.le_of_ble_eq_true rfl, Nat.le_of_ble_eq_true rfl⟩) hS (fun q h1 h2 => ro_A h1 h2) (fun q h => ro_F hS hA q h) (fun r u t H1 locs ht hvm hw9 hB9 hz1 hk1 hS => ?_)
        have hw9 : r = (iI (m_best gq x2)) := hw9
        subst hw9
        have hP := ro_P hP hk1
        generalize H1 = H at hP hS ⊢
        have s9 := best_in gq x2
        have s10 := Wf.m4 hWq
        have hbi := best_in g x2
        rw [show (m_best gq x2) = (m_best g x2) from (by rw [hgq]; rfl)]
        refine lv_istore (lv' := [(4, .int (iI (m_best g x2))), (3, .int (iI ((n : Nat) : Int))), (2, .int (iI x2)), (0, .ref (a 0)), (1, .int (iI mm))]) hx hb dX4_fillLongList_29 hl (by decide) rfl (fun ls hl => ?_)
        refine lv_iload hx hb dX4_fillLongList_31 (lv_at hl 0 rfl) ?_
        refine lv_iconst (v := iI (-1)) hx hb dX4_fillLongList_33 (by decide) ?_
        refine n_icmp_ne hx hb (by unfold RI; omega) (by unfold RI; omega) (tgt := 38) dX4_fillLongList_34 (by decide) (fun h11 => ?_) (fun h11 => ?_)
        · skip
          refine lv_iload_n hx hb dX4_fillLongList_38 rfl (lv_at hl 2 rfl) ?_
          refine lv_iload hx hb dX4_fillLongList_39 (lv_at hl 0 rfl) ?_
          refine va_calli (va_runS (As := [.int (iI (m_best g x2))]) (rest := [.int (iI x2)]) ⟨hx, hb, hml, hown, hw⟩ (c_bit l D a cH cB cJ cI ha gq vt H.size (m_best g x2) (by omega)) (va_cwS 1 hw (gA_S kw_171 kw_172 kw_2 kw_173) rfl rfl rfl (by decide +kernel) ⟨Nat.le_of_ble_eq_true rfl, Nat.le_of_ble_eq_true rfl⟩) (pS_s hP hK hE) rfl rfl hl.1 rfl (lv_room (Nat.le_of_ble_eq_true rfl)) dX4_fillLongList_41 ⟨Nat.le_of_ble_eq_true rfl, Nat.le_of_ble_eq_true rfl⟩) hS (fun q h1 h2 => ro_A h1 h2) (fun q h => ro_F hS hA q h) (fun r u t H1 locs ht hvm hw9 hB9 hz1 hk1 hS => ?_)
          have hw9 : r = (iI (m_bt (m_best g x2))) := hw9
          subst hw9
          have hP := ro_P hP hk1
          generalize H1 = H at hP hS ⊢
          have s12 := bt_nn (m_best g x2)
          have s13 := bt_lt (n := (m_best g x2)) (by omega) (by omega)
          refine lv_iconst (v := iI (-1)) hx hb dX4_fillLongList_44 (by decide) ?_
          refine lv_ixor hx hb dX4_fillLongList_45 ?_
          refine n_andn hx hb (by omega) (by omega) dX4_fillLongList_46 ?_
          have s14 := bd_span (S := x2) (T := (m_bt (m_best g x2))) (by omega)
          refine lv_istore_n (lv' := [(2, .int (iI (m_bd x2 (m_bt (m_best g x2))))), (4, .int (iI (m_best g x2))), (3, .int (iI ((n : Nat) : Int))), (0, .ref (a 0)), (1, .int (iI mm))]) hx hb dX4_fillLongList_47 rfl hl (by decide) rfl (fun ls hl => ?_)
          refine lv_aload_n hx hb dX4_fillLongList_48 rfl (lv_at hl 3 rfl) ?_
          refine lv_aload_n hx hb dX4_fillLongList_49 rfl (lv_at hl 3 rfl) ?_
          refine va_get (D := D) (ci := 4) (v := .ref (a 2)) (C := RX4) (T := TX4) (N := 19) hx hb hw hin_wsX40 hown hK hP 0 pw_0 rfl 1 (by decide) (hw _ kw_17) (fun _ h9 => h9) rfl dX4_fillLongList_50 ?_
          refine lv_iload hx hb dX4_fillLongList_53 (lv_at hl 1 rfl) ?_
          refine p_aldB hx hb hK hP (k := (m_best g x2)) (by omega) (by omega) dX4_fillLongList_55 ?_
          have e15 : gq 2 (m_best g x2) 0 = g 2 (m_best g x2) 0 := by simp [hgq, m_up]
          have s16 := Wf.b0 hWf (k := (m_best g x2)) (by omega) (by omega)
          refine va_get (D := D) (ci := 0) (v := .int (iI (g 2 (m_best g x2) 0))) (C := RX0) (T := TX0) (N := 11) hx hb hw hin_wsX00 hown hK hP (12 + (m_best g x2).toNat) (pw_B (b := (m_best g x2)) (by omega) (by omega)) rfl 0 (by decide) (hw _ kw_210) (fun _ h9 => h9) (by rw [← e15]; rfl) dX4_fillLongList_56 ?_
          refine lv_aload_n hx hb dX4_fillLongList_59 rfl (lv_at hl 3 rfl) ?_
          have e17 : gq 0 0 11 = y9 := by simp [hgq, m_up]
          refine va_get (D := D) (ci := 4) (v := .int (iI y9)) (C := RX4) (T := TX4) (N := 19) hx hb hw hin_wsX40 hown hK hP 0 pw_0 rfl 11 (by decide) (hw _ kw_99) (fun _ h9 => h9) (by rw [← e17]; rfl) dX4_fillLongList_60 ?_
          refine va_calli (va_runV (As := [.int (iI (g 2 (m_best g x2) 0)), .int (iI y9)]) (rest := []) ⟨hx, hb, hml, hown, hw⟩ (c_countOfHouse l D a cH cB cJ cI ha gq vt H.size (g 2 (m_best g x2) 0) y9 hWq (by omega) (by omega)) (cwV 2 hw (gA_V kw_277 kw_278 kw_279 kw_2 kw_280) rfl rfl rfl (by decide +kernel) ⟨Nat.le_of_ble_eq_true rfl, Nat.le_of_ble_eq_true rfl⟩) (pS_v (ci := 4) (q0 := 0) rfl pw_0 hP hK hE) rfl rfl hl.1 rfl (lv_room (Nat.le_of_ble_eq_true rfl)) dX4_fillLongList_63 ⟨Nat.le_of_ble_eq_true rfl, Nat.le_of_ble_eq_true rfl⟩) hS (fun q h1 h2 => ro_A h1 h2) (fun q h => ro_F hS hA q h) (fun r u t H1 locs ht hvm hw9 hB9 hz1 hk1 hS => ?_)
          have hw9 : r = (iI (m_coh gq (g 2 (m_best g x2) 0) y9)) := hw9
          subst hw9
          have hP := ro_P hP hk1
          generalize H1 = H at hP hS ⊢
          have s18 := coh_16 hWq (g 2 (m_best g x2) 0) y9
          have hci := coh_16 hWf (g 2 (m_best g x2) 0) y9
          rw [show (m_coh gq (g 2 (m_best g x2) 0) y9) = (m_coh g (g 2 (m_best g x2) 0) y9) from (by rw [hgq]; rfl)]
          refine lv_iconst (v := iI 2) hx hb dX4_fillLongList_66 (by decide) ?_
          refine n_icmp_ge hx hb (by unfold RI; omega) (by unfold RI; omega) (tgt := 84) dX4_fillLongList_67 (by decide) (fun h19 => ?_) (fun h19 => ?_)
          · skip
            refine n_inc (lv' := [(3, .int (iI (((n : Nat) : Int) + 1))), (2, .int (iI (m_bd x2 (m_bt (m_best g x2))))), (4, .int (iI (m_best g x2))), (0, .ref (a 0)), (1, .int (iI mm))]) hx hb dX4_fillLongList_84 hl (k := 2) rfl (by decide) rfl (fun ls hl => ?_)
            refine lv_goto (tgt := 7) hx hb dX4_fillLongList_87 (by decide) ?_
            have hl : lv_has ls 5 [(3, .int (iI (((n : Nat) : Int) + 1))), (2, .int (iI (m_bd x2 (m_bt (m_best g x2))))), (0, .ref (a 0)), (1, .int (iI mm))] := lv_sub hl [0, 1, 3, 4] rfl
            have e20 : (((n : Nat) : Int) + 1) = (((n + 1) : Nat) : Int) := by rfl
            have hl : lv_has ls 5 [(3, .int (iI (((n + 1) : Nat) : Int))), (2, .int (iI (m_bd x2 (m_bt (m_best g x2))))), (0, .ref (a 0)), (1, .int (iI mm))] := lv_cast hl (by rw [e20])
            have e21 : gq 0 0 11 = y9 := by simp [hgq, m_up]
            exact ih7 (n + 1) (m_bd x2 (m_bt (m_best g x2))) y9 gq H locs ls (by omega) (by first | exact hgq | (rw [rfl, hgq]; exact up_up _ _ _ _ _ _)) (by rw [hq]; simp only [m_fillLong]; rw [if_pos (by omega), if_neg (by assumption)]; first | rw [if_pos (by omega)] | rw [if_neg (by omega)]) (by omega) (by first | assumption | exact bo_16 hy (by omega) (by omega)) hP hS hl
          · skip
            refine lv_aload_n hx hb dX4_fillLongList_70 rfl (lv_at hl 3 rfl) ?_
            refine lv_dup hx hb dX4_fillLongList_71 rfl ?_
            have e22 : gq 0 0 11 = y9 := by simp [hgq, m_up]
            refine va_get (D := D) (ci := 4) (v := .int (iI y9)) (C := RX4) (T := TX4) (N := 19) hx hb hw hin_wsX40 hown hK hP 0 pw_0 rfl 11 (by decide) (hw _ kw_99) (fun _ h9 => h9) (by rw [← e22]; rfl) dX4_fillLongList_72 ?_
            refine lv_iload hx hb dX4_fillLongList_75 (lv_at hl 1 rfl) ?_
            refine va_calli (va_runS (As := [.int (iI (m_best g x2))]) (rest := [.int (iI y9), .ref (a 0)]) ⟨hx, hb, hml, hown, hw⟩ (c_bit l D a cH cB cJ cI ha gq vt H.size (m_best g x2) (by omega)) (va_cwS 1 hw (gA_S kw_171 kw_172 kw_2 kw_173) rfl rfl rfl (by decide +kernel) ⟨Nat.le_of_ble_eq_true rfl, Nat.le_of_ble_eq_true rfl⟩) (pS_s hP hK hE) rfl rfl hl.1 rfl (lv_room (Nat.le_of_ble_eq_true rfl)) dX4_fillLongList_77 ⟨Nat.le_of_ble_eq_true rfl, Nat.le_of_ble_eq_true rfl⟩) hS (fun q h1 h2 => ro_A h1 h2) (fun q h => ro_F hS hA q h) (fun r u t H1 locs ht hvm hw9 hB9 hz1 hk1 hS => ?_)
            have hw9 : r = (iI (m_bt (m_best g x2))) := hw9
            subst hw9
            have hP := ro_P hP hk1
            generalize H1 = H at hP hS ⊢
            refine n_or hx hb (by omega) (by omega) dX4_fillLongList_80 ?_
            have s23 := bo_nn y9 (m_bt (m_best g x2))
            refine va_put (D := D) (ci := 4) (v := .int (iI (m_bo y9 (m_bt (m_best g x2))))) (C := RX4) (T := TX4) (N := 19) (ty := .int) hx hb hw hin_wsX40 tyX4 tyX4_ok nmX4 hown hK hP (pw_D ha (fun k hk => pA_in hk)) hS 0 pw_0 rfl 11 (by decide) (hw _ kw_99) (fun _ h9 => h9) rfl (tyX4_ok 11 (by decide)) rfl rfl (show 11 < 19 from by decide) dX4_fillLongList_81 (fun H locs hP _ hS => ?_)
            rw [pw_setM (by decide) (by decide) (by decide) (by decide)] at hP
            have hP : va_P D vwCl (pw a cH cB cJ cI (m_up gq 0 0 11 (m_bo y9 (m_bt (m_best g x2)))) vt) H := hP
            obtain ⟨g24, hg24⟩ : ∃ z, z = m_up gq 0 0 11 (m_bo y9 (m_bt (m_best g x2))) := ⟨_, rfl⟩
            rw [← hg24] at hP
            refine n_inc (lv' := [(3, .int (iI (((n : Nat) : Int) + 1))), (2, .int (iI (m_bd x2 (m_bt (m_best g x2))))), (4, .int (iI (m_best g x2))), (0, .ref (a 0)), (1, .int (iI mm))]) hx hb dX4_fillLongList_84 hl (k := 2) rfl (by decide) rfl (fun ls hl => ?_)
            refine lv_goto (tgt := 7) hx hb dX4_fillLongList_87 (by decide) ?_
            have hl : lv_has ls 5 [(3, .int (iI (((n : Nat) : Int) + 1))), (2, .int (iI (m_bd x2 (m_bt (m_best g x2))))), (0, .ref (a 0)), (1, .int (iI mm))] := lv_sub hl [0, 1, 3, 4] rfl
            have e25 : (((n : Nat) : Int) + 1) = (((n + 1) : Nat) : Int) := by rfl
            have hl : lv_has ls 5 [(3, .int (iI (((n + 1) : Nat) : Int))), (2, .int (iI (m_bd x2 (m_bt (m_best g x2))))), (0, .ref (a 0)), (1, .int (iI mm))] := lv_cast hl (by rw [e25])
            have e26 : g24 0 0 11 = (m_bo y9 (m_bt (m_best g x2))) := by simp [hg24, m_up]
            exact ih7 (n + 1) (m_bd x2 (m_bt (m_best g x2))) (m_bo y9 (m_bt (m_best g x2))) g24 H locs ls (by omega) (by first | exact hgq | (rw [hg24, hgq]; exact up_up _ _ _ _ _ _)) (by rw [hq]; simp only [m_fillLong]; rw [if_pos (by omega), if_neg (by assumption)]; first | rw [if_pos (by omega)] | rw [if_neg (by omega)]) (by omega) (by first | assumption | exact bo_16 hy (by omega) (by omega)) hP hS hl
        · skip
          have hf27 : gq = (m_up g 0 0 11 (m_fillLong g mm 16 (m_listable g) (g 0 0 11))) := by rw [hgq]; exact congrArg (m_up g 0 0 11) (by rw [hq]; first | rfl | (unfold m_fillLong; rw [if_neg (by omega)]) | (unfold m_fillLong; rw [if_pos (by omega), if_pos (by assumption)]))
          rw [hf27] at hP
          exact W.vret hx hb hr (fun t ht hW9 => ⟨⟨(), rfl, trivial, ⟨vt, by rw [ht]; exact hP⟩⟩, hS.F ht⟩) hS.2.2 dX4_fillLongList_37
  have hl : lv_has ls 5 [(3, .int (iI 0)), (2, .int (iI (m_listable g))), (0, .ref (a 0)), (1, .int (iI mm))] := lv_sub hl [0, 1, 2, 3] rfl
  have hl : lv_has ls 5 [(3, .int (iI ((0 : Nat) : Int))), (2, .int (iI (m_listable g))), (0, .ref (a 0)), (1, .int (iI mm))] := hl
  exact loop7 16 0 (m_listable g) (g 0 0 11) g H locs ls (by omega) (up_same g 0 0 11).symm rfl (by omega) (Wf.m11 hWf) hP hS hl
set_option maxHeartbeats 4000000 in
set_option maxRecDepth 100000 in
theorem c_fillShort (l : Launch) (D : va_G) (a : Nat → Nat) (cH cB cJ cI : ClassId) (ha : pj a) (g : m_St) (vt : Nat → Int32) (sz : Nat) (mm : Int) (hWf : Wf g) (hmm : 2 ≤ mm ∧ mm ≤ 5) : Met l yX4_fillShortList (wc yX4_fillShortList cX4_fillShortList 4 none) ({ frames := 5, cells := 0, slots := 0, locals := 114 }) (va_Pc [.ref (a 0), .int (iI mm)] (pS D a cH cB cJ cI sz g vt)) (va_Qv (fun (_ : Unit) => True) (fun _ t => ∃ vt1 : Nat → Int32, va_P D vwCl (pw a cH cB cJ cI (m_up g 0 0 13 (m_fillShort g mm.toNat (g 0 0 13))) vt1) t.heap) (pA a sz)) 0 0 (pA a sz) := by
  refine Met.ofW (cc := cX4_fillShortList) (maxL := 4) (ret := none) (by decide +kernel) rfl ?_
  intro p e s m args below meth c s₁ B9 hml hv
  obtain ⟨rfl, hsz, hP, hK, hE⟩ := hv
  have hx := B9.exec
  have hb := B9.bytes
  have hr := B9.returns
  have hts := atoms_spec (ws := (wc yX4_fillShortList cX4_fillShortList 4 none)) B9.pre
  have hw : ∀ w ∈ wsL_law0, w.before [.ref (a 0), .int (iI mm)].toArray s = true := fun w h => hts w (List.mem_cons_of_mem _ h)
  have hown : s.vm.findClass RX4 = some m.cls := findClass_of_methodNamed B9.named
  have hlocks := B9.notSynchronized
  subst hsz
  have hS : va_S (pA a s.heap.size) s.heap s.heap [] := va_S.rf
  have hA : ∀ q : Nat, s.heap.size ≤ q → pA a s.heap.size q := fun _ h => pA_new h
  have hB : ∀ k, k < 58 → pA a s.heap.size (a k) := fun _ h => pA_in h
  have hl := lv_entry ([.ref (a 0), .int (iI mm)]) (n := 4) (Nat.le_of_ble_eq_true rfl)
  rw [lg_entry_eq]
  generalize (lg_sl ([.ref (a 0), .int (iI mm)]) ++ List.replicate (4 - (lg_sl ([.ref (a 0), .int (iI mm)])).length) Slot.unset).toArray = ls at hl ⊢
  have hl : lv_has ls 4 [(0, .ref (a 0)), (1, .int (iI mm))] := hl
  suffices h9 : ∀ (H : Heap) (locs : List Loc), va_P D vwCl (pw a cH cB cJ cI g vt) H → va_S (pA a s.heap.size) s.heap H locs → W p l e (headSpec (wc yX4_fillShortList cX4_fillShortList 4 none) ({ frames := 5, cells := 0, slots := 0, locals := 114 })).room s m [.ref (a 0), .int (iI mm)].toArray below meth c H locs 0 0 (MQ below (va_Qv (fun (_ : Unit) => True) (fun _ t => ∃ vt1 : Nat → Int32, va_P D vwCl (pw a cH cB cJ cI (m_up g 0 0 13 (m_fillShort g mm.toNat (g 0 0 13))) vt1) t.heap) (pA a s.heap.size)) [.ref (a 0), .int (iI mm)].toArray s 0 0 (pA a s.heap.size)) (F0 m 0 ls []) from h9 s.heap [] hP hS
  clear hP hS
  intro H locs hP hS
  have m4 := Wf.m4 hWf
  have m11 := Wf.m11 hWf
  refine lv_iconst (v := iI 0) hx hb dX4_fillShortList_0 (by decide) ?_
  refine lv_istore_n (lv' := [(2, .int (iI 0)), (0, .ref (a 0)), (1, .int (iI mm))]) hx hb dX4_fillShortList_1 rfl hl (by decide) rfl (fun ls hl => ?_)
  have loop2 : ∀ (d n : Nat) (y9 : Int) (gq : m_St) (H : Heap) (locs : List Loc) (ls : Array Slot), n + d = mm.toNat → gq = m_up g 0 0 13 y9 → (m_fillShort g mm.toNat (g 0 0 13) = m_fillShort g d y9) → (0 ≤ y9 ∧ y9 < 65536) → va_P D vwCl (pw a cH cB cJ cI gq vt) H → va_S (pA a s.heap.size) s.heap H locs → lv_has ls 4 [(2, .int (iI ((n : Nat) : Int))), (0, .ref (a 0)), (1, .int (iI mm))] → W p l e (headSpec (wc yX4_fillShortList cX4_fillShortList 4 none) ({ frames := 5, cells := 0, slots := 0, locals := 114 })).room s m [.ref (a 0), .int (iI mm)].toArray below meth c H locs 0 0 (MQ below (va_Qv (fun (_ : Unit) => True) (fun _ t => ∃ vt1 : Nat → Int32, va_P D vwCl (pw a cH cB cJ cI (m_up g 0 0 13 (m_fillShort g mm.toNat (g 0 0 13))) vt1) t.heap) (pA a s.heap.size)) [.ref (a 0), .int (iI mm)].toArray s 0 0 (pA a s.heap.size)) (F0 m 2 ls []) := by
    intro d
    induction d with
    | zero =>
      intro n y9 gq H locs ls hn hgq hq hy hP hS hl
      obtain rfl : n = mm.toNat := by omega
      have hWq : Wf gq := by rw [hgq]; exact Wf.s13 hWf hy
      refine lv_iload_n hx hb dX4_fillShortList_2 rfl (lv_at hl 0 rfl) ?_
      refine lv_iload_n hx hb dX4_fillShortList_3 rfl (lv_at hl 2 rfl) ?_
      refine n_icmp_ge hx hb (by unfold RI; omega) (by unfold RI; omega) (tgt := 48) dX4_fillShortList_4 (by decide) (fun h1 => ?_) (fun h1 => absurd h1 (by intro h1; omega))
      have hf2 : gq = (m_up g 0 0 13 (m_fillShort g mm.toNat (g 0 0 13))) := by rw [hgq]; exact congrArg (m_up g 0 0 13) (by rw [hq]; first | rfl | (unfold m_fillShort; rw [if_pos (by assumption)]))
      rw [hf2] at hP
      exact W.vret hx hb hr (fun t ht hW9 => ⟨⟨(), rfl, trivial, ⟨vt, by rw [ht]; exact hP⟩⟩, hS.F ht⟩) hS.2.2 dX4_fillShortList_48
    | succ d ih2 =>
      intro n y9 gq H locs ls hn hgq hq hy hP hS hl
      have hWq : Wf gq := by rw [hgq]; exact Wf.s13 hWf hy
      refine lv_iload_n hx hb dX4_fillShortList_2 rfl (lv_at hl 0 rfl) ?_
      refine lv_iload_n hx hb dX4_fillShortList_3 rfl (lv_at hl 2 rfl) ?_
      refine n_icmp_ge hx hb (by unfold RI; omega) (by unfold RI; omega) (tgt := 48) dX4_fillShortList_4 (by decide) (fun h3 => absurd h3 (by intro h3; omega)) (fun h3 => ?_)
      refine lv_aload_n hx hb dX4_fillShortList_7 rfl (lv_at hl 1 rfl) ?_
      refine lv_aload_n hx hb dX4_fillShortList_8 rfl (lv_at hl 1 rfl) ?_
      have e4 : gq 0 0 11 = g 0 0 11 := by simp [hgq, m_up]
      have s5 := Wf.m11 hWf
      refine va_get (D := D) (ci := 4) (v := .int (iI (g 0 0 11))) (C := RX4) (T := TX4) (N := 19) hx hb hw hin_wsX40 hown hK hP 0 pw_0 rfl 11 (by decide) (hw _ kw_99) (fun _ h9 => h9) (by rw [← e4]; rfl) dX4_fillShortList_9 ?_
      refine lv_aload_n hx hb dX4_fillShortList_12 rfl (lv_at hl 1 rfl) ?_
      have e6 : gq 0 0 13 = y9 := by simp [hgq, m_up]
      refine va_get (D := D) (ci := 4) (v := .int (iI y9)) (C := RX4) (T := TX4) (N := 19) hx hb hw hin_wsX40 hown hK hP 0 pw_0 rfl 13 (by decide) (hw _ kw_100) (fun _ h9 => h9) (by rw [← e6]; rfl) dX4_fillShortList_13 ?_
      refine lv_iconst (v := iI (-1)) hx hb dX4_fillShortList_16 (by decide) ?_
      refine lv_ixor hx hb dX4_fillShortList_17 ?_
      refine n_andn hx hb (by omega) (by omega) dX4_fillShortList_18 ?_
      have s7 := bd_span (S := g 0 0 11) (T := y9) (by omega)
      refine va_calli (va_runV (As := [.int (iI (m_bd (g 0 0 11) y9))]) (rest := []) ⟨hx, hb, hml, hown, hw⟩ (c_bestOf l D a cH cB cJ cI ha gq vt H.size (m_bd (g 0 0 11) y9) hWq (by omega)) (cwV 1 hw (gA_V kw_358 kw_359 kw_360 kw_2 kw_361) rfl rfl rfl (by decide +kernel) ⟨Nat.le_of_ble_eq_true rfl, Nat.le_of_ble_eq_true rfl⟩) (pS_v (ci := 4) (q0 := 0) rfl pw_0 hP hK hE) rfl rfl hl.1 rfl (lv_room (Nat.le_of_ble_eq_true rfl)) dX4_fillShortList_19 ⟨Nat.le_of_ble_eq_true rfl, Nat.le_of_ble_eq_true rfl⟩) hS (fun q h1 h2 => ro_A h1 h2) (fun q h => ro_F hS hA q h) (fun r u t H1 locs ht hvm hw9 hB9 hz1 hk1 hS => ?_)
      have hw9 : r = (iI (m_best gq (m_bd (g 0 0 11) y9))) := hw9
      subst hw9
      have hP := ro_P hP hk1
      generalize H1 = H at hP hS ⊢
      have s8 := best_in gq (m_bd (g 0 0 11) y9)
      have s9 := Wf.m4 hWq
      have hbi := best_in g (m_bd (g 0 0 11) y9)
      rw [show (m_best gq (m_bd (g 0 0 11) y9)) = (m_best g (m_bd (g 0 0 11) y9)) from (by rw [hgq]; rfl)]
      refine lv_istore_n (lv' := [(3, .int (iI (m_best g (m_bd (g 0 0 11) y9)))), (2, .int (iI ((n : Nat) : Int))), (0, .ref (a 0)), (1, .int (iI mm))]) hx hb dX4_fillShortList_22 rfl hl (by decide) rfl (fun ls hl => ?_)
      refine lv_iload_n hx hb dX4_fillShortList_23 rfl (lv_at hl 0 rfl) ?_
      refine lv_iconst (v := iI (-1)) hx hb dX4_fillShortList_24 (by decide) ?_
      refine n_icmp_ne hx hb (by unfold RI; omega) (by unfold RI; omega) (tgt := 29) dX4_fillShortList_25 (by decide) (fun h10 => ?_) (fun h10 => ?_)
      · skip
        refine lv_aload_n hx hb dX4_fillShortList_29 rfl (lv_at hl 2 rfl) ?_
        refine lv_dup hx hb dX4_fillShortList_30 rfl ?_
        have e11 : gq 0 0 13 = y9 := by simp [hgq, m_up]
        refine va_get (D := D) (ci := 4) (v := .int (iI y9)) (C := RX4) (T := TX4) (N := 19) hx hb hw hin_wsX40 hown hK hP 0 pw_0 rfl 13 (by decide) (hw _ kw_100) (fun _ h9 => h9) (by rw [← e11]; rfl) dX4_fillShortList_31 ?_
        refine lv_iload_n hx hb dX4_fillShortList_34 rfl (lv_at hl 0 rfl) ?_
        refine va_calli (va_runS (As := [.int (iI (m_best g (m_bd (g 0 0 11) y9)))]) (rest := [.int (iI y9), .ref (a 0)]) ⟨hx, hb, hml, hown, hw⟩ (c_bit l D a cH cB cJ cI ha gq vt H.size (m_best g (m_bd (g 0 0 11) y9)) (by omega)) (va_cwS 1 hw (gA_S kw_171 kw_172 kw_2 kw_173) rfl rfl rfl (by decide +kernel) ⟨Nat.le_of_ble_eq_true rfl, Nat.le_of_ble_eq_true rfl⟩) (pS_s hP hK hE) rfl rfl hl.1 rfl (lv_room (Nat.le_of_ble_eq_true rfl)) dX4_fillShortList_35 ⟨Nat.le_of_ble_eq_true rfl, Nat.le_of_ble_eq_true rfl⟩) hS (fun q h1 h2 => ro_A h1 h2) (fun q h => ro_F hS hA q h) (fun r u t H1 locs ht hvm hw9 hB9 hz1 hk1 hS => ?_)
        have hw9 : r = (iI (m_bt (m_best g (m_bd (g 0 0 11) y9)))) := hw9
        subst hw9
        have hP := ro_P hP hk1
        generalize H1 = H at hP hS ⊢
        have s12 := bt_nn (m_best g (m_bd (g 0 0 11) y9))
        have s13 := bt_lt (n := (m_best g (m_bd (g 0 0 11) y9))) (by omega) (by omega)
        refine n_or hx hb (by omega) (by omega) dX4_fillShortList_38 ?_
        have s14 := bo_nn y9 (m_bt (m_best g (m_bd (g 0 0 11) y9)))
        refine va_put (D := D) (ci := 4) (v := .int (iI (m_bo y9 (m_bt (m_best g (m_bd (g 0 0 11) y9)))))) (C := RX4) (T := TX4) (N := 19) (ty := .int) hx hb hw hin_wsX40 tyX4 tyX4_ok nmX4 hown hK hP (pw_D ha (fun k hk => pA_in hk)) hS 0 pw_0 rfl 13 (by decide) (hw _ kw_100) (fun _ h9 => h9) rfl (tyX4_ok 13 (by decide)) rfl rfl (show 13 < 19 from by decide) dX4_fillShortList_39 (fun H locs hP _ hS => ?_)
        rw [pw_setM (by decide) (by decide) (by decide) (by decide)] at hP
        have hP : va_P D vwCl (pw a cH cB cJ cI (m_up gq 0 0 13 (m_bo y9 (m_bt (m_best g (m_bd (g 0 0 11) y9))))) vt) H := hP
        obtain ⟨g15, hg15⟩ : ∃ z, z = m_up gq 0 0 13 (m_bo y9 (m_bt (m_best g (m_bd (g 0 0 11) y9)))) := ⟨_, rfl⟩
        rw [← hg15] at hP
        refine n_inc (lv' := [(2, .int (iI (((n : Nat) : Int) + 1))), (3, .int (iI (m_best g (m_bd (g 0 0 11) y9)))), (0, .ref (a 0)), (1, .int (iI mm))]) hx hb dX4_fillShortList_42 hl (k := 1) rfl (by decide) rfl (fun ls hl => ?_)
        refine lv_goto (tgt := 2) hx hb dX4_fillShortList_45 (by decide) ?_
        have hl : lv_has ls 4 [(2, .int (iI (((n : Nat) : Int) + 1))), (0, .ref (a 0)), (1, .int (iI mm))] := lv_sub hl [0, 2, 3] rfl
        have e16 : (((n : Nat) : Int) + 1) = (((n + 1) : Nat) : Int) := by rfl
        have hl : lv_has ls 4 [(2, .int (iI (((n + 1) : Nat) : Int))), (0, .ref (a 0)), (1, .int (iI mm))] := lv_cast hl (by rw [e16])
        have e17 : g15 0 0 13 = (m_bo y9 (m_bt (m_best g (m_bd (g 0 0 11) y9)))) := by simp [hg15, m_up]
        exact ih2 (n + 1) (m_bo y9 (m_bt (m_best g (m_bd (g 0 0 11) y9)))) g15 H locs ls (by omega) (by first | exact hgq | (rw [hg15, hgq]; exact up_up _ _ _ _ _ _)) (by rw [hq]; simp only [m_fillShort]; rw [if_neg (by assumption)]) (by first | assumption | exact bo_16 hy (by omega) (by omega)) hP hS hl
      · skip
        have hf18 : gq = (m_up g 0 0 13 (m_fillShort g mm.toNat (g 0 0 13))) := by rw [hgq]; exact congrArg (m_up g 0 0 13) (by rw [hq]; first | rfl | (unfold m_fillShort; rw [if_pos (by assumption)]))
        rw [hf18] at hP
        exact W.vret hx hb hr (fun t ht hW9 => ⟨⟨(), rfl, trivial, ⟨vt, by rw [ht]; exact hP⟩⟩, hS.F ht⟩) hS.2.2 dX4_fillShortList_28
  have hl : lv_has ls 4 [(2, .int (iI 0)), (0, .ref (a 0)), (1, .int (iI mm))] := lv_sub hl [0, 1, 2] rfl
  have hl : lv_has ls 4 [(2, .int (iI ((0 : Nat) : Int))), (0, .ref (a 0)), (1, .int (iI mm))] := hl
  exact loop2 mm.toNat 0 (g 0 0 13) g H locs ls (by omega) (up_same g 0 0 13).symm rfl (Wf.m13 hWf) hP hS hl
set_option maxHeartbeats 4000000 in
set_option maxRecDepth 100000 in
theorem c_takeOrder (l : Launch) (D : va_G) (a : Nat → Nat) (cH cB cJ cI : ClassId) (ha : pj a) (g : m_St) (vt : Nat → Int32) (sz : Nat) (jj : Int) (oo : Int) (hWf : Wf g) (hjj : 0 ≤ jj ∧ jj < 5) (hoo : 0 ≤ oo ∧ oo ≤ 2147483647) : Met l yX4_takeOrder (wc yX4_takeOrder cX4_takeOrder 6 none) ({ frames := 2, cells := 0, slots := 0, locals := 44 }) (va_Pc [.ref (a 0), .ref (a (28 + 6 * jj.toNat)), .int (iI oo)] (pS D a cH cB cJ cI sz g vt)) (va_Qv (fun (_ : Unit) => True) (fun _ t => ∃ vt1 : Nat → Int32, va_P D vwCl (pw a cH cB cJ cI (m_takeOrder g jj oo) vt1) t.heap) (pA a sz)) 0 0 (pA a sz) := by
  refine Met.ofW (cc := cX4_takeOrder) (maxL := 6) (ret := none) (by decide +kernel) rfl ?_
  intro p e s m args below meth c s₁ B9 hml hv
  obtain ⟨rfl, hsz, hP, hK, hE⟩ := hv
  have hx := B9.exec
  have hb := B9.bytes
  have hr := B9.returns
  have hts := atoms_spec (ws := (wc yX4_takeOrder cX4_takeOrder 6 none)) B9.pre
  have hw : ∀ w ∈ wsL_law0, w.before [.ref (a 0), .ref (a (28 + 6 * jj.toNat)), .int (iI oo)].toArray s = true := fun w h => hts w (List.mem_cons_of_mem _ h)
  have hown : s.vm.findClass RX4 = some m.cls := findClass_of_methodNamed B9.named
  have hlocks := B9.notSynchronized
  subst hsz
  have hS : va_S (pA a s.heap.size) s.heap s.heap [] := va_S.rf
  have hA : ∀ q : Nat, s.heap.size ≤ q → pA a s.heap.size q := fun _ h => pA_new h
  have hB : ∀ k, k < 58 → pA a s.heap.size (a k) := fun _ h => pA_in h
  have hl := lv_entry ([.ref (a 0), .ref (a (28 + 6 * jj.toNat)), .int (iI oo)]) (n := 6) (Nat.le_of_ble_eq_true rfl)
  rw [lg_entry_eq]
  generalize (lg_sl ([.ref (a 0), .ref (a (28 + 6 * jj.toNat)), .int (iI oo)]) ++ List.replicate (6 - (lg_sl ([.ref (a 0), .ref (a (28 + 6 * jj.toNat)), .int (iI oo)])).length) Slot.unset).toArray = ls at hl ⊢
  have hl : lv_has ls 6 [(0, .ref (a 0)), (1, .ref (a (28 + 6 * jj.toNat))), (2, .int (iI oo))] := hl
  suffices h9 : ∀ (H : Heap) (locs : List Loc), va_P D vwCl (pw a cH cB cJ cI g vt) H → va_S (pA a s.heap.size) s.heap H locs → W p l e (headSpec (wc yX4_takeOrder cX4_takeOrder 6 none) ({ frames := 2, cells := 0, slots := 0, locals := 44 })).room s m [.ref (a 0), .ref (a (28 + 6 * jj.toNat)), .int (iI oo)].toArray below meth c H locs 0 0 (MQ below (va_Qv (fun (_ : Unit) => True) (fun _ t => ∃ vt1 : Nat → Int32, va_P D vwCl (pw a cH cB cJ cI (m_takeOrder g jj oo) vt1) t.heap) (pA a s.heap.size)) [.ref (a 0), .ref (a (28 + 6 * jj.toNat)), .int (iI oo)].toArray s 0 0 (pA a s.heap.size)) (F0 m 0 ls []) from h9 s.heap [] hP hS
  clear hP hS
  intro H locs hP hS
  have hpc := pcn_b (g 0 0 13)
  refine lv_iconst (v := iI 5) hx hb dX4_takeOrder_0 (by decide) ?_
  refine lv_aload_n hx hb dX4_takeOrder_1 rfl (lv_at hl 0 rfl) ?_
  have s1 := Wf.m13 hWf
  refine va_get (D := D) (ci := 4) (v := .int (iI (g 0 0 13))) (C := RX4) (T := TX4) (N := 19) hx hb hw hin_wsX40 hown hK hP 0 pw_0 rfl 13 (by decide) (hw _ kw_100) (fun _ h9 => h9) rfl dX4_takeOrder_2 ?_
  refine va_calli (va_runS (As := [.int (iI (g 0 0 13))]) (rest := [.int (iI 5)]) ⟨hx, hb, hml, hown, hw⟩ (c_bitCount l D a cH cB cJ cI ha g vt H.size (g 0 0 13) (by omega)) (va_cwS 1 hw (gA_S kw_112 kw_113 kw_114 kw_115) rfl rfl rfl (by decide +kernel) ⟨Nat.le_of_ble_eq_true rfl, Nat.le_of_ble_eq_true rfl⟩) (pS_s hP hK hE) rfl rfl hl.1 rfl (lv_room (Nat.le_of_ble_eq_true rfl)) dX4_takeOrder_5 ⟨Nat.le_of_ble_eq_true rfl, Nat.le_of_ble_eq_true rfl⟩) hS (fun q h1 h2 => ro_A h1 h2) (fun q h => ro_F hS hA q h) (fun r u t H1 locs ht hvm hw9 hB9 hz1 hk1 hS => ?_)
  have hw9 : r = (iI (m_pcn (g 0 0 13))) := hw9
  subst hw9
  have hP := ro_P hP hk1
  generalize H1 = H at hP hS ⊢
  have s2 := pcn_b (g 0 0 13)
  refine va_mmin hx hb (hml.trans hl.1.symm) hown (hw _ kw_274) (hw _ kw_275) (hw _ kw_6) (hw _ kw_276) (Nat.le_of_ble_eq_true rfl) (Nat.le_of_ble_eq_true rfl) (Nat.le_of_ble_eq_true rfl) (Nat.le_of_ble_eq_true rfl) dX4_takeOrder_8 ?_
  rw [n_min (by unfold RI; omega) (by unfold RI; omega)]
  refine lv_istore_n (lv' := [(3, .int (iI (min 5 (m_pcn (g 0 0 13))))), (0, .ref (a 0)), (1, .ref (a (28 + 6 * jj.toNat))), (2, .int (iI oo))]) hx hb dX4_takeOrder_11 rfl hl (by decide) rfl (fun ls hl => ?_)
  refine lv_iload_n hx hb dX4_takeOrder_12 rfl (lv_at hl 3 rfl) ?_
  refine lv_istore (lv' := [(4, .int (iI oo)), (3, .int (iI (min 5 (m_pcn (g 0 0 13))))), (0, .ref (a 0)), (1, .ref (a (28 + 6 * jj.toNat))), (2, .int (iI oo))]) hx hb dX4_takeOrder_13 hl (by decide) rfl (fun ls hl => ?_)
  refine lv_iload_n hx hb dX4_takeOrder_15 rfl (lv_at hl 1 rfl) ?_
  refine lv_iconst (v := iI 1) hx hb dX4_takeOrder_16 (by decide) ?_
  refine n_sub hx hb dX4_takeOrder_17 ?_
  refine lv_istore (lv' := [(5, .int (iI ((min 5 (m_pcn (g 0 0 13))) - 1))), (4, .int (iI oo)), (3, .int (iI (min 5 (m_pcn (g 0 0 13))))), (0, .ref (a 0)), (1, .ref (a (28 + 6 * jj.toNat))), (2, .int (iI oo))]) hx hb dX4_takeOrder_18 hl (by decide) rfl (fun ls hl => ?_)
  have loop20 : ∀ (d n : Nat) (x4 : Int) (gq : m_St) (H : Heap) (locs : List Loc) (ls : Array Slot), n + d = (min 5 (m_pcn (g 0 0 13))).toNat → (m_rankLoop jj (min 5 (m_pcn (g 0 0 13))).toNat g oo = m_rankLoop jj d gq x4) → (Wf gq) → (0 ≤ x4 ∧ x4 ≤ 2147483647) → va_P D vwCl (pw a cH cB cJ cI gq vt) H → va_S (pA a s.heap.size) s.heap H locs → lv_has ls 6 [(5, .int (iI ((min 5 (m_pcn (g 0 0 13))) - 1 - ((n : Nat) : Int)))), (4, .int (iI x4)), (3, .int (iI (min 5 (m_pcn (g 0 0 13))))), (0, .ref (a 0)), (1, .ref (a (28 + 6 * jj.toNat))), (2, .int (iI oo))] → W p l e (headSpec (wc yX4_takeOrder cX4_takeOrder 6 none) ({ frames := 2, cells := 0, slots := 0, locals := 44 })).room s m [.ref (a 0), .ref (a (28 + 6 * jj.toNat)), .int (iI oo)].toArray below meth c H locs 0 0 (MQ below (va_Qv (fun (_ : Unit) => True) (fun _ t => ∃ vt1 : Nat → Int32, va_P D vwCl (pw a cH cB cJ cI (m_takeOrder g jj oo) vt1) t.heap) (pA a s.heap.size)) [.ref (a 0), .ref (a (28 + 6 * jj.toNat)), .int (iI oo)].toArray s 0 0 (pA a s.heap.size)) (F0 m 20 ls []) := by
    intro d
    induction d with
    | zero =>
      intro n x4 gq H locs ls hn hq hWq hrx hP hS hl
      obtain rfl : n = (min 5 (m_pcn (g 0 0 13))).toNat := by omega
      refine lv_iload hx hb dX4_takeOrder_20 (lv_at hl 0 rfl) ?_
      refine n_if_lt hx hb (by unfold RI; omega) (tgt := 54) dX4_takeOrder_22 (by decide) (fun h3 => ?_) (fun h3 => absurd h3 (by intro h3; omega))
      refine lv_aload_n hx hb dX4_takeOrder_54 rfl (lv_at hl 4 rfl) ?_
      refine lv_iload_n hx hb dX4_takeOrder_55 rfl (lv_at hl 2 rfl) ?_
      refine va_put (D := D) (ci := 2) (v := .int (iI (min 5 (m_pcn (g 0 0 13))))) (C := RX2) (T := TX2) (N := 16) (ty := .int) hx hb hw hin_wsX20 tyX2 tyX2_ok nmX2 hown hK hP (pw_D ha (fun k hk => pA_in hk)) hS (28 + 6 * jj.toNat) (pw_J (j := jj) (by omega) (by omega)) rfl 15 (by decide) (hw _ kw_446) (fun _ h9 => h9) rfl (tyX2_ok 15 (by decide)) rfl rfl (show 15 < 16 from by decide) dX4_takeOrder_56 (fun H locs hP _ hS => ?_)
      rw [pw_setJ (by omega) (by omega) (by decide) (by decide) (by decide) (by decide) (by decide) (by decide)] at hP
      have hP : va_P D vwCl (pw a cH cB cJ cI (m_up gq 3 jj 15 (min 5 (m_pcn (g 0 0 13)))) vt) H := hP
      obtain ⟨g4, hg4⟩ : ∃ z, z = m_up gq 3 jj 15 (min 5 (m_pcn (g 0 0 13))) := ⟨_, rfl⟩
      rw [← hg4] at hP
      have hf5 : g4 = (m_takeOrder g jj oo) := by show _ = m_up (m_rankLoop jj (min 5 (m_pcn (g 0 0 13))).toNat g oo) 3 jj 15 (min 5 (m_pcn (g 0 0 13))); rw [hq, hg4]; rfl
      rw [hf5] at hP
      exact W.vret hx hb hr (fun t ht hW9 => ⟨⟨(), rfl, trivial, ⟨vt, by rw [ht]; exact hP⟩⟩, hS.F ht⟩) hS.2.2 dX4_takeOrder_59
    | succ d ih20 =>
      intro n x4 gq H locs ls hn hq hWq hrx hP hS hl
      refine lv_iload hx hb dX4_takeOrder_20 (lv_at hl 0 rfl) ?_
      refine n_if_lt hx hb (by unfold RI; omega) (tgt := 54) dX4_takeOrder_22 (by decide) (fun h6 => absurd h6 (by intro h6; omega)) (fun h6 => ?_)
      refine lv_aload_n hx hb dX4_takeOrder_25 rfl (lv_at hl 4 rfl) ?_
      refine va_get (D := D) (ci := 2) (v := .ref (a (28 + 5 + 6 * jj.toNat))) (C := RX2) (T := TX2) (N := 16) hx hb hw hin_wsX20 hown hK hP (28 + 6 * jj.toNat) (pw_J (j := jj) (by omega) (by omega)) rfl 14 (by decide) (hw _ kw_445) (fun _ h9 => h9) rfl dX4_takeOrder_26 ?_
      refine lv_iload hx hb dX4_takeOrder_29 (lv_at hl 0 rfl) ?_
      refine lv_aload_n hx hb dX4_takeOrder_31 rfl (lv_at hl 3 rfl) ?_
      refine lv_iload hx hb dX4_takeOrder_32 (lv_at hl 1 rfl) ?_
      refine lv_bipush (v := iI 10) hx hb dX4_takeOrder_34 (by decide) ?_
      refine n_rem hx hb (by unfold RI; omega) (by unfold RI; omega) (by omega) dX4_takeOrder_36 ?_
      have f7 := tmod_10 (x := x4) (by omega)
      refine va_calli (va_runV (As := [.int (iI (x4.tmod 10))]) (rest := [.int (iI ((min 5 (m_pcn (g 0 0 13))) - 1 - ((n : Nat) : Int))), .ref (a (28 + 5 + 6 * jj.toNat))]) ⟨hx, hb, hml, hown, hw⟩ (c_bookAtPlace l D a cH cB cJ cI ha gq vt H.size (x4.tmod 10) hWq (by omega)) (cwV 1 hw (gA_V kw_447 kw_448 kw_449 kw_2 kw_450) rfl rfl rfl (by decide +kernel) ⟨Nat.le_of_ble_eq_true rfl, Nat.le_of_ble_eq_true rfl⟩) (pS_v (ci := 4) (q0 := 0) rfl pw_0 hP hK hE) rfl rfl hl.1 rfl (lv_room (Nat.le_of_ble_eq_true rfl)) dX4_takeOrder_37 ⟨Nat.le_of_ble_eq_true rfl, Nat.le_of_ble_eq_true rfl⟩) hS (fun q h1 h2 => ro_A h1 h2) (fun q h => ro_F hS hA q h) (fun r u t H1 locs ht hvm hw9 hB9 hz1 hk1 hS => ?_)
      have hw9 : r = (iI (m_bookAt gq (x4.tmod 10) (gq 0 0 4).toNat 0 0)) := hw9
      subst hw9
      have hP := ro_P hP hk1
      generalize H1 = H at hP hS ⊢
      have s8 := bkat_b hWq (pl := (x4.tmod 10))
      refine p_wr hx hb hK hP (pw_D ha (fun k hk => pA_in hk)) hS (j := jj) (k := ((min 5 (m_pcn (g 0 0 13))) - 1 - ((n : Nat) : Int))) (x := (m_bookAt gq (x4.tmod 10) (gq 0 0 4).toNat 0 0)) (r := 5) (by omega) (by omega) (by decide) (by omega) (by rw [if_pos rfl]; omega) dX4_takeOrder_40 (fun H locs hP hS => ?_)
      have hP : va_P D vwCl (pw a cH cB cJ cI (m_up gq 8 jj ((min 5 (m_pcn (g 0 0 13))) - 1 - ((n : Nat) : Int)) (m_bookAt gq (x4.tmod 10) (gq 0 0 4).toNat 0 0)) vt) H := hP
      obtain ⟨g9, hg9⟩ : ∃ z, z = m_up gq 8 jj ((min 5 (m_pcn (g 0 0 13))) - 1 - ((n : Nat) : Int)) (m_bookAt gq (x4.tmod 10) (gq 0 0 4).toNat 0 0) := ⟨_, rfl⟩
      rw [← hg9] at hP
      refine lv_iload hx hb dX4_takeOrder_41 (lv_at hl 1 rfl) ?_
      refine lv_bipush (v := iI 10) hx hb dX4_takeOrder_43 (by decide) ?_
      refine n_div hx hb (by unfold RI; omega) (by unfold RI; omega) (by omega) dX4_takeOrder_45 ?_
      have f10 := tdiv_10 (x := x4) (by omega)
      refine lv_istore (lv' := [(4, .int (iI (x4.tdiv 10))), (5, .int (iI ((min 5 (m_pcn (g 0 0 13))) - 1 - ((n : Nat) : Int)))), (3, .int (iI (min 5 (m_pcn (g 0 0 13))))), (0, .ref (a 0)), (1, .ref (a (28 + 6 * jj.toNat))), (2, .int (iI oo))]) hx hb dX4_takeOrder_46 hl (by decide) rfl (fun ls hl => ?_)
      refine n_inc (lv' := [(5, .int (iI (((min 5 (m_pcn (g 0 0 13))) - 1 - ((n : Nat) : Int)) + (-1)))), (4, .int (iI (x4.tdiv 10))), (3, .int (iI (min 5 (m_pcn (g 0 0 13))))), (0, .ref (a 0)), (1, .ref (a (28 + 6 * jj.toNat))), (2, .int (iI oo))]) hx hb dX4_takeOrder_48 hl (k := 1) rfl (by decide) rfl (fun ls hl => ?_)
      refine lv_goto (tgt := 20) hx hb dX4_takeOrder_51 (by decide) ?_
      have hl : lv_has ls 6 [(5, .int (iI (((min 5 (m_pcn (g 0 0 13))) - 1 - ((n : Nat) : Int)) + (-1)))), (4, .int (iI (x4.tdiv 10))), (3, .int (iI (min 5 (m_pcn (g 0 0 13))))), (0, .ref (a 0)), (1, .ref (a (28 + 6 * jj.toNat))), (2, .int (iI oo))] := lv_sub hl [0, 1, 2, 3, 4, 5] rfl
      have e11 : (((min 5 (m_pcn (g 0 0 13))) - 1 - ((n : Nat) : Int)) + (-1)) = ((min 5 (m_pcn (g 0 0 13))) - 1 - (((n + 1) : Nat) : Int)) := by omega
      have hl : lv_has ls 6 [(5, .int (iI ((min 5 (m_pcn (g 0 0 13))) - 1 - (((n + 1) : Nat) : Int)))), (4, .int (iI (x4.tdiv 10))), (3, .int (iI (min 5 (m_pcn (g 0 0 13))))), (0, .ref (a 0)), (1, .ref (a (28 + 6 * jj.toNat))), (2, .int (iI oo))] := lv_cast hl (by rw [e11])
      exact ih20 (n + 1) (x4.tdiv 10) g9 H locs ls (by omega) (by rw [hq, hg9, show (min 5 (m_pcn (g 0 0 13))) - 1 - ((n : Nat) : Int) = ((d : Nat) : Int) from by omega]; rfl) (by rw [hg9]; exact Wf.up8 hWq (by omega)) (by omega) hP hS hl
  have hl : lv_has ls 6 [(5, .int (iI ((min 5 (m_pcn (g 0 0 13))) - 1))), (4, .int (iI oo)), (3, .int (iI (min 5 (m_pcn (g 0 0 13))))), (0, .ref (a 0)), (1, .ref (a (28 + 6 * jj.toNat))), (2, .int (iI oo))] := lv_sub hl [0, 1, 2, 3, 4, 5] rfl
  have e12 : ((min 5 (m_pcn (g 0 0 13))) - 1) = ((min 5 (m_pcn (g 0 0 13))) - 1 - ((0 : Nat) : Int)) := by omega
  have hl : lv_has ls 6 [(5, .int (iI ((min 5 (m_pcn (g 0 0 13))) - 1 - ((0 : Nat) : Int)))), (4, .int (iI oo)), (3, .int (iI (min 5 (m_pcn (g 0 0 13))))), (0, .ref (a 0)), (1, .ref (a (28 + 6 * jj.toNat))), (2, .int (iI oo))] := lv_cast hl (congrArg (fun z => ([(5, .int (iI z)), (4, .int (iI oo)), (3, .int (iI (min 5 (m_pcn (g 0 0 13))))), (0, .ref (a 0)), (1, .ref (a (28 + 6 * jj.toNat))), (2, .int (iI oo))] : List (Nat × Value))) e12)
  exact loop20 ((min 5 (m_pcn (g 0 0 13))).toNat) 0 oo g H locs ls (by omega) rfl hWf hoo hP hS hl
