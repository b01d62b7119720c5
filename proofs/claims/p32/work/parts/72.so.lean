set_option maxHeartbeats 4000000 in
set_option maxRecDepth 100000 in
theorem c_isSo (l : Launch) (D : va_G) (a : Nat → Nat) (cH cB cJ cI : ClassId) (ha : pj a) (g : m_St) (vt : Nat → Int32) (sz : Nat) (td : Int) (pd : Int) (pr : Int) (cl : Int) (hIv : Iv (g 0 0 3) (g 0 0 5) td pd pr cl g) (hmo : ∀ n t : Int, 0 ≤ n ∧ n ≤ 48 → 0 ≤ t ∧ t ≤ 99 * n → MeanOk n t) : Met l yL_isSo (wc yL_isSo cL_isSo 19 (some .boolean)) ({ frames := 6, cells := 1, slots := 5, locals := 138 }) (va_Pc [.ref (a 0), .int (iI (g 0 0 3)), .int (iI (g 0 0 5))] (pS D a cH cB cJ cI sz g vt)) (va_Qi (fun (r : Int32) (_ : Unit) => r = bi true) (fun _ t => ∃ vt1 : Nat → Int32, va_P D vwCl (pw a cH cB cJ cI g vt1) t.heap) (pA a sz)) 1 5 (pA a sz) := by
  refine Met.ofW (cc := cL_isSo) (maxL := 19) (ret := (some .boolean)) (by decide +kernel) rfl ?_
  intro p e s m args below meth c s₁ B9 hml hv
  obtain ⟨rfl, hsz, hP, hK, hE⟩ := hv
  have hx := B9.exec
  have hb := B9.bytes
  have hr := B9.returns
  have hts := atoms_spec (ws := (wc yL_isSo cL_isSo 19 (some .boolean))) B9.pre
  have hw : ∀ w ∈ wsL_law0, w.before [.ref (a 0), .int (iI (g 0 0 3)), .int (iI (g 0 0 5))].toArray s = true := fun w h => hts w (List.mem_cons_of_mem _ h)
  have hown : s.vm.findClass RL = some m.cls := findClass_of_methodNamed B9.named
  subst hsz
  have hS : va_S (pA a s.heap.size) s.heap s.heap [] := va_S.rf
  have hA : ∀ q : Nat, s.heap.size ≤ q → pA a s.heap.size q := fun _ h => pA_new h
  have hB : ∀ k, k < 58 → pA a s.heap.size (a k) := fun _ h => pA_in h
  have hl := lv_entry ([.ref (a 0), .int (iI (g 0 0 3)), .int (iI (g 0 0 5))]) (n := 19) (Nat.le_of_ble_eq_true rfl)
  rw [lg_entry_eq]
  generalize (lg_sl ([.ref (a 0), .int (iI (g 0 0 3)), .int (iI (g 0 0 5))]) ++ List.replicate (19 - (lg_sl ([.ref (a 0), .int (iI (g 0 0 3)), .int (iI (g 0 0 5))])).length) Slot.unset).toArray = ls at hl ⊢
  have hl : lv_has ls 19 [(0, .ref (a 0)), (1, .int (iI (g 0 0 3))), (2, .int (iI (g 0 0 5)))] := hl
  suffices h9 : ∀ (H : Heap) (locs : List Loc), va_P D vwCl (pw a cH cB cJ cI g vt) H → va_S (pA a s.heap.size) s.heap H locs → W p l e (headSpec (wc yL_isSo cL_isSo 19 (some .boolean)) ({ frames := 6, cells := 1, slots := 5, locals := 138 })).room s m [.ref (a 0), .int (iI (g 0 0 3)), .int (iI (g 0 0 5))].toArray below meth c H locs 0 0 (MQ below (va_Qi (fun (r : Int32) (_ : Unit) => r = bi true) (fun _ t => ∃ vt1 : Nat → Int32, va_P D vwCl (pw a cH cB cJ cI g vt1) t.heap) (pA a s.heap.size)) [.ref (a 0), .int (iI (g 0 0 3)), .int (iI (g 0 0 5))].toArray s 1 5 (pA a s.heap.size)) (F0 m 0 ls []) from h9 s.heap [] hP hS
  clear hP hS
  intro H locs hP hS
  have hWf : Wf g := hIv.1
  have m3 := Wf.m3 hWf
  have m4 := Wf.m4 hWf
  have m5 := Wf.m5 hWf
  have m9 := Wf.m9 hWf
  have m11 := Wf.m11 hWf
  have m13 := Wf.m13 hWf
  have hS5 := hIv.2.2.2.2.1
  have hsb : ∀ b, m_has (g 0 0 13) b = true → b < g 0 0 4 := fun b hb => (hS5.1 b (hS5.2.1 b hb)).1
  refine lv_aload_n hx hb dL_isSo_0 rfl (lv_at hl 0 rfl) ?_
  refine lv_iconst (v := iI 1) hx hb dL_isSo_1 (by decide) ?_
  refine va_calli (va_runV (As := [.int (iI 1)]) (rest := []) ⟨hx, hb, hml, hown, hw⟩ (c_many l D a cH cB cJ cI ha g vt H.size 1 hWf (by omega)) (cwV 1 hw (gA_V kw_92 kw_93 kw_94 kw_2 kw_95) rfl rfl rfl (by decide +kernel) ⟨Nat.le_of_ble_eq_true rfl, Nat.le_of_ble_eq_true rfl⟩) (pS_v (ci := 4) (q0 := 0) rfl pw_0 hP hK hE) rfl rfl hl.1 rfl (lv_room (Nat.le_of_ble_eq_true rfl)) dL_isSo_2 ⟨Nat.le_of_ble_eq_true rfl, Nat.le_of_ble_eq_true rfl⟩) hS (fun q h1 h2 => ro_A h1 h2) (fun q h => ro_F hS hA q h) (fun r u t H1 locs ht hvm hw9 hB9 hz1 hk1 hS => ?_)
  have hw9 : r = (iI (m_many g 1)) := hw9
  subst hw9
  have hP := ro_P hP hk1
  generalize H1 = H at hP hS ⊢
  rw [show (m_many g 1) = (g 0 0 9) from rfl]
  have s1 := Wf.m9 hWf
  refine lv_istore_n (lv' := [(3, .int (iI (g 0 0 9))), (0, .ref (a 0)), (1, .int (iI (g 0 0 3))), (2, .int (iI (g 0 0 5)))]) hx hb dL_isSo_5 rfl hl (by decide) rfl (fun ls hl => ?_)
  refine lv_aload_n hx hb dL_isSo_6 rfl (lv_at hl 1 rfl) ?_
  refine lv_iconst (v := iI 4) hx hb dL_isSo_7 (by decide) ?_
  refine va_calli (va_runV (As := [.int (iI 4)]) (rest := []) ⟨hx, hb, hml, hown, hw⟩ (c_many l D a cH cB cJ cI ha g vt H.size 4 hWf (by omega)) (cwV 1 hw (gA_V kw_92 kw_93 kw_94 kw_2 kw_95) rfl rfl rfl (by decide +kernel) ⟨Nat.le_of_ble_eq_true rfl, Nat.le_of_ble_eq_true rfl⟩) (pS_v (ci := 4) (q0 := 0) rfl pw_0 hP hK hE) rfl rfl hl.1 rfl (lv_room (Nat.le_of_ble_eq_true rfl)) dL_isSo_8 ⟨Nat.le_of_ble_eq_true rfl, Nat.le_of_ble_eq_true rfl⟩) hS (fun q h1 h2 => ro_A h1 h2) (fun q h => ro_F hS hA q h) (fun r u t H1 locs ht hvm hw9 hB9 hz1 hk1 hS => ?_)
  have hw9 : r = (iI (m_many g 4)) := hw9
  subst hw9
  have hP := ro_P hP hk1
  generalize H1 = H at hP hS ⊢
  rw [show (m_many g 4) = (g 0 0 4) from rfl]
  have s2 := Wf.m4 hWf
  refine lv_istore (lv' := [(4, .int (iI (g 0 0 4))), (3, .int (iI (g 0 0 9))), (0, .ref (a 0)), (1, .int (iI (g 0 0 3))), (2, .int (iI (g 0 0 5)))]) hx hb dL_isSo_11 hl (by decide) rfl (fun ls hl => ?_)
  refine lv_iconst (v := iI 0) hx hb dL_isSo_13 (by decide) ?_
  refine lv_istore (lv' := [(5, .int (iI 0)), (4, .int (iI (g 0 0 4))), (3, .int (iI (g 0 0 9))), (0, .ref (a 0)), (1, .int (iI (g 0 0 3))), (2, .int (iI (g 0 0 5)))]) hx hb dL_isSo_14 hl (by decide) rfl (fun ls hl => ?_)
  refine lv_iconst (v := iI 0) hx hb dL_isSo_16 (by decide) ?_
  refine lv_istore (lv' := [(6, .int (iI 0)), (5, .int (iI 0)), (4, .int (iI (g 0 0 4))), (3, .int (iI (g 0 0 9))), (0, .ref (a 0)), (1, .int (iI (g 0 0 3))), (2, .int (iI (g 0 0 5)))]) hx hb dL_isSo_17 hl (by decide) rfl (fun ls hl => ?_)
  refine lv_iconst (v := iI 0) hx hb dL_isSo_19 (by decide) ?_
  refine lv_istore (lv' := [(7, .int (iI 0)), (6, .int (iI 0)), (5, .int (iI 0)), (4, .int (iI (g 0 0 4))), (3, .int (iI (g 0 0 9))), (0, .ref (a 0)), (1, .int (iI (g 0 0 3))), (2, .int (iI (g 0 0 5)))]) hx hb dL_isSo_20 hl (by decide) rfl (fun ls hl => ?_)
  refine lv_iconst (v := iI 0) hx hb dL_isSo_22 (by decide) ?_
  refine lv_istore (lv' := [(8, .int (iI 0)), (7, .int (iI 0)), (6, .int (iI 0)), (5, .int (iI 0)), (4, .int (iI (g 0 0 4))), (3, .int (iI (g 0 0 9))), (0, .ref (a 0)), (1, .int (iI (g 0 0 3))), (2, .int (iI (g 0 0 5)))]) hx hb dL_isSo_23 hl (by decide) rfl (fun ls hl => ?_)
  refine lv_iconst (v := iI 0) hx hb dL_isSo_25 (by decide) ?_
  refine lv_istore (lv' := [(9, .int (iI 0)), (8, .int (iI 0)), (7, .int (iI 0)), (6, .int (iI 0)), (5, .int (iI 0)), (4, .int (iI (g 0 0 4))), (3, .int (iI (g 0 0 9))), (0, .ref (a 0)), (1, .int (iI (g 0 0 3))), (2, .int (iI (g 0 0 5)))]) hx hb dL_isSo_26 hl (by decide) rfl (fun ls hl => ?_)
  refine lv_iconst (v := iI 0) hx hb dL_isSo_28 (by decide) ?_
  refine lv_istore (lv' := [(10, .int (iI 0)), (9, .int (iI 0)), (8, .int (iI 0)), (7, .int (iI 0)), (6, .int (iI 0)), (5, .int (iI 0)), (4, .int (iI (g 0 0 4))), (3, .int (iI (g 0 0 9))), (0, .ref (a 0)), (1, .int (iI (g 0 0 3))), (2, .int (iI (g 0 0 5)))]) hx hb dL_isSo_29 hl (by decide) rfl (fun ls hl => ?_)
  refine lv_iconst (v := iI 0) hx hb dL_isSo_31 (by decide) ?_
  refine lv_istore (lv' := [(11, .int (iI 0)), (10, .int (iI 0)), (9, .int (iI 0)), (8, .int (iI 0)), (7, .int (iI 0)), (6, .int (iI 0)), (5, .int (iI 0)), (4, .int (iI (g 0 0 4))), (3, .int (iI (g 0 0 9))), (0, .ref (a 0)), (1, .int (iI (g 0 0 3))), (2, .int (iI (g 0 0 5)))]) hx hb dL_isSo_32 hl (by decide) rfl (fun ls hl => ?_)
  refine lv_iload_n hx hb dL_isSo_34 rfl (lv_at hl 10 rfl) ?_
  refine p_xnew hx hb (hw _ kw_3) hK hP ha hS hA hB (N := (g 0 0 3)) (by omega) (Nat.le_of_ble_eq_true rfl) (Nat.le_of_ble_eq_true rfl) dL_isSo_35 (fun q9 H hP hX hq hqA hS => ?_)
  refine lv_astore (lv' := [(12, .ref q9), (11, .int (iI 0)), (10, .int (iI 0)), (9, .int (iI 0)), (8, .int (iI 0)), (7, .int (iI 0)), (6, .int (iI 0)), (5, .int (iI 0)), (4, .int (iI (g 0 0 4))), (3, .int (iI (g 0 0 9))), (0, .ref (a 0)), (1, .int (iI (g 0 0 3))), (2, .int (iI (g 0 0 5)))]) hx hb dL_isSo_37 hl (by decide) rfl (fun ls hl => ?_)
  refine lv_iconst (v := iI 0) hx hb dL_isSo_39 (by decide) ?_
  refine lv_istore (lv' := [(13, .int (iI 0)), (12, .ref q9), (11, .int (iI 0)), (10, .int (iI 0)), (9, .int (iI 0)), (8, .int (iI 0)), (7, .int (iI 0)), (6, .int (iI 0)), (5, .int (iI 0)), (4, .int (iI (g 0 0 4))), (3, .int (iI (g 0 0 9))), (0, .ref (a 0)), (1, .int (iI (g 0 0 3))), (2, .int (iI (g 0 0 5)))]) hx hb dL_isSo_40 hl (by decide) rfl (fun ls hl => ?_)
  have loop42 : ∀ (d n : Nat) (x10 : Int) (x11 : Int) (vq : Nat → Int32) (fq : Nat → Int32) (H : Heap) (locs : List Loc) (ls : Array Slot), n + d = (g 0 0 4).toNat → x10 = m_fo (fun b L => bif m_has (g 0 0 11) b then m_bo L (m_bt b) else L) (0 : Int) n → x11 = m_fo (fun b L => bif m_has (g 0 0 13) b then m_bo L (m_bt b) else L) (0 : Int) n → (0 ≤ x10 ∧ x10 < 65536 ∧ 0 ≤ x11 ∧ x11 < 65536) → (∀ h : Int, 0 ≤ h → h < g 0 0 3 → fq h.toNat = iI (m_cnt (fun b => m_has (g 0 0 11) b && g 2 b 0 == h) n)) → va_P D vwCl [(q9, zC cI (g 0 0 3).toNat fq)] H → va_P D vwCl (pw a cH cB cJ cI g vq) H → va_S (pA a s.heap.size) s.heap H locs → lv_has ls 19 [(13, .int (iI ((n : Nat) : Int))), (12, .ref q9), (11, .int (iI x11)), (10, .int (iI x10)), (9, .int (iI (m_sm (fun b => m_sm (fun j => max 0 (g 6 j b)) (g 0 0 5).toNat) n))), (8, .int (iI (m_sm (fun b => m_sm (fun j => m_ib (decide (0 ≤ g 6 j b))) (g 0 0 5).toNat) n))), (7, .int (iI (m_sm (fun b => g 2 b 10) n))), (6, .int (iI (m_sm (fun b => g 2 b 9) n))), (5, .int (iI (m_cnt (m_ent g) n))), (4, .int (iI (g 0 0 4))), (3, .int (iI (g 0 0 9))), (0, .ref (a 0)), (1, .int (iI (g 0 0 3))), (2, .int (iI (g 0 0 5)))] → W p l e (headSpec (wc yL_isSo cL_isSo 19 (some .boolean)) ({ frames := 6, cells := 1, slots := 5, locals := 138 })).room s m [.ref (a 0), .int (iI (g 0 0 3)), .int (iI (g 0 0 5))].toArray below meth c H locs 1 5 (MQ below (va_Qi (fun (r : Int32) (_ : Unit) => r = bi true) (fun _ t => ∃ vt1 : Nat → Int32, va_P D vwCl (pw a cH cB cJ cI g vt1) t.heap) (pA a s.heap.size)) [.ref (a 0), .int (iI (g 0 0 3)), .int (iI (g 0 0 5))].toArray s 1 5 (pA a s.heap.size)) (F0 m 42 ls []) := by
    intro d
    induction d with
    | zero =>
      intro n x10 x11 vq fq H locs ls hn hx10 hx11 hxs hxf hX hP hS hl
      obtain rfl : n = (g 0 0 4).toNat := by omega
      refine lv_iload hx hb dL_isSo_42 (lv_at hl 0 rfl) ?_
      refine lv_iload hx hb dL_isSo_44 (lv_at hl 9 rfl) ?_
      refine n_icmp_ge hx hb (by unfold RI; omega) (by unfold RI; omega) (tgt := 410) dL_isSo_46 (by decide) (fun h3 => ?_) (fun h3 => absurd h3 (by intro h3; omega))
      have hx10 : x10 = g 0 0 11 := hx10.trans (set_all m11.1 (fun b hb => by have := (hS5.1 b hb).1; omega))
      have hx11 : x11 = g 0 0 13 := hx11.trans (set_all m13.1 (fun b hb => by have := hsb b hb; omega))
      have hbd0 : m_bd x11 x10 = 0 := by rw [hx11, hx10]; exact bd_0 hS5.2.1
      refine lv_iconst (v := iI 0) hx hb dL_isSo_410 (by decide) ?_
      refine lv_istore (lv' := [(13, .int (iI 0)), (12, .ref q9), (11, .int (iI x11)), (10, .int (iI x10)), (9, .int (iI (m_sm (fun b => m_sm (fun j => max 0 (g 6 j b)) (g 0 0 5).toNat) ((g 0 0 4).toNat)))), (8, .int (iI (m_sm (fun b => m_sm (fun j => m_ib (decide (0 ≤ g 6 j b))) (g 0 0 5).toNat) ((g 0 0 4).toNat)))), (7, .int (iI (m_sm (fun b => g 2 b 10) ((g 0 0 4).toNat)))), (6, .int (iI (m_sm (fun b => g 2 b 9) ((g 0 0 4).toNat)))), (5, .int (iI (m_cnt (m_ent g) ((g 0 0 4).toNat)))), (4, .int (iI (g 0 0 4))), (3, .int (iI (g 0 0 9))), (0, .ref (a 0)), (1, .int (iI (g 0 0 3))), (2, .int (iI (g 0 0 5)))]) hx hb dL_isSo_411 hl (by decide) rfl (fun ls hl => ?_)
      have loop413 : ∀ (d1 n1 : Nat) (fq1 : Nat → Int32) (H : Heap) (locs : List Loc) (ls : Array Slot), n1 + d1 = (g 0 0 3).toNat → (∀ h : Int, 0 ≤ h → h < g 0 0 3 → fq1 h.toNat = iI (m_coh g h (g 0 0 11))) → va_P D vwCl [(q9, zC cI (g 0 0 3).toNat fq1)] H → va_P D vwCl (pw a cH cB cJ cI g vq) H → va_S (pA a s.heap.size) s.heap H locs → lv_has ls 19 [(13, .int (iI ((n1 : Nat) : Int))), (12, .ref q9), (11, .int (iI x11)), (10, .int (iI x10)), (9, .int (iI (m_sm (fun b => m_sm (fun j => max 0 (g 6 j b)) (g 0 0 5).toNat) ((g 0 0 4).toNat)))), (8, .int (iI (m_sm (fun b => m_sm (fun j => m_ib (decide (0 ≤ g 6 j b))) (g 0 0 5).toNat) ((g 0 0 4).toNat)))), (7, .int (iI (m_sm (fun b => g 2 b 10) ((g 0 0 4).toNat)))), (6, .int (iI (m_sm (fun b => g 2 b 9) ((g 0 0 4).toNat)))), (5, .int (iI (m_cnt (m_ent g) ((g 0 0 4).toNat)))), (4, .int (iI (g 0 0 4))), (3, .int (iI (g 0 0 9))), (0, .ref (a 0)), (1, .int (iI (g 0 0 3))), (2, .int (iI (g 0 0 5)))] → W p l e (headSpec (wc yL_isSo cL_isSo 19 (some .boolean)) ({ frames := 6, cells := 1, slots := 5, locals := 138 })).room s m [.ref (a 0), .int (iI (g 0 0 3)), .int (iI (g 0 0 5))].toArray below meth c H locs 1 5 (MQ below (va_Qi (fun (r : Int32) (_ : Unit) => r = bi true) (fun _ t => ∃ vt1 : Nat → Int32, va_P D vwCl (pw a cH cB cJ cI g vt1) t.heap) (pA a s.heap.size)) [.ref (a 0), .int (iI (g 0 0 3)), .int (iI (g 0 0 5))].toArray s 1 5 (pA a s.heap.size)) (F0 m 413 ls []) := by
        intro d1
        induction d1 with
        | zero =>
          intro n1 fq1 H locs ls hn1 hxf1 hX hP hS hl
          obtain rfl : n1 = (g 0 0 3).toNat := by omega
          refine lv_iload hx hb dL_isSo_413 (lv_at hl 0 rfl) ?_
          refine lv_iload_n hx hb dL_isSo_415 rfl (lv_at hl 12 rfl) ?_
          refine n_icmp_ge hx hb (by unfold RI; omega) (by unfold RI; omega) (tgt := 485) dL_isSo_416 (by decide) (fun h4 => ?_) (fun h4 => absurd h4 (by intro h4; omega))
          refine lv_iconst (v := iI 0) hx hb dL_isSo_485 (by decide) ?_
          refine lv_istore (lv' := [(13, .int (iI 0)), (12, .ref q9), (11, .int (iI x11)), (10, .int (iI x10)), (9, .int (iI (m_sm (fun b => m_sm (fun j => max 0 (g 6 j b)) (g 0 0 5).toNat) ((g 0 0 4).toNat)))), (8, .int (iI (m_sm (fun b => m_sm (fun j => m_ib (decide (0 ≤ g 6 j b))) (g 0 0 5).toNat) ((g 0 0 4).toNat)))), (7, .int (iI (m_sm (fun b => g 2 b 10) ((g 0 0 4).toNat)))), (6, .int (iI (m_sm (fun b => g 2 b 9) ((g 0 0 4).toNat)))), (5, .int (iI (m_cnt (m_ent g) ((g 0 0 4).toNat)))), (4, .int (iI (g 0 0 4))), (3, .int (iI (g 0 0 9))), (0, .ref (a 0)), (1, .int (iI (g 0 0 3))), (2, .int (iI (g 0 0 5)))]) hx hb dL_isSo_486 hl (by decide) rfl (fun ls hl => ?_)
          refine lv_iconst (v := iI 0) hx hb dL_isSo_488 (by decide) ?_
          refine lv_istore (lv' := [(14, .int (iI 0)), (13, .int (iI 0)), (12, .ref q9), (11, .int (iI x11)), (10, .int (iI x10)), (9, .int (iI (m_sm (fun b => m_sm (fun j => max 0 (g 6 j b)) (g 0 0 5).toNat) ((g 0 0 4).toNat)))), (8, .int (iI (m_sm (fun b => m_sm (fun j => m_ib (decide (0 ≤ g 6 j b))) (g 0 0 5).toNat) ((g 0 0 4).toNat)))), (7, .int (iI (m_sm (fun b => g 2 b 10) ((g 0 0 4).toNat)))), (6, .int (iI (m_sm (fun b => g 2 b 9) ((g 0 0 4).toNat)))), (5, .int (iI (m_cnt (m_ent g) ((g 0 0 4).toNat)))), (4, .int (iI (g 0 0 4))), (3, .int (iI (g 0 0 9))), (0, .ref (a 0)), (1, .int (iI (g 0 0 3))), (2, .int (iI (g 0 0 5)))]) hx hb dL_isSo_489 hl (by decide) rfl (fun ls hl => ?_)
          have loop491 : ∀ (d2 n2 : Nat) (fq2 : Nat → Int32) (H : Heap) (locs : List Loc) (ls : Array Slot), n2 + d2 = (g 0 0 5).toNat → (∀ h : Int, 0 ≤ h → h < g 0 0 3 → fq2 h.toNat = iI (m_coh g h (g 0 0 11))) → va_P D vwCl [(q9, zC cI (g 0 0 3).toNat fq2)] H → va_P D vwCl (pw a cH cB cJ cI g vq) H → va_S (pA a s.heap.size) s.heap H locs → lv_has ls 19 [(14, .int (iI ((n2 : Nat) : Int))), (13, .int (iI (m_sm (fun j => g 3 j 9) n2))), (12, .ref q9), (11, .int (iI x11)), (10, .int (iI x10)), (9, .int (iI (m_sm (fun b => m_sm (fun j => max 0 (g 6 j b)) (g 0 0 5).toNat) ((g 0 0 4).toNat)))), (8, .int (iI (m_sm (fun b => m_sm (fun j => m_ib (decide (0 ≤ g 6 j b))) (g 0 0 5).toNat) ((g 0 0 4).toNat)))), (7, .int (iI (m_sm (fun b => g 2 b 10) ((g 0 0 4).toNat)))), (6, .int (iI (m_sm (fun b => g 2 b 9) ((g 0 0 4).toNat)))), (5, .int (iI (m_cnt (m_ent g) ((g 0 0 4).toNat)))), (4, .int (iI (g 0 0 4))), (3, .int (iI (g 0 0 9))), (0, .ref (a 0)), (1, .int (iI (g 0 0 3))), (2, .int (iI (g 0 0 5)))] → W p l e (headSpec (wc yL_isSo cL_isSo 19 (some .boolean)) ({ frames := 6, cells := 1, slots := 5, locals := 138 })).room s m [.ref (a 0), .int (iI (g 0 0 3)), .int (iI (g 0 0 5))].toArray below meth c H locs 1 5 (MQ below (va_Qi (fun (r : Int32) (_ : Unit) => r = bi true) (fun _ t => ∃ vt1 : Nat → Int32, va_P D vwCl (pw a cH cB cJ cI g vt1) t.heap) (pA a s.heap.size)) [.ref (a 0), .int (iI (g 0 0 3)), .int (iI (g 0 0 5))].toArray s 1 5 (pA a s.heap.size)) (F0 m 491 ls []) := by
            intro d2
            induction d2 with
            | zero =>
              intro n2 fq2 H locs ls hn2 hxf2 hX hP hS hl
              obtain rfl : n2 = (g 0 0 5).toNat := by omega
              refine lv_iload hx hb dL_isSo_491 (lv_at hl 0 rfl) ?_
              refine lv_iload_n hx hb dL_isSo_493 rfl (lv_at hl 14 rfl) ?_
              refine n_icmp_ge hx hb (by unfold RI; omega) (by unfold RI; omega) (tgt := 638) dL_isSo_494 (by decide) (fun h5 => ?_) (fun h5 => absurd h5 (by intro h5; omega))
              have hmk1 := (so_marks hIv (by omega)).1
              have hs9 := sm_5 hWf (f := fun j => g 3 j 9) (B := 16) (fun i a b => (Wf.j9 hWf a b).1) (fun i a b => (Wf.j9 hWf a b).2.2) (by omega)
              have he16 : 0 ≤ m_cnt (m_ent g) (g 0 0 4).toNat ∧ m_cnt (m_ent g) (g 0 0 4).toNat ≤ 16 := ent_b hWf
              have m14 := Wf.m14 hWf
              have hL2 : g 0 0 9 < 2 → g 0 0 11 = 0 := hS5.2.2.2.1
              have hL3 : g 0 0 9 < 3 → g 0 0 13 = 0 := hS5.2.2.2.2.1
              have hL4 : g 0 0 9 < 4 → g 0 0 14 = -1 := hS5.2.2.2.2.2.1
              refine lv_iload hx hb dL_isSo_638 (lv_at hl 1 rfl) ?_
              refine lv_iload hx hb dL_isSo_640 (lv_at hl 6 rfl) ?_
              refine n_icmp_ne hx hb (by unfold RI; omega) (by unfold RI; omega) (tgt := 767) dL_isSo_642 (by decide) (fun h6 => absurd h6 (by intro h6; exact h6 hmk1.symm)) (fun h6 => ?_)
              refine lv_aload_n hx hb dL_isSo_645 rfl (lv_at hl 12 rfl) ?_
              refine lv_bipush (v := iI 6) hx hb dL_isSo_646 (by decide) ?_
              refine va_calli (va_runV (As := [.int (iI 6)]) (rest := []) ⟨hx, hb, hml, hown, hw⟩ (c_many l D a cH cB cJ cI ha g vq H.size 6 hWf (by omega)) (cwV 1 hw (gA_V kw_92 kw_93 kw_94 kw_2 kw_95) rfl rfl rfl (by decide +kernel) ⟨Nat.le_of_ble_eq_true rfl, Nat.le_of_ble_eq_true rfl⟩) (pS_v (ci := 4) (q0 := 0) rfl pw_0 hP hK hE) rfl rfl hl.1 rfl (lv_room (Nat.le_of_ble_eq_true rfl)) dL_isSo_648 ⟨Nat.le_of_ble_eq_true rfl, Nat.le_of_ble_eq_true rfl⟩) hS (fun q h1 h2 => ro_A h1 h2) (fun q h => ro_F hS hA q h) (fun r u t H1 locs ht hvm hw9 hB9 hz1 hk1 hS => ?_)
              have hw9 : r = (iI (m_many g 6)) := hw9
              subst hw9
              have hP := ro_P hP hk1
              have hX := ro_P hX hk1
              generalize H1 = H at hP hX hS ⊢
              rw [show (m_many g 6) = (m_cnt (m_ent g) (g 0 0 4).toNat) from rfl]
              refine lv_iload hx hb dL_isSo_651 (lv_at hl 9 rfl) ?_
              refine n_icmp_ne hx hb (by unfold RI; omega) (by unfold RI; omega) (tgt := 767) dL_isSo_653 (by decide) (fun h7 => absurd h7 (by intro h7; exact h7 rfl)) (fun h7 => ?_)
              refine lv_aload_n hx hb dL_isSo_656 rfl (lv_at hl 12 rfl) ?_
              refine lv_bipush (v := iI 12) hx hb dL_isSo_657 (by decide) ?_
              refine va_calli (va_runV (As := [.int (iI 12)]) (rest := []) ⟨hx, hb, hml, hown, hw⟩ (c_many l D a cH cB cJ cI ha g vq H.size 12 hWf (by omega)) (cwV 1 hw (gA_V kw_92 kw_93 kw_94 kw_2 kw_95) rfl rfl rfl (by decide +kernel) ⟨Nat.le_of_ble_eq_true rfl, Nat.le_of_ble_eq_true rfl⟩) (pS_v (ci := 4) (q0 := 0) rfl pw_0 hP hK hE) rfl rfl hl.1 rfl (lv_room (Nat.le_of_ble_eq_true rfl)) dL_isSo_659 ⟨Nat.le_of_ble_eq_true rfl, Nat.le_of_ble_eq_true rfl⟩) hS (fun q h1 h2 => ro_A h1 h2) (fun q h => ro_F hS hA q h) (fun r u t H1 locs ht hvm hw9 hB9 hz1 hk1 hS => ?_)
              have hw9 : r = (iI (m_many g 12)) := hw9
              subst hw9
              have hP := ro_P hP hk1
              have hX := ro_P hX hk1
              generalize H1 = H at hP hX hS ⊢
              rw [show (m_many g 12) = (m_sm (fun b => g 2 b 9) (g 0 0 4).toNat) from rfl]
              refine lv_iload hx hb dL_isSo_662 (lv_at hl 8 rfl) ?_
              refine n_same hx hb (tgt := 767) dL_isSo_664 (by decide) ?_
              refine lv_aload_n hx hb dL_isSo_667 rfl (lv_at hl 12 rfl) ?_
              refine lv_bipush (v := iI 13) hx hb dL_isSo_668 (by decide) ?_
              refine va_calli (va_runV (As := [.int (iI 13)]) (rest := []) ⟨hx, hb, hml, hown, hw⟩ (c_many l D a cH cB cJ cI ha g vq H.size 13 hWf (by omega)) (cwV 1 hw (gA_V kw_92 kw_93 kw_94 kw_2 kw_95) rfl rfl rfl (by decide +kernel) ⟨Nat.le_of_ble_eq_true rfl, Nat.le_of_ble_eq_true rfl⟩) (pS_v (ci := 4) (q0 := 0) rfl pw_0 hP hK hE) rfl rfl hl.1 rfl (lv_room (Nat.le_of_ble_eq_true rfl)) dL_isSo_670 ⟨Nat.le_of_ble_eq_true rfl, Nat.le_of_ble_eq_true rfl⟩) hS (fun q h1 h2 => ro_A h1 h2) (fun q h => ro_F hS hA q h) (fun r u t H1 locs ht hvm hw9 hB9 hz1 hk1 hS => ?_)
              have hw9 : r = (iI (m_many g 13)) := hw9
              subst hw9
              have hP := ro_P hP hk1
              have hX := ro_P hX hk1
              generalize H1 = H at hP hX hS ⊢
              rw [show (m_many g 13) = (m_sm (fun b => g 2 b 10) (g 0 0 4).toNat) from rfl]
              refine lv_iload hx hb dL_isSo_673 (lv_at hl 7 rfl) ?_
              refine n_same hx hb (tgt := 767) dL_isSo_675 (by decide) ?_
              refine lv_aload_n hx hb dL_isSo_678 rfl (lv_at hl 12 rfl) ?_
              refine lv_bipush (v := iI 7) hx hb dL_isSo_679 (by decide) ?_
              refine va_calli (va_runV (As := [.int (iI 7)]) (rest := []) ⟨hx, hb, hml, hown, hw⟩ (c_many l D a cH cB cJ cI ha g vq H.size 7 hWf (by omega)) (cwV 1 hw (gA_V kw_92 kw_93 kw_94 kw_2 kw_95) rfl rfl rfl (by decide +kernel) ⟨Nat.le_of_ble_eq_true rfl, Nat.le_of_ble_eq_true rfl⟩) (pS_v (ci := 4) (q0 := 0) rfl pw_0 hP hK hE) rfl rfl hl.1 rfl (lv_room (Nat.le_of_ble_eq_true rfl)) dL_isSo_681 ⟨Nat.le_of_ble_eq_true rfl, Nat.le_of_ble_eq_true rfl⟩) hS (fun q h1 h2 => ro_A h1 h2) (fun q h => ro_F hS hA q h) (fun r u t H1 locs ht hvm hw9 hB9 hz1 hk1 hS => ?_)
              have hw9 : r = (iI (m_many g 7)) := hw9
              subst hw9
              have hP := ro_P hP hk1
              have hX := ro_P hX hk1
              generalize H1 = H at hP hX hS ⊢
              rw [show (m_many g 7) = (g 0 0 11) from rfl]
              have s8 := Wf.m11 hWf
              refine lv_iload hx hb dL_isSo_684 (lv_at hl 4 rfl) ?_
              refine n_icmp_ne hx hb (by unfold RI; omega) (by unfold RI; omega) (tgt := 767) dL_isSo_686 (by decide) (fun h9 => absurd h9 (by intro h9; omega)) (fun h9 => ?_)
              refine lv_aload_n hx hb dL_isSo_689 rfl (lv_at hl 12 rfl) ?_
              refine lv_bipush (v := iI 8) hx hb dL_isSo_690 (by decide) ?_
              refine va_calli (va_runV (As := [.int (iI 8)]) (rest := []) ⟨hx, hb, hml, hown, hw⟩ (c_many l D a cH cB cJ cI ha g vq H.size 8 hWf (by omega)) (cwV 1 hw (gA_V kw_92 kw_93 kw_94 kw_2 kw_95) rfl rfl rfl (by decide +kernel) ⟨Nat.le_of_ble_eq_true rfl, Nat.le_of_ble_eq_true rfl⟩) (pS_v (ci := 4) (q0 := 0) rfl pw_0 hP hK hE) rfl rfl hl.1 rfl (lv_room (Nat.le_of_ble_eq_true rfl)) dL_isSo_692 ⟨Nat.le_of_ble_eq_true rfl, Nat.le_of_ble_eq_true rfl⟩) hS (fun q h1 h2 => ro_A h1 h2) (fun q h => ro_F hS hA q h) (fun r u t H1 locs ht hvm hw9 hB9 hz1 hk1 hS => ?_)
              have hw9 : r = (iI (m_many g 8)) := hw9
              subst hw9
              have hP := ro_P hP hk1
              have hX := ro_P hX hk1
              generalize H1 = H at hP hX hS ⊢
              rw [show (m_many g 8) = (g 0 0 13) from rfl]
              have s10 := Wf.m13 hWf
              refine lv_iload hx hb dL_isSo_695 (lv_at hl 3 rfl) ?_
              refine n_icmp_ne hx hb (by unfold RI; omega) (by unfold RI; omega) (tgt := 767) dL_isSo_697 (by decide) (fun h11 => absurd h11 (by intro h11; omega)) (fun h11 => ?_)
              refine lv_iload hx hb dL_isSo_700 (lv_at hl 3 rfl) ?_
              refine lv_iload hx hb dL_isSo_702 (lv_at hl 4 rfl) ?_
              refine lv_iconst (v := iI (-1)) hx hb dL_isSo_704 (by decide) ?_
              refine lv_ixor hx hb dL_isSo_705 ?_
              refine n_andn hx hb (by omega) (by omega) dL_isSo_706 ?_
              rw [hbd0]
              refine n_if_ne hx hb (by unfold RI; omega) (tgt := 767) dL_isSo_707 (by decide) (fun h12 => absurd h12 (by intro h12; omega)) (fun h12 => ?_)
              have hj745 : ∀ (H : Heap) (locs : List Loc) (ls : Array Slot), va_P D vwCl (pw a cH cB cJ cI g vq) H → va_P D vwCl [(q9, zC cI (g 0 0 3).toNat fq2)] H → va_S (pA a s.heap.size) s.heap H locs → lv_has ls 19 [(14, .int (iI ((((g 0 0 5).toNat) : Nat) : Int))), (13, .int (iI (m_sm (fun j => g 3 j 9) ((g 0 0 5).toNat)))), (12, .ref q9), (11, .int (iI x11)), (10, .int (iI x10)), (9, .int (iI (m_sm (fun b => m_sm (fun j => max 0 (g 6 j b)) (g 0 0 5).toNat) ((g 0 0 4).toNat)))), (8, .int (iI (m_sm (fun b => m_sm (fun j => m_ib (decide (0 ≤ g 6 j b))) (g 0 0 5).toNat) ((g 0 0 4).toNat)))), (7, .int (iI (m_sm (fun b => g 2 b 10) ((g 0 0 4).toNat)))), (6, .int (iI (m_sm (fun b => g 2 b 9) ((g 0 0 4).toNat)))), (5, .int (iI (m_cnt (m_ent g) ((g 0 0 4).toNat)))), (4, .int (iI (g 0 0 4))), (3, .int (iI (g 0 0 9))), (0, .ref (a 0)), (1, .int (iI (g 0 0 3))), (2, .int (iI (g 0 0 5)))] → W p l e (headSpec (wc yL_isSo cL_isSo 19 (some .boolean)) ({ frames := 6, cells := 1, slots := 5, locals := 138 })).room s m [.ref (a 0), .int (iI (g 0 0 3)), .int (iI (g 0 0 5))].toArray below meth c H locs 1 5 (MQ below (va_Qi (fun (r : Int32) (_ : Unit) => r = bi true) (fun _ t => ∃ vt1 : Nat → Int32, va_P D vwCl (pw a cH cB cJ cI g vt1) t.heap) (pA a s.heap.size)) [.ref (a 0), .int (iI (g 0 0 3)), .int (iI (g 0 0 5))].toArray s 1 5 (pA a s.heap.size)) (F0 m 745 ls []) := by
                intro H locs ls hP hX hS hl
                have hmt := mean_t hWf (g 0 0 5).toNat (by omega)
                have hmn := mean_n hIv (n := (g 0 0 5).toNat) (by omega) (g 0 0 4).toNat (by omega)
                have hmk2 := (so_marks hIv (by omega)).2
                have hme := hmo (m_sm (fun j => g 3 j 9) (g 0 0 5).toNat) (m_sm (fun j => g 3 j 12) (g 0 0 5).toNat) (by omega) (by omega)
                refine lv_aload_n hx hb dL_isSo_745 rfl (lv_at hl 12 rfl) ?_
                refine va_calld (va_runV (As := []) (rest := []) ⟨hx, hb, hml, hown, hw⟩ (c_meanMark l D a cH cB cJ cI ha g vq H.size  hWf (hme.1)) (cwV 0 hw (gA_V kw_510 kw_511 kw_512 kw_2 kw_513) rfl rfl rfl (by decide +kernel) ⟨Nat.le_of_ble_eq_true rfl, Nat.le_of_ble_eq_true rfl⟩) (pS_v (ci := 4) (q0 := 0) rfl pw_0 hP hK hE) rfl rfl hl.1 rfl (lv_room (Nat.le_of_ble_eq_true rfl)) dL_isSo_746 ⟨Nat.le_of_ble_eq_true rfl, Nat.le_of_ble_eq_true rfl⟩) hS (fun q h1 h2 => ro_A h1 h2) (fun q h => ro_F hS hA q h) (fun r u t H1 locs ht hvm hw9 hB9 hz1 hk1 hS => ?_)
                have hw9 : r = (m_mean g) := hw9
                subst hw9
                have hP := ro_P hP hk1
                have hX := ro_P hX hk1
                generalize H1 = H at hP hX hS ⊢
                rw [show (m_mean g) = (MeanQ (m_sm (fun j => g 3 j 9) (g 0 0 5).toNat) (m_sm (fun j => g 3 j 12) (g 0 0 5).toNat)) from rfl]
                refine lv_iload hx hb dL_isSo_749 (lv_at hl 6 rfl) ?_
                refine lv_i2d hx hb dL_isSo_751 ?_
                rw [hmk1]
                refine lv_dmul hx hb dL_isSo_752 hme.2.1 ?_
                refine lv_iload hx hb dL_isSo_753 (lv_at hl 5 rfl) ?_
                refine lv_i2d hx hb dL_isSo_755 ?_
                rw [hmk2]
                refine lv_dsub hx hb dL_isSo_756 hme.2.2.1 ?_
                refine p_absd hx hb (hml.trans hl.1.symm) hown (hw _ kw_515) (hw _ kw_516) (hw _ kw_251) (hw _ kw_517) (b := FP.dsub (FP.dmul (MeanQ (m_sm (fun j => g 3 j 9) (g 0 0 5).toNat) (m_sm (fun j => g 3 j 12) (g 0 0 5).toNat)) (FP.i2d (iI (m_sm (fun j => g 3 j 9) (g 0 0 5).toNat)))) (FP.i2d (iI (m_sm (fun j => g 3 j 12) (g 0 0 5).toNat)))) hme.2.2.1 (Nat.le_of_ble_eq_true rfl) (Nat.le_of_ble_eq_true rfl) dL_isSo_757 ?_
                refine lv_ldc2d (v := 4547007122018943789) hx hb hown (hw _ kw_509) dL_isSo_760 ?_
                refine lv_dcmp hx hb dL_isSo_763 ?_
                refine lv_if_le hx hb (tgt := 769) dL_isSo_764 (by decide) (fun _ => ?_) (fun h => absurd hme.2.2.2 h)
                refine lv_aload_n hx hb dL_isSo_769 rfl (lv_at hl 12 rfl) ?_
                refine lv_iconst (v := iI 0) hx hb dL_isSo_770 (by decide) ?_
                refine va_calli (va_runV (As := [.int (iI 0)]) (rest := []) ⟨hx, hb, hml, hown, hw⟩ (c_wins l D a cH cB cJ cI ha g vq H.size 0 hWf (by omega) (hsb)) (cwV 1 hw (gA_V kw_425 kw_426 kw_427 kw_2 kw_428) rfl rfl rfl (by decide +kernel) ⟨Nat.le_of_ble_eq_true rfl, Nat.le_of_ble_eq_true rfl⟩) (pS_v (ci := 4) (q0 := 0) rfl pw_0 hP hK hE) rfl rfl hl.1 rfl (lv_room (Nat.le_of_ble_eq_true rfl)) dL_isSo_771 ⟨Nat.le_of_ble_eq_true rfl, Nat.le_of_ble_eq_true rfl⟩) hS (fun q _ h => rw_A hS hA hB q h) (fun q h => rw_A hS hA hB q h) (fun r u t H1 locs ht hvm hw9 hB9 hz1 hk1 hS => ?_)
                have hw9 : r = (iI (m_winner g 0 0)) := hw9
                subst hw9
                obtain ⟨v13, hP1⟩ := hB9
                rw [ht] at hP1
                have hP : va_P D vwCl (pw a cH cB cJ cI g v13) H1 := hP1
                have hX := rw_X hX hq hk1
                generalize H1 = H at hP hX hS ⊢
                have s14 := win_b hWf 0 0
                refine lv_istore (lv' := [(14, .int (iI (m_winner g 0 0))), (13, .int (iI (m_sm (fun j => g 3 j 9) ((g 0 0 5).toNat)))), (12, .ref q9), (11, .int (iI x11)), (10, .int (iI x10)), (9, .int (iI (m_sm (fun b => m_sm (fun j => max 0 (g 6 j b)) (g 0 0 5).toNat) ((g 0 0 4).toNat)))), (8, .int (iI (m_sm (fun b => m_sm (fun j => m_ib (decide (0 ≤ g 6 j b))) (g 0 0 5).toNat) ((g 0 0 4).toNat)))), (7, .int (iI (m_sm (fun b => g 2 b 10) ((g 0 0 4).toNat)))), (6, .int (iI (m_sm (fun b => g 2 b 9) ((g 0 0 4).toNat)))), (5, .int (iI (m_cnt (m_ent g) ((g 0 0 4).toNat)))), (4, .int (iI (g 0 0 4))), (3, .int (iI (g 0 0 9))), (0, .ref (a 0)), (1, .int (iI (g 0 0 3))), (2, .int (iI (g 0 0 5)))]) hx hb dL_isSo_774 hl (by decide) rfl (fun ls hl => ?_)
                refine lv_aload_n hx hb dL_isSo_776 rfl (lv_at hl 12 rfl) ?_
                refine va_calli (va_runV (As := []) (rest := []) ⟨hx, hb, hml, hown, hw⟩ (c_beatsAll l D a cH cB cJ cI ha g v13 H.size  hWf) (cwV 0 hw (gA_V kw_526 kw_527 kw_528 kw_2 kw_529) rfl rfl rfl (by decide +kernel) ⟨Nat.le_of_ble_eq_true rfl, Nat.le_of_ble_eq_true rfl⟩) (pS_v (ci := 4) (q0 := 0) rfl pw_0 hP hK hE) rfl rfl hl.1 rfl (lv_room (Nat.le_of_ble_eq_true rfl)) dL_isSo_777 ⟨Nat.le_of_ble_eq_true rfl, Nat.le_of_ble_eq_true rfl⟩) hS (fun q h1 h2 => ro_A h1 h2) (fun q h => ro_F hS hA q h) (fun r u t H1 locs ht hvm hw9 hB9 hz1 hk1 hS => ?_)
                have hw9 : r = (iI (m_beatsAll g)) := hw9
                subst hw9
                have hP := ro_P hP hk1
                have hX := ro_P hX hk1
                generalize H1 = H at hP hX hS ⊢
                have s15 := beats_b hWf
                refine lv_istore (lv' := [(15, .int (iI (m_beatsAll g))), (14, .int (iI (m_winner g 0 0))), (13, .int (iI (m_sm (fun j => g 3 j 9) ((g 0 0 5).toNat)))), (12, .ref q9), (11, .int (iI x11)), (10, .int (iI x10)), (9, .int (iI (m_sm (fun b => m_sm (fun j => max 0 (g 6 j b)) (g 0 0 5).toNat) ((g 0 0 4).toNat)))), (8, .int (iI (m_sm (fun b => m_sm (fun j => m_ib (decide (0 ≤ g 6 j b))) (g 0 0 5).toNat) ((g 0 0 4).toNat)))), (7, .int (iI (m_sm (fun b => g 2 b 10) ((g 0 0 4).toNat)))), (6, .int (iI (m_sm (fun b => g 2 b 9) ((g 0 0 4).toNat)))), (5, .int (iI (m_cnt (m_ent g) ((g 0 0 4).toNat)))), (4, .int (iI (g 0 0 4))), (3, .int (iI (g 0 0 9))), (0, .ref (a 0)), (1, .int (iI (g 0 0 3))), (2, .int (iI (g 0 0 5)))]) hx hb dL_isSo_780 hl (by decide) rfl (fun ls hl => ?_)
                have hwn := so_wins hIv
                have hwi : 0 ≤ m_winner g 0 0 → m_has (g 0 0 13) (m_winner g 0 0) = true := hwn.1
                have hbi : 0 ≤ m_beatsAll g → m_has (g 0 0 13) (m_beatsAll g) = true := hwn.2.1
                have hw3 : g 0 0 9 < 3 → m_winner g 0 0 = -1 ∧ m_beatsAll g = -1 := hwn.2.2.1
                have hw4 : g 0 0 9 = 3 → g 0 0 13 ≠ 0 → 0 ≤ m_winner g 0 0 := hwn.2.2.2
                have hj797 : ∀ (H : Heap) (locs : List Loc) (ls : Array Slot), va_P D vwCl (pw a cH cB cJ cI g v13) H → va_P D vwCl [(q9, zC cI (g 0 0 3).toNat fq2)] H → va_S (pA a s.heap.size) s.heap H locs → lv_has ls 19 [(15, .int (iI (m_beatsAll g))), (14, .int (iI (m_winner g 0 0))), (13, .int (iI (m_sm (fun j => g 3 j 9) ((g 0 0 5).toNat)))), (12, .ref q9), (11, .int (iI x11)), (10, .int (iI x10)), (9, .int (iI (m_sm (fun b => m_sm (fun j => max 0 (g 6 j b)) (g 0 0 5).toNat) ((g 0 0 4).toNat)))), (8, .int (iI (m_sm (fun b => m_sm (fun j => m_ib (decide (0 ≤ g 6 j b))) (g 0 0 5).toNat) ((g 0 0 4).toNat)))), (7, .int (iI (m_sm (fun b => g 2 b 10) ((g 0 0 4).toNat)))), (6, .int (iI (m_sm (fun b => g 2 b 9) ((g 0 0 4).toNat)))), (5, .int (iI (m_cnt (m_ent g) ((g 0 0 4).toNat)))), (4, .int (iI (g 0 0 4))), (3, .int (iI (g 0 0 9))), (0, .ref (a 0)), (1, .int (iI (g 0 0 3))), (2, .int (iI (g 0 0 5)))] → W p l e (headSpec (wc yL_isSo cL_isSo 19 (some .boolean)) ({ frames := 6, cells := 1, slots := 5, locals := 138 })).room s m [.ref (a 0), .int (iI (g 0 0 3)), .int (iI (g 0 0 5))].toArray below meth c H locs 1 5 (MQ below (va_Qi (fun (r : Int32) (_ : Unit) => r = bi true) (fun _ t => ∃ vt1 : Nat → Int32, va_P D vwCl (pw a cH cB cJ cI g vt1) t.heap) (pA a s.heap.size)) [.ref (a 0), .int (iI (g 0 0 3)), .int (iI (g 0 0 5))].toArray s 1 5 (pA a s.heap.size)) (F0 m 797 ls []) := by
                  intro H locs ls hP hX hS hl
                  have hj812 : ∀ (H : Heap) (locs : List Loc) (ls : Array Slot), va_P D vwCl (pw a cH cB cJ cI g v13) H → va_P D vwCl [(q9, zC cI (g 0 0 3).toNat fq2)] H → va_S (pA a s.heap.size) s.heap H locs → lv_has ls 19 [(15, .int (iI (m_beatsAll g))), (14, .int (iI (m_winner g 0 0))), (13, .int (iI (m_sm (fun j => g 3 j 9) ((g 0 0 5).toNat)))), (12, .ref q9), (11, .int (iI x11)), (10, .int (iI x10)), (9, .int (iI (m_sm (fun b => m_sm (fun j => max 0 (g 6 j b)) (g 0 0 5).toNat) ((g 0 0 4).toNat)))), (8, .int (iI (m_sm (fun b => m_sm (fun j => m_ib (decide (0 ≤ g 6 j b))) (g 0 0 5).toNat) ((g 0 0 4).toNat)))), (7, .int (iI (m_sm (fun b => g 2 b 10) ((g 0 0 4).toNat)))), (6, .int (iI (m_sm (fun b => g 2 b 9) ((g 0 0 4).toNat)))), (5, .int (iI (m_cnt (m_ent g) ((g 0 0 4).toNat)))), (4, .int (iI (g 0 0 4))), (3, .int (iI (g 0 0 9))), (0, .ref (a 0)), (1, .int (iI (g 0 0 3))), (2, .int (iI (g 0 0 5)))] → W p l e (headSpec (wc yL_isSo cL_isSo 19 (some .boolean)) ({ frames := 6, cells := 1, slots := 5, locals := 138 })).room s m [.ref (a 0), .int (iI (g 0 0 3)), .int (iI (g 0 0 5))].toArray below meth c H locs 1 5 (MQ below (va_Qi (fun (r : Int32) (_ : Unit) => r = bi true) (fun _ t => ∃ vt1 : Nat → Int32, va_P D vwCl (pw a cH cB cJ cI g vt1) t.heap) (pA a s.heap.size)) [.ref (a 0), .int (iI (g 0 0 3)), .int (iI (g 0 0 5))].toArray s 1 5 (pA a s.heap.size)) (F0 m 812 ls []) := by
                    intro H locs ls hP hX hS hl
                    have hj829 : ∀ (H : Heap) (locs : List Loc) (ls : Array Slot), va_P D vwCl (pw a cH cB cJ cI g v13) H → va_P D vwCl [(q9, zC cI (g 0 0 3).toNat fq2)] H → va_S (pA a s.heap.size) s.heap H locs → lv_has ls 19 [(15, .int (iI (m_beatsAll g))), (14, .int (iI (m_winner g 0 0))), (13, .int (iI (m_sm (fun j => g 3 j 9) ((g 0 0 5).toNat)))), (12, .ref q9), (11, .int (iI x11)), (10, .int (iI x10)), (9, .int (iI (m_sm (fun b => m_sm (fun j => max 0 (g 6 j b)) (g 0 0 5).toNat) ((g 0 0 4).toNat)))), (8, .int (iI (m_sm (fun b => m_sm (fun j => m_ib (decide (0 ≤ g 6 j b))) (g 0 0 5).toNat) ((g 0 0 4).toNat)))), (7, .int (iI (m_sm (fun b => g 2 b 10) ((g 0 0 4).toNat)))), (6, .int (iI (m_sm (fun b => g 2 b 9) ((g 0 0 4).toNat)))), (5, .int (iI (m_cnt (m_ent g) ((g 0 0 4).toNat)))), (4, .int (iI (g 0 0 4))), (3, .int (iI (g 0 0 9))), (0, .ref (a 0)), (1, .int (iI (g 0 0 3))), (2, .int (iI (g 0 0 5)))] → W p l e (headSpec (wc yL_isSo cL_isSo 19 (some .boolean)) ({ frames := 6, cells := 1, slots := 5, locals := 138 })).room s m [.ref (a 0), .int (iI (g 0 0 3)), .int (iI (g 0 0 5))].toArray below meth c H locs 1 5 (MQ below (va_Qi (fun (r : Int32) (_ : Unit) => r = bi true) (fun _ t => ∃ vt1 : Nat → Int32, va_P D vwCl (pw a cH cB cJ cI g vt1) t.heap) (pA a s.heap.size)) [.ref (a 0), .int (iI (g 0 0 3)), .int (iI (g 0 0 5))].toArray s 1 5 (pA a s.heap.size)) (F0 m 829 ls []) := by
                      intro H locs ls hP hX hS hl
                      have hj846 : ∀ (H : Heap) (locs : List Loc) (ls : Array Slot), va_P D vwCl (pw a cH cB cJ cI g v13) H → va_P D vwCl [(q9, zC cI (g 0 0 3).toNat fq2)] H → va_S (pA a s.heap.size) s.heap H locs → lv_has ls 19 [(15, .int (iI (m_beatsAll g))), (14, .int (iI (m_winner g 0 0))), (13, .int (iI (m_sm (fun j => g 3 j 9) ((g 0 0 5).toNat)))), (12, .ref q9), (11, .int (iI x11)), (10, .int (iI x10)), (9, .int (iI (m_sm (fun b => m_sm (fun j => max 0 (g 6 j b)) (g 0 0 5).toNat) ((g 0 0 4).toNat)))), (8, .int (iI (m_sm (fun b => m_sm (fun j => m_ib (decide (0 ≤ g 6 j b))) (g 0 0 5).toNat) ((g 0 0 4).toNat)))), (7, .int (iI (m_sm (fun b => g 2 b 10) ((g 0 0 4).toNat)))), (6, .int (iI (m_sm (fun b => g 2 b 9) ((g 0 0 4).toNat)))), (5, .int (iI (m_cnt (m_ent g) ((g 0 0 4).toNat)))), (4, .int (iI (g 0 0 4))), (3, .int (iI (g 0 0 9))), (0, .ref (a 0)), (1, .int (iI (g 0 0 3))), (2, .int (iI (g 0 0 5)))] → W p l e (headSpec (wc yL_isSo cL_isSo 19 (some .boolean)) ({ frames := 6, cells := 1, slots := 5, locals := 138 })).room s m [.ref (a 0), .int (iI (g 0 0 3)), .int (iI (g 0 0 5))].toArray below meth c H locs 1 5 (MQ below (va_Qi (fun (r : Int32) (_ : Unit) => r = bi true) (fun _ t => ∃ vt1 : Nat → Int32, va_P D vwCl (pw a cH cB cJ cI g vt1) t.heap) (pA a s.heap.size)) [.ref (a 0), .int (iI (g 0 0 3)), .int (iI (g 0 0 5))].toArray s 1 5 (pA a s.heap.size)) (F0 m 846 ls []) := by
                        intro H locs ls hP hX hS hl
                        have hri : m_readIn g < 0 ↔ g 0 0 9 ≠ 1 := so_readIn g
                        have hms := so_miss g
                        have hmb1 := miss_b hWf (n := 1) (by omega)
                        have hmb2 := miss_b hWf (n := 2) (by omega)
                        have hrb := readIn_b g
                        rcases (show g 0 0 9 = 1 ∨ g 0 0 9 ≠ 1 from by omega) with hr1 | hr1
                        · skip
                          have hrn : 0 ≤ m_readIn g := Int.not_lt.mp (fun z => hri.mp z hr1)
                          refine lv_aload_n hx hb dL_isSo_846 rfl (lv_at hl 13 rfl) ?_
                          refine va_calli (va_runV (As := []) (rest := []) ⟨hx, hb, hml, hown, hw⟩ (c_readIn l D a cH cB cJ cI ha g v13 H.size  hWf) (cwV 0 hw (gA_V kw_302 kw_303 kw_304 kw_2 kw_305) rfl rfl rfl (by decide +kernel) ⟨Nat.le_of_ble_eq_true rfl, Nat.le_of_ble_eq_true rfl⟩) (pS_v (ci := 4) (q0 := 0) rfl pw_0 hP hK hE) rfl rfl hl.1 rfl (lv_room (Nat.le_of_ble_eq_true rfl)) dL_isSo_847 ⟨Nat.le_of_ble_eq_true rfl, Nat.le_of_ble_eq_true rfl⟩) hS (fun q h1 h2 => ro_A h1 h2) (fun q h => ro_F hS hA q h) (fun r u t H1 locs ht hvm hw9 hB9 hz1 hk1 hS => ?_)
                          have hw9 : r = (iI (m_readIn g)) := hw9
                          subst hw9
                          have hP := ro_P hP hk1
                          have hX := ro_P hX hk1
                          generalize H1 = H at hP hX hS ⊢
                          have s16 := readIn_b g
                          refine n_if_ge hx hb (by unfold RI; omega) (tgt := 857) dL_isSo_850 (by decide) (fun h17 => ?_) (fun h17 => absurd h17 (by intro h17; omega))
                          refine lv_iconst (v := iI 0) hx hb dL_isSo_857 (by decide) ?_
                          refine lv_iload_n hx hb dL_isSo_858 rfl (lv_at hl 12 rfl) ?_
                          refine lv_iconst (v := iI 1) hx hb dL_isSo_859 (by decide) ?_
                          refine n_icmp_eq hx hb (by unfold RI; omega) (by unfold RI; omega) (tgt := 867) dL_isSo_860 (by decide) (fun h18 => ?_) (fun h18 => absurd h18 (by intro h18; omega))
                          refine lv_iconst (v := iI 0) hx hb dL_isSo_867 (by decide) ?_
                          refine n_icmp_ne hx hb (by unfold RI; omega) (by unfold RI; omega) (tgt := 888) dL_isSo_868 (by decide) (fun h19 => absurd h19 (by intro h19; omega)) (fun h19 => ?_)
                          refine lv_aload_n hx hb dL_isSo_871 rfl (lv_at hl 13 rfl) ?_
                          refine lv_iconst (v := iI 2) hx hb dL_isSo_872 (by decide) ?_
                          refine va_calli (va_runV (As := [.int (iI 2)]) (rest := []) ⟨hx, hb, hml, hown, hw⟩ (c_wouldMiss l D a cH cB cJ cI ha g v13 H.size 2 hWf (by omega)) (cwV 1 hw (gA_V kw_463 kw_464 kw_465 kw_2 kw_466) rfl rfl rfl (by decide +kernel) ⟨Nat.le_of_ble_eq_true rfl, Nat.le_of_ble_eq_true rfl⟩) (pS_v (ci := 4) (q0 := 0) rfl pw_0 hP hK hE) rfl rfl hl.1 rfl (lv_room (Nat.le_of_ble_eq_true rfl)) dL_isSo_873 ⟨Nat.le_of_ble_eq_true rfl, Nat.le_of_ble_eq_true rfl⟩) hS (fun q h1 h2 => ro_A h1 h2) (fun q h => ro_F hS hA q h) (fun r u t H1 locs ht hvm hw9 hB9 hz1 hk1 hS => ?_)
                          have hw9 : r = (iI (m_wouldMiss g 2)) := hw9
                          subst hw9
                          have hP := ro_P hP hk1
                          have hX := ro_P hX hk1
                          generalize H1 = H at hP hX hS ⊢
                          refine lv_aload_n hx hb dL_isSo_876 rfl (lv_at hl 13 rfl) ?_
                          refine lv_iconst (v := iI 1) hx hb dL_isSo_877 (by decide) ?_
                          refine va_calli (va_runV (As := [.int (iI 1)]) (rest := [.int (iI (m_wouldMiss g 2))]) ⟨hx, hb, hml, hown, hw⟩ (c_wouldMiss l D a cH cB cJ cI ha g v13 H.size 1 hWf (by omega)) (cwV 1 hw (gA_V kw_463 kw_464 kw_465 kw_2 kw_466) rfl rfl rfl (by decide +kernel) ⟨Nat.le_of_ble_eq_true rfl, Nat.le_of_ble_eq_true rfl⟩) (pS_v (ci := 4) (q0 := 0) rfl pw_0 hP hK hE) rfl rfl hl.1 rfl (lv_room (Nat.le_of_ble_eq_true rfl)) dL_isSo_878 ⟨Nat.le_of_ble_eq_true rfl, Nat.le_of_ble_eq_true rfl⟩) hS (fun q h1 h2 => ro_A h1 h2) (fun q h => ro_F hS hA q h) (fun r u t H1 locs ht hvm hw9 hB9 hz1 hk1 hS => ?_)
                          have hw9 : r = (iI (m_wouldMiss g 1)) := hw9
                          subst hw9
                          have hP := ro_P hP hk1
                          have hX := ro_P hX hk1
                          generalize H1 = H at hP hX hS ⊢
                          refine n_icmp_lt hx hb (by unfold RI; omega) (by unfold RI; omega) (tgt := 888) dL_isSo_881 (by decide) (fun h20 => absurd h20 (by intro h20; omega)) (fun h20 => ?_)
                          refine lv_iconst (v := iI 1) hx hb dL_isSo_884 (by decide) ?_
                          refine lv_goto (tgt := 889) hx hb dL_isSo_885 (by decide) ?_
                          exact W.zret (v := (iI 1)) (ty := .boolean) hx hb hr (by decide +kernel) (fun t ht hW9 => ⟨⟨(iI 1), (), rfl, (show iI 1 = bi true from by rw [show true = true from by rfl]; rfl), ⟨v13, by rw [ht]; exact hP⟩⟩, hS.F ht⟩) hS.2.2 dL_isSo_889
                        · skip
                          have hrn : m_readIn g < 0 := hri.mpr hr1
                          refine lv_aload_n hx hb dL_isSo_846 rfl (lv_at hl 13 rfl) ?_
                          refine va_calli (va_runV (As := []) (rest := []) ⟨hx, hb, hml, hown, hw⟩ (c_readIn l D a cH cB cJ cI ha g v13 H.size  hWf) (cwV 0 hw (gA_V kw_302 kw_303 kw_304 kw_2 kw_305) rfl rfl rfl (by decide +kernel) ⟨Nat.le_of_ble_eq_true rfl, Nat.le_of_ble_eq_true rfl⟩) (pS_v (ci := 4) (q0 := 0) rfl pw_0 hP hK hE) rfl rfl hl.1 rfl (lv_room (Nat.le_of_ble_eq_true rfl)) dL_isSo_847 ⟨Nat.le_of_ble_eq_true rfl, Nat.le_of_ble_eq_true rfl⟩) hS (fun q h1 h2 => ro_A h1 h2) (fun q h => ro_F hS hA q h) (fun r u t H1 locs ht hvm hw9 hB9 hz1 hk1 hS => ?_)
                          have hw9 : r = (iI (m_readIn g)) := hw9
                          subst hw9
                          have hP := ro_P hP hk1
                          have hX := ro_P hX hk1
                          generalize H1 = H at hP hX hS ⊢
                          have s21 := readIn_b g
                          refine n_if_ge hx hb (by unfold RI; omega) (tgt := 857) dL_isSo_850 (by decide) (fun h22 => absurd h22 (by intro h22; omega)) (fun h22 => ?_)
                          refine lv_iconst (v := iI 1) hx hb dL_isSo_853 (by decide) ?_
                          refine lv_goto (tgt := 858) hx hb dL_isSo_854 (by decide) ?_
                          refine lv_iload_n hx hb dL_isSo_858 rfl (lv_at hl 12 rfl) ?_
                          refine lv_iconst (v := iI 1) hx hb dL_isSo_859 (by decide) ?_
                          refine n_icmp_eq hx hb (by unfold RI; omega) (by unfold RI; omega) (tgt := 867) dL_isSo_860 (by decide) (fun h23 => absurd h23 (by intro h23; omega)) (fun h23 => ?_)
                          refine lv_iconst (v := iI 1) hx hb dL_isSo_863 (by decide) ?_
                          refine lv_goto (tgt := 868) hx hb dL_isSo_864 (by decide) ?_
                          refine n_icmp_ne hx hb (by unfold RI; omega) (by unfold RI; omega) (tgt := 888) dL_isSo_868 (by decide) (fun h24 => absurd h24 (by intro h24; omega)) (fun h24 => ?_)
                          refine lv_aload_n hx hb dL_isSo_871 rfl (lv_at hl 13 rfl) ?_
                          refine lv_iconst (v := iI 2) hx hb dL_isSo_872 (by decide) ?_
                          refine va_calli (va_runV (As := [.int (iI 2)]) (rest := []) ⟨hx, hb, hml, hown, hw⟩ (c_wouldMiss l D a cH cB cJ cI ha g v13 H.size 2 hWf (by omega)) (cwV 1 hw (gA_V kw_463 kw_464 kw_465 kw_2 kw_466) rfl rfl rfl (by decide +kernel) ⟨Nat.le_of_ble_eq_true rfl, Nat.le_of_ble_eq_true rfl⟩) (pS_v (ci := 4) (q0 := 0) rfl pw_0 hP hK hE) rfl rfl hl.1 rfl (lv_room (Nat.le_of_ble_eq_true rfl)) dL_isSo_873 ⟨Nat.le_of_ble_eq_true rfl, Nat.le_of_ble_eq_true rfl⟩) hS (fun q h1 h2 => ro_A h1 h2) (fun q h => ro_F hS hA q h) (fun r u t H1 locs ht hvm hw9 hB9 hz1 hk1 hS => ?_)
                          have hw9 : r = (iI (m_wouldMiss g 2)) := hw9
                          subst hw9
                          have hP := ro_P hP hk1
                          have hX := ro_P hX hk1
                          generalize H1 = H at hP hX hS ⊢
                          refine lv_aload_n hx hb dL_isSo_876 rfl (lv_at hl 13 rfl) ?_
                          refine lv_iconst (v := iI 1) hx hb dL_isSo_877 (by decide) ?_
                          refine va_calli (va_runV (As := [.int (iI 1)]) (rest := [.int (iI (m_wouldMiss g 2))]) ⟨hx, hb, hml, hown, hw⟩ (c_wouldMiss l D a cH cB cJ cI ha g v13 H.size 1 hWf (by omega)) (cwV 1 hw (gA_V kw_463 kw_464 kw_465 kw_2 kw_466) rfl rfl rfl (by decide +kernel) ⟨Nat.le_of_ble_eq_true rfl, Nat.le_of_ble_eq_true rfl⟩) (pS_v (ci := 4) (q0 := 0) rfl pw_0 hP hK hE) rfl rfl hl.1 rfl (lv_room (Nat.le_of_ble_eq_true rfl)) dL_isSo_878 ⟨Nat.le_of_ble_eq_true rfl, Nat.le_of_ble_eq_true rfl⟩) hS (fun q h1 h2 => ro_A h1 h2) (fun q h => ro_F hS hA q h) (fun r u t H1 locs ht hvm hw9 hB9 hz1 hk1 hS => ?_)
                          have hw9 : r = (iI (m_wouldMiss g 1)) := hw9
                          subst hw9
                          have hP := ro_P hP hk1
                          have hX := ro_P hX hk1
                          generalize H1 = H at hP hX hS ⊢
                          refine n_icmp_lt hx hb (by unfold RI; omega) (by unfold RI; omega) (tgt := 888) dL_isSo_881 (by decide) (fun h25 => absurd h25 (by intro h25; omega)) (fun h25 => ?_)
                          refine lv_iconst (v := iI 1) hx hb dL_isSo_884 (by decide) ?_
                          refine lv_goto (tgt := 889) hx hb dL_isSo_885 (by decide) ?_
                          exact W.zret (v := (iI 1)) (ty := .boolean) hx hb hr (by decide +kernel) (fun t ht hW9 => ⟨⟨(iI 1), (), rfl, (show iI 1 = bi true from by rw [show true = true from by rfl]; rfl), ⟨v13, by rw [ht]; exact hP⟩⟩, hS.F ht⟩) hS.2.2 dL_isSo_889
                      refine lv_iload_n hx hb dL_isSo_829 rfl (lv_at hl 12 rfl) ?_
                      refine lv_iconst (v := iI 3) hx hb dL_isSo_830 (by decide) ?_
                      refine n_icmp_ne hx hb (by unfold RI; omega) (by unfold RI; omega) (tgt := 846) dL_isSo_831 (by decide) (fun h26 => ?_) (fun h26 => ?_)
                      · skip
                        exact hj846 H locs ls hP hX hS (lv_sub hl [0, 1, 2, 3, 4, 5, 6, 7, 8, 9, 10, 11, 12, 13, 14, 15] rfl)
                      · skip
                        refine lv_iload hx hb dL_isSo_834 (lv_at hl 4 rfl) ?_
                        refine n_if_eq hx hb (by unfold RI; omega) (tgt := 846) dL_isSo_836 (by decide) (fun h27 => ?_) (fun h27 => ?_)
                        · skip
                          exact hj846 H locs ls hP hX hS (lv_sub hl [0, 1, 2, 3, 4, 5, 6, 7, 8, 9, 10, 11, 12, 13, 14, 15] rfl)
                        · skip
                          refine lv_iload hx hb dL_isSo_839 (lv_at hl 1 rfl) ?_
                          refine n_if_ge hx hb (by unfold RI; omega) (tgt := 846) dL_isSo_841 (by decide) (fun h28 => ?_) (fun h28 => absurd h28 (by intro h28; omega))
                          exact hj846 H locs ls hP hX hS (lv_sub hl [0, 1, 2, 3, 4, 5, 6, 7, 8, 9, 10, 11, 12, 13, 14, 15] rfl)
                    refine lv_iload_n hx hb dL_isSo_812 rfl (lv_at hl 12 rfl) ?_
                    refine lv_iconst (v := iI 3) hx hb dL_isSo_813 (by decide) ?_
                    refine n_icmp_ge hx hb (by unfold RI; omega) (by unfold RI; omega) (tgt := 829) dL_isSo_814 (by decide) (fun h29 => ?_) (fun h29 => ?_)
                    · skip
                      exact hj829 H locs ls hP hX hS (lv_sub hl [0, 1, 2, 3, 4, 5, 6, 7, 8, 9, 10, 11, 12, 13, 14, 15] rfl)
                    · skip
                      refine lv_iload hx hb dL_isSo_817 (lv_at hl 1 rfl) ?_
                      refine lv_iconst (v := iI (-1)) hx hb dL_isSo_819 (by decide) ?_
                      refine n_icmp_ne hx hb (by unfold RI; omega) (by unfold RI; omega) (tgt := 844) dL_isSo_820 (by decide) (fun h30 => absurd h30 (by intro h30; omega)) (fun h30 => ?_)
                      refine lv_iload hx hb dL_isSo_823 (lv_at hl 0 rfl) ?_
                      refine lv_iconst (v := iI (-1)) hx hb dL_isSo_825 (by decide) ?_
                      refine n_icmp_ne hx hb (by unfold RI; omega) (by unfold RI; omega) (tgt := 844) dL_isSo_826 (by decide) (fun h31 => absurd h31 (by intro h31; omega)) (fun h31 => ?_)
                      exact hj829 H locs ls hP hX hS (lv_sub hl [0, 1, 2, 3, 4, 5, 6, 7, 8, 9, 10, 11, 12, 13, 14, 15] rfl)
                  refine lv_iload hx hb dL_isSo_797 (lv_at hl 0 rfl) ?_
                  refine n_if_lt hx hb (by unfold RI; omega) (tgt := 812) dL_isSo_799 (by decide) (fun h32 => ?_) (fun h32 => ?_)
                  · skip
                    exact hj812 H locs ls hP hX hS (lv_sub hl [0, 1, 2, 3, 4, 5, 6, 7, 8, 9, 10, 11, 12, 13, 14, 15] rfl)
                  · skip
                    refine lv_iload hx hb dL_isSo_802 (lv_at hl 4 rfl) ?_
                    refine lv_iload hx hb dL_isSo_804 (lv_at hl 0 rfl) ?_
                    refine lv_ishr hx hb dL_isSo_806 ?_
                    refine lv_iconst (v := iI 1) hx hb dL_isSo_807 (by decide) ?_
                    refine lv_iand hx hb dL_isSo_808 ?_
                    rw [shr_has (S := x11) (n := (m_beatsAll g)) (by omega) (by omega) (by omega)]
                    refine n_b_eq hx hb (tgt := 844) dL_isSo_809 (by decide) (fun h33 => absurd h33 (by intro h33; rw [hx11, hbi (by omega)] at h33; cases h33)) (fun h33 => ?_)
                    exact hj812 H locs ls hP hX hS (lv_sub hl [0, 1, 2, 3, 4, 5, 6, 7, 8, 9, 10, 11, 12, 13, 14, 15] rfl)
                refine lv_iload hx hb dL_isSo_782 (lv_at hl 1 rfl) ?_
                refine n_if_lt hx hb (by unfold RI; omega) (tgt := 797) dL_isSo_784 (by decide) (fun h34 => ?_) (fun h34 => ?_)
                · skip
                  exact hj797 H locs ls hP hX hS (lv_sub hl [0, 1, 2, 3, 4, 5, 6, 7, 8, 9, 10, 11, 12, 13, 14, 15] rfl)
                · skip
                  refine lv_iload hx hb dL_isSo_787 (lv_at hl 4 rfl) ?_
                  refine lv_iload hx hb dL_isSo_789 (lv_at hl 1 rfl) ?_
                  refine lv_ishr hx hb dL_isSo_791 ?_
                  refine lv_iconst (v := iI 1) hx hb dL_isSo_792 (by decide) ?_
                  refine lv_iand hx hb dL_isSo_793 ?_
                  rw [shr_has (S := x11) (n := (m_winner g 0 0)) (by omega) (by omega) (by omega)]
                  refine n_b_eq hx hb (tgt := 844) dL_isSo_794 (by decide) (fun h35 => absurd h35 (by intro h35; rw [hx11, hwi (by omega)] at h35; cases h35)) (fun h35 => ?_)
                  exact hj797 H locs ls hP hX hS (lv_sub hl [0, 1, 2, 3, 4, 5, 6, 7, 8, 9, 10, 11, 12, 13, 14, 15] rfl)
              refine lv_iload_n hx hb dL_isSo_710 rfl (lv_at hl 11 rfl) ?_
              refine lv_iconst (v := iI 2) hx hb dL_isSo_711 (by decide) ?_
              refine n_icmp_ge hx hb (by unfold RI; omega) (by unfold RI; omega) (tgt := 720) dL_isSo_712 (by decide) (fun h36 => ?_) (fun h36 => ?_)
              · skip
                refine lv_iload_n hx hb dL_isSo_720 rfl (lv_at hl 11 rfl) ?_
                refine lv_iconst (v := iI 3) hx hb dL_isSo_721 (by decide) ?_
                refine n_icmp_ge hx hb (by unfold RI; omega) (by unfold RI; omega) (tgt := 730) dL_isSo_722 (by decide) (fun h37 => ?_) (fun h37 => ?_)
                · skip
                  refine lv_iload_n hx hb dL_isSo_730 rfl (lv_at hl 11 rfl) ?_
                  refine lv_iconst (v := iI 4) hx hb dL_isSo_731 (by decide) ?_
                  refine n_icmp_ge hx hb (by unfold RI; omega) (by unfold RI; omega) (tgt := 745) dL_isSo_732 (by decide) (fun h38 => ?_) (fun h38 => ?_)
                  · skip
                    exact hj745 H locs ls hP hX hS (lv_sub hl [0, 1, 2, 3, 4, 5, 6, 7, 8, 9, 10, 11, 12, 13, 14] rfl)
                  · skip
                    refine lv_aload_n hx hb dL_isSo_735 rfl (lv_at hl 12 rfl) ?_
                    refine lv_bipush (v := iI 9) hx hb dL_isSo_736 (by decide) ?_
                    refine va_calli (va_runV (As := [.int (iI 9)]) (rest := []) ⟨hx, hb, hml, hown, hw⟩ (c_many l D a cH cB cJ cI ha g vq H.size 9 hWf (by omega)) (cwV 1 hw (gA_V kw_92 kw_93 kw_94 kw_2 kw_95) rfl rfl rfl (by decide +kernel) ⟨Nat.le_of_ble_eq_true rfl, Nat.le_of_ble_eq_true rfl⟩) (pS_v (ci := 4) (q0 := 0) rfl pw_0 hP hK hE) rfl rfl hl.1 rfl (lv_room (Nat.le_of_ble_eq_true rfl)) dL_isSo_738 ⟨Nat.le_of_ble_eq_true rfl, Nat.le_of_ble_eq_true rfl⟩) hS (fun q h1 h2 => ro_A h1 h2) (fun q h => ro_F hS hA q h) (fun r u t H1 locs ht hvm hw9 hB9 hz1 hk1 hS => ?_)
                    have hw9 : r = (iI (m_many g 9)) := hw9
                    subst hw9
                    have hP := ro_P hP hk1
                    have hX := ro_P hX hk1
                    generalize H1 = H at hP hX hS ⊢
                    rw [show (m_many g 9) = (g 0 0 14) from rfl]
                    have s39 := Wf.m14 hWf
                    refine lv_iconst (v := iI (-1)) hx hb dL_isSo_741 (by decide) ?_
                    refine n_icmp_ne hx hb (by unfold RI; omega) (by unfold RI; omega) (tgt := 767) dL_isSo_742 (by decide) (fun h40 => absurd h40 (by intro h40; omega)) (fun h40 => ?_)
                    exact hj745 H locs ls hP hX hS (lv_sub hl [0, 1, 2, 3, 4, 5, 6, 7, 8, 9, 10, 11, 12, 13, 14] rfl)
                · skip
                  refine lv_iload hx hb dL_isSo_725 (lv_at hl 3 rfl) ?_
                  refine n_if_ne hx hb (by unfold RI; omega) (tgt := 767) dL_isSo_727 (by decide) (fun h41 => absurd h41 (by intro h41; omega)) (fun h41 => ?_)
                  refine lv_iload_n hx hb dL_isSo_730 rfl (lv_at hl 11 rfl) ?_
                  refine lv_iconst (v := iI 4) hx hb dL_isSo_731 (by decide) ?_
                  refine n_icmp_ge hx hb (by unfold RI; omega) (by unfold RI; omega) (tgt := 745) dL_isSo_732 (by decide) (fun h42 => ?_) (fun h42 => ?_)
                  · skip
                    exact hj745 H locs ls hP hX hS (lv_sub hl [0, 1, 2, 3, 4, 5, 6, 7, 8, 9, 10, 11, 12, 13, 14] rfl)
                  · skip
                    refine lv_aload_n hx hb dL_isSo_735 rfl (lv_at hl 12 rfl) ?_
                    refine lv_bipush (v := iI 9) hx hb dL_isSo_736 (by decide) ?_
                    refine va_calli (va_runV (As := [.int (iI 9)]) (rest := []) ⟨hx, hb, hml, hown, hw⟩ (c_many l D a cH cB cJ cI ha g vq H.size 9 hWf (by omega)) (cwV 1 hw (gA_V kw_92 kw_93 kw_94 kw_2 kw_95) rfl rfl rfl (by decide +kernel) ⟨Nat.le_of_ble_eq_true rfl, Nat.le_of_ble_eq_true rfl⟩) (pS_v (ci := 4) (q0 := 0) rfl pw_0 hP hK hE) rfl rfl hl.1 rfl (lv_room (Nat.le_of_ble_eq_true rfl)) dL_isSo_738 ⟨Nat.le_of_ble_eq_true rfl, Nat.le_of_ble_eq_true rfl⟩) hS (fun q h1 h2 => ro_A h1 h2) (fun q h => ro_F hS hA q h) (fun r u t H1 locs ht hvm hw9 hB9 hz1 hk1 hS => ?_)
                    have hw9 : r = (iI (m_many g 9)) := hw9
                    subst hw9
                    have hP := ro_P hP hk1
                    have hX := ro_P hX hk1
                    generalize H1 = H at hP hX hS ⊢
                    rw [show (m_many g 9) = (g 0 0 14) from rfl]
                    have s43 := Wf.m14 hWf
                    refine lv_iconst (v := iI (-1)) hx hb dL_isSo_741 (by decide) ?_
                    refine n_icmp_ne hx hb (by unfold RI; omega) (by unfold RI; omega) (tgt := 767) dL_isSo_742 (by decide) (fun h44 => absurd h44 (by intro h44; omega)) (fun h44 => ?_)
                    exact hj745 H locs ls hP hX hS (lv_sub hl [0, 1, 2, 3, 4, 5, 6, 7, 8, 9, 10, 11, 12, 13, 14] rfl)
              · skip
                refine lv_iload hx hb dL_isSo_715 (lv_at hl 4 rfl) ?_
                refine n_if_ne hx hb (by unfold RI; omega) (tgt := 767) dL_isSo_717 (by decide) (fun h45 => absurd h45 (by intro h45; omega)) (fun h45 => ?_)
                refine lv_iload_n hx hb dL_isSo_720 rfl (lv_at hl 11 rfl) ?_
                refine lv_iconst (v := iI 3) hx hb dL_isSo_721 (by decide) ?_
                refine n_icmp_ge hx hb (by unfold RI; omega) (by unfold RI; omega) (tgt := 730) dL_isSo_722 (by decide) (fun h46 => ?_) (fun h46 => ?_)
                · skip
                  refine lv_iload_n hx hb dL_isSo_730 rfl (lv_at hl 11 rfl) ?_
                  refine lv_iconst (v := iI 4) hx hb dL_isSo_731 (by decide) ?_
                  refine n_icmp_ge hx hb (by unfold RI; omega) (by unfold RI; omega) (tgt := 745) dL_isSo_732 (by decide) (fun h47 => ?_) (fun h47 => ?_)
                  · skip
                    exact hj745 H locs ls hP hX hS (lv_sub hl [0, 1, 2, 3, 4, 5, 6, 7, 8, 9, 10, 11, 12, 13, 14] rfl)
                  · skip
                    refine lv_aload_n hx hb dL_isSo_735 rfl (lv_at hl 12 rfl) ?_
                    refine lv_bipush (v := iI 9) hx hb dL_isSo_736 (by decide) ?_
                    refine va_calli (va_runV (As := [.int (iI 9)]) (rest := []) ⟨hx, hb, hml, hown, hw⟩ (c_many l D a cH cB cJ cI ha g vq H.size 9 hWf (by omega)) (cwV 1 hw (gA_V kw_92 kw_93 kw_94 kw_2 kw_95) rfl rfl rfl (by decide +kernel) ⟨Nat.le_of_ble_eq_true rfl, Nat.le_of_ble_eq_true rfl⟩) (pS_v (ci := 4) (q0 := 0) rfl pw_0 hP hK hE) rfl rfl hl.1 rfl (lv_room (Nat.le_of_ble_eq_true rfl)) dL_isSo_738 ⟨Nat.le_of_ble_eq_true rfl, Nat.le_of_ble_eq_true rfl⟩) hS (fun q h1 h2 => ro_A h1 h2) (fun q h => ro_F hS hA q h) (fun r u t H1 locs ht hvm hw9 hB9 hz1 hk1 hS => ?_)
                    have hw9 : r = (iI (m_many g 9)) := hw9
                    subst hw9
                    have hP := ro_P hP hk1
                    have hX := ro_P hX hk1
                    generalize H1 = H at hP hX hS ⊢
                    rw [show (m_many g 9) = (g 0 0 14) from rfl]
                    have s48 := Wf.m14 hWf
                    refine lv_iconst (v := iI (-1)) hx hb dL_isSo_741 (by decide) ?_
                    refine n_icmp_ne hx hb (by unfold RI; omega) (by unfold RI; omega) (tgt := 767) dL_isSo_742 (by decide) (fun h49 => absurd h49 (by intro h49; omega)) (fun h49 => ?_)
                    exact hj745 H locs ls hP hX hS (lv_sub hl [0, 1, 2, 3, 4, 5, 6, 7, 8, 9, 10, 11, 12, 13, 14] rfl)
                · skip
                  refine lv_iload hx hb dL_isSo_725 (lv_at hl 3 rfl) ?_
                  refine n_if_ne hx hb (by unfold RI; omega) (tgt := 767) dL_isSo_727 (by decide) (fun h50 => absurd h50 (by intro h50; omega)) (fun h50 => ?_)
                  refine lv_iload_n hx hb dL_isSo_730 rfl (lv_at hl 11 rfl) ?_
                  refine lv_iconst (v := iI 4) hx hb dL_isSo_731 (by decide) ?_
                  refine n_icmp_ge hx hb (by unfold RI; omega) (by unfold RI; omega) (tgt := 745) dL_isSo_732 (by decide) (fun h51 => ?_) (fun h51 => ?_)
                  · skip
                    exact hj745 H locs ls hP hX hS (lv_sub hl [0, 1, 2, 3, 4, 5, 6, 7, 8, 9, 10, 11, 12, 13, 14] rfl)
                  · skip
                    refine lv_aload_n hx hb dL_isSo_735 rfl (lv_at hl 12 rfl) ?_
                    refine lv_bipush (v := iI 9) hx hb dL_isSo_736 (by decide) ?_
                    refine va_calli (va_runV (As := [.int (iI 9)]) (rest := []) ⟨hx, hb, hml, hown, hw⟩ (c_many l D a cH cB cJ cI ha g vq H.size 9 hWf (by omega)) (cwV 1 hw (gA_V kw_92 kw_93 kw_94 kw_2 kw_95) rfl rfl rfl (by decide +kernel) ⟨Nat.le_of_ble_eq_true rfl, Nat.le_of_ble_eq_true rfl⟩) (pS_v (ci := 4) (q0 := 0) rfl pw_0 hP hK hE) rfl rfl hl.1 rfl (lv_room (Nat.le_of_ble_eq_true rfl)) dL_isSo_738 ⟨Nat.le_of_ble_eq_true rfl, Nat.le_of_ble_eq_true rfl⟩) hS (fun q h1 h2 => ro_A h1 h2) (fun q h => ro_F hS hA q h) (fun r u t H1 locs ht hvm hw9 hB9 hz1 hk1 hS => ?_)
                    have hw9 : r = (iI (m_many g 9)) := hw9
                    subst hw9
                    have hP := ro_P hP hk1
                    have hX := ro_P hX hk1
                    generalize H1 = H at hP hX hS ⊢
                    rw [show (m_many g 9) = (g 0 0 14) from rfl]
                    have s52 := Wf.m14 hWf
                    refine lv_iconst (v := iI (-1)) hx hb dL_isSo_741 (by decide) ?_
                    refine n_icmp_ne hx hb (by unfold RI; omega) (by unfold RI; omega) (tgt := 767) dL_isSo_742 (by decide) (fun h53 => absurd h53 (by intro h53; omega)) (fun h53 => ?_)
                    exact hj745 H locs ls hP hX hS (lv_sub hl [0, 1, 2, 3, 4, 5, 6, 7, 8, 9, 10, 11, 12, 13, 14] rfl)
            | succ d2 ih491 =>
              intro n2 fq2 H locs ls hn2 hxf2 hX hP hS hl
              refine lv_iload hx hb dL_isSo_491 (lv_at hl 0 rfl) ?_
              refine lv_iload_n hx hb dL_isSo_493 rfl (lv_at hl 14 rfl) ?_
              refine n_icmp_ge hx hb (by unfold RI; omega) (by unfold RI; omega) (tgt := 638) dL_isSo_494 (by decide) (fun h54 => absurd h54 (by intro h54; omega)) (fun h54 => ?_)
              refine lv_iload hx hb dL_isSo_497 (lv_at hl 1 rfl) ?_
              refine lv_aload_n hx hb dL_isSo_499 rfl (lv_at hl 12 rfl) ?_
              refine lv_iload hx hb dL_isSo_500 (lv_at hl 0 rfl) ?_
              refine lv_iconst (v := iI 4) hx hb dL_isSo_502 (by decide) ?_
              refine va_calli (va_runV (As := [.int (iI ((n2 : Nat) : Int)), .int (iI 4)]) (rest := [.int (iI (m_sm (fun j => g 3 j 9) n2))]) ⟨hx, hb, hml, hown, hw⟩ (c_ofJudge l D a cH cB cJ cI ha g vq H.size ((n2 : Nat) : Int) 4 hWf (by omega) (by omega)) (cwV 2 hw (gA_V kw_174 kw_175 kw_176 kw_2 kw_177) rfl rfl rfl (by decide +kernel) ⟨Nat.le_of_ble_eq_true rfl, Nat.le_of_ble_eq_true rfl⟩) (pS_v (ci := 4) (q0 := 0) rfl pw_0 hP hK hE) rfl rfl hl.1 rfl (lv_room (Nat.le_of_ble_eq_true rfl)) dL_isSo_503 ⟨Nat.le_of_ble_eq_true rfl, Nat.le_of_ble_eq_true rfl⟩) hS (fun q h1 h2 => ro_A h1 h2) (fun q h => ro_F hS hA q h) (fun r u t H1 locs ht hvm hw9 hB9 hz1 hk1 hS => ?_)
              have hw9 : r = (iI (m_ofJudge g ((n2 : Nat) : Int) 4)) := hw9
              subst hw9
              have hP := ro_P hP hk1
              have hX := ro_P hX hk1
              generalize H1 = H at hP hX hS ⊢
              rw [show (m_ofJudge g ((n2 : Nat) : Int) 4) = (g 3 ((n2 : Nat) : Int) 9) from rfl]
              have s55 := Wf.j9 hWf (k := ((n2 : Nat) : Int)) (by omega) (by omega)
              refine n_add hx hb dL_isSo_506 ?_
              refine lv_istore (lv' := [(13, .int (iI ((m_sm (fun j => g 3 j 9) n2) + (g 3 ((n2 : Nat) : Int) 9)))), (14, .int (iI ((n2 : Nat) : Int))), (12, .ref q9), (11, .int (iI x11)), (10, .int (iI x10)), (9, .int (iI (m_sm (fun b => m_sm (fun j => max 0 (g 6 j b)) (g 0 0 5).toNat) ((g 0 0 4).toNat)))), (8, .int (iI (m_sm (fun b => m_sm (fun j => m_ib (decide (0 ≤ g 6 j b))) (g 0 0 5).toNat) ((g 0 0 4).toNat)))), (7, .int (iI (m_sm (fun b => g 2 b 10) ((g 0 0 4).toNat)))), (6, .int (iI (m_sm (fun b => g 2 b 9) ((g 0 0 4).toNat)))), (5, .int (iI (m_cnt (m_ent g) ((g 0 0 4).toNat)))), (4, .int (iI (g 0 0 4))), (3, .int (iI (g 0 0 9))), (0, .ref (a 0)), (1, .int (iI (g 0 0 3))), (2, .int (iI (g 0 0 5)))]) hx hb dL_isSo_507 hl (by decide) rfl (fun ls hl => ?_)
              have hjj := so_judge hIv (j := ↑n2) (by omega)
              have hJ2 := hIv.2.2.2.2.2.2.1.2 ↑n2 (by omega) (by omega)
              have hpl := hjj.2.2.2.2
              have hj7 := Wf.j7 hWf (k := ↑n2) (by omega) (by omega)
              have hj8 := Wf.j8 hWf (k := ↑n2) (by omega) (by omega)
              have hj9 := Wf.j9 hWf (k := ↑n2) (by omega) (by omega)
              have hj10 := Wf.j10 hWf (k := ↑n2) (by omega) (by omega)
              have hpb : m_pagesLeft g ↑n2 ≤ 14400 := by unfold m_pagesLeft; omega
              have hib15 := m_ib_b (decide (0 < g 3 ↑n2 15))
              have hi15 : g 0 0 9 < 3 → m_ib (decide (0 < g 3 ↑n2 15)) = 0 := fun h => by rw [decide_eq_false (by have := hJ2.2.1 h; omega)]; rfl
              have hj70 : g 0 0 9 = 0 → g 3 ↑n2 7 = 0 := hJ2.1
              rcases (show m_pagesLeft g ↑n2 = 0 ∨ m_pagesLeft g ↑n2 ≠ 0 from by omega) with hpz | hpz
              · skip
                have hpe := hpl.mp hpz
                refine lv_aload_n hx hb dL_isSo_509 rfl (lv_at hl 12 rfl) ?_
                refine lv_iload hx hb dL_isSo_510 (lv_at hl 1 rfl) ?_
                refine lv_iconst (v := iI 4) hx hb dL_isSo_512 (by decide) ?_
                refine va_calli (va_runV (As := [.int (iI ((n2 : Nat) : Int)), .int (iI 4)]) (rest := []) ⟨hx, hb, hml, hown, hw⟩ (c_ofJudge l D a cH cB cJ cI ha g vq H.size ((n2 : Nat) : Int) 4 hWf (by omega) (by omega)) (cwV 2 hw (gA_V kw_174 kw_175 kw_176 kw_2 kw_177) rfl rfl rfl (by decide +kernel) ⟨Nat.le_of_ble_eq_true rfl, Nat.le_of_ble_eq_true rfl⟩) (pS_v (ci := 4) (q0 := 0) rfl pw_0 hP hK hE) rfl rfl hl.1 rfl (lv_room (Nat.le_of_ble_eq_true rfl)) dL_isSo_513 ⟨Nat.le_of_ble_eq_true rfl, Nat.le_of_ble_eq_true rfl⟩) hS (fun q h1 h2 => ro_A h1 h2) (fun q h => ro_F hS hA q h) (fun r u t H1 locs ht hvm hw9 hB9 hz1 hk1 hS => ?_)
                have hw9 : r = (iI (m_ofJudge g ((n2 : Nat) : Int) 4)) := hw9
                subst hw9
                have hP := ro_P hP hk1
                have hX := ro_P hX hk1
                generalize H1 = H at hP hX hS ⊢
                rw [show (m_ofJudge g ((n2 : Nat) : Int) 4) = (g 3 ((n2 : Nat) : Int) 9) from rfl]
                refine lv_aload_n hx hb dL_isSo_516 rfl (lv_at hl 12 rfl) ?_
                refine lv_iload hx hb dL_isSo_517 (lv_at hl 1 rfl) ?_
                refine lv_iconst (v := iI 2) hx hb dL_isSo_519 (by decide) ?_
                refine va_calli (va_runV (As := [.int (iI ((n2 : Nat) : Int)), .int (iI 2)]) (rest := [.int (iI (g 3 ((n2 : Nat) : Int) 9))]) ⟨hx, hb, hml, hown, hw⟩ (c_ofJudge l D a cH cB cJ cI ha g vq H.size ((n2 : Nat) : Int) 2 hWf (by omega) (by omega)) (cwV 2 hw (gA_V kw_174 kw_175 kw_176 kw_2 kw_177) rfl rfl rfl (by decide +kernel) ⟨Nat.le_of_ble_eq_true rfl, Nat.le_of_ble_eq_true rfl⟩) (pS_v (ci := 4) (q0 := 0) rfl pw_0 hP hK hE) rfl rfl hl.1 rfl (lv_room (Nat.le_of_ble_eq_true rfl)) dL_isSo_520 ⟨Nat.le_of_ble_eq_true rfl, Nat.le_of_ble_eq_true rfl⟩) hS (fun q h1 h2 => ro_A h1 h2) (fun q h => ro_F hS hA q h) (fun r u t H1 locs ht hvm hw9 hB9 hz1 hk1 hS => ?_)
                have hw9 : r = (iI (m_ofJudge g ((n2 : Nat) : Int) 2)) := hw9
                subst hw9
                have hP := ro_P hP hk1
                have hX := ro_P hX hk1
                generalize H1 = H at hP hX hS ⊢
                rw [show (m_ofJudge g ((n2 : Nat) : Int) 2) = (g 3 ((n2 : Nat) : Int) 7) from rfl]
                have s56 := Wf.j7 hWf (k := ((n2 : Nat) : Int)) (by omega) (by omega)
                refine n_icmp_gt hx hb (by unfold RI; omega) (by unfold RI; omega) (tgt := 630) dL_isSo_523 (by decide) (fun h57 => absurd h57 (by intro h57; omega)) (fun h57 => ?_)
                refine lv_aload_n hx hb dL_isSo_526 rfl (lv_at hl 12 rfl) ?_
                refine lv_iload hx hb dL_isSo_527 (lv_at hl 1 rfl) ?_
                refine lv_iconst (v := iI 3) hx hb dL_isSo_529 (by decide) ?_
                refine va_calli (va_runV (As := [.int (iI ((n2 : Nat) : Int)), .int (iI 3)]) (rest := []) ⟨hx, hb, hml, hown, hw⟩ (c_ofJudge l D a cH cB cJ cI ha g vq H.size ((n2 : Nat) : Int) 3 hWf (by omega) (by omega)) (cwV 2 hw (gA_V kw_174 kw_175 kw_176 kw_2 kw_177) rfl rfl rfl (by decide +kernel) ⟨Nat.le_of_ble_eq_true rfl, Nat.le_of_ble_eq_true rfl⟩) (pS_v (ci := 4) (q0 := 0) rfl pw_0 hP hK hE) rfl rfl hl.1 rfl (lv_room (Nat.le_of_ble_eq_true rfl)) dL_isSo_530 ⟨Nat.le_of_ble_eq_true rfl, Nat.le_of_ble_eq_true rfl⟩) hS (fun q h1 h2 => ro_A h1 h2) (fun q h => ro_F hS hA q h) (fun r u t H1 locs ht hvm hw9 hB9 hz1 hk1 hS => ?_)
                have hw9 : r = (iI (m_ofJudge g ((n2 : Nat) : Int) 3)) := hw9
                subst hw9
                have hP := ro_P hP hk1
                have hX := ro_P hX hk1
                generalize H1 = H at hP hX hS ⊢
                rw [show (m_ofJudge g ((n2 : Nat) : Int) 3) = (m_pagesLeft g ((n2 : Nat) : Int)) from rfl]
                refine n_if_lt hx hb (by unfold RI; omega) (tgt := 630) dL_isSo_533 (by decide) (fun h58 => absurd h58 (by intro h58; omega)) (fun h58 => ?_)
                refine lv_aload_n hx hb dL_isSo_536 rfl (lv_at hl 12 rfl) ?_
                refine lv_iload hx hb dL_isSo_537 (lv_at hl 1 rfl) ?_
                refine lv_bipush (v := iI 7) hx hb dL_isSo_539 (by decide) ?_
                refine va_calli (va_runV (As := [.int (iI ((n2 : Nat) : Int)), .int (iI 7)]) (rest := []) ⟨hx, hb, hml, hown, hw⟩ (c_ofJudge l D a cH cB cJ cI ha g vq H.size ((n2 : Nat) : Int) 7 hWf (by omega) (by omega)) (cwV 2 hw (gA_V kw_174 kw_175 kw_176 kw_2 kw_177) rfl rfl rfl (by decide +kernel) ⟨Nat.le_of_ble_eq_true rfl, Nat.le_of_ble_eq_true rfl⟩) (pS_v (ci := 4) (q0 := 0) rfl pw_0 hP hK hE) rfl rfl hl.1 rfl (lv_room (Nat.le_of_ble_eq_true rfl)) dL_isSo_541 ⟨Nat.le_of_ble_eq_true rfl, Nat.le_of_ble_eq_true rfl⟩) hS (fun q h1 h2 => ro_A h1 h2) (fun q h => ro_F hS hA q h) (fun r u t H1 locs ht hvm hw9 hB9 hz1 hk1 hS => ?_)
                have hw9 : r = (iI (m_ofJudge g ((n2 : Nat) : Int) 7)) := hw9
                subst hw9
                have hP := ro_P hP hk1
                have hX := ro_P hX hk1
                generalize H1 = H at hP hX hS ⊢
                rw [show (m_ofJudge g ((n2 : Nat) : Int) 7) = (m_ptsLeft g ((n2 : Nat) : Int)) from rfl]
                refine n_if_lt hx hb (by unfold RI; omega) (tgt := 630) dL_isSo_544 (by decide) (fun h59 => absurd h59 (by intro h59; omega)) (fun h59 => ?_)
                refine lv_aload_n hx hb dL_isSo_547 rfl (lv_at hl 12 rfl) ?_
                refine lv_iload hx hb dL_isSo_548 (lv_at hl 1 rfl) ?_
                refine lv_bipush (v := iI 7) hx hb dL_isSo_550 (by decide) ?_
                refine va_calli (va_runV (As := [.int (iI ((n2 : Nat) : Int)), .int (iI 7)]) (rest := []) ⟨hx, hb, hml, hown, hw⟩ (c_ofJudge l D a cH cB cJ cI ha g vq H.size ((n2 : Nat) : Int) 7 hWf (by omega) (by omega)) (cwV 2 hw (gA_V kw_174 kw_175 kw_176 kw_2 kw_177) rfl rfl rfl (by decide +kernel) ⟨Nat.le_of_ble_eq_true rfl, Nat.le_of_ble_eq_true rfl⟩) (pS_v (ci := 4) (q0 := 0) rfl pw_0 hP hK hE) rfl rfl hl.1 rfl (lv_room (Nat.le_of_ble_eq_true rfl)) dL_isSo_552 ⟨Nat.le_of_ble_eq_true rfl, Nat.le_of_ble_eq_true rfl⟩) hS (fun q h1 h2 => ro_A h1 h2) (fun q h => ro_F hS hA q h) (fun r u t H1 locs ht hvm hw9 hB9 hz1 hk1 hS => ?_)
                have hw9 : r = (iI (m_ofJudge g ((n2 : Nat) : Int) 7)) := hw9
                subst hw9
                have hP := ro_P hP hk1
                have hX := ro_P hX hk1
                generalize H1 = H at hP hX hS ⊢
                rw [show (m_ofJudge g ((n2 : Nat) : Int) 7) = (m_ptsLeft g ((n2 : Nat) : Int)) from rfl]
                refine lv_bipush (v := iI 12) hx hb dL_isSo_555 (by decide) ?_
                refine n_icmp_gt hx hb (by unfold RI; omega) (by unfold RI; omega) (tgt := 630) dL_isSo_557 (by decide) (fun h60 => absurd h60 (by intro h60; omega)) (fun h60 => ?_)
                refine lv_aload_n hx hb dL_isSo_560 rfl (lv_at hl 12 rfl) ?_
                refine lv_iload hx hb dL_isSo_561 (lv_at hl 1 rfl) ?_
                refine lv_iconst (v := iI 3) hx hb dL_isSo_563 (by decide) ?_
                refine va_calli (va_runV (As := [.int (iI ((n2 : Nat) : Int)), .int (iI 3)]) (rest := []) ⟨hx, hb, hml, hown, hw⟩ (c_ofJudge l D a cH cB cJ cI ha g vq H.size ((n2 : Nat) : Int) 3 hWf (by omega) (by omega)) (cwV 2 hw (gA_V kw_174 kw_175 kw_176 kw_2 kw_177) rfl rfl rfl (by decide +kernel) ⟨Nat.le_of_ble_eq_true rfl, Nat.le_of_ble_eq_true rfl⟩) (pS_v (ci := 4) (q0 := 0) rfl pw_0 hP hK hE) rfl rfl hl.1 rfl (lv_room (Nat.le_of_ble_eq_true rfl)) dL_isSo_564 ⟨Nat.le_of_ble_eq_true rfl, Nat.le_of_ble_eq_true rfl⟩) hS (fun q h1 h2 => ro_A h1 h2) (fun q h => ro_F hS hA q h) (fun r u t H1 locs ht hvm hw9 hB9 hz1 hk1 hS => ?_)
                have hw9 : r = (iI (m_ofJudge g ((n2 : Nat) : Int) 3)) := hw9
                subst hw9
                have hP := ro_P hP hk1
                have hX := ro_P hX hk1
                generalize H1 = H at hP hX hS ⊢
                rw [show (m_ofJudge g ((n2 : Nat) : Int) 3) = (m_pagesLeft g ((n2 : Nat) : Int)) from rfl]
                refine n_if_ne hx hb (by unfold RI; omega) (tgt := 574) dL_isSo_567 (by decide) (fun h61 => absurd h61 (by intro h61; omega)) (fun h61 => ?_)
                refine lv_iconst (v := iI 1) hx hb dL_isSo_570 (by decide) ?_
                refine lv_goto (tgt := 575) hx hb dL_isSo_571 (by decide) ?_
                refine lv_aload_n hx hb dL_isSo_575 rfl (lv_at hl 12 rfl) ?_
                refine lv_iload hx hb dL_isSo_576 (lv_at hl 1 rfl) ?_
                refine lv_iconst (v := iI 4) hx hb dL_isSo_578 (by decide) ?_
                refine va_calli (va_runV (As := [.int (iI ((n2 : Nat) : Int)), .int (iI 4)]) (rest := [.int (iI 1)]) ⟨hx, hb, hml, hown, hw⟩ (c_ofJudge l D a cH cB cJ cI ha g vq H.size ((n2 : Nat) : Int) 4 hWf (by omega) (by omega)) (cwV 2 hw (gA_V kw_174 kw_175 kw_176 kw_2 kw_177) rfl rfl rfl (by decide +kernel) ⟨Nat.le_of_ble_eq_true rfl, Nat.le_of_ble_eq_true rfl⟩) (pS_v (ci := 4) (q0 := 0) rfl pw_0 hP hK hE) rfl rfl hl.1 rfl (lv_room (Nat.le_of_ble_eq_true rfl)) dL_isSo_579 ⟨Nat.le_of_ble_eq_true rfl, Nat.le_of_ble_eq_true rfl⟩) hS (fun q h1 h2 => ro_A h1 h2) (fun q h => ro_F hS hA q h) (fun r u t H1 locs ht hvm hw9 hB9 hz1 hk1 hS => ?_)
                have hw9 : r = (iI (m_ofJudge g ((n2 : Nat) : Int) 4)) := hw9
                subst hw9
                have hP := ro_P hP hk1
                have hX := ro_P hX hk1
                generalize H1 = H at hP hX hS ⊢
                rw [show (m_ofJudge g ((n2 : Nat) : Int) 4) = (g 3 ((n2 : Nat) : Int) 9) from rfl]
                refine lv_aload_n hx hb dL_isSo_582 rfl (lv_at hl 12 rfl) ?_
                refine lv_iload hx hb dL_isSo_583 (lv_at hl 1 rfl) ?_
                refine lv_iconst (v := iI 2) hx hb dL_isSo_585 (by decide) ?_
                refine va_calli (va_runV (As := [.int (iI ((n2 : Nat) : Int)), .int (iI 2)]) (rest := [.int (iI (g 3 ((n2 : Nat) : Int) 9)), .int (iI 1)]) ⟨hx, hb, hml, hown, hw⟩ (c_ofJudge l D a cH cB cJ cI ha g vq H.size ((n2 : Nat) : Int) 2 hWf (by omega) (by omega)) (cwV 2 hw (gA_V kw_174 kw_175 kw_176 kw_2 kw_177) rfl rfl rfl (by decide +kernel) ⟨Nat.le_of_ble_eq_true rfl, Nat.le_of_ble_eq_true rfl⟩) (pS_v (ci := 4) (q0 := 0) rfl pw_0 hP hK hE) rfl rfl hl.1 rfl (lv_room (Nat.le_of_ble_eq_true rfl)) dL_isSo_586 ⟨Nat.le_of_ble_eq_true rfl, Nat.le_of_ble_eq_true rfl⟩) hS (fun q h1 h2 => ro_A h1 h2) (fun q h => ro_F hS hA q h) (fun r u t H1 locs ht hvm hw9 hB9 hz1 hk1 hS => ?_)
                have hw9 : r = (iI (m_ofJudge g ((n2 : Nat) : Int) 2)) := hw9
                subst hw9
                have hP := ro_P hP hk1
                have hX := ro_P hX hk1
                generalize H1 = H at hP hX hS ⊢
                rw [show (m_ofJudge g ((n2 : Nat) : Int) 2) = (g 3 ((n2 : Nat) : Int) 7) from rfl]
                refine n_icmp_ne hx hb (by unfold RI; omega) (by unfold RI; omega) (tgt := 596) dL_isSo_589 (by decide) (fun h62 => absurd h62 (by intro h62; omega)) (fun h62 => ?_)
                refine lv_iconst (v := iI 1) hx hb dL_isSo_592 (by decide) ?_
                refine lv_goto (tgt := 597) hx hb dL_isSo_593 (by decide) ?_
                refine n_icmp_ne hx hb (by unfold RI; omega) (by unfold RI; omega) (tgt := 630) dL_isSo_597 (by decide) (fun h63 => absurd h63 (by intro h63; omega)) (fun h63 => ?_)
                refine lv_iload_n hx hb dL_isSo_600 rfl (lv_at hl 11 rfl) ?_
                refine n_if_ne hx hb (by unfold RI; omega) (tgt := 614) dL_isSo_601 (by decide) (fun h64 => ?_) (fun h64 => ?_)
                · skip
                  refine lv_iload_n hx hb dL_isSo_614 rfl (lv_at hl 11 rfl) ?_
                  refine lv_iconst (v := iI 3) hx hb dL_isSo_615 (by decide) ?_
                  refine n_icmp_ge hx hb (by unfold RI; omega) (by unfold RI; omega) (tgt := 632) dL_isSo_616 (by decide) (fun h65 => ?_) (fun h65 => ?_)
                  · skip
                    refine n_inc (lv' := [(14, .int (iI (((n2 : Nat) : Int) + 1))), (13, .int (iI ((m_sm (fun j => g 3 j 9) n2) + (g 3 ((n2 : Nat) : Int) 9)))), (12, .ref q9), (11, .int (iI x11)), (10, .int (iI x10)), (9, .int (iI (m_sm (fun b => m_sm (fun j => max 0 (g 6 j b)) (g 0 0 5).toNat) ((g 0 0 4).toNat)))), (8, .int (iI (m_sm (fun b => m_sm (fun j => m_ib (decide (0 ≤ g 6 j b))) (g 0 0 5).toNat) ((g 0 0 4).toNat)))), (7, .int (iI (m_sm (fun b => g 2 b 10) ((g 0 0 4).toNat)))), (6, .int (iI (m_sm (fun b => g 2 b 9) ((g 0 0 4).toNat)))), (5, .int (iI (m_cnt (m_ent g) ((g 0 0 4).toNat)))), (4, .int (iI (g 0 0 4))), (3, .int (iI (g 0 0 9))), (0, .ref (a 0)), (1, .int (iI (g 0 0 3))), (2, .int (iI (g 0 0 5)))]) hx hb dL_isSo_632 hl (k := 1) rfl (by decide) rfl (fun ls hl => ?_)
                    refine lv_goto (tgt := 491) hx hb dL_isSo_635 (by decide) ?_
                    have hl : lv_has ls 19 [(14, .int (iI (((n2 : Nat) : Int) + 1))), (13, .int (iI ((m_sm (fun j => g 3 j 9) n2) + (g 3 ((n2 : Nat) : Int) 9)))), (12, .ref q9), (11, .int (iI x11)), (10, .int (iI x10)), (9, .int (iI (m_sm (fun b => m_sm (fun j => max 0 (g 6 j b)) (g 0 0 5).toNat) ((g 0 0 4).toNat)))), (8, .int (iI (m_sm (fun b => m_sm (fun j => m_ib (decide (0 ≤ g 6 j b))) (g 0 0 5).toNat) ((g 0 0 4).toNat)))), (7, .int (iI (m_sm (fun b => g 2 b 10) ((g 0 0 4).toNat)))), (6, .int (iI (m_sm (fun b => g 2 b 9) ((g 0 0 4).toNat)))), (5, .int (iI (m_cnt (m_ent g) ((g 0 0 4).toNat)))), (4, .int (iI (g 0 0 4))), (3, .int (iI (g 0 0 9))), (0, .ref (a 0)), (1, .int (iI (g 0 0 3))), (2, .int (iI (g 0 0 5)))] := lv_sub hl [0, 1, 2, 3, 4, 5, 6, 7, 8, 9, 10, 11, 12, 13, 14] rfl
                    have e66 : (((n2 : Nat) : Int) + 1) = (((n2 + 1) : Nat) : Int) := by rfl
                    have e67 : ((m_sm (fun j => g 3 j 9) n2) + (g 3 ((n2 : Nat) : Int) 9)) = (m_sm (fun j => g 3 j 9) (n2 + 1)) := by rfl
                    have hl : lv_has ls 19 [(14, .int (iI (((n2 + 1) : Nat) : Int))), (13, .int (iI (m_sm (fun j => g 3 j 9) (n2 + 1)))), (12, .ref q9), (11, .int (iI x11)), (10, .int (iI x10)), (9, .int (iI (m_sm (fun b => m_sm (fun j => max 0 (g 6 j b)) (g 0 0 5).toNat) ((g 0 0 4).toNat)))), (8, .int (iI (m_sm (fun b => m_sm (fun j => m_ib (decide (0 ≤ g 6 j b))) (g 0 0 5).toNat) ((g 0 0 4).toNat)))), (7, .int (iI (m_sm (fun b => g 2 b 10) ((g 0 0 4).toNat)))), (6, .int (iI (m_sm (fun b => g 2 b 9) ((g 0 0 4).toNat)))), (5, .int (iI (m_cnt (m_ent g) ((g 0 0 4).toNat)))), (4, .int (iI (g 0 0 4))), (3, .int (iI (g 0 0 9))), (0, .ref (a 0)), (1, .int (iI (g 0 0 3))), (2, .int (iI (g 0 0 5)))] := lv_cast hl (by rw [e66, e67])
                    exact ih491 (n2 + 1) fq2 H locs ls (by omega) hxf2 hX hP hS hl
                  · skip
                    refine lv_aload_n hx hb dL_isSo_619 rfl (lv_at hl 12 rfl) ?_
                    refine lv_iload hx hb dL_isSo_620 (lv_at hl 1 rfl) ?_
                    refine lv_bipush (v := iI 6) hx hb dL_isSo_622 (by decide) ?_
                    refine va_calli (va_runV (As := [.int (iI ((n2 : Nat) : Int)), .int (iI 6)]) (rest := []) ⟨hx, hb, hml, hown, hw⟩ (c_ofJudge l D a cH cB cJ cI ha g vq H.size ((n2 : Nat) : Int) 6 hWf (by omega) (by omega)) (cwV 2 hw (gA_V kw_174 kw_175 kw_176 kw_2 kw_177) rfl rfl rfl (by decide +kernel) ⟨Nat.le_of_ble_eq_true rfl, Nat.le_of_ble_eq_true rfl⟩) (pS_v (ci := 4) (q0 := 0) rfl pw_0 hP hK hE) rfl rfl hl.1 rfl (lv_room (Nat.le_of_ble_eq_true rfl)) dL_isSo_624 ⟨Nat.le_of_ble_eq_true rfl, Nat.le_of_ble_eq_true rfl⟩) hS (fun q h1 h2 => ro_A h1 h2) (fun q h => ro_F hS hA q h) (fun r u t H1 locs ht hvm hw9 hB9 hz1 hk1 hS => ?_)
                    have hw9 : r = (iI (m_ofJudge g ((n2 : Nat) : Int) 6)) := hw9
                    subst hw9
                    have hP := ro_P hP hk1
                    have hX := ro_P hX hk1
                    generalize H1 = H at hP hX hS ⊢
                    rw [show (m_ofJudge g ((n2 : Nat) : Int) 6) = (m_ib (decide (0 < g 3 ((n2 : Nat) : Int) 15))) from rfl]
                    refine n_if_eq hx hb (by unfold RI; omega) (tgt := 632) dL_isSo_627 (by decide) (fun h68 => ?_) (fun h68 => absurd h68 (by intro h68; omega))
                    refine n_inc (lv' := [(14, .int (iI (((n2 : Nat) : Int) + 1))), (13, .int (iI ((m_sm (fun j => g 3 j 9) n2) + (g 3 ((n2 : Nat) : Int) 9)))), (12, .ref q9), (11, .int (iI x11)), (10, .int (iI x10)), (9, .int (iI (m_sm (fun b => m_sm (fun j => max 0 (g 6 j b)) (g 0 0 5).toNat) ((g 0 0 4).toNat)))), (8, .int (iI (m_sm (fun b => m_sm (fun j => m_ib (decide (0 ≤ g 6 j b))) (g 0 0 5).toNat) ((g 0 0 4).toNat)))), (7, .int (iI (m_sm (fun b => g 2 b 10) ((g 0 0 4).toNat)))), (6, .int (iI (m_sm (fun b => g 2 b 9) ((g 0 0 4).toNat)))), (5, .int (iI (m_cnt (m_ent g) ((g 0 0 4).toNat)))), (4, .int (iI (g 0 0 4))), (3, .int (iI (g 0 0 9))), (0, .ref (a 0)), (1, .int (iI (g 0 0 3))), (2, .int (iI (g 0 0 5)))]) hx hb dL_isSo_632 hl (k := 1) rfl (by decide) rfl (fun ls hl => ?_)
                    refine lv_goto (tgt := 491) hx hb dL_isSo_635 (by decide) ?_
                    have hl : lv_has ls 19 [(14, .int (iI (((n2 : Nat) : Int) + 1))), (13, .int (iI ((m_sm (fun j => g 3 j 9) n2) + (g 3 ((n2 : Nat) : Int) 9)))), (12, .ref q9), (11, .int (iI x11)), (10, .int (iI x10)), (9, .int (iI (m_sm (fun b => m_sm (fun j => max 0 (g 6 j b)) (g 0 0 5).toNat) ((g 0 0 4).toNat)))), (8, .int (iI (m_sm (fun b => m_sm (fun j => m_ib (decide (0 ≤ g 6 j b))) (g 0 0 5).toNat) ((g 0 0 4).toNat)))), (7, .int (iI (m_sm (fun b => g 2 b 10) ((g 0 0 4).toNat)))), (6, .int (iI (m_sm (fun b => g 2 b 9) ((g 0 0 4).toNat)))), (5, .int (iI (m_cnt (m_ent g) ((g 0 0 4).toNat)))), (4, .int (iI (g 0 0 4))), (3, .int (iI (g 0 0 9))), (0, .ref (a 0)), (1, .int (iI (g 0 0 3))), (2, .int (iI (g 0 0 5)))] := lv_sub hl [0, 1, 2, 3, 4, 5, 6, 7, 8, 9, 10, 11, 12, 13, 14] rfl
                    have e69 : (((n2 : Nat) : Int) + 1) = (((n2 + 1) : Nat) : Int) := by rfl
                    have e70 : ((m_sm (fun j => g 3 j 9) n2) + (g 3 ((n2 : Nat) : Int) 9)) = (m_sm (fun j => g 3 j 9) (n2 + 1)) := by rfl
                    have hl : lv_has ls 19 [(14, .int (iI (((n2 + 1) : Nat) : Int))), (13, .int (iI (m_sm (fun j => g 3 j 9) (n2 + 1)))), (12, .ref q9), (11, .int (iI x11)), (10, .int (iI x10)), (9, .int (iI (m_sm (fun b => m_sm (fun j => max 0 (g 6 j b)) (g 0 0 5).toNat) ((g 0 0 4).toNat)))), (8, .int (iI (m_sm (fun b => m_sm (fun j => m_ib (decide (0 ≤ g 6 j b))) (g 0 0 5).toNat) ((g 0 0 4).toNat)))), (7, .int (iI (m_sm (fun b => g 2 b 10) ((g 0 0 4).toNat)))), (6, .int (iI (m_sm (fun b => g 2 b 9) ((g 0 0 4).toNat)))), (5, .int (iI (m_cnt (m_ent g) ((g 0 0 4).toNat)))), (4, .int (iI (g 0 0 4))), (3, .int (iI (g 0 0 9))), (0, .ref (a 0)), (1, .int (iI (g 0 0 3))), (2, .int (iI (g 0 0 5)))] := lv_cast hl (by rw [e69, e70])
                    exact ih491 (n2 + 1) fq2 H locs ls (by omega) hxf2 hX hP hS hl
                · skip
                  refine lv_aload_n hx hb dL_isSo_604 rfl (lv_at hl 12 rfl) ?_
                  refine lv_iload hx hb dL_isSo_605 (lv_at hl 1 rfl) ?_
                  refine lv_iconst (v := iI 2) hx hb dL_isSo_607 (by decide) ?_
                  refine va_calli (va_runV (As := [.int (iI ((n2 : Nat) : Int)), .int (iI 2)]) (rest := []) ⟨hx, hb, hml, hown, hw⟩ (c_ofJudge l D a cH cB cJ cI ha g vq H.size ((n2 : Nat) : Int) 2 hWf (by omega) (by omega)) (cwV 2 hw (gA_V kw_174 kw_175 kw_176 kw_2 kw_177) rfl rfl rfl (by decide +kernel) ⟨Nat.le_of_ble_eq_true rfl, Nat.le_of_ble_eq_true rfl⟩) (pS_v (ci := 4) (q0 := 0) rfl pw_0 hP hK hE) rfl rfl hl.1 rfl (lv_room (Nat.le_of_ble_eq_true rfl)) dL_isSo_608 ⟨Nat.le_of_ble_eq_true rfl, Nat.le_of_ble_eq_true rfl⟩) hS (fun q h1 h2 => ro_A h1 h2) (fun q h => ro_F hS hA q h) (fun r u t H1 locs ht hvm hw9 hB9 hz1 hk1 hS => ?_)
                  have hw9 : r = (iI (m_ofJudge g ((n2 : Nat) : Int) 2)) := hw9
                  subst hw9
                  have hP := ro_P hP hk1
                  have hX := ro_P hX hk1
                  generalize H1 = H at hP hX hS ⊢
                  rw [show (m_ofJudge g ((n2 : Nat) : Int) 2) = (g 3 ((n2 : Nat) : Int) 7) from rfl]
                  refine n_if_ne hx hb (by unfold RI; omega) (tgt := 630) dL_isSo_611 (by decide) (fun h71 => ?_) (fun h71 => ?_)
                  · skip
                    exact False.elim (by omega)
                  · skip
                    refine lv_iload_n hx hb dL_isSo_614 rfl (lv_at hl 11 rfl) ?_
                    refine lv_iconst (v := iI 3) hx hb dL_isSo_615 (by decide) ?_
                    refine n_icmp_ge hx hb (by unfold RI; omega) (by unfold RI; omega) (tgt := 632) dL_isSo_616 (by decide) (fun h72 => ?_) (fun h72 => ?_)
                    · skip
                      refine n_inc (lv' := [(14, .int (iI (((n2 : Nat) : Int) + 1))), (13, .int (iI ((m_sm (fun j => g 3 j 9) n2) + (g 3 ((n2 : Nat) : Int) 9)))), (12, .ref q9), (11, .int (iI x11)), (10, .int (iI x10)), (9, .int (iI (m_sm (fun b => m_sm (fun j => max 0 (g 6 j b)) (g 0 0 5).toNat) ((g 0 0 4).toNat)))), (8, .int (iI (m_sm (fun b => m_sm (fun j => m_ib (decide (0 ≤ g 6 j b))) (g 0 0 5).toNat) ((g 0 0 4).toNat)))), (7, .int (iI (m_sm (fun b => g 2 b 10) ((g 0 0 4).toNat)))), (6, .int (iI (m_sm (fun b => g 2 b 9) ((g 0 0 4).toNat)))), (5, .int (iI (m_cnt (m_ent g) ((g 0 0 4).toNat)))), (4, .int (iI (g 0 0 4))), (3, .int (iI (g 0 0 9))), (0, .ref (a 0)), (1, .int (iI (g 0 0 3))), (2, .int (iI (g 0 0 5)))]) hx hb dL_isSo_632 hl (k := 1) rfl (by decide) rfl (fun ls hl => ?_)
                      refine lv_goto (tgt := 491) hx hb dL_isSo_635 (by decide) ?_
                      have hl : lv_has ls 19 [(14, .int (iI (((n2 : Nat) : Int) + 1))), (13, .int (iI ((m_sm (fun j => g 3 j 9) n2) + (g 3 ((n2 : Nat) : Int) 9)))), (12, .ref q9), (11, .int (iI x11)), (10, .int (iI x10)), (9, .int (iI (m_sm (fun b => m_sm (fun j => max 0 (g 6 j b)) (g 0 0 5).toNat) ((g 0 0 4).toNat)))), (8, .int (iI (m_sm (fun b => m_sm (fun j => m_ib (decide (0 ≤ g 6 j b))) (g 0 0 5).toNat) ((g 0 0 4).toNat)))), (7, .int (iI (m_sm (fun b => g 2 b 10) ((g 0 0 4).toNat)))), (6, .int (iI (m_sm (fun b => g 2 b 9) ((g 0 0 4).toNat)))), (5, .int (iI (m_cnt (m_ent g) ((g 0 0 4).toNat)))), (4, .int (iI (g 0 0 4))), (3, .int (iI (g 0 0 9))), (0, .ref (a 0)), (1, .int (iI (g 0 0 3))), (2, .int (iI (g 0 0 5)))] := lv_sub hl [0, 1, 2, 3, 4, 5, 6, 7, 8, 9, 10, 11, 12, 13, 14] rfl
                      have e73 : (((n2 : Nat) : Int) + 1) = (((n2 + 1) : Nat) : Int) := by rfl
                      have e74 : ((m_sm (fun j => g 3 j 9) n2) + (g 3 ((n2 : Nat) : Int) 9)) = (m_sm (fun j => g 3 j 9) (n2 + 1)) := by rfl
                      have hl : lv_has ls 19 [(14, .int (iI (((n2 + 1) : Nat) : Int))), (13, .int (iI (m_sm (fun j => g 3 j 9) (n2 + 1)))), (12, .ref q9), (11, .int (iI x11)), (10, .int (iI x10)), (9, .int (iI (m_sm (fun b => m_sm (fun j => max 0 (g 6 j b)) (g 0 0 5).toNat) ((g 0 0 4).toNat)))), (8, .int (iI (m_sm (fun b => m_sm (fun j => m_ib (decide (0 ≤ g 6 j b))) (g 0 0 5).toNat) ((g 0 0 4).toNat)))), (7, .int (iI (m_sm (fun b => g 2 b 10) ((g 0 0 4).toNat)))), (6, .int (iI (m_sm (fun b => g 2 b 9) ((g 0 0 4).toNat)))), (5, .int (iI (m_cnt (m_ent g) ((g 0 0 4).toNat)))), (4, .int (iI (g 0 0 4))), (3, .int (iI (g 0 0 9))), (0, .ref (a 0)), (1, .int (iI (g 0 0 3))), (2, .int (iI (g 0 0 5)))] := lv_cast hl (by rw [e73, e74])
                      exact ih491 (n2 + 1) fq2 H locs ls (by omega) hxf2 hX hP hS hl
                    · skip
                      refine lv_aload_n hx hb dL_isSo_619 rfl (lv_at hl 12 rfl) ?_
                      refine lv_iload hx hb dL_isSo_620 (lv_at hl 1 rfl) ?_
                      refine lv_bipush (v := iI 6) hx hb dL_isSo_622 (by decide) ?_
                      refine va_calli (va_runV (As := [.int (iI ((n2 : Nat) : Int)), .int (iI 6)]) (rest := []) ⟨hx, hb, hml, hown, hw⟩ (c_ofJudge l D a cH cB cJ cI ha g vq H.size ((n2 : Nat) : Int) 6 hWf (by omega) (by omega)) (cwV 2 hw (gA_V kw_174 kw_175 kw_176 kw_2 kw_177) rfl rfl rfl (by decide +kernel) ⟨Nat.le_of_ble_eq_true rfl, Nat.le_of_ble_eq_true rfl⟩) (pS_v (ci := 4) (q0 := 0) rfl pw_0 hP hK hE) rfl rfl hl.1 rfl (lv_room (Nat.le_of_ble_eq_true rfl)) dL_isSo_624 ⟨Nat.le_of_ble_eq_true rfl, Nat.le_of_ble_eq_true rfl⟩) hS (fun q h1 h2 => ro_A h1 h2) (fun q h => ro_F hS hA q h) (fun r u t H1 locs ht hvm hw9 hB9 hz1 hk1 hS => ?_)
                      have hw9 : r = (iI (m_ofJudge g ((n2 : Nat) : Int) 6)) := hw9
                      subst hw9
                      have hP := ro_P hP hk1
                      have hX := ro_P hX hk1
                      generalize H1 = H at hP hX hS ⊢
                      rw [show (m_ofJudge g ((n2 : Nat) : Int) 6) = (m_ib (decide (0 < g 3 ((n2 : Nat) : Int) 15))) from rfl]
                      refine n_if_eq hx hb (by unfold RI; omega) (tgt := 632) dL_isSo_627 (by decide) (fun h75 => ?_) (fun h75 => absurd h75 (by intro h75; omega))
                      refine n_inc (lv' := [(14, .int (iI (((n2 : Nat) : Int) + 1))), (13, .int (iI ((m_sm (fun j => g 3 j 9) n2) + (g 3 ((n2 : Nat) : Int) 9)))), (12, .ref q9), (11, .int (iI x11)), (10, .int (iI x10)), (9, .int (iI (m_sm (fun b => m_sm (fun j => max 0 (g 6 j b)) (g 0 0 5).toNat) ((g 0 0 4).toNat)))), (8, .int (iI (m_sm (fun b => m_sm (fun j => m_ib (decide (0 ≤ g 6 j b))) (g 0 0 5).toNat) ((g 0 0 4).toNat)))), (7, .int (iI (m_sm (fun b => g 2 b 10) ((g 0 0 4).toNat)))), (6, .int (iI (m_sm (fun b => g 2 b 9) ((g 0 0 4).toNat)))), (5, .int (iI (m_cnt (m_ent g) ((g 0 0 4).toNat)))), (4, .int (iI (g 0 0 4))), (3, .int (iI (g 0 0 9))), (0, .ref (a 0)), (1, .int (iI (g 0 0 3))), (2, .int (iI (g 0 0 5)))]) hx hb dL_isSo_632 hl (k := 1) rfl (by decide) rfl (fun ls hl => ?_)
                      refine lv_goto (tgt := 491) hx hb dL_isSo_635 (by decide) ?_
                      have hl : lv_has ls 19 [(14, .int (iI (((n2 : Nat) : Int) + 1))), (13, .int (iI ((m_sm (fun j => g 3 j 9) n2) + (g 3 ((n2 : Nat) : Int) 9)))), (12, .ref q9), (11, .int (iI x11)), (10, .int (iI x10)), (9, .int (iI (m_sm (fun b => m_sm (fun j => max 0 (g 6 j b)) (g 0 0 5).toNat) ((g 0 0 4).toNat)))), (8, .int (iI (m_sm (fun b => m_sm (fun j => m_ib (decide (0 ≤ g 6 j b))) (g 0 0 5).toNat) ((g 0 0 4).toNat)))), (7, .int (iI (m_sm (fun b => g 2 b 10) ((g 0 0 4).toNat)))), (6, .int (iI (m_sm (fun b => g 2 b 9) ((g 0 0 4).toNat)))), (5, .int (iI (m_cnt (m_ent g) ((g 0 0 4).toNat)))), (4, .int (iI (g 0 0 4))), (3, .int (iI (g 0 0 9))), (0, .ref (a 0)), (1, .int (iI (g 0 0 3))), (2, .int (iI (g 0 0 5)))] := lv_sub hl [0, 1, 2, 3, 4, 5, 6, 7, 8, 9, 10, 11, 12, 13, 14] rfl
                      have e76 : (((n2 : Nat) : Int) + 1) = (((n2 + 1) : Nat) : Int) := by rfl
                      have e77 : ((m_sm (fun j => g 3 j 9) n2) + (g 3 ((n2 : Nat) : Int) 9)) = (m_sm (fun j => g 3 j 9) (n2 + 1)) := by rfl
                      have hl : lv_has ls 19 [(14, .int (iI (((n2 + 1) : Nat) : Int))), (13, .int (iI (m_sm (fun j => g 3 j 9) (n2 + 1)))), (12, .ref q9), (11, .int (iI x11)), (10, .int (iI x10)), (9, .int (iI (m_sm (fun b => m_sm (fun j => max 0 (g 6 j b)) (g 0 0 5).toNat) ((g 0 0 4).toNat)))), (8, .int (iI (m_sm (fun b => m_sm (fun j => m_ib (decide (0 ≤ g 6 j b))) (g 0 0 5).toNat) ((g 0 0 4).toNat)))), (7, .int (iI (m_sm (fun b => g 2 b 10) ((g 0 0 4).toNat)))), (6, .int (iI (m_sm (fun b => g 2 b 9) ((g 0 0 4).toNat)))), (5, .int (iI (m_cnt (m_ent g) ((g 0 0 4).toNat)))), (4, .int (iI (g 0 0 4))), (3, .int (iI (g 0 0 9))), (0, .ref (a 0)), (1, .int (iI (g 0 0 3))), (2, .int (iI (g 0 0 5)))] := lv_cast hl (by rw [e76, e77])
                      exact ih491 (n2 + 1) fq2 H locs ls (by omega) hxf2 hX hP hS hl
              · skip
                have hpe : g 3 ↑n2 9 ≠ g 3 ↑n2 7 := fun z => hpz (hpl.mpr z)
                refine lv_aload_n hx hb dL_isSo_509 rfl (lv_at hl 12 rfl) ?_
                refine lv_iload hx hb dL_isSo_510 (lv_at hl 1 rfl) ?_
                refine lv_iconst (v := iI 4) hx hb dL_isSo_512 (by decide) ?_
                refine va_calli (va_runV (As := [.int (iI ((n2 : Nat) : Int)), .int (iI 4)]) (rest := []) ⟨hx, hb, hml, hown, hw⟩ (c_ofJudge l D a cH cB cJ cI ha g vq H.size ((n2 : Nat) : Int) 4 hWf (by omega) (by omega)) (cwV 2 hw (gA_V kw_174 kw_175 kw_176 kw_2 kw_177) rfl rfl rfl (by decide +kernel) ⟨Nat.le_of_ble_eq_true rfl, Nat.le_of_ble_eq_true rfl⟩) (pS_v (ci := 4) (q0 := 0) rfl pw_0 hP hK hE) rfl rfl hl.1 rfl (lv_room (Nat.le_of_ble_eq_true rfl)) dL_isSo_513 ⟨Nat.le_of_ble_eq_true rfl, Nat.le_of_ble_eq_true rfl⟩) hS (fun q h1 h2 => ro_A h1 h2) (fun q h => ro_F hS hA q h) (fun r u t H1 locs ht hvm hw9 hB9 hz1 hk1 hS => ?_)
                have hw9 : r = (iI (m_ofJudge g ((n2 : Nat) : Int) 4)) := hw9
                subst hw9
                have hP := ro_P hP hk1
                have hX := ro_P hX hk1
                generalize H1 = H at hP hX hS ⊢
                rw [show (m_ofJudge g ((n2 : Nat) : Int) 4) = (g 3 ((n2 : Nat) : Int) 9) from rfl]
                refine lv_aload_n hx hb dL_isSo_516 rfl (lv_at hl 12 rfl) ?_
                refine lv_iload hx hb dL_isSo_517 (lv_at hl 1 rfl) ?_
                refine lv_iconst (v := iI 2) hx hb dL_isSo_519 (by decide) ?_
                refine va_calli (va_runV (As := [.int (iI ((n2 : Nat) : Int)), .int (iI 2)]) (rest := [.int (iI (g 3 ((n2 : Nat) : Int) 9))]) ⟨hx, hb, hml, hown, hw⟩ (c_ofJudge l D a cH cB cJ cI ha g vq H.size ((n2 : Nat) : Int) 2 hWf (by omega) (by omega)) (cwV 2 hw (gA_V kw_174 kw_175 kw_176 kw_2 kw_177) rfl rfl rfl (by decide +kernel) ⟨Nat.le_of_ble_eq_true rfl, Nat.le_of_ble_eq_true rfl⟩) (pS_v (ci := 4) (q0 := 0) rfl pw_0 hP hK hE) rfl rfl hl.1 rfl (lv_room (Nat.le_of_ble_eq_true rfl)) dL_isSo_520 ⟨Nat.le_of_ble_eq_true rfl, Nat.le_of_ble_eq_true rfl⟩) hS (fun q h1 h2 => ro_A h1 h2) (fun q h => ro_F hS hA q h) (fun r u t H1 locs ht hvm hw9 hB9 hz1 hk1 hS => ?_)
                have hw9 : r = (iI (m_ofJudge g ((n2 : Nat) : Int) 2)) := hw9
                subst hw9
                have hP := ro_P hP hk1
                have hX := ro_P hX hk1
                generalize H1 = H at hP hX hS ⊢
                rw [show (m_ofJudge g ((n2 : Nat) : Int) 2) = (g 3 ((n2 : Nat) : Int) 7) from rfl]
                have s78 := Wf.j7 hWf (k := ((n2 : Nat) : Int)) (by omega) (by omega)
                refine n_icmp_gt hx hb (by unfold RI; omega) (by unfold RI; omega) (tgt := 630) dL_isSo_523 (by decide) (fun h79 => absurd h79 (by intro h79; omega)) (fun h79 => ?_)
                refine lv_aload_n hx hb dL_isSo_526 rfl (lv_at hl 12 rfl) ?_
                refine lv_iload hx hb dL_isSo_527 (lv_at hl 1 rfl) ?_
                refine lv_iconst (v := iI 3) hx hb dL_isSo_529 (by decide) ?_
                refine va_calli (va_runV (As := [.int (iI ((n2 : Nat) : Int)), .int (iI 3)]) (rest := []) ⟨hx, hb, hml, hown, hw⟩ (c_ofJudge l D a cH cB cJ cI ha g vq H.size ((n2 : Nat) : Int) 3 hWf (by omega) (by omega)) (cwV 2 hw (gA_V kw_174 kw_175 kw_176 kw_2 kw_177) rfl rfl rfl (by decide +kernel) ⟨Nat.le_of_ble_eq_true rfl, Nat.le_of_ble_eq_true rfl⟩) (pS_v (ci := 4) (q0 := 0) rfl pw_0 hP hK hE) rfl rfl hl.1 rfl (lv_room (Nat.le_of_ble_eq_true rfl)) dL_isSo_530 ⟨Nat.le_of_ble_eq_true rfl, Nat.le_of_ble_eq_true rfl⟩) hS (fun q h1 h2 => ro_A h1 h2) (fun q h => ro_F hS hA q h) (fun r u t H1 locs ht hvm hw9 hB9 hz1 hk1 hS => ?_)
                have hw9 : r = (iI (m_ofJudge g ((n2 : Nat) : Int) 3)) := hw9
                subst hw9
                have hP := ro_P hP hk1
                have hX := ro_P hX hk1
                generalize H1 = H at hP hX hS ⊢
                rw [show (m_ofJudge g ((n2 : Nat) : Int) 3) = (m_pagesLeft g ((n2 : Nat) : Int)) from rfl]
                refine n_if_lt hx hb (by unfold RI; omega) (tgt := 630) dL_isSo_533 (by decide) (fun h80 => absurd h80 (by intro h80; omega)) (fun h80 => ?_)
                refine lv_aload_n hx hb dL_isSo_536 rfl (lv_at hl 12 rfl) ?_
                refine lv_iload hx hb dL_isSo_537 (lv_at hl 1 rfl) ?_
                refine lv_bipush (v := iI 7) hx hb dL_isSo_539 (by decide) ?_
                refine va_calli (va_runV (As := [.int (iI ((n2 : Nat) : Int)), .int (iI 7)]) (rest := []) ⟨hx, hb, hml, hown, hw⟩ (c_ofJudge l D a cH cB cJ cI ha g vq H.size ((n2 : Nat) : Int) 7 hWf (by omega) (by omega)) (cwV 2 hw (gA_V kw_174 kw_175 kw_176 kw_2 kw_177) rfl rfl rfl (by decide +kernel) ⟨Nat.le_of_ble_eq_true rfl, Nat.le_of_ble_eq_true rfl⟩) (pS_v (ci := 4) (q0 := 0) rfl pw_0 hP hK hE) rfl rfl hl.1 rfl (lv_room (Nat.le_of_ble_eq_true rfl)) dL_isSo_541 ⟨Nat.le_of_ble_eq_true rfl, Nat.le_of_ble_eq_true rfl⟩) hS (fun q h1 h2 => ro_A h1 h2) (fun q h => ro_F hS hA q h) (fun r u t H1 locs ht hvm hw9 hB9 hz1 hk1 hS => ?_)
                have hw9 : r = (iI (m_ofJudge g ((n2 : Nat) : Int) 7)) := hw9
                subst hw9
                have hP := ro_P hP hk1
                have hX := ro_P hX hk1
                generalize H1 = H at hP hX hS ⊢
                rw [show (m_ofJudge g ((n2 : Nat) : Int) 7) = (m_ptsLeft g ((n2 : Nat) : Int)) from rfl]
                refine n_if_lt hx hb (by unfold RI; omega) (tgt := 630) dL_isSo_544 (by decide) (fun h81 => absurd h81 (by intro h81; omega)) (fun h81 => ?_)
                refine lv_aload_n hx hb dL_isSo_547 rfl (lv_at hl 12 rfl) ?_
                refine lv_iload hx hb dL_isSo_548 (lv_at hl 1 rfl) ?_
                refine lv_bipush (v := iI 7) hx hb dL_isSo_550 (by decide) ?_
                refine va_calli (va_runV (As := [.int (iI ((n2 : Nat) : Int)), .int (iI 7)]) (rest := []) ⟨hx, hb, hml, hown, hw⟩ (c_ofJudge l D a cH cB cJ cI ha g vq H.size ((n2 : Nat) : Int) 7 hWf (by omega) (by omega)) (cwV 2 hw (gA_V kw_174 kw_175 kw_176 kw_2 kw_177) rfl rfl rfl (by decide +kernel) ⟨Nat.le_of_ble_eq_true rfl, Nat.le_of_ble_eq_true rfl⟩) (pS_v (ci := 4) (q0 := 0) rfl pw_0 hP hK hE) rfl rfl hl.1 rfl (lv_room (Nat.le_of_ble_eq_true rfl)) dL_isSo_552 ⟨Nat.le_of_ble_eq_true rfl, Nat.le_of_ble_eq_true rfl⟩) hS (fun q h1 h2 => ro_A h1 h2) (fun q h => ro_F hS hA q h) (fun r u t H1 locs ht hvm hw9 hB9 hz1 hk1 hS => ?_)
                have hw9 : r = (iI (m_ofJudge g ((n2 : Nat) : Int) 7)) := hw9
                subst hw9
                have hP := ro_P hP hk1
                have hX := ro_P hX hk1
                generalize H1 = H at hP hX hS ⊢
                rw [show (m_ofJudge g ((n2 : Nat) : Int) 7) = (m_ptsLeft g ((n2 : Nat) : Int)) from rfl]
                refine lv_bipush (v := iI 12) hx hb dL_isSo_555 (by decide) ?_
                refine n_icmp_gt hx hb (by unfold RI; omega) (by unfold RI; omega) (tgt := 630) dL_isSo_557 (by decide) (fun h82 => absurd h82 (by intro h82; omega)) (fun h82 => ?_)
                refine lv_aload_n hx hb dL_isSo_560 rfl (lv_at hl 12 rfl) ?_
                refine lv_iload hx hb dL_isSo_561 (lv_at hl 1 rfl) ?_
                refine lv_iconst (v := iI 3) hx hb dL_isSo_563 (by decide) ?_
                refine va_calli (va_runV (As := [.int (iI ((n2 : Nat) : Int)), .int (iI 3)]) (rest := []) ⟨hx, hb, hml, hown, hw⟩ (c_ofJudge l D a cH cB cJ cI ha g vq H.size ((n2 : Nat) : Int) 3 hWf (by omega) (by omega)) (cwV 2 hw (gA_V kw_174 kw_175 kw_176 kw_2 kw_177) rfl rfl rfl (by decide +kernel) ⟨Nat.le_of_ble_eq_true rfl, Nat.le_of_ble_eq_true rfl⟩) (pS_v (ci := 4) (q0 := 0) rfl pw_0 hP hK hE) rfl rfl hl.1 rfl (lv_room (Nat.le_of_ble_eq_true rfl)) dL_isSo_564 ⟨Nat.le_of_ble_eq_true rfl, Nat.le_of_ble_eq_true rfl⟩) hS (fun q h1 h2 => ro_A h1 h2) (fun q h => ro_F hS hA q h) (fun r u t H1 locs ht hvm hw9 hB9 hz1 hk1 hS => ?_)
                have hw9 : r = (iI (m_ofJudge g ((n2 : Nat) : Int) 3)) := hw9
                subst hw9
                have hP := ro_P hP hk1
                have hX := ro_P hX hk1
                generalize H1 = H at hP hX hS ⊢
                rw [show (m_ofJudge g ((n2 : Nat) : Int) 3) = (m_pagesLeft g ((n2 : Nat) : Int)) from rfl]
                refine n_if_ne hx hb (by unfold RI; omega) (tgt := 574) dL_isSo_567 (by decide) (fun h83 => ?_) (fun h83 => absurd h83 (by intro h83; omega))
                refine lv_iconst (v := iI 0) hx hb dL_isSo_574 (by decide) ?_
                refine lv_aload_n hx hb dL_isSo_575 rfl (lv_at hl 12 rfl) ?_
                refine lv_iload hx hb dL_isSo_576 (lv_at hl 1 rfl) ?_
                refine lv_iconst (v := iI 4) hx hb dL_isSo_578 (by decide) ?_
                refine va_calli (va_runV (As := [.int (iI ((n2 : Nat) : Int)), .int (iI 4)]) (rest := [.int (iI 0)]) ⟨hx, hb, hml, hown, hw⟩ (c_ofJudge l D a cH cB cJ cI ha g vq H.size ((n2 : Nat) : Int) 4 hWf (by omega) (by omega)) (cwV 2 hw (gA_V kw_174 kw_175 kw_176 kw_2 kw_177) rfl rfl rfl (by decide +kernel) ⟨Nat.le_of_ble_eq_true rfl, Nat.le_of_ble_eq_true rfl⟩) (pS_v (ci := 4) (q0 := 0) rfl pw_0 hP hK hE) rfl rfl hl.1 rfl (lv_room (Nat.le_of_ble_eq_true rfl)) dL_isSo_579 ⟨Nat.le_of_ble_eq_true rfl, Nat.le_of_ble_eq_true rfl⟩) hS (fun q h1 h2 => ro_A h1 h2) (fun q h => ro_F hS hA q h) (fun r u t H1 locs ht hvm hw9 hB9 hz1 hk1 hS => ?_)
                have hw9 : r = (iI (m_ofJudge g ((n2 : Nat) : Int) 4)) := hw9
                subst hw9
                have hP := ro_P hP hk1
                have hX := ro_P hX hk1
                generalize H1 = H at hP hX hS ⊢
                rw [show (m_ofJudge g ((n2 : Nat) : Int) 4) = (g 3 ((n2 : Nat) : Int) 9) from rfl]
                refine lv_aload_n hx hb dL_isSo_582 rfl (lv_at hl 12 rfl) ?_
                refine lv_iload hx hb dL_isSo_583 (lv_at hl 1 rfl) ?_
                refine lv_iconst (v := iI 2) hx hb dL_isSo_585 (by decide) ?_
                refine va_calli (va_runV (As := [.int (iI ((n2 : Nat) : Int)), .int (iI 2)]) (rest := [.int (iI (g 3 ((n2 : Nat) : Int) 9)), .int (iI 0)]) ⟨hx, hb, hml, hown, hw⟩ (c_ofJudge l D a cH cB cJ cI ha g vq H.size ((n2 : Nat) : Int) 2 hWf (by omega) (by omega)) (cwV 2 hw (gA_V kw_174 kw_175 kw_176 kw_2 kw_177) rfl rfl rfl (by decide +kernel) ⟨Nat.le_of_ble_eq_true rfl, Nat.le_of_ble_eq_true rfl⟩) (pS_v (ci := 4) (q0 := 0) rfl pw_0 hP hK hE) rfl rfl hl.1 rfl (lv_room (Nat.le_of_ble_eq_true rfl)) dL_isSo_586 ⟨Nat.le_of_ble_eq_true rfl, Nat.le_of_ble_eq_true rfl⟩) hS (fun q h1 h2 => ro_A h1 h2) (fun q h => ro_F hS hA q h) (fun r u t H1 locs ht hvm hw9 hB9 hz1 hk1 hS => ?_)
                have hw9 : r = (iI (m_ofJudge g ((n2 : Nat) : Int) 2)) := hw9
                subst hw9
                have hP := ro_P hP hk1
                have hX := ro_P hX hk1
                generalize H1 = H at hP hX hS ⊢
                rw [show (m_ofJudge g ((n2 : Nat) : Int) 2) = (g 3 ((n2 : Nat) : Int) 7) from rfl]
                refine n_icmp_ne hx hb (by unfold RI; omega) (by unfold RI; omega) (tgt := 596) dL_isSo_589 (by decide) (fun h84 => ?_) (fun h84 => absurd h84 (by intro h84; omega))
                refine lv_iconst (v := iI 0) hx hb dL_isSo_596 (by decide) ?_
                refine n_icmp_ne hx hb (by unfold RI; omega) (by unfold RI; omega) (tgt := 630) dL_isSo_597 (by decide) (fun h85 => absurd h85 (by intro h85; omega)) (fun h85 => ?_)
                refine lv_iload_n hx hb dL_isSo_600 rfl (lv_at hl 11 rfl) ?_
                refine n_if_ne hx hb (by unfold RI; omega) (tgt := 614) dL_isSo_601 (by decide) (fun h86 => ?_) (fun h86 => ?_)
                · skip
                  refine lv_iload_n hx hb dL_isSo_614 rfl (lv_at hl 11 rfl) ?_
                  refine lv_iconst (v := iI 3) hx hb dL_isSo_615 (by decide) ?_
                  refine n_icmp_ge hx hb (by unfold RI; omega) (by unfold RI; omega) (tgt := 632) dL_isSo_616 (by decide) (fun h87 => ?_) (fun h87 => ?_)
                  · skip
                    refine n_inc (lv' := [(14, .int (iI (((n2 : Nat) : Int) + 1))), (13, .int (iI ((m_sm (fun j => g 3 j 9) n2) + (g 3 ((n2 : Nat) : Int) 9)))), (12, .ref q9), (11, .int (iI x11)), (10, .int (iI x10)), (9, .int (iI (m_sm (fun b => m_sm (fun j => max 0 (g 6 j b)) (g 0 0 5).toNat) ((g 0 0 4).toNat)))), (8, .int (iI (m_sm (fun b => m_sm (fun j => m_ib (decide (0 ≤ g 6 j b))) (g 0 0 5).toNat) ((g 0 0 4).toNat)))), (7, .int (iI (m_sm (fun b => g 2 b 10) ((g 0 0 4).toNat)))), (6, .int (iI (m_sm (fun b => g 2 b 9) ((g 0 0 4).toNat)))), (5, .int (iI (m_cnt (m_ent g) ((g 0 0 4).toNat)))), (4, .int (iI (g 0 0 4))), (3, .int (iI (g 0 0 9))), (0, .ref (a 0)), (1, .int (iI (g 0 0 3))), (2, .int (iI (g 0 0 5)))]) hx hb dL_isSo_632 hl (k := 1) rfl (by decide) rfl (fun ls hl => ?_)
                    refine lv_goto (tgt := 491) hx hb dL_isSo_635 (by decide) ?_
                    have hl : lv_has ls 19 [(14, .int (iI (((n2 : Nat) : Int) + 1))), (13, .int (iI ((m_sm (fun j => g 3 j 9) n2) + (g 3 ((n2 : Nat) : Int) 9)))), (12, .ref q9), (11, .int (iI x11)), (10, .int (iI x10)), (9, .int (iI (m_sm (fun b => m_sm (fun j => max 0 (g 6 j b)) (g 0 0 5).toNat) ((g 0 0 4).toNat)))), (8, .int (iI (m_sm (fun b => m_sm (fun j => m_ib (decide (0 ≤ g 6 j b))) (g 0 0 5).toNat) ((g 0 0 4).toNat)))), (7, .int (iI (m_sm (fun b => g 2 b 10) ((g 0 0 4).toNat)))), (6, .int (iI (m_sm (fun b => g 2 b 9) ((g 0 0 4).toNat)))), (5, .int (iI (m_cnt (m_ent g) ((g 0 0 4).toNat)))), (4, .int (iI (g 0 0 4))), (3, .int (iI (g 0 0 9))), (0, .ref (a 0)), (1, .int (iI (g 0 0 3))), (2, .int (iI (g 0 0 5)))] := lv_sub hl [0, 1, 2, 3, 4, 5, 6, 7, 8, 9, 10, 11, 12, 13, 14] rfl
                    have e88 : (((n2 : Nat) : Int) + 1) = (((n2 + 1) : Nat) : Int) := by rfl
                    have e89 : ((m_sm (fun j => g 3 j 9) n2) + (g 3 ((n2 : Nat) : Int) 9)) = (m_sm (fun j => g 3 j 9) (n2 + 1)) := by rfl
                    have hl : lv_has ls 19 [(14, .int (iI (((n2 + 1) : Nat) : Int))), (13, .int (iI (m_sm (fun j => g 3 j 9) (n2 + 1)))), (12, .ref q9), (11, .int (iI x11)), (10, .int (iI x10)), (9, .int (iI (m_sm (fun b => m_sm (fun j => max 0 (g 6 j b)) (g 0 0 5).toNat) ((g 0 0 4).toNat)))), (8, .int (iI (m_sm (fun b => m_sm (fun j => m_ib (decide (0 ≤ g 6 j b))) (g 0 0 5).toNat) ((g 0 0 4).toNat)))), (7, .int (iI (m_sm (fun b => g 2 b 10) ((g 0 0 4).toNat)))), (6, .int (iI (m_sm (fun b => g 2 b 9) ((g 0 0 4).toNat)))), (5, .int (iI (m_cnt (m_ent g) ((g 0 0 4).toNat)))), (4, .int (iI (g 0 0 4))), (3, .int (iI (g 0 0 9))), (0, .ref (a 0)), (1, .int (iI (g 0 0 3))), (2, .int (iI (g 0 0 5)))] := lv_cast hl (by rw [e88, e89])
                    exact ih491 (n2 + 1) fq2 H locs ls (by omega) hxf2 hX hP hS hl
                  · skip
                    refine lv_aload_n hx hb dL_isSo_619 rfl (lv_at hl 12 rfl) ?_
                    refine lv_iload hx hb dL_isSo_620 (lv_at hl 1 rfl) ?_
                    refine lv_bipush (v := iI 6) hx hb dL_isSo_622 (by decide) ?_
                    refine va_calli (va_runV (As := [.int (iI ((n2 : Nat) : Int)), .int (iI 6)]) (rest := []) ⟨hx, hb, hml, hown, hw⟩ (c_ofJudge l D a cH cB cJ cI ha g vq H.size ((n2 : Nat) : Int) 6 hWf (by omega) (by omega)) (cwV 2 hw (gA_V kw_174 kw_175 kw_176 kw_2 kw_177) rfl rfl rfl (by decide +kernel) ⟨Nat.le_of_ble_eq_true rfl, Nat.le_of_ble_eq_true rfl⟩) (pS_v (ci := 4) (q0 := 0) rfl pw_0 hP hK hE) rfl rfl hl.1 rfl (lv_room (Nat.le_of_ble_eq_true rfl)) dL_isSo_624 ⟨Nat.le_of_ble_eq_true rfl, Nat.le_of_ble_eq_true rfl⟩) hS (fun q h1 h2 => ro_A h1 h2) (fun q h => ro_F hS hA q h) (fun r u t H1 locs ht hvm hw9 hB9 hz1 hk1 hS => ?_)
                    have hw9 : r = (iI (m_ofJudge g ((n2 : Nat) : Int) 6)) := hw9
                    subst hw9
                    have hP := ro_P hP hk1
                    have hX := ro_P hX hk1
                    generalize H1 = H at hP hX hS ⊢
                    rw [show (m_ofJudge g ((n2 : Nat) : Int) 6) = (m_ib (decide (0 < g 3 ((n2 : Nat) : Int) 15))) from rfl]
                    refine n_if_eq hx hb (by unfold RI; omega) (tgt := 632) dL_isSo_627 (by decide) (fun h90 => ?_) (fun h90 => absurd h90 (by intro h90; omega))
                    refine n_inc (lv' := [(14, .int (iI (((n2 : Nat) : Int) + 1))), (13, .int (iI ((m_sm (fun j => g 3 j 9) n2) + (g 3 ((n2 : Nat) : Int) 9)))), (12, .ref q9), (11, .int (iI x11)), (10, .int (iI x10)), (9, .int (iI (m_sm (fun b => m_sm (fun j => max 0 (g 6 j b)) (g 0 0 5).toNat) ((g 0 0 4).toNat)))), (8, .int (iI (m_sm (fun b => m_sm (fun j => m_ib (decide (0 ≤ g 6 j b))) (g 0 0 5).toNat) ((g 0 0 4).toNat)))), (7, .int (iI (m_sm (fun b => g 2 b 10) ((g 0 0 4).toNat)))), (6, .int (iI (m_sm (fun b => g 2 b 9) ((g 0 0 4).toNat)))), (5, .int (iI (m_cnt (m_ent g) ((g 0 0 4).toNat)))), (4, .int (iI (g 0 0 4))), (3, .int (iI (g 0 0 9))), (0, .ref (a 0)), (1, .int (iI (g 0 0 3))), (2, .int (iI (g 0 0 5)))]) hx hb dL_isSo_632 hl (k := 1) rfl (by decide) rfl (fun ls hl => ?_)
                    refine lv_goto (tgt := 491) hx hb dL_isSo_635 (by decide) ?_
                    have hl : lv_has ls 19 [(14, .int (iI (((n2 : Nat) : Int) + 1))), (13, .int (iI ((m_sm (fun j => g 3 j 9) n2) + (g 3 ((n2 : Nat) : Int) 9)))), (12, .ref q9), (11, .int (iI x11)), (10, .int (iI x10)), (9, .int (iI (m_sm (fun b => m_sm (fun j => max 0 (g 6 j b)) (g 0 0 5).toNat) ((g 0 0 4).toNat)))), (8, .int (iI (m_sm (fun b => m_sm (fun j => m_ib (decide (0 ≤ g 6 j b))) (g 0 0 5).toNat) ((g 0 0 4).toNat)))), (7, .int (iI (m_sm (fun b => g 2 b 10) ((g 0 0 4).toNat)))), (6, .int (iI (m_sm (fun b => g 2 b 9) ((g 0 0 4).toNat)))), (5, .int (iI (m_cnt (m_ent g) ((g 0 0 4).toNat)))), (4, .int (iI (g 0 0 4))), (3, .int (iI (g 0 0 9))), (0, .ref (a 0)), (1, .int (iI (g 0 0 3))), (2, .int (iI (g 0 0 5)))] := lv_sub hl [0, 1, 2, 3, 4, 5, 6, 7, 8, 9, 10, 11, 12, 13, 14] rfl
                    have e91 : (((n2 : Nat) : Int) + 1) = (((n2 + 1) : Nat) : Int) := by rfl
                    have e92 : ((m_sm (fun j => g 3 j 9) n2) + (g 3 ((n2 : Nat) : Int) 9)) = (m_sm (fun j => g 3 j 9) (n2 + 1)) := by rfl
                    have hl : lv_has ls 19 [(14, .int (iI (((n2 + 1) : Nat) : Int))), (13, .int (iI (m_sm (fun j => g 3 j 9) (n2 + 1)))), (12, .ref q9), (11, .int (iI x11)), (10, .int (iI x10)), (9, .int (iI (m_sm (fun b => m_sm (fun j => max 0 (g 6 j b)) (g 0 0 5).toNat) ((g 0 0 4).toNat)))), (8, .int (iI (m_sm (fun b => m_sm (fun j => m_ib (decide (0 ≤ g 6 j b))) (g 0 0 5).toNat) ((g 0 0 4).toNat)))), (7, .int (iI (m_sm (fun b => g 2 b 10) ((g 0 0 4).toNat)))), (6, .int (iI (m_sm (fun b => g 2 b 9) ((g 0 0 4).toNat)))), (5, .int (iI (m_cnt (m_ent g) ((g 0 0 4).toNat)))), (4, .int (iI (g 0 0 4))), (3, .int (iI (g 0 0 9))), (0, .ref (a 0)), (1, .int (iI (g 0 0 3))), (2, .int (iI (g 0 0 5)))] := lv_cast hl (by rw [e91, e92])
                    exact ih491 (n2 + 1) fq2 H locs ls (by omega) hxf2 hX hP hS hl
                · skip
                  refine lv_aload_n hx hb dL_isSo_604 rfl (lv_at hl 12 rfl) ?_
                  refine lv_iload hx hb dL_isSo_605 (lv_at hl 1 rfl) ?_
                  refine lv_iconst (v := iI 2) hx hb dL_isSo_607 (by decide) ?_
                  refine va_calli (va_runV (As := [.int (iI ((n2 : Nat) : Int)), .int (iI 2)]) (rest := []) ⟨hx, hb, hml, hown, hw⟩ (c_ofJudge l D a cH cB cJ cI ha g vq H.size ((n2 : Nat) : Int) 2 hWf (by omega) (by omega)) (cwV 2 hw (gA_V kw_174 kw_175 kw_176 kw_2 kw_177) rfl rfl rfl (by decide +kernel) ⟨Nat.le_of_ble_eq_true rfl, Nat.le_of_ble_eq_true rfl⟩) (pS_v (ci := 4) (q0 := 0) rfl pw_0 hP hK hE) rfl rfl hl.1 rfl (lv_room (Nat.le_of_ble_eq_true rfl)) dL_isSo_608 ⟨Nat.le_of_ble_eq_true rfl, Nat.le_of_ble_eq_true rfl⟩) hS (fun q h1 h2 => ro_A h1 h2) (fun q h => ro_F hS hA q h) (fun r u t H1 locs ht hvm hw9 hB9 hz1 hk1 hS => ?_)
                  have hw9 : r = (iI (m_ofJudge g ((n2 : Nat) : Int) 2)) := hw9
                  subst hw9
                  have hP := ro_P hP hk1
                  have hX := ro_P hX hk1
                  generalize H1 = H at hP hX hS ⊢
                  rw [show (m_ofJudge g ((n2 : Nat) : Int) 2) = (g 3 ((n2 : Nat) : Int) 7) from rfl]
                  refine n_if_ne hx hb (by unfold RI; omega) (tgt := 630) dL_isSo_611 (by decide) (fun h93 => ?_) (fun h93 => ?_)
                  · skip
                    exact False.elim (by omega)
                  · skip
                    refine lv_iload_n hx hb dL_isSo_614 rfl (lv_at hl 11 rfl) ?_
                    refine lv_iconst (v := iI 3) hx hb dL_isSo_615 (by decide) ?_
                    refine n_icmp_ge hx hb (by unfold RI; omega) (by unfold RI; omega) (tgt := 632) dL_isSo_616 (by decide) (fun h94 => ?_) (fun h94 => ?_)
                    · skip
                      refine n_inc (lv' := [(14, .int (iI (((n2 : Nat) : Int) + 1))), (13, .int (iI ((m_sm (fun j => g 3 j 9) n2) + (g 3 ((n2 : Nat) : Int) 9)))), (12, .ref q9), (11, .int (iI x11)), (10, .int (iI x10)), (9, .int (iI (m_sm (fun b => m_sm (fun j => max 0 (g 6 j b)) (g 0 0 5).toNat) ((g 0 0 4).toNat)))), (8, .int (iI (m_sm (fun b => m_sm (fun j => m_ib (decide (0 ≤ g 6 j b))) (g 0 0 5).toNat) ((g 0 0 4).toNat)))), (7, .int (iI (m_sm (fun b => g 2 b 10) ((g 0 0 4).toNat)))), (6, .int (iI (m_sm (fun b => g 2 b 9) ((g 0 0 4).toNat)))), (5, .int (iI (m_cnt (m_ent g) ((g 0 0 4).toNat)))), (4, .int (iI (g 0 0 4))), (3, .int (iI (g 0 0 9))), (0, .ref (a 0)), (1, .int (iI (g 0 0 3))), (2, .int (iI (g 0 0 5)))]) hx hb dL_isSo_632 hl (k := 1) rfl (by decide) rfl (fun ls hl => ?_)
                      refine lv_goto (tgt := 491) hx hb dL_isSo_635 (by decide) ?_
                      have hl : lv_has ls 19 [(14, .int (iI (((n2 : Nat) : Int) + 1))), (13, .int (iI ((m_sm (fun j => g 3 j 9) n2) + (g 3 ((n2 : Nat) : Int) 9)))), (12, .ref q9), (11, .int (iI x11)), (10, .int (iI x10)), (9, .int (iI (m_sm (fun b => m_sm (fun j => max 0 (g 6 j b)) (g 0 0 5).toNat) ((g 0 0 4).toNat)))), (8, .int (iI (m_sm (fun b => m_sm (fun j => m_ib (decide (0 ≤ g 6 j b))) (g 0 0 5).toNat) ((g 0 0 4).toNat)))), (7, .int (iI (m_sm (fun b => g 2 b 10) ((g 0 0 4).toNat)))), (6, .int (iI (m_sm (fun b => g 2 b 9) ((g 0 0 4).toNat)))), (5, .int (iI (m_cnt (m_ent g) ((g 0 0 4).toNat)))), (4, .int (iI (g 0 0 4))), (3, .int (iI (g 0 0 9))), (0, .ref (a 0)), (1, .int (iI (g 0 0 3))), (2, .int (iI (g 0 0 5)))] := lv_sub hl [0, 1, 2, 3, 4, 5, 6, 7, 8, 9, 10, 11, 12, 13, 14] rfl
                      have e95 : (((n2 : Nat) : Int) + 1) = (((n2 + 1) : Nat) : Int) := by rfl
                      have e96 : ((m_sm (fun j => g 3 j 9) n2) + (g 3 ((n2 : Nat) : Int) 9)) = (m_sm (fun j => g 3 j 9) (n2 + 1)) := by rfl
                      have hl : lv_has ls 19 [(14, .int (iI (((n2 + 1) : Nat) : Int))), (13, .int (iI (m_sm (fun j => g 3 j 9) (n2 + 1)))), (12, .ref q9), (11, .int (iI x11)), (10, .int (iI x10)), (9, .int (iI (m_sm (fun b => m_sm (fun j => max 0 (g 6 j b)) (g 0 0 5).toNat) ((g 0 0 4).toNat)))), (8, .int (iI (m_sm (fun b => m_sm (fun j => m_ib (decide (0 ≤ g 6 j b))) (g 0 0 5).toNat) ((g 0 0 4).toNat)))), (7, .int (iI (m_sm (fun b => g 2 b 10) ((g 0 0 4).toNat)))), (6, .int (iI (m_sm (fun b => g 2 b 9) ((g 0 0 4).toNat)))), (5, .int (iI (m_cnt (m_ent g) ((g 0 0 4).toNat)))), (4, .int (iI (g 0 0 4))), (3, .int (iI (g 0 0 9))), (0, .ref (a 0)), (1, .int (iI (g 0 0 3))), (2, .int (iI (g 0 0 5)))] := lv_cast hl (by rw [e95, e96])
                      exact ih491 (n2 + 1) fq2 H locs ls (by omega) hxf2 hX hP hS hl
                    · skip
                      refine lv_aload_n hx hb dL_isSo_619 rfl (lv_at hl 12 rfl) ?_
                      refine lv_iload hx hb dL_isSo_620 (lv_at hl 1 rfl) ?_
                      refine lv_bipush (v := iI 6) hx hb dL_isSo_622 (by decide) ?_
                      refine va_calli (va_runV (As := [.int (iI ((n2 : Nat) : Int)), .int (iI 6)]) (rest := []) ⟨hx, hb, hml, hown, hw⟩ (c_ofJudge l D a cH cB cJ cI ha g vq H.size ((n2 : Nat) : Int) 6 hWf (by omega) (by omega)) (cwV 2 hw (gA_V kw_174 kw_175 kw_176 kw_2 kw_177) rfl rfl rfl (by decide +kernel) ⟨Nat.le_of_ble_eq_true rfl, Nat.le_of_ble_eq_true rfl⟩) (pS_v (ci := 4) (q0 := 0) rfl pw_0 hP hK hE) rfl rfl hl.1 rfl (lv_room (Nat.le_of_ble_eq_true rfl)) dL_isSo_624 ⟨Nat.le_of_ble_eq_true rfl, Nat.le_of_ble_eq_true rfl⟩) hS (fun q h1 h2 => ro_A h1 h2) (fun q h => ro_F hS hA q h) (fun r u t H1 locs ht hvm hw9 hB9 hz1 hk1 hS => ?_)
                      have hw9 : r = (iI (m_ofJudge g ((n2 : Nat) : Int) 6)) := hw9
                      subst hw9
                      have hP := ro_P hP hk1
                      have hX := ro_P hX hk1
                      generalize H1 = H at hP hX hS ⊢
                      rw [show (m_ofJudge g ((n2 : Nat) : Int) 6) = (m_ib (decide (0 < g 3 ((n2 : Nat) : Int) 15))) from rfl]
                      refine n_if_eq hx hb (by unfold RI; omega) (tgt := 632) dL_isSo_627 (by decide) (fun h97 => ?_) (fun h97 => absurd h97 (by intro h97; omega))
                      refine n_inc (lv' := [(14, .int (iI (((n2 : Nat) : Int) + 1))), (13, .int (iI ((m_sm (fun j => g 3 j 9) n2) + (g 3 ((n2 : Nat) : Int) 9)))), (12, .ref q9), (11, .int (iI x11)), (10, .int (iI x10)), (9, .int (iI (m_sm (fun b => m_sm (fun j => max 0 (g 6 j b)) (g 0 0 5).toNat) ((g 0 0 4).toNat)))), (8, .int (iI (m_sm (fun b => m_sm (fun j => m_ib (decide (0 ≤ g 6 j b))) (g 0 0 5).toNat) ((g 0 0 4).toNat)))), (7, .int (iI (m_sm (fun b => g 2 b 10) ((g 0 0 4).toNat)))), (6, .int (iI (m_sm (fun b => g 2 b 9) ((g 0 0 4).toNat)))), (5, .int (iI (m_cnt (m_ent g) ((g 0 0 4).toNat)))), (4, .int (iI (g 0 0 4))), (3, .int (iI (g 0 0 9))), (0, .ref (a 0)), (1, .int (iI (g 0 0 3))), (2, .int (iI (g 0 0 5)))]) hx hb dL_isSo_632 hl (k := 1) rfl (by decide) rfl (fun ls hl => ?_)
                      refine lv_goto (tgt := 491) hx hb dL_isSo_635 (by decide) ?_
                      have hl : lv_has ls 19 [(14, .int (iI (((n2 : Nat) : Int) + 1))), (13, .int (iI ((m_sm (fun j => g 3 j 9) n2) + (g 3 ((n2 : Nat) : Int) 9)))), (12, .ref q9), (11, .int (iI x11)), (10, .int (iI x10)), (9, .int (iI (m_sm (fun b => m_sm (fun j => max 0 (g 6 j b)) (g 0 0 5).toNat) ((g 0 0 4).toNat)))), (8, .int (iI (m_sm (fun b => m_sm (fun j => m_ib (decide (0 ≤ g 6 j b))) (g 0 0 5).toNat) ((g 0 0 4).toNat)))), (7, .int (iI (m_sm (fun b => g 2 b 10) ((g 0 0 4).toNat)))), (6, .int (iI (m_sm (fun b => g 2 b 9) ((g 0 0 4).toNat)))), (5, .int (iI (m_cnt (m_ent g) ((g 0 0 4).toNat)))), (4, .int (iI (g 0 0 4))), (3, .int (iI (g 0 0 9))), (0, .ref (a 0)), (1, .int (iI (g 0 0 3))), (2, .int (iI (g 0 0 5)))] := lv_sub hl [0, 1, 2, 3, 4, 5, 6, 7, 8, 9, 10, 11, 12, 13, 14] rfl
                      have e98 : (((n2 : Nat) : Int) + 1) = (((n2 + 1) : Nat) : Int) := by rfl
                      have e99 : ((m_sm (fun j => g 3 j 9) n2) + (g 3 ((n2 : Nat) : Int) 9)) = (m_sm (fun j => g 3 j 9) (n2 + 1)) := by rfl
                      have hl : lv_has ls 19 [(14, .int (iI (((n2 + 1) : Nat) : Int))), (13, .int (iI (m_sm (fun j => g 3 j 9) (n2 + 1)))), (12, .ref q9), (11, .int (iI x11)), (10, .int (iI x10)), (9, .int (iI (m_sm (fun b => m_sm (fun j => max 0 (g 6 j b)) (g 0 0 5).toNat) ((g 0 0 4).toNat)))), (8, .int (iI (m_sm (fun b => m_sm (fun j => m_ib (decide (0 ≤ g 6 j b))) (g 0 0 5).toNat) ((g 0 0 4).toNat)))), (7, .int (iI (m_sm (fun b => g 2 b 10) ((g 0 0 4).toNat)))), (6, .int (iI (m_sm (fun b => g 2 b 9) ((g 0 0 4).toNat)))), (5, .int (iI (m_cnt (m_ent g) ((g 0 0 4).toNat)))), (4, .int (iI (g 0 0 4))), (3, .int (iI (g 0 0 9))), (0, .ref (a 0)), (1, .int (iI (g 0 0 3))), (2, .int (iI (g 0 0 5)))] := lv_cast hl (by rw [e98, e99])
                      exact ih491 (n2 + 1) fq2 H locs ls (by omega) hxf2 hX hP hS hl
          have hl : lv_has ls 19 [(14, .int (iI 0)), (13, .int (iI 0)), (12, .ref q9), (11, .int (iI x11)), (10, .int (iI x10)), (9, .int (iI (m_sm (fun b => m_sm (fun j => max 0 (g 6 j b)) (g 0 0 5).toNat) ((g 0 0 4).toNat)))), (8, .int (iI (m_sm (fun b => m_sm (fun j => m_ib (decide (0 ≤ g 6 j b))) (g 0 0 5).toNat) ((g 0 0 4).toNat)))), (7, .int (iI (m_sm (fun b => g 2 b 10) ((g 0 0 4).toNat)))), (6, .int (iI (m_sm (fun b => g 2 b 9) ((g 0 0 4).toNat)))), (5, .int (iI (m_cnt (m_ent g) ((g 0 0 4).toNat)))), (4, .int (iI (g 0 0 4))), (3, .int (iI (g 0 0 9))), (0, .ref (a 0)), (1, .int (iI (g 0 0 3))), (2, .int (iI (g 0 0 5)))] := lv_sub hl [0, 1, 2, 3, 4, 5, 6, 7, 8, 9, 10, 11, 12, 13, 14] rfl
          have hl : lv_has ls 19 [(14, .int (iI ((0 : Nat) : Int))), (13, .int (iI (m_sm (fun j => g 3 j 9) 0))), (12, .ref q9), (11, .int (iI x11)), (10, .int (iI x10)), (9, .int (iI (m_sm (fun b => m_sm (fun j => max 0 (g 6 j b)) (g 0 0 5).toNat) ((g 0 0 4).toNat)))), (8, .int (iI (m_sm (fun b => m_sm (fun j => m_ib (decide (0 ≤ g 6 j b))) (g 0 0 5).toNat) ((g 0 0 4).toNat)))), (7, .int (iI (m_sm (fun b => g 2 b 10) ((g 0 0 4).toNat)))), (6, .int (iI (m_sm (fun b => g 2 b 9) ((g 0 0 4).toNat)))), (5, .int (iI (m_cnt (m_ent g) ((g 0 0 4).toNat)))), (4, .int (iI (g 0 0 4))), (3, .int (iI (g 0 0 9))), (0, .ref (a 0)), (1, .int (iI (g 0 0 3))), (2, .int (iI (g 0 0 5)))] := hl
          exact loop491 ((g 0 0 5).toNat) 0 fq1 H locs ls (by omega) hxf1 hX hP hS hl
        | succ d1 ih413 =>
          intro n1 fq1 H locs ls hn1 hxf1 hX hP hS hl
          have hc1 := hS5.2.2.2.2.2.2.2.1 ↑n1
          have hc2 := coh_16 hWf ↑n1 (g 0 0 11)
          have hc3 := coh_16 hWf ↑n1 (m_bd (g 0 0 16) (g 0 0 17))
          have hqb := quota_b g ↑n1 m4.1
          have hq4 := hIv.2.2.2.2.2.2.2.2.2.2 ↑n1 (by omega) (by omega)
          have hh1 := Wf.h1 hWf (k := ↑n1) (by omega) (by omega)
          refine lv_iload hx hb dL_isSo_413 (lv_at hl 0 rfl) ?_
          refine lv_iload_n hx hb dL_isSo_415 rfl (lv_at hl 12 rfl) ?_
          refine n_icmp_ge hx hb (by unfold RI; omega) (by unfold RI; omega) (tgt := 485) dL_isSo_416 (by decide) (fun h100 => absurd h100 (by intro h100; omega)) (fun h100 => ?_)
          refine lv_aload hx hb dL_isSo_419 (lv_at hl 1 rfl) ?_
          refine lv_iload hx hb dL_isSo_421 (lv_at hl 0 rfl) ?_
          refine p_xrd hx hb hK hX (k := ((n1 : Nat) : Int)) (by omega) (by omega) (by omega) dL_isSo_423 ?_
          rw [show fq1 (((n1 : Nat) : Int)).toNat = iI (m_coh g ((n1 : Nat) : Int) (g 0 0 11)) from hxf1 _ (by omega) (by omega)]
          refine lv_iconst (v := iI 2) hx hb dL_isSo_424 (by decide) ?_
          refine n_icmp_gt hx hb (by unfold RI; omega) (by unfold RI; omega) (tgt := 477) dL_isSo_425 (by decide) (fun h101 => absurd h101 (by intro h101; omega)) (fun h101 => ?_)
          refine lv_aload_n hx hb dL_isSo_428 rfl (lv_at hl 11 rfl) ?_
          refine lv_iload hx hb dL_isSo_429 (lv_at hl 0 rfl) ?_
          refine lv_iconst (v := iI 1) hx hb dL_isSo_431 (by decide) ?_
          refine va_calli (va_runV (As := [.int (iI ((n1 : Nat) : Int)), .int (iI 1)]) (rest := []) ⟨hx, hb, hml, hown, hw⟩ (c_ofHouse l D a cH cB cJ cI ha g vq H.size ((n1 : Nat) : Int) 1 hWf (by omega) (by omega)) (cwV 2 hw (gA_V kw_262 kw_263 kw_264 kw_2 kw_265) rfl rfl rfl (by decide +kernel) ⟨Nat.le_of_ble_eq_true rfl, Nat.le_of_ble_eq_true rfl⟩) (pS_v (ci := 4) (q0 := 0) rfl pw_0 hP hK hE) rfl rfl hl.1 rfl (lv_room (Nat.le_of_ble_eq_true rfl)) dL_isSo_432 ⟨Nat.le_of_ble_eq_true rfl, Nat.le_of_ble_eq_true rfl⟩) hS (fun q h1 h2 => ro_A h1 h2) (fun q h => ro_F hS hA q h) (fun r u t H1 locs ht hvm hw9 hB9 hz1 hk1 hS => ?_)
          have hw9 : r = (iI (m_ofHouse g ((n1 : Nat) : Int) 1)) := hw9
          subst hw9
          have hP := ro_P hP hk1
          have hX := ro_P hX hk1
          generalize H1 = H at hP hX hS ⊢
          rw [show (m_ofHouse g ((n1 : Nat) : Int) 1) = (m_quota g ((n1 : Nat) : Int)) from rfl]
          refine lv_iconst (v := iI 2) hx hb dL_isSo_435 (by decide) ?_
          refine n_icmp_lt hx hb (by unfold RI; omega) (by unfold RI; omega) (tgt := 477) dL_isSo_436 (by decide) (fun h102 => absurd h102 (by intro h102; omega)) (fun h102 => ?_)
          refine lv_aload_n hx hb dL_isSo_439 rfl (lv_at hl 11 rfl) ?_
          refine lv_iload hx hb dL_isSo_440 (lv_at hl 0 rfl) ?_
          refine lv_iconst (v := iI 1) hx hb dL_isSo_442 (by decide) ?_
          refine va_calli (va_runV (As := [.int (iI ((n1 : Nat) : Int)), .int (iI 1)]) (rest := []) ⟨hx, hb, hml, hown, hw⟩ (c_ofHouse l D a cH cB cJ cI ha g vq H.size ((n1 : Nat) : Int) 1 hWf (by omega) (by omega)) (cwV 2 hw (gA_V kw_262 kw_263 kw_264 kw_2 kw_265) rfl rfl rfl (by decide +kernel) ⟨Nat.le_of_ble_eq_true rfl, Nat.le_of_ble_eq_true rfl⟩) (pS_v (ci := 4) (q0 := 0) rfl pw_0 hP hK hE) rfl rfl hl.1 rfl (lv_room (Nat.le_of_ble_eq_true rfl)) dL_isSo_443 ⟨Nat.le_of_ble_eq_true rfl, Nat.le_of_ble_eq_true rfl⟩) hS (fun q h1 h2 => ro_A h1 h2) (fun q h => ro_F hS hA q h) (fun r u t H1 locs ht hvm hw9 hB9 hz1 hk1 hS => ?_)
          have hw9 : r = (iI (m_ofHouse g ((n1 : Nat) : Int) 1)) := hw9
          subst hw9
          have hP := ro_P hP hk1
          have hX := ro_P hX hk1
          generalize H1 = H at hP hX hS ⊢
          rw [show (m_ofHouse g ((n1 : Nat) : Int) 1) = (m_quota g ((n1 : Nat) : Int)) from rfl]
          refine lv_iconst (v := iI 4) hx hb dL_isSo_446 (by decide) ?_
          refine n_icmp_gt hx hb (by unfold RI; omega) (by unfold RI; omega) (tgt := 477) dL_isSo_447 (by decide) (fun h103 => absurd h103 (by intro h103; omega)) (fun h103 => ?_)
          refine lv_aload_n hx hb dL_isSo_450 rfl (lv_at hl 11 rfl) ?_
          refine lv_iload hx hb dL_isSo_451 (lv_at hl 0 rfl) ?_
          refine lv_iconst (v := iI 2) hx hb dL_isSo_453 (by decide) ?_
          refine va_calli (va_runV (As := [.int (iI ((n1 : Nat) : Int)), .int (iI 2)]) (rest := []) ⟨hx, hb, hml, hown, hw⟩ (c_ofHouse l D a cH cB cJ cI ha g vq H.size ((n1 : Nat) : Int) 2 hWf (by omega) (by omega)) (cwV 2 hw (gA_V kw_262 kw_263 kw_264 kw_2 kw_265) rfl rfl rfl (by decide +kernel) ⟨Nat.le_of_ble_eq_true rfl, Nat.le_of_ble_eq_true rfl⟩) (pS_v (ci := 4) (q0 := 0) rfl pw_0 hP hK hE) rfl rfl hl.1 rfl (lv_room (Nat.le_of_ble_eq_true rfl)) dL_isSo_454 ⟨Nat.le_of_ble_eq_true rfl, Nat.le_of_ble_eq_true rfl⟩) hS (fun q h1 h2 => ro_A h1 h2) (fun q h => ro_F hS hA q h) (fun r u t H1 locs ht hvm hw9 hB9 hz1 hk1 hS => ?_)
          have hw9 : r = (iI (m_ofHouse g ((n1 : Nat) : Int) 2)) := hw9
          subst hw9
          have hP := ro_P hP hk1
          have hX := ro_P hX hk1
          generalize H1 = H at hP hX hS ⊢
          rw [show (m_ofHouse g ((n1 : Nat) : Int) 2) = (g 1 ((n1 : Nat) : Int) 1) from rfl]
          have s104 := Wf.h1 hWf (k := ((n1 : Nat) : Int)) (by omega) (by omega)
          refine lv_aload_n hx hb dL_isSo_457 rfl (lv_at hl 11 rfl) ?_
          refine lv_iload hx hb dL_isSo_458 (lv_at hl 0 rfl) ?_
          refine lv_iconst (v := iI 1) hx hb dL_isSo_460 (by decide) ?_
          refine va_calli (va_runV (As := [.int (iI ((n1 : Nat) : Int)), .int (iI 1)]) (rest := [.int (iI (g 1 ((n1 : Nat) : Int) 1))]) ⟨hx, hb, hml, hown, hw⟩ (c_ofHouse l D a cH cB cJ cI ha g vq H.size ((n1 : Nat) : Int) 1 hWf (by omega) (by omega)) (cwV 2 hw (gA_V kw_262 kw_263 kw_264 kw_2 kw_265) rfl rfl rfl (by decide +kernel) ⟨Nat.le_of_ble_eq_true rfl, Nat.le_of_ble_eq_true rfl⟩) (pS_v (ci := 4) (q0 := 0) rfl pw_0 hP hK hE) rfl rfl hl.1 rfl (lv_room (Nat.le_of_ble_eq_true rfl)) dL_isSo_461 ⟨Nat.le_of_ble_eq_true rfl, Nat.le_of_ble_eq_true rfl⟩) hS (fun q h1 h2 => ro_A h1 h2) (fun q h => ro_F hS hA q h) (fun r u t H1 locs ht hvm hw9 hB9 hz1 hk1 hS => ?_)
          have hw9 : r = (iI (m_ofHouse g ((n1 : Nat) : Int) 1)) := hw9
          subst hw9
          have hP := ro_P hP hk1
          have hX := ro_P hX hk1
          generalize H1 = H at hP hX hS ⊢
          rw [show (m_ofHouse g ((n1 : Nat) : Int) 1) = (m_quota g ((n1 : Nat) : Int)) from rfl]
          refine n_icmp_gt hx hb (by unfold RI; omega) (by unfold RI; omega) (tgt := 477) dL_isSo_464 (by decide) (fun h105 => absurd h105 (by intro h105; omega)) (fun h105 => ?_)
          refine lv_aload_n hx hb dL_isSo_467 rfl (lv_at hl 11 rfl) ?_
          refine lv_iload hx hb dL_isSo_468 (lv_at hl 0 rfl) ?_
          refine lv_iconst (v := iI 4) hx hb dL_isSo_470 (by decide) ?_
          refine va_calli (va_runV (As := [.int (iI ((n1 : Nat) : Int)), .int (iI 4)]) (rest := []) ⟨hx, hb, hml, hown, hw⟩ (c_ofHouse l D a cH cB cJ cI ha g vq H.size ((n1 : Nat) : Int) 4 hWf (by omega) (by omega)) (cwV 2 hw (gA_V kw_262 kw_263 kw_264 kw_2 kw_265) rfl rfl rfl (by decide +kernel) ⟨Nat.le_of_ble_eq_true rfl, Nat.le_of_ble_eq_true rfl⟩) (pS_v (ci := 4) (q0 := 0) rfl pw_0 hP hK hE) rfl rfl hl.1 rfl (lv_room (Nat.le_of_ble_eq_true rfl)) dL_isSo_471 ⟨Nat.le_of_ble_eq_true rfl, Nat.le_of_ble_eq_true rfl⟩) hS (fun q h1 h2 => ro_A h1 h2) (fun q h => ro_F hS hA q h) (fun r u t H1 locs ht hvm hw9 hB9 hz1 hk1 hS => ?_)
          have hw9 : r = (iI (m_ofHouse g ((n1 : Nat) : Int) 4)) := hw9
          subst hw9
          have hP := ro_P hP hk1
          have hX := ro_P hX hk1
          generalize H1 = H at hP hX hS ⊢
          rw [show (m_ofHouse g ((n1 : Nat) : Int) 4) = (m_coh g ((n1 : Nat) : Int) (m_bd (g 0 0 16) (g 0 0 17))) from rfl]
          refine n_if_ge hx hb (by unfold RI; omega) (tgt := 479) dL_isSo_474 (by decide) (fun h106 => ?_) (fun h106 => absurd h106 (by intro h106; omega))
          refine n_inc (lv' := [(13, .int (iI (((n1 : Nat) : Int) + 1))), (12, .ref q9), (11, .int (iI x11)), (10, .int (iI x10)), (9, .int (iI (m_sm (fun b => m_sm (fun j => max 0 (g 6 j b)) (g 0 0 5).toNat) ((g 0 0 4).toNat)))), (8, .int (iI (m_sm (fun b => m_sm (fun j => m_ib (decide (0 ≤ g 6 j b))) (g 0 0 5).toNat) ((g 0 0 4).toNat)))), (7, .int (iI (m_sm (fun b => g 2 b 10) ((g 0 0 4).toNat)))), (6, .int (iI (m_sm (fun b => g 2 b 9) ((g 0 0 4).toNat)))), (5, .int (iI (m_cnt (m_ent g) ((g 0 0 4).toNat)))), (4, .int (iI (g 0 0 4))), (3, .int (iI (g 0 0 9))), (0, .ref (a 0)), (1, .int (iI (g 0 0 3))), (2, .int (iI (g 0 0 5)))]) hx hb dL_isSo_479 hl (k := 0) rfl (by decide) rfl (fun ls hl => ?_)
          refine lv_goto (tgt := 413) hx hb dL_isSo_482 (by decide) ?_
          have hl : lv_has ls 19 [(13, .int (iI (((n1 : Nat) : Int) + 1))), (12, .ref q9), (11, .int (iI x11)), (10, .int (iI x10)), (9, .int (iI (m_sm (fun b => m_sm (fun j => max 0 (g 6 j b)) (g 0 0 5).toNat) ((g 0 0 4).toNat)))), (8, .int (iI (m_sm (fun b => m_sm (fun j => m_ib (decide (0 ≤ g 6 j b))) (g 0 0 5).toNat) ((g 0 0 4).toNat)))), (7, .int (iI (m_sm (fun b => g 2 b 10) ((g 0 0 4).toNat)))), (6, .int (iI (m_sm (fun b => g 2 b 9) ((g 0 0 4).toNat)))), (5, .int (iI (m_cnt (m_ent g) ((g 0 0 4).toNat)))), (4, .int (iI (g 0 0 4))), (3, .int (iI (g 0 0 9))), (0, .ref (a 0)), (1, .int (iI (g 0 0 3))), (2, .int (iI (g 0 0 5)))] := lv_sub hl [0, 1, 2, 3, 4, 5, 6, 7, 8, 9, 10, 11, 12, 13] rfl
          have e107 : (((n1 : Nat) : Int) + 1) = (((n1 + 1) : Nat) : Int) := by rfl
          have hl : lv_has ls 19 [(13, .int (iI (((n1 + 1) : Nat) : Int))), (12, .ref q9), (11, .int (iI x11)), (10, .int (iI x10)), (9, .int (iI (m_sm (fun b => m_sm (fun j => max 0 (g 6 j b)) (g 0 0 5).toNat) ((g 0 0 4).toNat)))), (8, .int (iI (m_sm (fun b => m_sm (fun j => m_ib (decide (0 ≤ g 6 j b))) (g 0 0 5).toNat) ((g 0 0 4).toNat)))), (7, .int (iI (m_sm (fun b => g 2 b 10) ((g 0 0 4).toNat)))), (6, .int (iI (m_sm (fun b => g 2 b 9) ((g 0 0 4).toNat)))), (5, .int (iI (m_cnt (m_ent g) ((g 0 0 4).toNat)))), (4, .int (iI (g 0 0 4))), (3, .int (iI (g 0 0 9))), (0, .ref (a 0)), (1, .int (iI (g 0 0 3))), (2, .int (iI (g 0 0 5)))] := lv_cast hl (by rw [e107])
          exact ih413 (n1 + 1) fq1 H locs ls (by omega) hxf1 hX hP hS hl
      have hl : lv_has ls 19 [(13, .int (iI 0)), (12, .ref q9), (11, .int (iI x11)), (10, .int (iI x10)), (9, .int (iI (m_sm (fun b => m_sm (fun j => max 0 (g 6 j b)) (g 0 0 5).toNat) ((g 0 0 4).toNat)))), (8, .int (iI (m_sm (fun b => m_sm (fun j => m_ib (decide (0 ≤ g 6 j b))) (g 0 0 5).toNat) ((g 0 0 4).toNat)))), (7, .int (iI (m_sm (fun b => g 2 b 10) ((g 0 0 4).toNat)))), (6, .int (iI (m_sm (fun b => g 2 b 9) ((g 0 0 4).toNat)))), (5, .int (iI (m_cnt (m_ent g) ((g 0 0 4).toNat)))), (4, .int (iI (g 0 0 4))), (3, .int (iI (g 0 0 9))), (0, .ref (a 0)), (1, .int (iI (g 0 0 3))), (2, .int (iI (g 0 0 5)))] := lv_sub hl [0, 1, 2, 3, 4, 5, 6, 7, 8, 9, 10, 11, 12, 13] rfl
      have hl : lv_has ls 19 [(13, .int (iI ((0 : Nat) : Int))), (12, .ref q9), (11, .int (iI x11)), (10, .int (iI x10)), (9, .int (iI (m_sm (fun b => m_sm (fun j => max 0 (g 6 j b)) (g 0 0 5).toNat) ((g 0 0 4).toNat)))), (8, .int (iI (m_sm (fun b => m_sm (fun j => m_ib (decide (0 ≤ g 6 j b))) (g 0 0 5).toNat) ((g 0 0 4).toNat)))), (7, .int (iI (m_sm (fun b => g 2 b 10) ((g 0 0 4).toNat)))), (6, .int (iI (m_sm (fun b => g 2 b 9) ((g 0 0 4).toNat)))), (5, .int (iI (m_cnt (m_ent g) ((g 0 0 4).toNat)))), (4, .int (iI (g 0 0 4))), (3, .int (iI (g 0 0 9))), (0, .ref (a 0)), (1, .int (iI (g 0 0 3))), (2, .int (iI (g 0 0 5)))] := hl
      exact loop413 ((g 0 0 3).toNat) 0 fq H locs ls (by omega) hxf hX hP hS hl
    | succ d ih42 =>
      intro n x10 x11 vq fq H locs ls hn hx10 hx11 hxs hxf hX hP hS hl
      refine lv_iload hx hb dL_isSo_42 (lv_at hl 0 rfl) ?_
      refine lv_iload hx hb dL_isSo_44 (lv_at hl 9 rfl) ?_
      refine n_icmp_ge hx hb (by unfold RI; omega) (by unfold RI; omega) (tgt := 410) dL_isSo_46 (by decide) (fun h108 => absurd h108 (by intro h108; omega)) (fun h108 => ?_)
      refine lv_aload_n hx hb dL_isSo_49 rfl (lv_at hl 11 rfl) ?_
      refine lv_iload hx hb dL_isSo_50 (lv_at hl 0 rfl) ?_
      refine lv_bipush (v := iI 7) hx hb dL_isSo_52 (by decide) ?_
      refine va_calli (va_runV (As := [.int (iI ((n : Nat) : Int)), .int (iI 7)]) (rest := []) ⟨hx, hb, hml, hown, hw⟩ (c_ofBook l D a cH cB cJ cI ha g vq H.size ((n : Nat) : Int) 7 hWf (by omega) (by omega)) (cwV 2 hw (gA_V kw_206 kw_207 kw_208 kw_2 kw_209) rfl rfl rfl (by decide +kernel) ⟨Nat.le_of_ble_eq_true rfl, Nat.le_of_ble_eq_true rfl⟩) (pS_v (ci := 4) (q0 := 0) rfl pw_0 hP hK hE) rfl rfl hl.1 rfl (lv_room (Nat.le_of_ble_eq_true rfl)) dL_isSo_54 ⟨Nat.le_of_ble_eq_true rfl, Nat.le_of_ble_eq_true rfl⟩) hS (fun q h1 h2 => ro_A h1 h2) (fun q h => ro_F hS hA q h) (fun r u t H1 locs ht hvm hw9 hB9 hz1 hk1 hS => ?_)
      have hw9 : r = (iI (m_ofBook g ((n : Nat) : Int) 7)) := hw9
      subst hw9
      have hP := ro_P hP hk1
      have hX := ro_P hX hk1
      generalize H1 = H at hP hX hS ⊢
      rw [show (m_ofBook g ((n : Nat) : Int) 7) = (m_standing g ((n : Nat) : Int)) from rfl]
      refine lv_istore (lv' := [(14, .int (iI (m_standing g ((n : Nat) : Int)))), (13, .int (iI ((n : Nat) : Int))), (12, .ref q9), (11, .int (iI x11)), (10, .int (iI x10)), (9, .int (iI (m_sm (fun b => m_sm (fun j => max 0 (g 6 j b)) (g 0 0 5).toNat) n))), (8, .int (iI (m_sm (fun b => m_sm (fun j => m_ib (decide (0 ≤ g 6 j b))) (g 0 0 5).toNat) n))), (7, .int (iI (m_sm (fun b => g 2 b 10) n))), (6, .int (iI (m_sm (fun b => g 2 b 9) n))), (5, .int (iI (m_cnt (m_ent g) n))), (4, .int (iI (g 0 0 4))), (3, .int (iI (g 0 0 9))), (0, .ref (a 0)), (1, .int (iI (g 0 0 3))), (2, .int (iI (g 0 0 5)))]) hx hb dL_isSo_57 hl (by decide) rfl (fun ls hl => ?_)
      have hst := (so_long hIv (b := ↑n) (by omega)).2.2.2
      have hsd := so_stand hIv (b := ↑n) (by omega)
      refine lv_iconst (v := iI 0) hx hb dL_isSo_59 (by decide) ?_
      refine lv_istore (lv' := [(15, .int (iI 0)), (14, .int (iI (m_standing g ((n : Nat) : Int)))), (13, .int (iI ((n : Nat) : Int))), (12, .ref q9), (11, .int (iI x11)), (10, .int (iI x10)), (9, .int (iI (m_sm (fun b => m_sm (fun j => max 0 (g 6 j b)) (g 0 0 5).toNat) n))), (8, .int (iI (m_sm (fun b => m_sm (fun j => m_ib (decide (0 ≤ g 6 j b))) (g 0 0 5).toNat) n))), (7, .int (iI (m_sm (fun b => g 2 b 10) n))), (6, .int (iI (m_sm (fun b => g 2 b 9) n))), (5, .int (iI (m_cnt (m_ent g) n))), (4, .int (iI (g 0 0 4))), (3, .int (iI (g 0 0 9))), (0, .ref (a 0)), (1, .int (iI (g 0 0 3))), (2, .int (iI (g 0 0 5)))]) hx hb dL_isSo_60 hl (by decide) rfl (fun ls hl => ?_)
      refine lv_iconst (v := iI 0) hx hb dL_isSo_62 (by decide) ?_
      refine lv_istore (lv' := [(16, .int (iI 0)), (15, .int (iI 0)), (14, .int (iI (m_standing g ((n : Nat) : Int)))), (13, .int (iI ((n : Nat) : Int))), (12, .ref q9), (11, .int (iI x11)), (10, .int (iI x10)), (9, .int (iI (m_sm (fun b => m_sm (fun j => max 0 (g 6 j b)) (g 0 0 5).toNat) n))), (8, .int (iI (m_sm (fun b => m_sm (fun j => m_ib (decide (0 ≤ g 6 j b))) (g 0 0 5).toNat) n))), (7, .int (iI (m_sm (fun b => g 2 b 10) n))), (6, .int (iI (m_sm (fun b => g 2 b 9) n))), (5, .int (iI (m_cnt (m_ent g) n))), (4, .int (iI (g 0 0 4))), (3, .int (iI (g 0 0 9))), (0, .ref (a 0)), (1, .int (iI (g 0 0 3))), (2, .int (iI (g 0 0 5)))]) hx hb dL_isSo_63 hl (by decide) rfl (fun ls hl => ?_)
      refine lv_iconst (v := iI 0) hx hb dL_isSo_65 (by decide) ?_
      refine lv_istore (lv' := [(17, .int (iI 0)), (16, .int (iI 0)), (15, .int (iI 0)), (14, .int (iI (m_standing g ((n : Nat) : Int)))), (13, .int (iI ((n : Nat) : Int))), (12, .ref q9), (11, .int (iI x11)), (10, .int (iI x10)), (9, .int (iI (m_sm (fun b => m_sm (fun j => max 0 (g 6 j b)) (g 0 0 5).toNat) n))), (8, .int (iI (m_sm (fun b => m_sm (fun j => m_ib (decide (0 ≤ g 6 j b))) (g 0 0 5).toNat) n))), (7, .int (iI (m_sm (fun b => g 2 b 10) n))), (6, .int (iI (m_sm (fun b => g 2 b 9) n))), (5, .int (iI (m_cnt (m_ent g) n))), (4, .int (iI (g 0 0 4))), (3, .int (iI (g 0 0 9))), (0, .ref (a 0)), (1, .int (iI (g 0 0 3))), (2, .int (iI (g 0 0 5)))]) hx hb dL_isSo_66 hl (by decide) rfl (fun ls hl => ?_)
      have loop68 : ∀ (d1 n1 : Nat) (fq1 : Nat → Int32) (H : Heap) (locs : List Loc) (ls : Array Slot), n1 + d1 = (g 0 0 5).toNat → (∀ h : Int, 0 ≤ h → h < g 0 0 3 → fq1 h.toNat = iI (m_cnt (fun b => m_has (g 0 0 11) b && g 2 b 0 == h) n)) → va_P D vwCl [(q9, zC cI (g 0 0 3).toNat fq1)] H → va_P D vwCl (pw a cH cB cJ cI g vq) H → va_S (pA a s.heap.size) s.heap H locs → lv_has ls 19 [(17, .int (iI ((n1 : Nat) : Int))), (16, .int (iI (m_sm (fun j => m_ib (decide (0 ≤ g 6 j ((n : Nat) : Int)))) n1))), (15, .int (iI (m_cnt (fun j => m_fair g j (((n : Nat) : Int))) n1))), (14, .int (iI (m_standing g ((n : Nat) : Int)))), (13, .int (iI ((n : Nat) : Int))), (12, .ref q9), (11, .int (iI x11)), (10, .int (iI x10)), (9, .int (iI (m_sm (fun b => m_sm (fun j => max 0 (g 6 j b)) (g 0 0 5).toNat) n + m_sm (fun j => max 0 (g 6 j ((n : Nat) : Int))) n1))), (8, .int (iI (m_sm (fun b => m_sm (fun j => m_ib (decide (0 ≤ g 6 j b))) (g 0 0 5).toNat) n))), (7, .int (iI (m_sm (fun b => g 2 b 10) n))), (6, .int (iI (m_sm (fun b => g 2 b 9) n))), (5, .int (iI (m_cnt (m_ent g) n))), (4, .int (iI (g 0 0 4))), (3, .int (iI (g 0 0 9))), (0, .ref (a 0)), (1, .int (iI (g 0 0 3))), (2, .int (iI (g 0 0 5)))] → W p l e (headSpec (wc yL_isSo cL_isSo 19 (some .boolean)) ({ frames := 6, cells := 1, slots := 5, locals := 138 })).room s m [.ref (a 0), .int (iI (g 0 0 3)), .int (iI (g 0 0 5))].toArray below meth c H locs 1 5 (MQ below (va_Qi (fun (r : Int32) (_ : Unit) => r = bi true) (fun _ t => ∃ vt1 : Nat → Int32, va_P D vwCl (pw a cH cB cJ cI g vt1) t.heap) (pA a s.heap.size)) [.ref (a 0), .int (iI (g 0 0 3)), .int (iI (g 0 0 5))].toArray s 1 5 (pA a s.heap.size)) (F0 m 68 ls []) := by
        intro d1
        induction d1 with
        | zero =>
          intro n1 fq1 H locs ls hn1 hxf1 hX hP hS hl
          obtain rfl : n1 = (g 0 0 5).toNat := by omega
          refine lv_iload hx hb dL_isSo_68 (lv_at hl 0 rfl) ?_
          refine lv_iload_n hx hb dL_isSo_70 rfl (lv_at hl 17 rfl) ?_
          refine n_icmp_ge hx hb (by unfold RI; omega) (by unfold RI; omega) (tgt := 182) dL_isSo_71 (by decide) (fun h109 => ?_) (fun h109 => absurd h109 (by intro h109; omega))
          have h3 := so_three hIv (b := ↑n) (by omega) (n := (g 0 0 5).toNat) (by omega)
          have h30 : 0 ≤ m_sm (fun j => m_ib (decide (0 ≤ g 6 j ↑n))) (g 0 0 5).toNat := sm_nn (fun _ _ _ => ib_nn _)
          have hfc := cnt5 hWf (fun j => m_fair g j ↑n)
          have hsp := so_spoiled hIv (b := ↑n) (by omega)
          have hH0 := (hIv.2.2.2.2.2.1.1 ↑n (by omega) (by omega)).1
          have hb8 := Wf.b8 hWf (k := ↑n) (by omega) (by omega)
          have hb0 := Wf.b0 hWf (k := ↑n) (by omega) (by omega)
          rcases (show m_standing g ↑n = 0 ∨ m_standing g ↑n = 1 ∨ m_standing g ↑n = 2 ∨ m_standing g ↑n = 3 from by omega) with hst9 | hst9 | hst9 | hst9
          · skip
            obtain ⟨h11, h13, h14⟩ := hsd.1 hst9
            have hsp2 := hsp.2 (by omega)
            refine lv_iload hx hb dL_isSo_182 (lv_at hl 9 rfl) ?_
            refine lv_iload hx hb dL_isSo_184 (lv_at hl 1 rfl) ?_
            refine n_add hx hb dL_isSo_186 ?_
            refine lv_istore (lv' := [(8, .int (iI ((m_sm (fun b => m_sm (fun j => m_ib (decide (0 ≤ g 6 j b))) (g 0 0 5).toNat) n) + (m_sm (fun j => m_ib (decide (0 ≤ g 6 j ((n : Nat) : Int)))) ((g 0 0 5).toNat))))), (17, .int (iI ((((g 0 0 5).toNat) : Nat) : Int))), (16, .int (iI (m_sm (fun j => m_ib (decide (0 ≤ g 6 j ((n : Nat) : Int)))) ((g 0 0 5).toNat)))), (15, .int (iI (m_cnt (fun j => m_fair g j (((n : Nat) : Int))) ((g 0 0 5).toNat)))), (14, .int (iI (m_standing g ((n : Nat) : Int)))), (13, .int (iI ((n : Nat) : Int))), (12, .ref q9), (11, .int (iI x11)), (10, .int (iI x10)), (9, .int (iI (m_sm (fun b => m_sm (fun j => max 0 (g 6 j b)) (g 0 0 5).toNat) n + m_sm (fun j => max 0 (g 6 j ((n : Nat) : Int))) ((g 0 0 5).toNat)))), (7, .int (iI (m_sm (fun b => g 2 b 10) n))), (6, .int (iI (m_sm (fun b => g 2 b 9) n))), (5, .int (iI (m_cnt (m_ent g) n))), (4, .int (iI (g 0 0 4))), (3, .int (iI (g 0 0 9))), (0, .ref (a 0)), (1, .int (iI (g 0 0 3))), (2, .int (iI (g 0 0 5)))]) hx hb dL_isSo_187 hl (by decide) rfl (fun ls hl => ?_)
            refine lv_iload hx hb dL_isSo_189 (lv_at hl 12 rfl) ?_
            refine lv_aload_n hx hb dL_isSo_191 rfl (lv_at hl 15 rfl) ?_
            refine lv_iload hx hb dL_isSo_192 (lv_at hl 5 rfl) ?_
            refine lv_bipush (v := iI 6) hx hb dL_isSo_194 (by decide) ?_
            refine va_calli (va_runV (As := [.int (iI ((n : Nat) : Int)), .int (iI 6)]) (rest := [.int (iI (m_cnt (m_ent g) n))]) ⟨hx, hb, hml, hown, hw⟩ (c_ofBook l D a cH cB cJ cI ha g vq H.size ((n : Nat) : Int) 6 hWf (by omega) (by omega)) (cwV 2 hw (gA_V kw_206 kw_207 kw_208 kw_2 kw_209) rfl rfl rfl (by decide +kernel) ⟨Nat.le_of_ble_eq_true rfl, Nat.le_of_ble_eq_true rfl⟩) (pS_v (ci := 4) (q0 := 0) rfl pw_0 hP hK hE) rfl rfl hl.1 rfl (lv_room (Nat.le_of_ble_eq_true rfl)) dL_isSo_196 ⟨Nat.le_of_ble_eq_true rfl, Nat.le_of_ble_eq_true rfl⟩) hS (fun q h1 h2 => ro_A h1 h2) (fun q h => ro_F hS hA q h) (fun r u t H1 locs ht hvm hw9 hB9 hz1 hk1 hS => ?_)
            have hw9 : r = (iI (m_ofBook g ((n : Nat) : Int) 6)) := hw9
            subst hw9
            have hP := ro_P hP hk1
            have hX := ro_P hX hk1
            generalize H1 = H at hP hX hS ⊢
            rw [show (m_ofBook g ((n : Nat) : Int) 6) = (m_ib (m_ent g ((n : Nat) : Int))) from rfl]
            refine n_add hx hb dL_isSo_199 ?_
            refine lv_istore (lv' := [(5, .int (iI ((m_cnt (m_ent g) n) + (m_ib (m_ent g ((n : Nat) : Int)))))), (8, .int (iI ((m_sm (fun b => m_sm (fun j => m_ib (decide (0 ≤ g 6 j b))) (g 0 0 5).toNat) n) + (m_sm (fun j => m_ib (decide (0 ≤ g 6 j ((n : Nat) : Int)))) ((g 0 0 5).toNat))))), (17, .int (iI ((((g 0 0 5).toNat) : Nat) : Int))), (16, .int (iI (m_sm (fun j => m_ib (decide (0 ≤ g 6 j ((n : Nat) : Int)))) ((g 0 0 5).toNat)))), (15, .int (iI (m_cnt (fun j => m_fair g j (((n : Nat) : Int))) ((g 0 0 5).toNat)))), (14, .int (iI (m_standing g ((n : Nat) : Int)))), (13, .int (iI ((n : Nat) : Int))), (12, .ref q9), (11, .int (iI x11)), (10, .int (iI x10)), (9, .int (iI (m_sm (fun b => m_sm (fun j => max 0 (g 6 j b)) (g 0 0 5).toNat) n + m_sm (fun j => max 0 (g 6 j ((n : Nat) : Int))) ((g 0 0 5).toNat)))), (7, .int (iI (m_sm (fun b => g 2 b 10) n))), (6, .int (iI (m_sm (fun b => g 2 b 9) n))), (4, .int (iI (g 0 0 4))), (3, .int (iI (g 0 0 9))), (0, .ref (a 0)), (1, .int (iI (g 0 0 3))), (2, .int (iI (g 0 0 5)))]) hx hb dL_isSo_200 hl (by decide) rfl (fun ls hl => ?_)
            refine lv_iload hx hb dL_isSo_202 (lv_at hl 12 rfl) ?_
            refine lv_aload_n hx hb dL_isSo_204 rfl (lv_at hl 15 rfl) ?_
            refine lv_iload hx hb dL_isSo_205 (lv_at hl 6 rfl) ?_
            refine lv_iconst (v := iI 3) hx hb dL_isSo_207 (by decide) ?_
            refine va_calli (va_runV (As := [.int (iI ((n : Nat) : Int)), .int (iI 3)]) (rest := [.int (iI (m_sm (fun b => g 2 b 9) n))]) ⟨hx, hb, hml, hown, hw⟩ (c_ofBook l D a cH cB cJ cI ha g vq H.size ((n : Nat) : Int) 3 hWf (by omega) (by omega)) (cwV 2 hw (gA_V kw_206 kw_207 kw_208 kw_2 kw_209) rfl rfl rfl (by decide +kernel) ⟨Nat.le_of_ble_eq_true rfl, Nat.le_of_ble_eq_true rfl⟩) (pS_v (ci := 4) (q0 := 0) rfl pw_0 hP hK hE) rfl rfl hl.1 rfl (lv_room (Nat.le_of_ble_eq_true rfl)) dL_isSo_208 ⟨Nat.le_of_ble_eq_true rfl, Nat.le_of_ble_eq_true rfl⟩) hS (fun q h1 h2 => ro_A h1 h2) (fun q h => ro_F hS hA q h) (fun r u t H1 locs ht hvm hw9 hB9 hz1 hk1 hS => ?_)
            have hw9 : r = (iI (m_ofBook g ((n : Nat) : Int) 3)) := hw9
            subst hw9
            have hP := ro_P hP hk1
            have hX := ro_P hX hk1
            generalize H1 = H at hP hX hS ⊢
            rw [show (m_ofBook g ((n : Nat) : Int) 3) = (g 2 ((n : Nat) : Int) 9) from rfl]
            refine n_add hx hb dL_isSo_211 ?_
            refine lv_istore (lv' := [(6, .int (iI ((m_sm (fun b => g 2 b 9) n) + (g 2 ((n : Nat) : Int) 9)))), (5, .int (iI ((m_cnt (m_ent g) n) + (m_ib (m_ent g ((n : Nat) : Int)))))), (8, .int (iI ((m_sm (fun b => m_sm (fun j => m_ib (decide (0 ≤ g 6 j b))) (g 0 0 5).toNat) n) + (m_sm (fun j => m_ib (decide (0 ≤ g 6 j ((n : Nat) : Int)))) ((g 0 0 5).toNat))))), (17, .int (iI ((((g 0 0 5).toNat) : Nat) : Int))), (16, .int (iI (m_sm (fun j => m_ib (decide (0 ≤ g 6 j ((n : Nat) : Int)))) ((g 0 0 5).toNat)))), (15, .int (iI (m_cnt (fun j => m_fair g j (((n : Nat) : Int))) ((g 0 0 5).toNat)))), (14, .int (iI (m_standing g ((n : Nat) : Int)))), (13, .int (iI ((n : Nat) : Int))), (12, .ref q9), (11, .int (iI x11)), (10, .int (iI x10)), (9, .int (iI (m_sm (fun b => m_sm (fun j => max 0 (g 6 j b)) (g 0 0 5).toNat) n + m_sm (fun j => max 0 (g 6 j ((n : Nat) : Int))) ((g 0 0 5).toNat)))), (7, .int (iI (m_sm (fun b => g 2 b 10) n))), (4, .int (iI (g 0 0 4))), (3, .int (iI (g 0 0 9))), (0, .ref (a 0)), (1, .int (iI (g 0 0 3))), (2, .int (iI (g 0 0 5)))]) hx hb dL_isSo_212 hl (by decide) rfl (fun ls hl => ?_)
            refine lv_iload hx hb dL_isSo_214 (lv_at hl 12 rfl) ?_
            refine lv_aload_n hx hb dL_isSo_216 rfl (lv_at hl 15 rfl) ?_
            refine lv_iload hx hb dL_isSo_217 (lv_at hl 7 rfl) ?_
            refine lv_iconst (v := iI 4) hx hb dL_isSo_219 (by decide) ?_
            refine va_calli (va_runV (As := [.int (iI ((n : Nat) : Int)), .int (iI 4)]) (rest := [.int (iI (m_sm (fun b => g 2 b 10) n))]) ⟨hx, hb, hml, hown, hw⟩ (c_ofBook l D a cH cB cJ cI ha g vq H.size ((n : Nat) : Int) 4 hWf (by omega) (by omega)) (cwV 2 hw (gA_V kw_206 kw_207 kw_208 kw_2 kw_209) rfl rfl rfl (by decide +kernel) ⟨Nat.le_of_ble_eq_true rfl, Nat.le_of_ble_eq_true rfl⟩) (pS_v (ci := 4) (q0 := 0) rfl pw_0 hP hK hE) rfl rfl hl.1 rfl (lv_room (Nat.le_of_ble_eq_true rfl)) dL_isSo_220 ⟨Nat.le_of_ble_eq_true rfl, Nat.le_of_ble_eq_true rfl⟩) hS (fun q h1 h2 => ro_A h1 h2) (fun q h => ro_F hS hA q h) (fun r u t H1 locs ht hvm hw9 hB9 hz1 hk1 hS => ?_)
            have hw9 : r = (iI (m_ofBook g ((n : Nat) : Int) 4)) := hw9
            subst hw9
            have hP := ro_P hP hk1
            have hX := ro_P hX hk1
            generalize H1 = H at hP hX hS ⊢
            rw [show (m_ofBook g ((n : Nat) : Int) 4) = (g 2 ((n : Nat) : Int) 10) from rfl]
            refine n_add hx hb dL_isSo_223 ?_
            refine lv_istore (lv' := [(7, .int (iI ((m_sm (fun b => g 2 b 10) n) + (g 2 ((n : Nat) : Int) 10)))), (6, .int (iI ((m_sm (fun b => g 2 b 9) n) + (g 2 ((n : Nat) : Int) 9)))), (5, .int (iI ((m_cnt (m_ent g) n) + (m_ib (m_ent g ((n : Nat) : Int)))))), (8, .int (iI ((m_sm (fun b => m_sm (fun j => m_ib (decide (0 ≤ g 6 j b))) (g 0 0 5).toNat) n) + (m_sm (fun j => m_ib (decide (0 ≤ g 6 j ((n : Nat) : Int)))) ((g 0 0 5).toNat))))), (17, .int (iI ((((g 0 0 5).toNat) : Nat) : Int))), (16, .int (iI (m_sm (fun j => m_ib (decide (0 ≤ g 6 j ((n : Nat) : Int)))) ((g 0 0 5).toNat)))), (15, .int (iI (m_cnt (fun j => m_fair g j (((n : Nat) : Int))) ((g 0 0 5).toNat)))), (14, .int (iI (m_standing g ((n : Nat) : Int)))), (13, .int (iI ((n : Nat) : Int))), (12, .ref q9), (11, .int (iI x11)), (10, .int (iI x10)), (9, .int (iI (m_sm (fun b => m_sm (fun j => max 0 (g 6 j b)) (g 0 0 5).toNat) n + m_sm (fun j => max 0 (g 6 j ((n : Nat) : Int))) ((g 0 0 5).toNat)))), (4, .int (iI (g 0 0 4))), (3, .int (iI (g 0 0 9))), (0, .ref (a 0)), (1, .int (iI (g 0 0 3))), (2, .int (iI (g 0 0 5)))]) hx hb dL_isSo_224 hl (by decide) rfl (fun ls hl => ?_)
            refine lv_iload hx hb dL_isSo_226 (lv_at hl 11 rfl) ?_
            refine lv_iload hx hb dL_isSo_228 (lv_at hl 7 rfl) ?_
            refine n_if_le hx hb (by unfold RI; omega) (tgt := 240) dL_isSo_230 (by decide) (fun h110 => ?_) (fun h110 => absurd h110 (by intro h110; omega))
            refine lv_iconst (v := iI 0) hx hb dL_isSo_240 (by decide) ?_
            refine n_or hx hb (by omega) (by omega) dL_isSo_241 ?_
            rw [bo_z (S := x10) (by omega)]
            refine lv_istore (lv' := [(10, .int (iI x10)), (7, .int (iI ((m_sm (fun b => g 2 b 10) n) + (g 2 ((n : Nat) : Int) 10)))), (6, .int (iI ((m_sm (fun b => g 2 b 9) n) + (g 2 ((n : Nat) : Int) 9)))), (5, .int (iI ((m_cnt (m_ent g) n) + (m_ib (m_ent g ((n : Nat) : Int)))))), (8, .int (iI ((m_sm (fun b => m_sm (fun j => m_ib (decide (0 ≤ g 6 j b))) (g 0 0 5).toNat) n) + (m_sm (fun j => m_ib (decide (0 ≤ g 6 j ((n : Nat) : Int)))) ((g 0 0 5).toNat))))), (17, .int (iI ((((g 0 0 5).toNat) : Nat) : Int))), (16, .int (iI (m_sm (fun j => m_ib (decide (0 ≤ g 6 j ((n : Nat) : Int)))) ((g 0 0 5).toNat)))), (15, .int (iI (m_cnt (fun j => m_fair g j (((n : Nat) : Int))) ((g 0 0 5).toNat)))), (14, .int (iI (m_standing g ((n : Nat) : Int)))), (13, .int (iI ((n : Nat) : Int))), (12, .ref q9), (11, .int (iI x11)), (9, .int (iI (m_sm (fun b => m_sm (fun j => max 0 (g 6 j b)) (g 0 0 5).toNat) n + m_sm (fun j => max 0 (g 6 j ((n : Nat) : Int))) ((g 0 0 5).toNat)))), (4, .int (iI (g 0 0 4))), (3, .int (iI (g 0 0 9))), (0, .ref (a 0)), (1, .int (iI (g 0 0 3))), (2, .int (iI (g 0 0 5)))]) hx hb dL_isSo_242 hl (by decide) rfl (fun ls hl => ?_)
            refine lv_iload hx hb dL_isSo_244 (lv_at hl 11 rfl) ?_
            refine lv_iload hx hb dL_isSo_246 (lv_at hl 8 rfl) ?_
            refine lv_iconst (v := iI 1) hx hb dL_isSo_248 (by decide) ?_
            refine n_icmp_le hx hb (by unfold RI; omega) (by unfold RI; omega) (tgt := 259) dL_isSo_249 (by decide) (fun h111 => ?_) (fun h111 => absurd h111 (by intro h111; omega))
            refine lv_iconst (v := iI 0) hx hb dL_isSo_259 (by decide) ?_
            refine n_or hx hb (by omega) (by omega) dL_isSo_260 ?_
            rw [bo_z (S := x11) (by omega)]
            refine lv_istore (lv' := [(11, .int (iI x11)), (10, .int (iI x10)), (7, .int (iI ((m_sm (fun b => g 2 b 10) n) + (g 2 ((n : Nat) : Int) 10)))), (6, .int (iI ((m_sm (fun b => g 2 b 9) n) + (g 2 ((n : Nat) : Int) 9)))), (5, .int (iI ((m_cnt (m_ent g) n) + (m_ib (m_ent g ((n : Nat) : Int)))))), (8, .int (iI ((m_sm (fun b => m_sm (fun j => m_ib (decide (0 ≤ g 6 j b))) (g 0 0 5).toNat) n) + (m_sm (fun j => m_ib (decide (0 ≤ g 6 j ((n : Nat) : Int)))) ((g 0 0 5).toNat))))), (17, .int (iI ((((g 0 0 5).toNat) : Nat) : Int))), (16, .int (iI (m_sm (fun j => m_ib (decide (0 ≤ g 6 j ((n : Nat) : Int)))) ((g 0 0 5).toNat)))), (15, .int (iI (m_cnt (fun j => m_fair g j (((n : Nat) : Int))) ((g 0 0 5).toNat)))), (14, .int (iI (m_standing g ((n : Nat) : Int)))), (13, .int (iI ((n : Nat) : Int))), (12, .ref q9), (9, .int (iI (m_sm (fun b => m_sm (fun j => max 0 (g 6 j b)) (g 0 0 5).toNat) n + m_sm (fun j => max 0 (g 6 j ((n : Nat) : Int))) ((g 0 0 5).toNat)))), (4, .int (iI (g 0 0 4))), (3, .int (iI (g 0 0 9))), (0, .ref (a 0)), (1, .int (iI (g 0 0 3))), (2, .int (iI (g 0 0 5)))]) hx hb dL_isSo_261 hl (by decide) rfl (fun ls hl => ?_)
            refine lv_iload hx hb dL_isSo_263 (lv_at hl 9 rfl) ?_
            refine n_if_le hx hb (by unfold RI; omega) (tgt := 282) dL_isSo_265 (by decide) (fun h112 => ?_) (fun h112 => absurd h112 (by intro h112; omega))
            refine lv_iload hx hb dL_isSo_282 (lv_at hl 7 rfl) ?_
            refine lv_iconst (v := iI 3) hx hb dL_isSo_284 (by decide) ?_
            refine n_icmp_gt hx hb (by unfold RI; omega) (by unfold RI; omega) (tgt := 373) dL_isSo_285 (by decide) (fun h113 => absurd h113 (by intro h113; omega)) (fun h113 => ?_)
            refine lv_iload hx hb dL_isSo_288 (lv_at hl 8 rfl) ?_
            refine lv_aload_n hx hb dL_isSo_290 rfl (lv_at hl 15 rfl) ?_
            refine lv_iload hx hb dL_isSo_291 (lv_at hl 10 rfl) ?_
            refine lv_bipush (v := iI 9) hx hb dL_isSo_293 (by decide) ?_
            refine va_calli (va_runV (As := [.int (iI ((n : Nat) : Int)), .int (iI 9)]) (rest := [.int (iI (m_cnt (fun j => m_fair g j (((n : Nat) : Int))) ((g 0 0 5).toNat)))]) ⟨hx, hb, hml, hown, hw⟩ (c_ofBook l D a cH cB cJ cI ha g vq H.size ((n : Nat) : Int) 9 hWf (by omega) (by omega)) (cwV 2 hw (gA_V kw_206 kw_207 kw_208 kw_2 kw_209) rfl rfl rfl (by decide +kernel) ⟨Nat.le_of_ble_eq_true rfl, Nat.le_of_ble_eq_true rfl⟩) (pS_v (ci := 4) (q0 := 0) rfl pw_0 hP hK hE) rfl rfl hl.1 rfl (lv_room (Nat.le_of_ble_eq_true rfl)) dL_isSo_295 ⟨Nat.le_of_ble_eq_true rfl, Nat.le_of_ble_eq_true rfl⟩) hS (fun q h1 h2 => ro_A h1 h2) (fun q h => ro_F hS hA q h) (fun r u t H1 locs ht hvm hw9 hB9 hz1 hk1 hS => ?_)
            have hw9 : r = (iI (m_ofBook g ((n : Nat) : Int) 9)) := hw9
            subst hw9
            have hP := ro_P hP hk1
            have hX := ro_P hX hk1
            generalize H1 = H at hP hX hS ⊢
            rw [show (m_ofBook g ((n : Nat) : Int) 9) = (m_cnt (fun j => m_fair g j ((n : Nat) : Int)) (g 0 0 5).toNat) from rfl]
            refine n_icmp_ne hx hb (by unfold RI; omega) (by unfold RI; omega) (tgt := 373) dL_isSo_298 (by decide) (fun h114 => absurd h114 (by intro h114; exact h114 rfl)) (fun h114 => ?_)
            refine lv_iload hx hb dL_isSo_301 (lv_at hl 8 rfl) ?_
            refine n_if_ne hx hb (by unfold RI; omega) (tgt := 317) dL_isSo_303 (by decide) (fun h115 => ?_) (fun h115 => ?_)
            · skip
              refine lv_iload hx hb dL_isSo_317 (lv_at hl 9 rfl) ?_
              refine n_if_le hx hb (by unfold RI; omega) (tgt := 333) dL_isSo_319 (by decide) (fun h116 => ?_) (fun h116 => absurd h116 (by intro h116; omega))
              refine lv_iload hx hb dL_isSo_333 (lv_at hl 9 rfl) ?_
              refine lv_iconst (v := iI 3) hx hb dL_isSo_335 (by decide) ?_
              refine n_icmp_ne hx hb (by unfold RI; omega) (by unfold RI; omega) (tgt := 343) dL_isSo_336 (by decide) (fun h117 => ?_) (fun h117 => absurd h117 (by intro h117; omega))
              refine lv_iconst (v := iI 0) hx hb dL_isSo_343 (by decide) ?_
              refine lv_aload_n hx hb dL_isSo_344 rfl (lv_at hl 15 rfl) ?_
              refine lv_bipush (v := iI 9) hx hb dL_isSo_345 (by decide) ?_
              refine va_calli (va_runV (As := [.int (iI 9)]) (rest := [.int (iI 0)]) ⟨hx, hb, hml, hown, hw⟩ (c_many l D a cH cB cJ cI ha g vq H.size 9 hWf (by omega)) (cwV 1 hw (gA_V kw_92 kw_93 kw_94 kw_2 kw_95) rfl rfl rfl (by decide +kernel) ⟨Nat.le_of_ble_eq_true rfl, Nat.le_of_ble_eq_true rfl⟩) (pS_v (ci := 4) (q0 := 0) rfl pw_0 hP hK hE) rfl rfl hl.1 rfl (lv_room (Nat.le_of_ble_eq_true rfl)) dL_isSo_347 ⟨Nat.le_of_ble_eq_true rfl, Nat.le_of_ble_eq_true rfl⟩) hS (fun q h1 h2 => ro_A h1 h2) (fun q h => ro_F hS hA q h) (fun r u t H1 locs ht hvm hw9 hB9 hz1 hk1 hS => ?_)
              have hw9 : r = (iI (m_many g 9)) := hw9
              subst hw9
              have hP := ro_P hP hk1
              have hX := ro_P hX hk1
              generalize H1 = H at hP hX hS ⊢
              rw [show (m_many g 9) = (g 0 0 14) from rfl]
              have s118 := Wf.m14 hWf
              refine lv_iload hx hb dL_isSo_350 (lv_at hl 10 rfl) ?_
              refine n_icmp_ne hx hb (by unfold RI; omega) (by unfold RI; omega) (tgt := 359) dL_isSo_352 (by decide) (fun h119 => ?_) (fun h119 => absurd h119 (by intro h119; omega))
              refine lv_iconst (v := iI 0) hx hb dL_isSo_359 (by decide) ?_
              refine n_icmp_ne hx hb (by unfold RI; omega) (by unfold RI; omega) (tgt := 373) dL_isSo_360 (by decide) (fun h120 => absurd h120 (by intro h120; omega)) (fun h120 => ?_)
              refine lv_aload_n hx hb dL_isSo_363 rfl (lv_at hl 15 rfl) ?_
              refine lv_iload hx hb dL_isSo_364 (lv_at hl 10 rfl) ?_
              refine lv_iconst (v := iI 2) hx hb dL_isSo_366 (by decide) ?_
              refine va_calli (va_runV (As := [.int (iI ((n : Nat) : Int)), .int (iI 2)]) (rest := []) ⟨hx, hb, hml, hown, hw⟩ (c_ofBook l D a cH cB cJ cI ha g vq H.size ((n : Nat) : Int) 2 hWf (by omega) (by omega)) (cwV 2 hw (gA_V kw_206 kw_207 kw_208 kw_2 kw_209) rfl rfl rfl (by decide +kernel) ⟨Nat.le_of_ble_eq_true rfl, Nat.le_of_ble_eq_true rfl⟩) (pS_v (ci := 4) (q0 := 0) rfl pw_0 hP hK hE) rfl rfl hl.1 rfl (lv_room (Nat.le_of_ble_eq_true rfl)) dL_isSo_367 ⟨Nat.le_of_ble_eq_true rfl, Nat.le_of_ble_eq_true rfl⟩) hS (fun q h1 h2 => ro_A h1 h2) (fun q h => ro_F hS hA q h) (fun r u t H1 locs ht hvm hw9 hB9 hz1 hk1 hS => ?_)
              have hw9 : r = (iI (m_ofBook g ((n : Nat) : Int) 2)) := hw9
              subst hw9
              have hP := ro_P hP hk1
              have hX := ro_P hX hk1
              generalize H1 = H at hP hX hS ⊢
              rw [show (m_ofBook g ((n : Nat) : Int) 2) = (g 2 ((n : Nat) : Int) 8) from rfl]
              have s121 := Wf.b8 hWf (k := ((n : Nat) : Int)) (by omega) (by omega)
              refine n_if_ge hx hb (by unfold RI; omega) (tgt := 375) dL_isSo_370 (by decide) (fun h122 => ?_) (fun h122 => absurd h122 (by intro h122; omega))
              refine lv_aload_n hx hb dL_isSo_375 rfl (lv_at hl 15 rfl) ?_
              refine lv_iload hx hb dL_isSo_376 (lv_at hl 10 rfl) ?_
              refine va_calli (va_runV (As := [.int (iI ((n : Nat) : Int))]) (rest := []) ⟨hx, hb, hml, hown, hw⟩ (c_spoiled l D a cH cB cJ cI ha g vq H.size ((n : Nat) : Int) hWf (by omega) (hsb)) (cwV 1 hw (gA_V kw_455 kw_456 kw_457 kw_2 kw_458) rfl rfl rfl (by decide +kernel) ⟨Nat.le_of_ble_eq_true rfl, Nat.le_of_ble_eq_true rfl⟩) (pS_v (ci := 4) (q0 := 0) rfl pw_0 hP hK hE) rfl rfl hl.1 rfl (lv_room (Nat.le_of_ble_eq_true rfl)) dL_isSo_378 ⟨Nat.le_of_ble_eq_true rfl, Nat.le_of_ble_eq_true rfl⟩) hS (fun q _ h => rw_A hS hA hB q h) (fun q h => rw_A hS hA hB q h) (fun r u t H1 locs ht hvm hw9 hB9 hz1 hk1 hS => ?_)
              have hw9 : r = (iI (m_spoiled g ((n : Nat) : Int))) := hw9
              subst hw9
              obtain ⟨v123, hP1⟩ := hB9
              rw [ht] at hP1
              have hP : va_P D vwCl (pw a cH cB cJ cI g v123) H1 := hP1
              have hX := rw_X hX hq hk1
              generalize H1 = H at hP hX hS ⊢
              have s124 := spo_b hWf ((n : Nat) : Int)
              refine lv_iload hx hb dL_isSo_381 (lv_at hl 10 rfl) ?_
              refine n_icmp_eq hx hb (by unfold RI; omega) (by unfold RI; omega) (tgt := 402) dL_isSo_383 (by decide) (fun h125 => absurd h125 (by intro h125; omega)) (fun h125 => ?_)
              refine lv_iload hx hb dL_isSo_386 (lv_at hl 9 rfl) ?_
              refine lv_iconst (v := iI 2) hx hb dL_isSo_388 (by decide) ?_
              refine n_icmp_ge hx hb (by unfold RI; omega) (by unfold RI; omega) (tgt := 404) dL_isSo_389 (by decide) (fun h126 => ?_) (fun h126 => ?_)
              · skip
                refine n_inc (lv' := [(13, .int (iI (((n : Nat) : Int) + 1))), (11, .int (iI x11)), (10, .int (iI x10)), (7, .int (iI ((m_sm (fun b => g 2 b 10) n) + (g 2 ((n : Nat) : Int) 10)))), (6, .int (iI ((m_sm (fun b => g 2 b 9) n) + (g 2 ((n : Nat) : Int) 9)))), (5, .int (iI ((m_cnt (m_ent g) n) + (m_ib (m_ent g ((n : Nat) : Int)))))), (8, .int (iI ((m_sm (fun b => m_sm (fun j => m_ib (decide (0 ≤ g 6 j b))) (g 0 0 5).toNat) n) + (m_sm (fun j => m_ib (decide (0 ≤ g 6 j ((n : Nat) : Int)))) ((g 0 0 5).toNat))))), (17, .int (iI ((((g 0 0 5).toNat) : Nat) : Int))), (16, .int (iI (m_sm (fun j => m_ib (decide (0 ≤ g 6 j ((n : Nat) : Int)))) ((g 0 0 5).toNat)))), (15, .int (iI (m_cnt (fun j => m_fair g j (((n : Nat) : Int))) ((g 0 0 5).toNat)))), (14, .int (iI (m_standing g ((n : Nat) : Int)))), (12, .ref q9), (9, .int (iI (m_sm (fun b => m_sm (fun j => max 0 (g 6 j b)) (g 0 0 5).toNat) n + m_sm (fun j => max 0 (g 6 j ((n : Nat) : Int))) ((g 0 0 5).toNat)))), (4, .int (iI (g 0 0 4))), (3, .int (iI (g 0 0 9))), (0, .ref (a 0)), (1, .int (iI (g 0 0 3))), (2, .int (iI (g 0 0 5)))]) hx hb dL_isSo_404 hl (k := 10) rfl (by decide) rfl (fun ls hl => ?_)
                refine lv_goto (tgt := 42) hx hb dL_isSo_407 (by decide) ?_
                have hl : lv_has ls 19 [(13, .int (iI (((n : Nat) : Int) + 1))), (12, .ref q9), (11, .int (iI x11)), (10, .int (iI x10)), (9, .int (iI (m_sm (fun b => m_sm (fun j => max 0 (g 6 j b)) (g 0 0 5).toNat) n + m_sm (fun j => max 0 (g 6 j ((n : Nat) : Int))) ((g 0 0 5).toNat)))), (8, .int (iI ((m_sm (fun b => m_sm (fun j => m_ib (decide (0 ≤ g 6 j b))) (g 0 0 5).toNat) n) + (m_sm (fun j => m_ib (decide (0 ≤ g 6 j ((n : Nat) : Int)))) ((g 0 0 5).toNat))))), (7, .int (iI ((m_sm (fun b => g 2 b 10) n) + (g 2 ((n : Nat) : Int) 10)))), (6, .int (iI ((m_sm (fun b => g 2 b 9) n) + (g 2 ((n : Nat) : Int) 9)))), (5, .int (iI ((m_cnt (m_ent g) n) + (m_ib (m_ent g ((n : Nat) : Int)))))), (4, .int (iI (g 0 0 4))), (3, .int (iI (g 0 0 9))), (0, .ref (a 0)), (1, .int (iI (g 0 0 3))), (2, .int (iI (g 0 0 5)))] := lv_sub hl [0, 11, 1, 2, 12, 6, 3, 4, 5, 13, 14, 15, 16, 17] rfl
                have e127 : (((n : Nat) : Int) + 1) = (((n + 1) : Nat) : Int) := by rfl
                have e128 : (m_sm (fun b => m_sm (fun j => max 0 (g 6 j b)) (g 0 0 5).toNat) n + m_sm (fun j => max 0 (g 6 j ((n : Nat) : Int))) ((g 0 0 5).toNat)) = (m_sm (fun b => m_sm (fun j => max 0 (g 6 j b)) (g 0 0 5).toNat) (n + 1)) := by rfl
                have e129 : ((m_sm (fun b => m_sm (fun j => m_ib (decide (0 ≤ g 6 j b))) (g 0 0 5).toNat) n) + (m_sm (fun j => m_ib (decide (0 ≤ g 6 j ((n : Nat) : Int)))) ((g 0 0 5).toNat))) = (m_sm (fun b => m_sm (fun j => m_ib (decide (0 ≤ g 6 j b))) (g 0 0 5).toNat) (n + 1)) := by rfl
                have e130 : ((m_sm (fun b => g 2 b 10) n) + (g 2 ((n : Nat) : Int) 10)) = (m_sm (fun b => g 2 b 10) (n + 1)) := by rfl
                have e131 : ((m_sm (fun b => g 2 b 9) n) + (g 2 ((n : Nat) : Int) 9)) = (m_sm (fun b => g 2 b 9) (n + 1)) := by rfl
                have e132 : ((m_cnt (m_ent g) n) + (m_ib (m_ent g ((n : Nat) : Int)))) = (m_cnt (m_ent g) (n + 1)) := by rfl
                have hl : lv_has ls 19 [(13, .int (iI (((n + 1) : Nat) : Int))), (12, .ref q9), (11, .int (iI x11)), (10, .int (iI x10)), (9, .int (iI (m_sm (fun b => m_sm (fun j => max 0 (g 6 j b)) (g 0 0 5).toNat) (n + 1)))), (8, .int (iI (m_sm (fun b => m_sm (fun j => m_ib (decide (0 ≤ g 6 j b))) (g 0 0 5).toNat) (n + 1)))), (7, .int (iI (m_sm (fun b => g 2 b 10) (n + 1)))), (6, .int (iI (m_sm (fun b => g 2 b 9) (n + 1)))), (5, .int (iI (m_cnt (m_ent g) (n + 1)))), (4, .int (iI (g 0 0 4))), (3, .int (iI (g 0 0 9))), (0, .ref (a 0)), (1, .int (iI (g 0 0 3))), (2, .int (iI (g 0 0 5)))] := lv_cast hl (by rw [e127, e128, e129, e130, e131, e132])
                exact ih42 (n + 1) x10 x11 v123 fq1 H locs ls (by omega) (by first | (rw [fo_s, ← hx10, h11]; rfl)) (by first | (rw [fo_s, ← hx11, h13]; rfl)) (by omega) (sx_no hxf1 h11) hX hP hS hl
              · skip
                refine lv_aload_n hx hb dL_isSo_392 rfl (lv_at hl 15 rfl) ?_
                refine lv_iload hx hb dL_isSo_393 (lv_at hl 10 rfl) ?_
                refine va_calli (va_runV (As := [.int (iI ((n : Nat) : Int))]) (rest := []) ⟨hx, hb, hml, hown, hw⟩ (c_spoiled l D a cH cB cJ cI ha g v123 H.size ((n : Nat) : Int) hWf (by omega) (hsb)) (cwV 1 hw (gA_V kw_455 kw_456 kw_457 kw_2 kw_458) rfl rfl rfl (by decide +kernel) ⟨Nat.le_of_ble_eq_true rfl, Nat.le_of_ble_eq_true rfl⟩) (pS_v (ci := 4) (q0 := 0) rfl pw_0 hP hK hE) rfl rfl hl.1 rfl (lv_room (Nat.le_of_ble_eq_true rfl)) dL_isSo_395 ⟨Nat.le_of_ble_eq_true rfl, Nat.le_of_ble_eq_true rfl⟩) hS (fun q _ h => rw_A hS hA hB q h) (fun q h => rw_A hS hA hB q h) (fun r u t H1 locs ht hvm hw9 hB9 hz1 hk1 hS => ?_)
                have hw9 : r = (iI (m_spoiled g ((n : Nat) : Int))) := hw9
                subst hw9
                obtain ⟨v133, hP1⟩ := hB9
                rw [ht] at hP1
                have hP : va_P D vwCl (pw a cH cB cJ cI g v133) H1 := hP1
                have hX := rw_X hX hq hk1
                generalize H1 = H at hP hX hS ⊢
                refine lv_iconst (v := iI (-1)) hx hb dL_isSo_398 (by decide) ?_
                refine n_icmp_eq hx hb (by unfold RI; omega) (by unfold RI; omega) (tgt := 404) dL_isSo_399 (by decide) (fun h134 => ?_) (fun h134 => absurd h134 (by intro h134; omega))
                refine n_inc (lv' := [(13, .int (iI (((n : Nat) : Int) + 1))), (11, .int (iI x11)), (10, .int (iI x10)), (7, .int (iI ((m_sm (fun b => g 2 b 10) n) + (g 2 ((n : Nat) : Int) 10)))), (6, .int (iI ((m_sm (fun b => g 2 b 9) n) + (g 2 ((n : Nat) : Int) 9)))), (5, .int (iI ((m_cnt (m_ent g) n) + (m_ib (m_ent g ((n : Nat) : Int)))))), (8, .int (iI ((m_sm (fun b => m_sm (fun j => m_ib (decide (0 ≤ g 6 j b))) (g 0 0 5).toNat) n) + (m_sm (fun j => m_ib (decide (0 ≤ g 6 j ((n : Nat) : Int)))) ((g 0 0 5).toNat))))), (17, .int (iI ((((g 0 0 5).toNat) : Nat) : Int))), (16, .int (iI (m_sm (fun j => m_ib (decide (0 ≤ g 6 j ((n : Nat) : Int)))) ((g 0 0 5).toNat)))), (15, .int (iI (m_cnt (fun j => m_fair g j (((n : Nat) : Int))) ((g 0 0 5).toNat)))), (14, .int (iI (m_standing g ((n : Nat) : Int)))), (12, .ref q9), (9, .int (iI (m_sm (fun b => m_sm (fun j => max 0 (g 6 j b)) (g 0 0 5).toNat) n + m_sm (fun j => max 0 (g 6 j ((n : Nat) : Int))) ((g 0 0 5).toNat)))), (4, .int (iI (g 0 0 4))), (3, .int (iI (g 0 0 9))), (0, .ref (a 0)), (1, .int (iI (g 0 0 3))), (2, .int (iI (g 0 0 5)))]) hx hb dL_isSo_404 hl (k := 10) rfl (by decide) rfl (fun ls hl => ?_)
                refine lv_goto (tgt := 42) hx hb dL_isSo_407 (by decide) ?_
                have hl : lv_has ls 19 [(13, .int (iI (((n : Nat) : Int) + 1))), (12, .ref q9), (11, .int (iI x11)), (10, .int (iI x10)), (9, .int (iI (m_sm (fun b => m_sm (fun j => max 0 (g 6 j b)) (g 0 0 5).toNat) n + m_sm (fun j => max 0 (g 6 j ((n : Nat) : Int))) ((g 0 0 5).toNat)))), (8, .int (iI ((m_sm (fun b => m_sm (fun j => m_ib (decide (0 ≤ g 6 j b))) (g 0 0 5).toNat) n) + (m_sm (fun j => m_ib (decide (0 ≤ g 6 j ((n : Nat) : Int)))) ((g 0 0 5).toNat))))), (7, .int (iI ((m_sm (fun b => g 2 b 10) n) + (g 2 ((n : Nat) : Int) 10)))), (6, .int (iI ((m_sm (fun b => g 2 b 9) n) + (g 2 ((n : Nat) : Int) 9)))), (5, .int (iI ((m_cnt (m_ent g) n) + (m_ib (m_ent g ((n : Nat) : Int)))))), (4, .int (iI (g 0 0 4))), (3, .int (iI (g 0 0 9))), (0, .ref (a 0)), (1, .int (iI (g 0 0 3))), (2, .int (iI (g 0 0 5)))] := lv_sub hl [0, 11, 1, 2, 12, 6, 3, 4, 5, 13, 14, 15, 16, 17] rfl
                have e135 : (((n : Nat) : Int) + 1) = (((n + 1) : Nat) : Int) := by rfl
                have e136 : (m_sm (fun b => m_sm (fun j => max 0 (g 6 j b)) (g 0 0 5).toNat) n + m_sm (fun j => max 0 (g 6 j ((n : Nat) : Int))) ((g 0 0 5).toNat)) = (m_sm (fun b => m_sm (fun j => max 0 (g 6 j b)) (g 0 0 5).toNat) (n + 1)) := by rfl
                have e137 : ((m_sm (fun b => m_sm (fun j => m_ib (decide (0 ≤ g 6 j b))) (g 0 0 5).toNat) n) + (m_sm (fun j => m_ib (decide (0 ≤ g 6 j ((n : Nat) : Int)))) ((g 0 0 5).toNat))) = (m_sm (fun b => m_sm (fun j => m_ib (decide (0 ≤ g 6 j b))) (g 0 0 5).toNat) (n + 1)) := by rfl
                have e138 : ((m_sm (fun b => g 2 b 10) n) + (g 2 ((n : Nat) : Int) 10)) = (m_sm (fun b => g 2 b 10) (n + 1)) := by rfl
                have e139 : ((m_sm (fun b => g 2 b 9) n) + (g 2 ((n : Nat) : Int) 9)) = (m_sm (fun b => g 2 b 9) (n + 1)) := by rfl
                have e140 : ((m_cnt (m_ent g) n) + (m_ib (m_ent g ((n : Nat) : Int)))) = (m_cnt (m_ent g) (n + 1)) := by rfl
                have hl : lv_has ls 19 [(13, .int (iI (((n + 1) : Nat) : Int))), (12, .ref q9), (11, .int (iI x11)), (10, .int (iI x10)), (9, .int (iI (m_sm (fun b => m_sm (fun j => max 0 (g 6 j b)) (g 0 0 5).toNat) (n + 1)))), (8, .int (iI (m_sm (fun b => m_sm (fun j => m_ib (decide (0 ≤ g 6 j b))) (g 0 0 5).toNat) (n + 1)))), (7, .int (iI (m_sm (fun b => g 2 b 10) (n + 1)))), (6, .int (iI (m_sm (fun b => g 2 b 9) (n + 1)))), (5, .int (iI (m_cnt (m_ent g) (n + 1)))), (4, .int (iI (g 0 0 4))), (3, .int (iI (g 0 0 9))), (0, .ref (a 0)), (1, .int (iI (g 0 0 3))), (2, .int (iI (g 0 0 5)))] := lv_cast hl (by rw [e135, e136, e137, e138, e139, e140])
                exact ih42 (n + 1) x10 x11 v133 fq1 H locs ls (by omega) (by first | (rw [fo_s, ← hx10, h11]; rfl)) (by first | (rw [fo_s, ← hx11, h13]; rfl)) (by omega) (sx_no hxf1 h11) hX hP hS hl
            · skip
              refine lv_aload_n hx hb dL_isSo_306 rfl (lv_at hl 15 rfl) ?_
              refine lv_iload hx hb dL_isSo_307 (lv_at hl 10 rfl) ?_
              refine lv_bipush (v := iI 8) hx hb dL_isSo_309 (by decide) ?_
              refine va_calli (va_runV (As := [.int (iI ((n : Nat) : Int)), .int (iI 8)]) (rest := []) ⟨hx, hb, hml, hown, hw⟩ (c_ofBook l D a cH cB cJ cI ha g vq H.size ((n : Nat) : Int) 8 hWf (by omega) (by omega)) (cwV 2 hw (gA_V kw_206 kw_207 kw_208 kw_2 kw_209) rfl rfl rfl (by decide +kernel) ⟨Nat.le_of_ble_eq_true rfl, Nat.le_of_ble_eq_true rfl⟩) (pS_v (ci := 4) (q0 := 0) rfl pw_0 hP hK hE) rfl rfl hl.1 rfl (lv_room (Nat.le_of_ble_eq_true rfl)) dL_isSo_311 ⟨Nat.le_of_ble_eq_true rfl, Nat.le_of_ble_eq_true rfl⟩) hS (fun q h1 h2 => ro_A h1 h2) (fun q h => ro_F hS hA q h) (fun r u t H1 locs ht hvm hw9 hB9 hz1 hk1 hS => ?_)
              have hw9 : r = (iI (m_ofBook g ((n : Nat) : Int) 8)) := hw9
              subst hw9
              have hP := ro_P hP hk1
              have hX := ro_P hX hk1
              generalize H1 = H at hP hX hS ⊢
              rw [show (m_ofBook g ((n : Nat) : Int) 8) = 0 from (show m_score g ↑n = 0 from by unfold m_score; exact if_pos h115)]
              refine n_if_ne hx hb (by unfold RI; omega) (tgt := 373) dL_isSo_314 (by decide) (fun h141 => absurd h141 (by intro h141; omega)) (fun h141 => ?_)
              refine lv_iload hx hb dL_isSo_317 (lv_at hl 9 rfl) ?_
              refine n_if_le hx hb (by unfold RI; omega) (tgt := 333) dL_isSo_319 (by decide) (fun h142 => ?_) (fun h142 => absurd h142 (by intro h142; omega))
              refine lv_iload hx hb dL_isSo_333 (lv_at hl 9 rfl) ?_
              refine lv_iconst (v := iI 3) hx hb dL_isSo_335 (by decide) ?_
              refine n_icmp_ne hx hb (by unfold RI; omega) (by unfold RI; omega) (tgt := 343) dL_isSo_336 (by decide) (fun h143 => ?_) (fun h143 => absurd h143 (by intro h143; omega))
              refine lv_iconst (v := iI 0) hx hb dL_isSo_343 (by decide) ?_
              refine lv_aload_n hx hb dL_isSo_344 rfl (lv_at hl 15 rfl) ?_
              refine lv_bipush (v := iI 9) hx hb dL_isSo_345 (by decide) ?_
              refine va_calli (va_runV (As := [.int (iI 9)]) (rest := [.int (iI 0)]) ⟨hx, hb, hml, hown, hw⟩ (c_many l D a cH cB cJ cI ha g vq H.size 9 hWf (by omega)) (cwV 1 hw (gA_V kw_92 kw_93 kw_94 kw_2 kw_95) rfl rfl rfl (by decide +kernel) ⟨Nat.le_of_ble_eq_true rfl, Nat.le_of_ble_eq_true rfl⟩) (pS_v (ci := 4) (q0 := 0) rfl pw_0 hP hK hE) rfl rfl hl.1 rfl (lv_room (Nat.le_of_ble_eq_true rfl)) dL_isSo_347 ⟨Nat.le_of_ble_eq_true rfl, Nat.le_of_ble_eq_true rfl⟩) hS (fun q h1 h2 => ro_A h1 h2) (fun q h => ro_F hS hA q h) (fun r u t H1 locs ht hvm hw9 hB9 hz1 hk1 hS => ?_)
              have hw9 : r = (iI (m_many g 9)) := hw9
              subst hw9
              have hP := ro_P hP hk1
              have hX := ro_P hX hk1
              generalize H1 = H at hP hX hS ⊢
              rw [show (m_many g 9) = (g 0 0 14) from rfl]
              have s144 := Wf.m14 hWf
              refine lv_iload hx hb dL_isSo_350 (lv_at hl 10 rfl) ?_
              refine n_icmp_ne hx hb (by unfold RI; omega) (by unfold RI; omega) (tgt := 359) dL_isSo_352 (by decide) (fun h145 => ?_) (fun h145 => absurd h145 (by intro h145; omega))
              refine lv_iconst (v := iI 0) hx hb dL_isSo_359 (by decide) ?_
              refine n_icmp_ne hx hb (by unfold RI; omega) (by unfold RI; omega) (tgt := 373) dL_isSo_360 (by decide) (fun h146 => absurd h146 (by intro h146; omega)) (fun h146 => ?_)
              refine lv_aload_n hx hb dL_isSo_363 rfl (lv_at hl 15 rfl) ?_
              refine lv_iload hx hb dL_isSo_364 (lv_at hl 10 rfl) ?_
              refine lv_iconst (v := iI 2) hx hb dL_isSo_366 (by decide) ?_
              refine va_calli (va_runV (As := [.int (iI ((n : Nat) : Int)), .int (iI 2)]) (rest := []) ⟨hx, hb, hml, hown, hw⟩ (c_ofBook l D a cH cB cJ cI ha g vq H.size ((n : Nat) : Int) 2 hWf (by omega) (by omega)) (cwV 2 hw (gA_V kw_206 kw_207 kw_208 kw_2 kw_209) rfl rfl rfl (by decide +kernel) ⟨Nat.le_of_ble_eq_true rfl, Nat.le_of_ble_eq_true rfl⟩) (pS_v (ci := 4) (q0 := 0) rfl pw_0 hP hK hE) rfl rfl hl.1 rfl (lv_room (Nat.le_of_ble_eq_true rfl)) dL_isSo_367 ⟨Nat.le_of_ble_eq_true rfl, Nat.le_of_ble_eq_true rfl⟩) hS (fun q h1 h2 => ro_A h1 h2) (fun q h => ro_F hS hA q h) (fun r u t H1 locs ht hvm hw9 hB9 hz1 hk1 hS => ?_)
              have hw9 : r = (iI (m_ofBook g ((n : Nat) : Int) 2)) := hw9
              subst hw9
              have hP := ro_P hP hk1
              have hX := ro_P hX hk1
              generalize H1 = H at hP hX hS ⊢
              rw [show (m_ofBook g ((n : Nat) : Int) 2) = (g 2 ((n : Nat) : Int) 8) from rfl]
              have s147 := Wf.b8 hWf (k := ((n : Nat) : Int)) (by omega) (by omega)
              refine n_if_ge hx hb (by unfold RI; omega) (tgt := 375) dL_isSo_370 (by decide) (fun h148 => ?_) (fun h148 => absurd h148 (by intro h148; omega))
              refine lv_aload_n hx hb dL_isSo_375 rfl (lv_at hl 15 rfl) ?_
              refine lv_iload hx hb dL_isSo_376 (lv_at hl 10 rfl) ?_
              refine va_calli (va_runV (As := [.int (iI ((n : Nat) : Int))]) (rest := []) ⟨hx, hb, hml, hown, hw⟩ (c_spoiled l D a cH cB cJ cI ha g vq H.size ((n : Nat) : Int) hWf (by omega) (hsb)) (cwV 1 hw (gA_V kw_455 kw_456 kw_457 kw_2 kw_458) rfl rfl rfl (by decide +kernel) ⟨Nat.le_of_ble_eq_true rfl, Nat.le_of_ble_eq_true rfl⟩) (pS_v (ci := 4) (q0 := 0) rfl pw_0 hP hK hE) rfl rfl hl.1 rfl (lv_room (Nat.le_of_ble_eq_true rfl)) dL_isSo_378 ⟨Nat.le_of_ble_eq_true rfl, Nat.le_of_ble_eq_true rfl⟩) hS (fun q _ h => rw_A hS hA hB q h) (fun q h => rw_A hS hA hB q h) (fun r u t H1 locs ht hvm hw9 hB9 hz1 hk1 hS => ?_)
              have hw9 : r = (iI (m_spoiled g ((n : Nat) : Int))) := hw9
              subst hw9
              obtain ⟨v149, hP1⟩ := hB9
              rw [ht] at hP1
              have hP : va_P D vwCl (pw a cH cB cJ cI g v149) H1 := hP1
              have hX := rw_X hX hq hk1
              generalize H1 = H at hP hX hS ⊢
              have s150 := spo_b hWf ((n : Nat) : Int)
              refine lv_iload hx hb dL_isSo_381 (lv_at hl 10 rfl) ?_
              refine n_icmp_eq hx hb (by unfold RI; omega) (by unfold RI; omega) (tgt := 402) dL_isSo_383 (by decide) (fun h151 => absurd h151 (by intro h151; omega)) (fun h151 => ?_)
              refine lv_iload hx hb dL_isSo_386 (lv_at hl 9 rfl) ?_
              refine lv_iconst (v := iI 2) hx hb dL_isSo_388 (by decide) ?_
              refine n_icmp_ge hx hb (by unfold RI; omega) (by unfold RI; omega) (tgt := 404) dL_isSo_389 (by decide) (fun h152 => ?_) (fun h152 => ?_)
              · skip
                refine n_inc (lv' := [(13, .int (iI (((n : Nat) : Int) + 1))), (11, .int (iI x11)), (10, .int (iI x10)), (7, .int (iI ((m_sm (fun b => g 2 b 10) n) + (g 2 ((n : Nat) : Int) 10)))), (6, .int (iI ((m_sm (fun b => g 2 b 9) n) + (g 2 ((n : Nat) : Int) 9)))), (5, .int (iI ((m_cnt (m_ent g) n) + (m_ib (m_ent g ((n : Nat) : Int)))))), (8, .int (iI ((m_sm (fun b => m_sm (fun j => m_ib (decide (0 ≤ g 6 j b))) (g 0 0 5).toNat) n) + (m_sm (fun j => m_ib (decide (0 ≤ g 6 j ((n : Nat) : Int)))) ((g 0 0 5).toNat))))), (17, .int (iI ((((g 0 0 5).toNat) : Nat) : Int))), (16, .int (iI (m_sm (fun j => m_ib (decide (0 ≤ g 6 j ((n : Nat) : Int)))) ((g 0 0 5).toNat)))), (15, .int (iI (m_cnt (fun j => m_fair g j (((n : Nat) : Int))) ((g 0 0 5).toNat)))), (14, .int (iI (m_standing g ((n : Nat) : Int)))), (12, .ref q9), (9, .int (iI (m_sm (fun b => m_sm (fun j => max 0 (g 6 j b)) (g 0 0 5).toNat) n + m_sm (fun j => max 0 (g 6 j ((n : Nat) : Int))) ((g 0 0 5).toNat)))), (4, .int (iI (g 0 0 4))), (3, .int (iI (g 0 0 9))), (0, .ref (a 0)), (1, .int (iI (g 0 0 3))), (2, .int (iI (g 0 0 5)))]) hx hb dL_isSo_404 hl (k := 10) rfl (by decide) rfl (fun ls hl => ?_)
                refine lv_goto (tgt := 42) hx hb dL_isSo_407 (by decide) ?_
                have hl : lv_has ls 19 [(13, .int (iI (((n : Nat) : Int) + 1))), (12, .ref q9), (11, .int (iI x11)), (10, .int (iI x10)), (9, .int (iI (m_sm (fun b => m_sm (fun j => max 0 (g 6 j b)) (g 0 0 5).toNat) n + m_sm (fun j => max 0 (g 6 j ((n : Nat) : Int))) ((g 0 0 5).toNat)))), (8, .int (iI ((m_sm (fun b => m_sm (fun j => m_ib (decide (0 ≤ g 6 j b))) (g 0 0 5).toNat) n) + (m_sm (fun j => m_ib (decide (0 ≤ g 6 j ((n : Nat) : Int)))) ((g 0 0 5).toNat))))), (7, .int (iI ((m_sm (fun b => g 2 b 10) n) + (g 2 ((n : Nat) : Int) 10)))), (6, .int (iI ((m_sm (fun b => g 2 b 9) n) + (g 2 ((n : Nat) : Int) 9)))), (5, .int (iI ((m_cnt (m_ent g) n) + (m_ib (m_ent g ((n : Nat) : Int)))))), (4, .int (iI (g 0 0 4))), (3, .int (iI (g 0 0 9))), (0, .ref (a 0)), (1, .int (iI (g 0 0 3))), (2, .int (iI (g 0 0 5)))] := lv_sub hl [0, 11, 1, 2, 12, 6, 3, 4, 5, 13, 14, 15, 16, 17] rfl
                have e153 : (((n : Nat) : Int) + 1) = (((n + 1) : Nat) : Int) := by rfl
                have e154 : (m_sm (fun b => m_sm (fun j => max 0 (g 6 j b)) (g 0 0 5).toNat) n + m_sm (fun j => max 0 (g 6 j ((n : Nat) : Int))) ((g 0 0 5).toNat)) = (m_sm (fun b => m_sm (fun j => max 0 (g 6 j b)) (g 0 0 5).toNat) (n + 1)) := by rfl
                have e155 : ((m_sm (fun b => m_sm (fun j => m_ib (decide (0 ≤ g 6 j b))) (g 0 0 5).toNat) n) + (m_sm (fun j => m_ib (decide (0 ≤ g 6 j ((n : Nat) : Int)))) ((g 0 0 5).toNat))) = (m_sm (fun b => m_sm (fun j => m_ib (decide (0 ≤ g 6 j b))) (g 0 0 5).toNat) (n + 1)) := by rfl
                have e156 : ((m_sm (fun b => g 2 b 10) n) + (g 2 ((n : Nat) : Int) 10)) = (m_sm (fun b => g 2 b 10) (n + 1)) := by rfl
                have e157 : ((m_sm (fun b => g 2 b 9) n) + (g 2 ((n : Nat) : Int) 9)) = (m_sm (fun b => g 2 b 9) (n + 1)) := by rfl
                have e158 : ((m_cnt (m_ent g) n) + (m_ib (m_ent g ((n : Nat) : Int)))) = (m_cnt (m_ent g) (n + 1)) := by rfl
                have hl : lv_has ls 19 [(13, .int (iI (((n + 1) : Nat) : Int))), (12, .ref q9), (11, .int (iI x11)), (10, .int (iI x10)), (9, .int (iI (m_sm (fun b => m_sm (fun j => max 0 (g 6 j b)) (g 0 0 5).toNat) (n + 1)))), (8, .int (iI (m_sm (fun b => m_sm (fun j => m_ib (decide (0 ≤ g 6 j b))) (g 0 0 5).toNat) (n + 1)))), (7, .int (iI (m_sm (fun b => g 2 b 10) (n + 1)))), (6, .int (iI (m_sm (fun b => g 2 b 9) (n + 1)))), (5, .int (iI (m_cnt (m_ent g) (n + 1)))), (4, .int (iI (g 0 0 4))), (3, .int (iI (g 0 0 9))), (0, .ref (a 0)), (1, .int (iI (g 0 0 3))), (2, .int (iI (g 0 0 5)))] := lv_cast hl (by rw [e153, e154, e155, e156, e157, e158])
                exact ih42 (n + 1) x10 x11 v149 fq1 H locs ls (by omega) (by first | (rw [fo_s, ← hx10, h11]; rfl)) (by first | (rw [fo_s, ← hx11, h13]; rfl)) (by omega) (sx_no hxf1 h11) hX hP hS hl
              · skip
                refine lv_aload_n hx hb dL_isSo_392 rfl (lv_at hl 15 rfl) ?_
                refine lv_iload hx hb dL_isSo_393 (lv_at hl 10 rfl) ?_
                refine va_calli (va_runV (As := [.int (iI ((n : Nat) : Int))]) (rest := []) ⟨hx, hb, hml, hown, hw⟩ (c_spoiled l D a cH cB cJ cI ha g v149 H.size ((n : Nat) : Int) hWf (by omega) (hsb)) (cwV 1 hw (gA_V kw_455 kw_456 kw_457 kw_2 kw_458) rfl rfl rfl (by decide +kernel) ⟨Nat.le_of_ble_eq_true rfl, Nat.le_of_ble_eq_true rfl⟩) (pS_v (ci := 4) (q0 := 0) rfl pw_0 hP hK hE) rfl rfl hl.1 rfl (lv_room (Nat.le_of_ble_eq_true rfl)) dL_isSo_395 ⟨Nat.le_of_ble_eq_true rfl, Nat.le_of_ble_eq_true rfl⟩) hS (fun q _ h => rw_A hS hA hB q h) (fun q h => rw_A hS hA hB q h) (fun r u t H1 locs ht hvm hw9 hB9 hz1 hk1 hS => ?_)
                have hw9 : r = (iI (m_spoiled g ((n : Nat) : Int))) := hw9
                subst hw9
                obtain ⟨v159, hP1⟩ := hB9
                rw [ht] at hP1
                have hP : va_P D vwCl (pw a cH cB cJ cI g v159) H1 := hP1
                have hX := rw_X hX hq hk1
                generalize H1 = H at hP hX hS ⊢
                refine lv_iconst (v := iI (-1)) hx hb dL_isSo_398 (by decide) ?_
                refine n_icmp_eq hx hb (by unfold RI; omega) (by unfold RI; omega) (tgt := 404) dL_isSo_399 (by decide) (fun h160 => ?_) (fun h160 => absurd h160 (by intro h160; omega))
                refine n_inc (lv' := [(13, .int (iI (((n : Nat) : Int) + 1))), (11, .int (iI x11)), (10, .int (iI x10)), (7, .int (iI ((m_sm (fun b => g 2 b 10) n) + (g 2 ((n : Nat) : Int) 10)))), (6, .int (iI ((m_sm (fun b => g 2 b 9) n) + (g 2 ((n : Nat) : Int) 9)))), (5, .int (iI ((m_cnt (m_ent g) n) + (m_ib (m_ent g ((n : Nat) : Int)))))), (8, .int (iI ((m_sm (fun b => m_sm (fun j => m_ib (decide (0 ≤ g 6 j b))) (g 0 0 5).toNat) n) + (m_sm (fun j => m_ib (decide (0 ≤ g 6 j ((n : Nat) : Int)))) ((g 0 0 5).toNat))))), (17, .int (iI ((((g 0 0 5).toNat) : Nat) : Int))), (16, .int (iI (m_sm (fun j => m_ib (decide (0 ≤ g 6 j ((n : Nat) : Int)))) ((g 0 0 5).toNat)))), (15, .int (iI (m_cnt (fun j => m_fair g j (((n : Nat) : Int))) ((g 0 0 5).toNat)))), (14, .int (iI (m_standing g ((n : Nat) : Int)))), (12, .ref q9), (9, .int (iI (m_sm (fun b => m_sm (fun j => max 0 (g 6 j b)) (g 0 0 5).toNat) n + m_sm (fun j => max 0 (g 6 j ((n : Nat) : Int))) ((g 0 0 5).toNat)))), (4, .int (iI (g 0 0 4))), (3, .int (iI (g 0 0 9))), (0, .ref (a 0)), (1, .int (iI (g 0 0 3))), (2, .int (iI (g 0 0 5)))]) hx hb dL_isSo_404 hl (k := 10) rfl (by decide) rfl (fun ls hl => ?_)
                refine lv_goto (tgt := 42) hx hb dL_isSo_407 (by decide) ?_
                have hl : lv_has ls 19 [(13, .int (iI (((n : Nat) : Int) + 1))), (12, .ref q9), (11, .int (iI x11)), (10, .int (iI x10)), (9, .int (iI (m_sm (fun b => m_sm (fun j => max 0 (g 6 j b)) (g 0 0 5).toNat) n + m_sm (fun j => max 0 (g 6 j ((n : Nat) : Int))) ((g 0 0 5).toNat)))), (8, .int (iI ((m_sm (fun b => m_sm (fun j => m_ib (decide (0 ≤ g 6 j b))) (g 0 0 5).toNat) n) + (m_sm (fun j => m_ib (decide (0 ≤ g 6 j ((n : Nat) : Int)))) ((g 0 0 5).toNat))))), (7, .int (iI ((m_sm (fun b => g 2 b 10) n) + (g 2 ((n : Nat) : Int) 10)))), (6, .int (iI ((m_sm (fun b => g 2 b 9) n) + (g 2 ((n : Nat) : Int) 9)))), (5, .int (iI ((m_cnt (m_ent g) n) + (m_ib (m_ent g ((n : Nat) : Int)))))), (4, .int (iI (g 0 0 4))), (3, .int (iI (g 0 0 9))), (0, .ref (a 0)), (1, .int (iI (g 0 0 3))), (2, .int (iI (g 0 0 5)))] := lv_sub hl [0, 11, 1, 2, 12, 6, 3, 4, 5, 13, 14, 15, 16, 17] rfl
                have e161 : (((n : Nat) : Int) + 1) = (((n + 1) : Nat) : Int) := by rfl
                have e162 : (m_sm (fun b => m_sm (fun j => max 0 (g 6 j b)) (g 0 0 5).toNat) n + m_sm (fun j => max 0 (g 6 j ((n : Nat) : Int))) ((g 0 0 5).toNat)) = (m_sm (fun b => m_sm (fun j => max 0 (g 6 j b)) (g 0 0 5).toNat) (n + 1)) := by rfl
                have e163 : ((m_sm (fun b => m_sm (fun j => m_ib (decide (0 ≤ g 6 j b))) (g 0 0 5).toNat) n) + (m_sm (fun j => m_ib (decide (0 ≤ g 6 j ((n : Nat) : Int)))) ((g 0 0 5).toNat))) = (m_sm (fun b => m_sm (fun j => m_ib (decide (0 ≤ g 6 j b))) (g 0 0 5).toNat) (n + 1)) := by rfl
                have e164 : ((m_sm (fun b => g 2 b 10) n) + (g 2 ((n : Nat) : Int) 10)) = (m_sm (fun b => g 2 b 10) (n + 1)) := by rfl
                have e165 : ((m_sm (fun b => g 2 b 9) n) + (g 2 ((n : Nat) : Int) 9)) = (m_sm (fun b => g 2 b 9) (n + 1)) := by rfl
                have e166 : ((m_cnt (m_ent g) n) + (m_ib (m_ent g ((n : Nat) : Int)))) = (m_cnt (m_ent g) (n + 1)) := by rfl
                have hl : lv_has ls 19 [(13, .int (iI (((n + 1) : Nat) : Int))), (12, .ref q9), (11, .int (iI x11)), (10, .int (iI x10)), (9, .int (iI (m_sm (fun b => m_sm (fun j => max 0 (g 6 j b)) (g 0 0 5).toNat) (n + 1)))), (8, .int (iI (m_sm (fun b => m_sm (fun j => m_ib (decide (0 ≤ g 6 j b))) (g 0 0 5).toNat) (n + 1)))), (7, .int (iI (m_sm (fun b => g 2 b 10) (n + 1)))), (6, .int (iI (m_sm (fun b => g 2 b 9) (n + 1)))), (5, .int (iI (m_cnt (m_ent g) (n + 1)))), (4, .int (iI (g 0 0 4))), (3, .int (iI (g 0 0 9))), (0, .ref (a 0)), (1, .int (iI (g 0 0 3))), (2, .int (iI (g 0 0 5)))] := lv_cast hl (by rw [e161, e162, e163, e164, e165, e166])
                exact ih42 (n + 1) x10 x11 v159 fq1 H locs ls (by omega) (by first | (rw [fo_s, ← hx10, h11]; rfl)) (by first | (rw [fo_s, ← hx11, h13]; rfl)) (by omega) (sx_no hxf1 h11) hX hP hS hl
          · skip
            obtain ⟨h11, h13, h14⟩ := hsd.2.1 hst9
            have hib : m_ib (m_ent g ↑n) = 1 := by rw [(hS5.1 _ h11).2]; rfl
            have hsp2 := hsp.2 (by omega)
            refine lv_iload hx hb dL_isSo_182 (lv_at hl 9 rfl) ?_
            refine lv_iload hx hb dL_isSo_184 (lv_at hl 1 rfl) ?_
            refine n_add hx hb dL_isSo_186 ?_
            refine lv_istore (lv' := [(8, .int (iI ((m_sm (fun b => m_sm (fun j => m_ib (decide (0 ≤ g 6 j b))) (g 0 0 5).toNat) n) + (m_sm (fun j => m_ib (decide (0 ≤ g 6 j ((n : Nat) : Int)))) ((g 0 0 5).toNat))))), (17, .int (iI ((((g 0 0 5).toNat) : Nat) : Int))), (16, .int (iI (m_sm (fun j => m_ib (decide (0 ≤ g 6 j ((n : Nat) : Int)))) ((g 0 0 5).toNat)))), (15, .int (iI (m_cnt (fun j => m_fair g j (((n : Nat) : Int))) ((g 0 0 5).toNat)))), (14, .int (iI (m_standing g ((n : Nat) : Int)))), (13, .int (iI ((n : Nat) : Int))), (12, .ref q9), (11, .int (iI x11)), (10, .int (iI x10)), (9, .int (iI (m_sm (fun b => m_sm (fun j => max 0 (g 6 j b)) (g 0 0 5).toNat) n + m_sm (fun j => max 0 (g 6 j ((n : Nat) : Int))) ((g 0 0 5).toNat)))), (7, .int (iI (m_sm (fun b => g 2 b 10) n))), (6, .int (iI (m_sm (fun b => g 2 b 9) n))), (5, .int (iI (m_cnt (m_ent g) n))), (4, .int (iI (g 0 0 4))), (3, .int (iI (g 0 0 9))), (0, .ref (a 0)), (1, .int (iI (g 0 0 3))), (2, .int (iI (g 0 0 5)))]) hx hb dL_isSo_187 hl (by decide) rfl (fun ls hl => ?_)
            refine lv_iload hx hb dL_isSo_189 (lv_at hl 12 rfl) ?_
            refine lv_aload_n hx hb dL_isSo_191 rfl (lv_at hl 15 rfl) ?_
            refine lv_iload hx hb dL_isSo_192 (lv_at hl 5 rfl) ?_
            refine lv_bipush (v := iI 6) hx hb dL_isSo_194 (by decide) ?_
            refine va_calli (va_runV (As := [.int (iI ((n : Nat) : Int)), .int (iI 6)]) (rest := [.int (iI (m_cnt (m_ent g) n))]) ⟨hx, hb, hml, hown, hw⟩ (c_ofBook l D a cH cB cJ cI ha g vq H.size ((n : Nat) : Int) 6 hWf (by omega) (by omega)) (cwV 2 hw (gA_V kw_206 kw_207 kw_208 kw_2 kw_209) rfl rfl rfl (by decide +kernel) ⟨Nat.le_of_ble_eq_true rfl, Nat.le_of_ble_eq_true rfl⟩) (pS_v (ci := 4) (q0 := 0) rfl pw_0 hP hK hE) rfl rfl hl.1 rfl (lv_room (Nat.le_of_ble_eq_true rfl)) dL_isSo_196 ⟨Nat.le_of_ble_eq_true rfl, Nat.le_of_ble_eq_true rfl⟩) hS (fun q h1 h2 => ro_A h1 h2) (fun q h => ro_F hS hA q h) (fun r u t H1 locs ht hvm hw9 hB9 hz1 hk1 hS => ?_)
            have hw9 : r = (iI (m_ofBook g ((n : Nat) : Int) 6)) := hw9
            subst hw9
            have hP := ro_P hP hk1
            have hX := ro_P hX hk1
            generalize H1 = H at hP hX hS ⊢
            rw [show (m_ofBook g ((n : Nat) : Int) 6) = (m_ib (m_ent g ((n : Nat) : Int))) from rfl]
            refine n_add hx hb dL_isSo_199 ?_
            refine lv_istore (lv' := [(5, .int (iI ((m_cnt (m_ent g) n) + (m_ib (m_ent g ((n : Nat) : Int)))))), (8, .int (iI ((m_sm (fun b => m_sm (fun j => m_ib (decide (0 ≤ g 6 j b))) (g 0 0 5).toNat) n) + (m_sm (fun j => m_ib (decide (0 ≤ g 6 j ((n : Nat) : Int)))) ((g 0 0 5).toNat))))), (17, .int (iI ((((g 0 0 5).toNat) : Nat) : Int))), (16, .int (iI (m_sm (fun j => m_ib (decide (0 ≤ g 6 j ((n : Nat) : Int)))) ((g 0 0 5).toNat)))), (15, .int (iI (m_cnt (fun j => m_fair g j (((n : Nat) : Int))) ((g 0 0 5).toNat)))), (14, .int (iI (m_standing g ((n : Nat) : Int)))), (13, .int (iI ((n : Nat) : Int))), (12, .ref q9), (11, .int (iI x11)), (10, .int (iI x10)), (9, .int (iI (m_sm (fun b => m_sm (fun j => max 0 (g 6 j b)) (g 0 0 5).toNat) n + m_sm (fun j => max 0 (g 6 j ((n : Nat) : Int))) ((g 0 0 5).toNat)))), (7, .int (iI (m_sm (fun b => g 2 b 10) n))), (6, .int (iI (m_sm (fun b => g 2 b 9) n))), (4, .int (iI (g 0 0 4))), (3, .int (iI (g 0 0 9))), (0, .ref (a 0)), (1, .int (iI (g 0 0 3))), (2, .int (iI (g 0 0 5)))]) hx hb dL_isSo_200 hl (by decide) rfl (fun ls hl => ?_)
            refine lv_iload hx hb dL_isSo_202 (lv_at hl 12 rfl) ?_
            refine lv_aload_n hx hb dL_isSo_204 rfl (lv_at hl 15 rfl) ?_
            refine lv_iload hx hb dL_isSo_205 (lv_at hl 6 rfl) ?_
            refine lv_iconst (v := iI 3) hx hb dL_isSo_207 (by decide) ?_
            refine va_calli (va_runV (As := [.int (iI ((n : Nat) : Int)), .int (iI 3)]) (rest := [.int (iI (m_sm (fun b => g 2 b 9) n))]) ⟨hx, hb, hml, hown, hw⟩ (c_ofBook l D a cH cB cJ cI ha g vq H.size ((n : Nat) : Int) 3 hWf (by omega) (by omega)) (cwV 2 hw (gA_V kw_206 kw_207 kw_208 kw_2 kw_209) rfl rfl rfl (by decide +kernel) ⟨Nat.le_of_ble_eq_true rfl, Nat.le_of_ble_eq_true rfl⟩) (pS_v (ci := 4) (q0 := 0) rfl pw_0 hP hK hE) rfl rfl hl.1 rfl (lv_room (Nat.le_of_ble_eq_true rfl)) dL_isSo_208 ⟨Nat.le_of_ble_eq_true rfl, Nat.le_of_ble_eq_true rfl⟩) hS (fun q h1 h2 => ro_A h1 h2) (fun q h => ro_F hS hA q h) (fun r u t H1 locs ht hvm hw9 hB9 hz1 hk1 hS => ?_)
            have hw9 : r = (iI (m_ofBook g ((n : Nat) : Int) 3)) := hw9
            subst hw9
            have hP := ro_P hP hk1
            have hX := ro_P hX hk1
            generalize H1 = H at hP hX hS ⊢
            rw [show (m_ofBook g ((n : Nat) : Int) 3) = (g 2 ((n : Nat) : Int) 9) from rfl]
            refine n_add hx hb dL_isSo_211 ?_
            refine lv_istore (lv' := [(6, .int (iI ((m_sm (fun b => g 2 b 9) n) + (g 2 ((n : Nat) : Int) 9)))), (5, .int (iI ((m_cnt (m_ent g) n) + (m_ib (m_ent g ((n : Nat) : Int)))))), (8, .int (iI ((m_sm (fun b => m_sm (fun j => m_ib (decide (0 ≤ g 6 j b))) (g 0 0 5).toNat) n) + (m_sm (fun j => m_ib (decide (0 ≤ g 6 j ((n : Nat) : Int)))) ((g 0 0 5).toNat))))), (17, .int (iI ((((g 0 0 5).toNat) : Nat) : Int))), (16, .int (iI (m_sm (fun j => m_ib (decide (0 ≤ g 6 j ((n : Nat) : Int)))) ((g 0 0 5).toNat)))), (15, .int (iI (m_cnt (fun j => m_fair g j (((n : Nat) : Int))) ((g 0 0 5).toNat)))), (14, .int (iI (m_standing g ((n : Nat) : Int)))), (13, .int (iI ((n : Nat) : Int))), (12, .ref q9), (11, .int (iI x11)), (10, .int (iI x10)), (9, .int (iI (m_sm (fun b => m_sm (fun j => max 0 (g 6 j b)) (g 0 0 5).toNat) n + m_sm (fun j => max 0 (g 6 j ((n : Nat) : Int))) ((g 0 0 5).toNat)))), (7, .int (iI (m_sm (fun b => g 2 b 10) n))), (4, .int (iI (g 0 0 4))), (3, .int (iI (g 0 0 9))), (0, .ref (a 0)), (1, .int (iI (g 0 0 3))), (2, .int (iI (g 0 0 5)))]) hx hb dL_isSo_212 hl (by decide) rfl (fun ls hl => ?_)
            refine lv_iload hx hb dL_isSo_214 (lv_at hl 12 rfl) ?_
            refine lv_aload_n hx hb dL_isSo_216 rfl (lv_at hl 15 rfl) ?_
            refine lv_iload hx hb dL_isSo_217 (lv_at hl 7 rfl) ?_
            refine lv_iconst (v := iI 4) hx hb dL_isSo_219 (by decide) ?_
            refine va_calli (va_runV (As := [.int (iI ((n : Nat) : Int)), .int (iI 4)]) (rest := [.int (iI (m_sm (fun b => g 2 b 10) n))]) ⟨hx, hb, hml, hown, hw⟩ (c_ofBook l D a cH cB cJ cI ha g vq H.size ((n : Nat) : Int) 4 hWf (by omega) (by omega)) (cwV 2 hw (gA_V kw_206 kw_207 kw_208 kw_2 kw_209) rfl rfl rfl (by decide +kernel) ⟨Nat.le_of_ble_eq_true rfl, Nat.le_of_ble_eq_true rfl⟩) (pS_v (ci := 4) (q0 := 0) rfl pw_0 hP hK hE) rfl rfl hl.1 rfl (lv_room (Nat.le_of_ble_eq_true rfl)) dL_isSo_220 ⟨Nat.le_of_ble_eq_true rfl, Nat.le_of_ble_eq_true rfl⟩) hS (fun q h1 h2 => ro_A h1 h2) (fun q h => ro_F hS hA q h) (fun r u t H1 locs ht hvm hw9 hB9 hz1 hk1 hS => ?_)
            have hw9 : r = (iI (m_ofBook g ((n : Nat) : Int) 4)) := hw9
            subst hw9
            have hP := ro_P hP hk1
            have hX := ro_P hX hk1
            generalize H1 = H at hP hX hS ⊢
            rw [show (m_ofBook g ((n : Nat) : Int) 4) = (g 2 ((n : Nat) : Int) 10) from rfl]
            refine n_add hx hb dL_isSo_223 ?_
            refine lv_istore (lv' := [(7, .int (iI ((m_sm (fun b => g 2 b 10) n) + (g 2 ((n : Nat) : Int) 10)))), (6, .int (iI ((m_sm (fun b => g 2 b 9) n) + (g 2 ((n : Nat) : Int) 9)))), (5, .int (iI ((m_cnt (m_ent g) n) + (m_ib (m_ent g ((n : Nat) : Int)))))), (8, .int (iI ((m_sm (fun b => m_sm (fun j => m_ib (decide (0 ≤ g 6 j b))) (g 0 0 5).toNat) n) + (m_sm (fun j => m_ib (decide (0 ≤ g 6 j ((n : Nat) : Int)))) ((g 0 0 5).toNat))))), (17, .int (iI ((((g 0 0 5).toNat) : Nat) : Int))), (16, .int (iI (m_sm (fun j => m_ib (decide (0 ≤ g 6 j ((n : Nat) : Int)))) ((g 0 0 5).toNat)))), (15, .int (iI (m_cnt (fun j => m_fair g j (((n : Nat) : Int))) ((g 0 0 5).toNat)))), (14, .int (iI (m_standing g ((n : Nat) : Int)))), (13, .int (iI ((n : Nat) : Int))), (12, .ref q9), (11, .int (iI x11)), (10, .int (iI x10)), (9, .int (iI (m_sm (fun b => m_sm (fun j => max 0 (g 6 j b)) (g 0 0 5).toNat) n + m_sm (fun j => max 0 (g 6 j ((n : Nat) : Int))) ((g 0 0 5).toNat)))), (4, .int (iI (g 0 0 4))), (3, .int (iI (g 0 0 9))), (0, .ref (a 0)), (1, .int (iI (g 0 0 3))), (2, .int (iI (g 0 0 5)))]) hx hb dL_isSo_224 hl (by decide) rfl (fun ls hl => ?_)
            refine lv_iload hx hb dL_isSo_226 (lv_at hl 11 rfl) ?_
            refine lv_iload hx hb dL_isSo_228 (lv_at hl 7 rfl) ?_
            refine n_if_le hx hb (by unfold RI; omega) (tgt := 240) dL_isSo_230 (by decide) (fun h167 => absurd h167 (by intro h167; omega)) (fun h167 => ?_)
            refine lv_iconst (v := iI 1) hx hb dL_isSo_233 (by decide) ?_
            refine lv_iload hx hb dL_isSo_234 (lv_at hl 8 rfl) ?_
            refine n_shl1 hx hb (by omega) (by omega) dL_isSo_236 ?_
            have s168 := bt_nn ((n : Nat) : Int)
            refine lv_goto (tgt := 241) hx hb dL_isSo_237 (by decide) ?_
            have h16 := bo_16 (S := x10) (k := ((n : Nat) : Int)) (by omega) (by omega) (by omega)
            refine n_or hx hb (by omega) (by omega) dL_isSo_241 ?_
            have s169 := bo_nn x10 (m_bt ((n : Nat) : Int))
            refine lv_istore (lv' := [(10, .int (iI (m_bo x10 (m_bt ((n : Nat) : Int))))), (7, .int (iI ((m_sm (fun b => g 2 b 10) n) + (g 2 ((n : Nat) : Int) 10)))), (6, .int (iI ((m_sm (fun b => g 2 b 9) n) + (g 2 ((n : Nat) : Int) 9)))), (5, .int (iI ((m_cnt (m_ent g) n) + (m_ib (m_ent g ((n : Nat) : Int)))))), (8, .int (iI ((m_sm (fun b => m_sm (fun j => m_ib (decide (0 ≤ g 6 j b))) (g 0 0 5).toNat) n) + (m_sm (fun j => m_ib (decide (0 ≤ g 6 j ((n : Nat) : Int)))) ((g 0 0 5).toNat))))), (17, .int (iI ((((g 0 0 5).toNat) : Nat) : Int))), (16, .int (iI (m_sm (fun j => m_ib (decide (0 ≤ g 6 j ((n : Nat) : Int)))) ((g 0 0 5).toNat)))), (15, .int (iI (m_cnt (fun j => m_fair g j (((n : Nat) : Int))) ((g 0 0 5).toNat)))), (14, .int (iI (m_standing g ((n : Nat) : Int)))), (13, .int (iI ((n : Nat) : Int))), (12, .ref q9), (11, .int (iI x11)), (9, .int (iI (m_sm (fun b => m_sm (fun j => max 0 (g 6 j b)) (g 0 0 5).toNat) n + m_sm (fun j => max 0 (g 6 j ((n : Nat) : Int))) ((g 0 0 5).toNat)))), (4, .int (iI (g 0 0 4))), (3, .int (iI (g 0 0 9))), (0, .ref (a 0)), (1, .int (iI (g 0 0 3))), (2, .int (iI (g 0 0 5)))]) hx hb dL_isSo_242 hl (by decide) rfl (fun ls hl => ?_)
            refine lv_iload hx hb dL_isSo_244 (lv_at hl 11 rfl) ?_
            refine lv_iload hx hb dL_isSo_246 (lv_at hl 8 rfl) ?_
            refine lv_iconst (v := iI 1) hx hb dL_isSo_248 (by decide) ?_
            refine n_icmp_le hx hb (by unfold RI; omega) (by unfold RI; omega) (tgt := 259) dL_isSo_249 (by decide) (fun h170 => ?_) (fun h170 => absurd h170 (by intro h170; omega))
            refine lv_iconst (v := iI 0) hx hb dL_isSo_259 (by decide) ?_
            refine n_or hx hb (by omega) (by omega) dL_isSo_260 ?_
            rw [bo_z (S := x11) (by omega)]
            refine lv_istore (lv' := [(11, .int (iI x11)), (10, .int (iI (m_bo x10 (m_bt ((n : Nat) : Int))))), (7, .int (iI ((m_sm (fun b => g 2 b 10) n) + (g 2 ((n : Nat) : Int) 10)))), (6, .int (iI ((m_sm (fun b => g 2 b 9) n) + (g 2 ((n : Nat) : Int) 9)))), (5, .int (iI ((m_cnt (m_ent g) n) + (m_ib (m_ent g ((n : Nat) : Int)))))), (8, .int (iI ((m_sm (fun b => m_sm (fun j => m_ib (decide (0 ≤ g 6 j b))) (g 0 0 5).toNat) n) + (m_sm (fun j => m_ib (decide (0 ≤ g 6 j ((n : Nat) : Int)))) ((g 0 0 5).toNat))))), (17, .int (iI ((((g 0 0 5).toNat) : Nat) : Int))), (16, .int (iI (m_sm (fun j => m_ib (decide (0 ≤ g 6 j ((n : Nat) : Int)))) ((g 0 0 5).toNat)))), (15, .int (iI (m_cnt (fun j => m_fair g j (((n : Nat) : Int))) ((g 0 0 5).toNat)))), (14, .int (iI (m_standing g ((n : Nat) : Int)))), (13, .int (iI ((n : Nat) : Int))), (12, .ref q9), (9, .int (iI (m_sm (fun b => m_sm (fun j => max 0 (g 6 j b)) (g 0 0 5).toNat) n + m_sm (fun j => max 0 (g 6 j ((n : Nat) : Int))) ((g 0 0 5).toNat)))), (4, .int (iI (g 0 0 4))), (3, .int (iI (g 0 0 9))), (0, .ref (a 0)), (1, .int (iI (g 0 0 3))), (2, .int (iI (g 0 0 5)))]) hx hb dL_isSo_261 hl (by decide) rfl (fun ls hl => ?_)
            refine lv_iload hx hb dL_isSo_263 (lv_at hl 9 rfl) ?_
            refine n_if_le hx hb (by unfold RI; omega) (tgt := 282) dL_isSo_265 (by decide) (fun h171 => absurd h171 (by intro h171; omega)) (fun h171 => ?_)
            refine lv_aload hx hb dL_isSo_268 (lv_at hl 11 rfl) ?_
            refine lv_aload_n hx hb dL_isSo_270 rfl (lv_at hl 15 rfl) ?_
            refine lv_iload hx hb dL_isSo_271 (lv_at hl 10 rfl) ?_
            refine lv_iconst (v := iI 0) hx hb dL_isSo_273 (by decide) ?_
            refine va_calli (va_runV (As := [.int (iI ((n : Nat) : Int)), .int (iI 0)]) (rest := [.ref q9]) ⟨hx, hb, hml, hown, hw⟩ (c_ofBook l D a cH cB cJ cI ha g vq H.size ((n : Nat) : Int) 0 hWf (by omega) (by omega)) (cwV 2 hw (gA_V kw_206 kw_207 kw_208 kw_2 kw_209) rfl rfl rfl (by decide +kernel) ⟨Nat.le_of_ble_eq_true rfl, Nat.le_of_ble_eq_true rfl⟩) (pS_v (ci := 4) (q0 := 0) rfl pw_0 hP hK hE) rfl rfl hl.1 rfl (lv_room (Nat.le_of_ble_eq_true rfl)) dL_isSo_274 ⟨Nat.le_of_ble_eq_true rfl, Nat.le_of_ble_eq_true rfl⟩) hS (fun q h1 h2 => ro_A h1 h2) (fun q h => ro_F hS hA q h) (fun r u t H1 locs ht hvm hw9 hB9 hz1 hk1 hS => ?_)
            have hw9 : r = (iI (m_ofBook g ((n : Nat) : Int) 0)) := hw9
            subst hw9
            have hP := ro_P hP hk1
            have hX := ro_P hX hk1
            generalize H1 = H at hP hX hS ⊢
            rw [show (m_ofBook g ((n : Nat) : Int) 0) = (g 2 ((n : Nat) : Int) 0) from rfl]
            have s172 := Wf.b0 hWf (k := ((n : Nat) : Int)) (by omega) (by omega)
            refine lv_dup2_11 hx hb dL_isSo_277 rfl rfl ?_
            refine p_xrd hx hb hK hX (k := (g 2 ((n : Nat) : Int) 0)) (by omega) (by omega) (by omega) dL_isSo_278 ?_
            rw [show fq1 ((g 2 ((n : Nat) : Int) 0)).toNat = iI (m_cnt (fun b => m_has (g 0 0 11) b && g 2 b 0 == (g 2 ((n : Nat) : Int) 0)) n) from hxf1 _ (by omega) (by omega)]
            refine lv_iconst (v := iI 1) hx hb dL_isSo_279 (by decide) ?_
            refine n_add hx hb dL_isSo_280 ?_
            refine p_xwr hx hb hK hP ha hB hX hq hqA hS (k := (g 2 ((n : Nat) : Int) 0)) (x := iI ((m_cnt (fun b => m_has (g 0 0 11) b && g 2 b 0 == (g 2 ((n : Nat) : Int) 0)) n) + 1)) (by omega) (by omega) (by omega) dL_isSo_281 (fun H locs hP hX hS => ?_)
            obtain ⟨fx173, hfx173⟩ : ∃ z, z = upd fq1 ((g 2 ((n : Nat) : Int) 0)).toNat (iI ((m_cnt (fun b => m_has (g 0 0 11) b && g 2 b 0 == (g 2 ((n : Nat) : Int) 0)) n) + 1)) := ⟨_, rfl⟩
            rw [← hfx173] at hX
            refine lv_iload hx hb dL_isSo_282 (lv_at hl 7 rfl) ?_
            refine lv_iconst (v := iI 3) hx hb dL_isSo_284 (by decide) ?_
            refine n_icmp_gt hx hb (by unfold RI; omega) (by unfold RI; omega) (tgt := 373) dL_isSo_285 (by decide) (fun h174 => absurd h174 (by intro h174; omega)) (fun h174 => ?_)
            refine lv_iload hx hb dL_isSo_288 (lv_at hl 8 rfl) ?_
            refine lv_aload_n hx hb dL_isSo_290 rfl (lv_at hl 15 rfl) ?_
            refine lv_iload hx hb dL_isSo_291 (lv_at hl 10 rfl) ?_
            refine lv_bipush (v := iI 9) hx hb dL_isSo_293 (by decide) ?_
            refine va_calli (va_runV (As := [.int (iI ((n : Nat) : Int)), .int (iI 9)]) (rest := [.int (iI (m_cnt (fun j => m_fair g j (((n : Nat) : Int))) ((g 0 0 5).toNat)))]) ⟨hx, hb, hml, hown, hw⟩ (c_ofBook l D a cH cB cJ cI ha g vq H.size ((n : Nat) : Int) 9 hWf (by omega) (by omega)) (cwV 2 hw (gA_V kw_206 kw_207 kw_208 kw_2 kw_209) rfl rfl rfl (by decide +kernel) ⟨Nat.le_of_ble_eq_true rfl, Nat.le_of_ble_eq_true rfl⟩) (pS_v (ci := 4) (q0 := 0) rfl pw_0 hP hK hE) rfl rfl hl.1 rfl (lv_room (Nat.le_of_ble_eq_true rfl)) dL_isSo_295 ⟨Nat.le_of_ble_eq_true rfl, Nat.le_of_ble_eq_true rfl⟩) hS (fun q h1 h2 => ro_A h1 h2) (fun q h => ro_F hS hA q h) (fun r u t H1 locs ht hvm hw9 hB9 hz1 hk1 hS => ?_)
            have hw9 : r = (iI (m_ofBook g ((n : Nat) : Int) 9)) := hw9
            subst hw9
            have hP := ro_P hP hk1
            have hX := ro_P hX hk1
            generalize H1 = H at hP hX hS ⊢
            rw [show (m_ofBook g ((n : Nat) : Int) 9) = (m_cnt (fun j => m_fair g j ((n : Nat) : Int)) (g 0 0 5).toNat) from rfl]
            refine n_icmp_ne hx hb (by unfold RI; omega) (by unfold RI; omega) (tgt := 373) dL_isSo_298 (by decide) (fun h175 => absurd h175 (by intro h175; exact h175 rfl)) (fun h175 => ?_)
            refine lv_iload hx hb dL_isSo_301 (lv_at hl 8 rfl) ?_
            refine n_if_ne hx hb (by unfold RI; omega) (tgt := 317) dL_isSo_303 (by decide) (fun h176 => ?_) (fun h176 => ?_)
            · skip
              refine lv_iload hx hb dL_isSo_317 (lv_at hl 9 rfl) ?_
              refine n_if_le hx hb (by unfold RI; omega) (tgt := 333) dL_isSo_319 (by decide) (fun h177 => absurd h177 (by intro h177; omega)) (fun h177 => ?_)
              refine lv_aload_n hx hb dL_isSo_322 rfl (lv_at hl 15 rfl) ?_
              refine lv_iload hx hb dL_isSo_323 (lv_at hl 10 rfl) ?_
              refine lv_bipush (v := iI 6) hx hb dL_isSo_325 (by decide) ?_
              refine va_calli (va_runV (As := [.int (iI ((n : Nat) : Int)), .int (iI 6)]) (rest := []) ⟨hx, hb, hml, hown, hw⟩ (c_ofBook l D a cH cB cJ cI ha g vq H.size ((n : Nat) : Int) 6 hWf (by omega) (by omega)) (cwV 2 hw (gA_V kw_206 kw_207 kw_208 kw_2 kw_209) rfl rfl rfl (by decide +kernel) ⟨Nat.le_of_ble_eq_true rfl, Nat.le_of_ble_eq_true rfl⟩) (pS_v (ci := 4) (q0 := 0) rfl pw_0 hP hK hE) rfl rfl hl.1 rfl (lv_room (Nat.le_of_ble_eq_true rfl)) dL_isSo_327 ⟨Nat.le_of_ble_eq_true rfl, Nat.le_of_ble_eq_true rfl⟩) hS (fun q h1 h2 => ro_A h1 h2) (fun q h => ro_F hS hA q h) (fun r u t H1 locs ht hvm hw9 hB9 hz1 hk1 hS => ?_)
              have hw9 : r = (iI (m_ofBook g ((n : Nat) : Int) 6)) := hw9
              subst hw9
              have hP := ro_P hP hk1
              have hX := ro_P hX hk1
              generalize H1 = H at hP hX hS ⊢
              rw [show (m_ofBook g ((n : Nat) : Int) 6) = (m_ib (m_ent g ((n : Nat) : Int))) from rfl]
              refine n_if_eq hx hb (by unfold RI; omega) (tgt := 373) dL_isSo_330 (by decide) (fun h178 => absurd h178 (by intro h178; omega)) (fun h178 => ?_)
              refine lv_iload hx hb dL_isSo_333 (lv_at hl 9 rfl) ?_
              refine lv_iconst (v := iI 3) hx hb dL_isSo_335 (by decide) ?_
              refine n_icmp_ne hx hb (by unfold RI; omega) (by unfold RI; omega) (tgt := 343) dL_isSo_336 (by decide) (fun h179 => ?_) (fun h179 => absurd h179 (by intro h179; omega))
              refine lv_iconst (v := iI 0) hx hb dL_isSo_343 (by decide) ?_
              refine lv_aload_n hx hb dL_isSo_344 rfl (lv_at hl 15 rfl) ?_
              refine lv_bipush (v := iI 9) hx hb dL_isSo_345 (by decide) ?_
              refine va_calli (va_runV (As := [.int (iI 9)]) (rest := [.int (iI 0)]) ⟨hx, hb, hml, hown, hw⟩ (c_many l D a cH cB cJ cI ha g vq H.size 9 hWf (by omega)) (cwV 1 hw (gA_V kw_92 kw_93 kw_94 kw_2 kw_95) rfl rfl rfl (by decide +kernel) ⟨Nat.le_of_ble_eq_true rfl, Nat.le_of_ble_eq_true rfl⟩) (pS_v (ci := 4) (q0 := 0) rfl pw_0 hP hK hE) rfl rfl hl.1 rfl (lv_room (Nat.le_of_ble_eq_true rfl)) dL_isSo_347 ⟨Nat.le_of_ble_eq_true rfl, Nat.le_of_ble_eq_true rfl⟩) hS (fun q h1 h2 => ro_A h1 h2) (fun q h => ro_F hS hA q h) (fun r u t H1 locs ht hvm hw9 hB9 hz1 hk1 hS => ?_)
              have hw9 : r = (iI (m_many g 9)) := hw9
              subst hw9
              have hP := ro_P hP hk1
              have hX := ro_P hX hk1
              generalize H1 = H at hP hX hS ⊢
              rw [show (m_many g 9) = (g 0 0 14) from rfl]
              have s180 := Wf.m14 hWf
              refine lv_iload hx hb dL_isSo_350 (lv_at hl 10 rfl) ?_
              refine n_icmp_ne hx hb (by unfold RI; omega) (by unfold RI; omega) (tgt := 359) dL_isSo_352 (by decide) (fun h181 => ?_) (fun h181 => absurd h181 (by intro h181; omega))
              refine lv_iconst (v := iI 0) hx hb dL_isSo_359 (by decide) ?_
              refine n_icmp_ne hx hb (by unfold RI; omega) (by unfold RI; omega) (tgt := 373) dL_isSo_360 (by decide) (fun h182 => absurd h182 (by intro h182; omega)) (fun h182 => ?_)
              refine lv_aload_n hx hb dL_isSo_363 rfl (lv_at hl 15 rfl) ?_
              refine lv_iload hx hb dL_isSo_364 (lv_at hl 10 rfl) ?_
              refine lv_iconst (v := iI 2) hx hb dL_isSo_366 (by decide) ?_
              refine va_calli (va_runV (As := [.int (iI ((n : Nat) : Int)), .int (iI 2)]) (rest := []) ⟨hx, hb, hml, hown, hw⟩ (c_ofBook l D a cH cB cJ cI ha g vq H.size ((n : Nat) : Int) 2 hWf (by omega) (by omega)) (cwV 2 hw (gA_V kw_206 kw_207 kw_208 kw_2 kw_209) rfl rfl rfl (by decide +kernel) ⟨Nat.le_of_ble_eq_true rfl, Nat.le_of_ble_eq_true rfl⟩) (pS_v (ci := 4) (q0 := 0) rfl pw_0 hP hK hE) rfl rfl hl.1 rfl (lv_room (Nat.le_of_ble_eq_true rfl)) dL_isSo_367 ⟨Nat.le_of_ble_eq_true rfl, Nat.le_of_ble_eq_true rfl⟩) hS (fun q h1 h2 => ro_A h1 h2) (fun q h => ro_F hS hA q h) (fun r u t H1 locs ht hvm hw9 hB9 hz1 hk1 hS => ?_)
              have hw9 : r = (iI (m_ofBook g ((n : Nat) : Int) 2)) := hw9
              subst hw9
              have hP := ro_P hP hk1
              have hX := ro_P hX hk1
              generalize H1 = H at hP hX hS ⊢
              rw [show (m_ofBook g ((n : Nat) : Int) 2) = (g 2 ((n : Nat) : Int) 8) from rfl]
              have s183 := Wf.b8 hWf (k := ((n : Nat) : Int)) (by omega) (by omega)
              refine n_if_ge hx hb (by unfold RI; omega) (tgt := 375) dL_isSo_370 (by decide) (fun h184 => ?_) (fun h184 => absurd h184 (by intro h184; omega))
              refine lv_aload_n hx hb dL_isSo_375 rfl (lv_at hl 15 rfl) ?_
              refine lv_iload hx hb dL_isSo_376 (lv_at hl 10 rfl) ?_
              refine va_calli (va_runV (As := [.int (iI ((n : Nat) : Int))]) (rest := []) ⟨hx, hb, hml, hown, hw⟩ (c_spoiled l D a cH cB cJ cI ha g vq H.size ((n : Nat) : Int) hWf (by omega) (hsb)) (cwV 1 hw (gA_V kw_455 kw_456 kw_457 kw_2 kw_458) rfl rfl rfl (by decide +kernel) ⟨Nat.le_of_ble_eq_true rfl, Nat.le_of_ble_eq_true rfl⟩) (pS_v (ci := 4) (q0 := 0) rfl pw_0 hP hK hE) rfl rfl hl.1 rfl (lv_room (Nat.le_of_ble_eq_true rfl)) dL_isSo_378 ⟨Nat.le_of_ble_eq_true rfl, Nat.le_of_ble_eq_true rfl⟩) hS (fun q _ h => rw_A hS hA hB q h) (fun q h => rw_A hS hA hB q h) (fun r u t H1 locs ht hvm hw9 hB9 hz1 hk1 hS => ?_)
              have hw9 : r = (iI (m_spoiled g ((n : Nat) : Int))) := hw9
              subst hw9
              obtain ⟨v185, hP1⟩ := hB9
              rw [ht] at hP1
              have hP : va_P D vwCl (pw a cH cB cJ cI g v185) H1 := hP1
              have hX := rw_X hX hq hk1
              generalize H1 = H at hP hX hS ⊢
              have s186 := spo_b hWf ((n : Nat) : Int)
              refine lv_iload hx hb dL_isSo_381 (lv_at hl 10 rfl) ?_
              refine n_icmp_eq hx hb (by unfold RI; omega) (by unfold RI; omega) (tgt := 402) dL_isSo_383 (by decide) (fun h187 => absurd h187 (by intro h187; omega)) (fun h187 => ?_)
              refine lv_iload hx hb dL_isSo_386 (lv_at hl 9 rfl) ?_
              refine lv_iconst (v := iI 2) hx hb dL_isSo_388 (by decide) ?_
              refine n_icmp_ge hx hb (by unfold RI; omega) (by unfold RI; omega) (tgt := 404) dL_isSo_389 (by decide) (fun h188 => ?_) (fun h188 => ?_)
              · skip
                refine n_inc (lv' := [(13, .int (iI (((n : Nat) : Int) + 1))), (11, .int (iI x11)), (10, .int (iI (m_bo x10 (m_bt ((n : Nat) : Int))))), (7, .int (iI ((m_sm (fun b => g 2 b 10) n) + (g 2 ((n : Nat) : Int) 10)))), (6, .int (iI ((m_sm (fun b => g 2 b 9) n) + (g 2 ((n : Nat) : Int) 9)))), (5, .int (iI ((m_cnt (m_ent g) n) + (m_ib (m_ent g ((n : Nat) : Int)))))), (8, .int (iI ((m_sm (fun b => m_sm (fun j => m_ib (decide (0 ≤ g 6 j b))) (g 0 0 5).toNat) n) + (m_sm (fun j => m_ib (decide (0 ≤ g 6 j ((n : Nat) : Int)))) ((g 0 0 5).toNat))))), (17, .int (iI ((((g 0 0 5).toNat) : Nat) : Int))), (16, .int (iI (m_sm (fun j => m_ib (decide (0 ≤ g 6 j ((n : Nat) : Int)))) ((g 0 0 5).toNat)))), (15, .int (iI (m_cnt (fun j => m_fair g j (((n : Nat) : Int))) ((g 0 0 5).toNat)))), (14, .int (iI (m_standing g ((n : Nat) : Int)))), (12, .ref q9), (9, .int (iI (m_sm (fun b => m_sm (fun j => max 0 (g 6 j b)) (g 0 0 5).toNat) n + m_sm (fun j => max 0 (g 6 j ((n : Nat) : Int))) ((g 0 0 5).toNat)))), (4, .int (iI (g 0 0 4))), (3, .int (iI (g 0 0 9))), (0, .ref (a 0)), (1, .int (iI (g 0 0 3))), (2, .int (iI (g 0 0 5)))]) hx hb dL_isSo_404 hl (k := 10) rfl (by decide) rfl (fun ls hl => ?_)
                refine lv_goto (tgt := 42) hx hb dL_isSo_407 (by decide) ?_
                have hl : lv_has ls 19 [(13, .int (iI (((n : Nat) : Int) + 1))), (12, .ref q9), (11, .int (iI x11)), (10, .int (iI (m_bo x10 (m_bt ((n : Nat) : Int))))), (9, .int (iI (m_sm (fun b => m_sm (fun j => max 0 (g 6 j b)) (g 0 0 5).toNat) n + m_sm (fun j => max 0 (g 6 j ((n : Nat) : Int))) ((g 0 0 5).toNat)))), (8, .int (iI ((m_sm (fun b => m_sm (fun j => m_ib (decide (0 ≤ g 6 j b))) (g 0 0 5).toNat) n) + (m_sm (fun j => m_ib (decide (0 ≤ g 6 j ((n : Nat) : Int)))) ((g 0 0 5).toNat))))), (7, .int (iI ((m_sm (fun b => g 2 b 10) n) + (g 2 ((n : Nat) : Int) 10)))), (6, .int (iI ((m_sm (fun b => g 2 b 9) n) + (g 2 ((n : Nat) : Int) 9)))), (5, .int (iI ((m_cnt (m_ent g) n) + (m_ib (m_ent g ((n : Nat) : Int)))))), (4, .int (iI (g 0 0 4))), (3, .int (iI (g 0 0 9))), (0, .ref (a 0)), (1, .int (iI (g 0 0 3))), (2, .int (iI (g 0 0 5)))] := lv_sub hl [0, 11, 1, 2, 12, 6, 3, 4, 5, 13, 14, 15, 16, 17] rfl
                have e189 : (((n : Nat) : Int) + 1) = (((n + 1) : Nat) : Int) := by rfl
                have e190 : (m_sm (fun b => m_sm (fun j => max 0 (g 6 j b)) (g 0 0 5).toNat) n + m_sm (fun j => max 0 (g 6 j ((n : Nat) : Int))) ((g 0 0 5).toNat)) = (m_sm (fun b => m_sm (fun j => max 0 (g 6 j b)) (g 0 0 5).toNat) (n + 1)) := by rfl
                have e191 : ((m_sm (fun b => m_sm (fun j => m_ib (decide (0 ≤ g 6 j b))) (g 0 0 5).toNat) n) + (m_sm (fun j => m_ib (decide (0 ≤ g 6 j ((n : Nat) : Int)))) ((g 0 0 5).toNat))) = (m_sm (fun b => m_sm (fun j => m_ib (decide (0 ≤ g 6 j b))) (g 0 0 5).toNat) (n + 1)) := by rfl
                have e192 : ((m_sm (fun b => g 2 b 10) n) + (g 2 ((n : Nat) : Int) 10)) = (m_sm (fun b => g 2 b 10) (n + 1)) := by rfl
                have e193 : ((m_sm (fun b => g 2 b 9) n) + (g 2 ((n : Nat) : Int) 9)) = (m_sm (fun b => g 2 b 9) (n + 1)) := by rfl
                have e194 : ((m_cnt (m_ent g) n) + (m_ib (m_ent g ((n : Nat) : Int)))) = (m_cnt (m_ent g) (n + 1)) := by rfl
                have hl : lv_has ls 19 [(13, .int (iI (((n + 1) : Nat) : Int))), (12, .ref q9), (11, .int (iI x11)), (10, .int (iI (m_bo x10 (m_bt ((n : Nat) : Int))))), (9, .int (iI (m_sm (fun b => m_sm (fun j => max 0 (g 6 j b)) (g 0 0 5).toNat) (n + 1)))), (8, .int (iI (m_sm (fun b => m_sm (fun j => m_ib (decide (0 ≤ g 6 j b))) (g 0 0 5).toNat) (n + 1)))), (7, .int (iI (m_sm (fun b => g 2 b 10) (n + 1)))), (6, .int (iI (m_sm (fun b => g 2 b 9) (n + 1)))), (5, .int (iI (m_cnt (m_ent g) (n + 1)))), (4, .int (iI (g 0 0 4))), (3, .int (iI (g 0 0 9))), (0, .ref (a 0)), (1, .int (iI (g 0 0 3))), (2, .int (iI (g 0 0 5)))] := lv_cast hl (by rw [e189, e190, e191, e192, e193, e194])
                exact ih42 (n + 1) (m_bo x10 (m_bt ((n : Nat) : Int))) x11 v185 fx173 H locs ls (by omega) (by first | (rw [fo_s, ← hx10, h11]; rfl)) (by first | (rw [fo_s, ← hx11, h13]; rfl)) (by omega) (sx_yes hxf1 h11 (by omega) hfx173) hX hP hS hl
              · skip
                refine lv_aload_n hx hb dL_isSo_392 rfl (lv_at hl 15 rfl) ?_
                refine lv_iload hx hb dL_isSo_393 (lv_at hl 10 rfl) ?_
                refine va_calli (va_runV (As := [.int (iI ((n : Nat) : Int))]) (rest := []) ⟨hx, hb, hml, hown, hw⟩ (c_spoiled l D a cH cB cJ cI ha g v185 H.size ((n : Nat) : Int) hWf (by omega) (hsb)) (cwV 1 hw (gA_V kw_455 kw_456 kw_457 kw_2 kw_458) rfl rfl rfl (by decide +kernel) ⟨Nat.le_of_ble_eq_true rfl, Nat.le_of_ble_eq_true rfl⟩) (pS_v (ci := 4) (q0 := 0) rfl pw_0 hP hK hE) rfl rfl hl.1 rfl (lv_room (Nat.le_of_ble_eq_true rfl)) dL_isSo_395 ⟨Nat.le_of_ble_eq_true rfl, Nat.le_of_ble_eq_true rfl⟩) hS (fun q _ h => rw_A hS hA hB q h) (fun q h => rw_A hS hA hB q h) (fun r u t H1 locs ht hvm hw9 hB9 hz1 hk1 hS => ?_)
                have hw9 : r = (iI (m_spoiled g ((n : Nat) : Int))) := hw9
                subst hw9
                obtain ⟨v195, hP1⟩ := hB9
                rw [ht] at hP1
                have hP : va_P D vwCl (pw a cH cB cJ cI g v195) H1 := hP1
                have hX := rw_X hX hq hk1
                generalize H1 = H at hP hX hS ⊢
                refine lv_iconst (v := iI (-1)) hx hb dL_isSo_398 (by decide) ?_
                refine n_icmp_eq hx hb (by unfold RI; omega) (by unfold RI; omega) (tgt := 404) dL_isSo_399 (by decide) (fun h196 => ?_) (fun h196 => absurd h196 (by intro h196; omega))
                refine n_inc (lv' := [(13, .int (iI (((n : Nat) : Int) + 1))), (11, .int (iI x11)), (10, .int (iI (m_bo x10 (m_bt ((n : Nat) : Int))))), (7, .int (iI ((m_sm (fun b => g 2 b 10) n) + (g 2 ((n : Nat) : Int) 10)))), (6, .int (iI ((m_sm (fun b => g 2 b 9) n) + (g 2 ((n : Nat) : Int) 9)))), (5, .int (iI ((m_cnt (m_ent g) n) + (m_ib (m_ent g ((n : Nat) : Int)))))), (8, .int (iI ((m_sm (fun b => m_sm (fun j => m_ib (decide (0 ≤ g 6 j b))) (g 0 0 5).toNat) n) + (m_sm (fun j => m_ib (decide (0 ≤ g 6 j ((n : Nat) : Int)))) ((g 0 0 5).toNat))))), (17, .int (iI ((((g 0 0 5).toNat) : Nat) : Int))), (16, .int (iI (m_sm (fun j => m_ib (decide (0 ≤ g 6 j ((n : Nat) : Int)))) ((g 0 0 5).toNat)))), (15, .int (iI (m_cnt (fun j => m_fair g j (((n : Nat) : Int))) ((g 0 0 5).toNat)))), (14, .int (iI (m_standing g ((n : Nat) : Int)))), (12, .ref q9), (9, .int (iI (m_sm (fun b => m_sm (fun j => max 0 (g 6 j b)) (g 0 0 5).toNat) n + m_sm (fun j => max 0 (g 6 j ((n : Nat) : Int))) ((g 0 0 5).toNat)))), (4, .int (iI (g 0 0 4))), (3, .int (iI (g 0 0 9))), (0, .ref (a 0)), (1, .int (iI (g 0 0 3))), (2, .int (iI (g 0 0 5)))]) hx hb dL_isSo_404 hl (k := 10) rfl (by decide) rfl (fun ls hl => ?_)
                refine lv_goto (tgt := 42) hx hb dL_isSo_407 (by decide) ?_
                have hl : lv_has ls 19 [(13, .int (iI (((n : Nat) : Int) + 1))), (12, .ref q9), (11, .int (iI x11)), (10, .int (iI (m_bo x10 (m_bt ((n : Nat) : Int))))), (9, .int (iI (m_sm (fun b => m_sm (fun j => max 0 (g 6 j b)) (g 0 0 5).toNat) n + m_sm (fun j => max 0 (g 6 j ((n : Nat) : Int))) ((g 0 0 5).toNat)))), (8, .int (iI ((m_sm (fun b => m_sm (fun j => m_ib (decide (0 ≤ g 6 j b))) (g 0 0 5).toNat) n) + (m_sm (fun j => m_ib (decide (0 ≤ g 6 j ((n : Nat) : Int)))) ((g 0 0 5).toNat))))), (7, .int (iI ((m_sm (fun b => g 2 b 10) n) + (g 2 ((n : Nat) : Int) 10)))), (6, .int (iI ((m_sm (fun b => g 2 b 9) n) + (g 2 ((n : Nat) : Int) 9)))), (5, .int (iI ((m_cnt (m_ent g) n) + (m_ib (m_ent g ((n : Nat) : Int)))))), (4, .int (iI (g 0 0 4))), (3, .int (iI (g 0 0 9))), (0, .ref (a 0)), (1, .int (iI (g 0 0 3))), (2, .int (iI (g 0 0 5)))] := lv_sub hl [0, 11, 1, 2, 12, 6, 3, 4, 5, 13, 14, 15, 16, 17] rfl
                have e197 : (((n : Nat) : Int) + 1) = (((n + 1) : Nat) : Int) := by rfl
                have e198 : (m_sm (fun b => m_sm (fun j => max 0 (g 6 j b)) (g 0 0 5).toNat) n + m_sm (fun j => max 0 (g 6 j ((n : Nat) : Int))) ((g 0 0 5).toNat)) = (m_sm (fun b => m_sm (fun j => max 0 (g 6 j b)) (g 0 0 5).toNat) (n + 1)) := by rfl
                have e199 : ((m_sm (fun b => m_sm (fun j => m_ib (decide (0 ≤ g 6 j b))) (g 0 0 5).toNat) n) + (m_sm (fun j => m_ib (decide (0 ≤ g 6 j ((n : Nat) : Int)))) ((g 0 0 5).toNat))) = (m_sm (fun b => m_sm (fun j => m_ib (decide (0 ≤ g 6 j b))) (g 0 0 5).toNat) (n + 1)) := by rfl
                have e200 : ((m_sm (fun b => g 2 b 10) n) + (g 2 ((n : Nat) : Int) 10)) = (m_sm (fun b => g 2 b 10) (n + 1)) := by rfl
                have e201 : ((m_sm (fun b => g 2 b 9) n) + (g 2 ((n : Nat) : Int) 9)) = (m_sm (fun b => g 2 b 9) (n + 1)) := by rfl
                have e202 : ((m_cnt (m_ent g) n) + (m_ib (m_ent g ((n : Nat) : Int)))) = (m_cnt (m_ent g) (n + 1)) := by rfl
                have hl : lv_has ls 19 [(13, .int (iI (((n + 1) : Nat) : Int))), (12, .ref q9), (11, .int (iI x11)), (10, .int (iI (m_bo x10 (m_bt ((n : Nat) : Int))))), (9, .int (iI (m_sm (fun b => m_sm (fun j => max 0 (g 6 j b)) (g 0 0 5).toNat) (n + 1)))), (8, .int (iI (m_sm (fun b => m_sm (fun j => m_ib (decide (0 ≤ g 6 j b))) (g 0 0 5).toNat) (n + 1)))), (7, .int (iI (m_sm (fun b => g 2 b 10) (n + 1)))), (6, .int (iI (m_sm (fun b => g 2 b 9) (n + 1)))), (5, .int (iI (m_cnt (m_ent g) (n + 1)))), (4, .int (iI (g 0 0 4))), (3, .int (iI (g 0 0 9))), (0, .ref (a 0)), (1, .int (iI (g 0 0 3))), (2, .int (iI (g 0 0 5)))] := lv_cast hl (by rw [e197, e198, e199, e200, e201, e202])
                exact ih42 (n + 1) (m_bo x10 (m_bt ((n : Nat) : Int))) x11 v195 fx173 H locs ls (by omega) (by first | (rw [fo_s, ← hx10, h11]; rfl)) (by first | (rw [fo_s, ← hx11, h13]; rfl)) (by omega) (sx_yes hxf1 h11 (by omega) hfx173) hX hP hS hl
            · skip
              refine lv_aload_n hx hb dL_isSo_306 rfl (lv_at hl 15 rfl) ?_
              refine lv_iload hx hb dL_isSo_307 (lv_at hl 10 rfl) ?_
              refine lv_bipush (v := iI 8) hx hb dL_isSo_309 (by decide) ?_
              refine va_calli (va_runV (As := [.int (iI ((n : Nat) : Int)), .int (iI 8)]) (rest := []) ⟨hx, hb, hml, hown, hw⟩ (c_ofBook l D a cH cB cJ cI ha g vq H.size ((n : Nat) : Int) 8 hWf (by omega) (by omega)) (cwV 2 hw (gA_V kw_206 kw_207 kw_208 kw_2 kw_209) rfl rfl rfl (by decide +kernel) ⟨Nat.le_of_ble_eq_true rfl, Nat.le_of_ble_eq_true rfl⟩) (pS_v (ci := 4) (q0 := 0) rfl pw_0 hP hK hE) rfl rfl hl.1 rfl (lv_room (Nat.le_of_ble_eq_true rfl)) dL_isSo_311 ⟨Nat.le_of_ble_eq_true rfl, Nat.le_of_ble_eq_true rfl⟩) hS (fun q h1 h2 => ro_A h1 h2) (fun q h => ro_F hS hA q h) (fun r u t H1 locs ht hvm hw9 hB9 hz1 hk1 hS => ?_)
              have hw9 : r = (iI (m_ofBook g ((n : Nat) : Int) 8)) := hw9
              subst hw9
              have hP := ro_P hP hk1
              have hX := ro_P hX hk1
              generalize H1 = H at hP hX hS ⊢
              rw [show (m_ofBook g ((n : Nat) : Int) 8) = 0 from (show m_score g ↑n = 0 from by unfold m_score; exact if_pos h176)]
              refine n_if_ne hx hb (by unfold RI; omega) (tgt := 373) dL_isSo_314 (by decide) (fun h203 => absurd h203 (by intro h203; omega)) (fun h203 => ?_)
              refine lv_iload hx hb dL_isSo_317 (lv_at hl 9 rfl) ?_
              refine n_if_le hx hb (by unfold RI; omega) (tgt := 333) dL_isSo_319 (by decide) (fun h204 => absurd h204 (by intro h204; omega)) (fun h204 => ?_)
              refine lv_aload_n hx hb dL_isSo_322 rfl (lv_at hl 15 rfl) ?_
              refine lv_iload hx hb dL_isSo_323 (lv_at hl 10 rfl) ?_
              refine lv_bipush (v := iI 6) hx hb dL_isSo_325 (by decide) ?_
              refine va_calli (va_runV (As := [.int (iI ((n : Nat) : Int)), .int (iI 6)]) (rest := []) ⟨hx, hb, hml, hown, hw⟩ (c_ofBook l D a cH cB cJ cI ha g vq H.size ((n : Nat) : Int) 6 hWf (by omega) (by omega)) (cwV 2 hw (gA_V kw_206 kw_207 kw_208 kw_2 kw_209) rfl rfl rfl (by decide +kernel) ⟨Nat.le_of_ble_eq_true rfl, Nat.le_of_ble_eq_true rfl⟩) (pS_v (ci := 4) (q0 := 0) rfl pw_0 hP hK hE) rfl rfl hl.1 rfl (lv_room (Nat.le_of_ble_eq_true rfl)) dL_isSo_327 ⟨Nat.le_of_ble_eq_true rfl, Nat.le_of_ble_eq_true rfl⟩) hS (fun q h1 h2 => ro_A h1 h2) (fun q h => ro_F hS hA q h) (fun r u t H1 locs ht hvm hw9 hB9 hz1 hk1 hS => ?_)
              have hw9 : r = (iI (m_ofBook g ((n : Nat) : Int) 6)) := hw9
              subst hw9
              have hP := ro_P hP hk1
              have hX := ro_P hX hk1
              generalize H1 = H at hP hX hS ⊢
              rw [show (m_ofBook g ((n : Nat) : Int) 6) = (m_ib (m_ent g ((n : Nat) : Int))) from rfl]
              refine n_if_eq hx hb (by unfold RI; omega) (tgt := 373) dL_isSo_330 (by decide) (fun h205 => absurd h205 (by intro h205; omega)) (fun h205 => ?_)
              refine lv_iload hx hb dL_isSo_333 (lv_at hl 9 rfl) ?_
              refine lv_iconst (v := iI 3) hx hb dL_isSo_335 (by decide) ?_
              refine n_icmp_ne hx hb (by unfold RI; omega) (by unfold RI; omega) (tgt := 343) dL_isSo_336 (by decide) (fun h206 => ?_) (fun h206 => absurd h206 (by intro h206; omega))
              refine lv_iconst (v := iI 0) hx hb dL_isSo_343 (by decide) ?_
              refine lv_aload_n hx hb dL_isSo_344 rfl (lv_at hl 15 rfl) ?_
              refine lv_bipush (v := iI 9) hx hb dL_isSo_345 (by decide) ?_
              refine va_calli (va_runV (As := [.int (iI 9)]) (rest := [.int (iI 0)]) ⟨hx, hb, hml, hown, hw⟩ (c_many l D a cH cB cJ cI ha g vq H.size 9 hWf (by omega)) (cwV 1 hw (gA_V kw_92 kw_93 kw_94 kw_2 kw_95) rfl rfl rfl (by decide +kernel) ⟨Nat.le_of_ble_eq_true rfl, Nat.le_of_ble_eq_true rfl⟩) (pS_v (ci := 4) (q0 := 0) rfl pw_0 hP hK hE) rfl rfl hl.1 rfl (lv_room (Nat.le_of_ble_eq_true rfl)) dL_isSo_347 ⟨Nat.le_of_ble_eq_true rfl, Nat.le_of_ble_eq_true rfl⟩) hS (fun q h1 h2 => ro_A h1 h2) (fun q h => ro_F hS hA q h) (fun r u t H1 locs ht hvm hw9 hB9 hz1 hk1 hS => ?_)
              have hw9 : r = (iI (m_many g 9)) := hw9
              subst hw9
              have hP := ro_P hP hk1
              have hX := ro_P hX hk1
              generalize H1 = H at hP hX hS ⊢
              rw [show (m_many g 9) = (g 0 0 14) from rfl]
              have s207 := Wf.m14 hWf
              refine lv_iload hx hb dL_isSo_350 (lv_at hl 10 rfl) ?_
              refine n_icmp_ne hx hb (by unfold RI; omega) (by unfold RI; omega) (tgt := 359) dL_isSo_352 (by decide) (fun h208 => ?_) (fun h208 => absurd h208 (by intro h208; omega))
              refine lv_iconst (v := iI 0) hx hb dL_isSo_359 (by decide) ?_
              refine n_icmp_ne hx hb (by unfold RI; omega) (by unfold RI; omega) (tgt := 373) dL_isSo_360 (by decide) (fun h209 => absurd h209 (by intro h209; omega)) (fun h209 => ?_)
              refine lv_aload_n hx hb dL_isSo_363 rfl (lv_at hl 15 rfl) ?_
              refine lv_iload hx hb dL_isSo_364 (lv_at hl 10 rfl) ?_
              refine lv_iconst (v := iI 2) hx hb dL_isSo_366 (by decide) ?_
              refine va_calli (va_runV (As := [.int (iI ((n : Nat) : Int)), .int (iI 2)]) (rest := []) ⟨hx, hb, hml, hown, hw⟩ (c_ofBook l D a cH cB cJ cI ha g vq H.size ((n : Nat) : Int) 2 hWf (by omega) (by omega)) (cwV 2 hw (gA_V kw_206 kw_207 kw_208 kw_2 kw_209) rfl rfl rfl (by decide +kernel) ⟨Nat.le_of_ble_eq_true rfl, Nat.le_of_ble_eq_true rfl⟩) (pS_v (ci := 4) (q0 := 0) rfl pw_0 hP hK hE) rfl rfl hl.1 rfl (lv_room (Nat.le_of_ble_eq_true rfl)) dL_isSo_367 ⟨Nat.le_of_ble_eq_true rfl, Nat.le_of_ble_eq_true rfl⟩) hS (fun q h1 h2 => ro_A h1 h2) (fun q h => ro_F hS hA q h) (fun r u t H1 locs ht hvm hw9 hB9 hz1 hk1 hS => ?_)
              have hw9 : r = (iI (m_ofBook g ((n : Nat) : Int) 2)) := hw9
              subst hw9
              have hP := ro_P hP hk1
              have hX := ro_P hX hk1
              generalize H1 = H at hP hX hS ⊢
              rw [show (m_ofBook g ((n : Nat) : Int) 2) = (g 2 ((n : Nat) : Int) 8) from rfl]
              have s210 := Wf.b8 hWf (k := ((n : Nat) : Int)) (by omega) (by omega)
              refine n_if_ge hx hb (by unfold RI; omega) (tgt := 375) dL_isSo_370 (by decide) (fun h211 => ?_) (fun h211 => absurd h211 (by intro h211; omega))
              refine lv_aload_n hx hb dL_isSo_375 rfl (lv_at hl 15 rfl) ?_
              refine lv_iload hx hb dL_isSo_376 (lv_at hl 10 rfl) ?_
              refine va_calli (va_runV (As := [.int (iI ((n : Nat) : Int))]) (rest := []) ⟨hx, hb, hml, hown, hw⟩ (c_spoiled l D a cH cB cJ cI ha g vq H.size ((n : Nat) : Int) hWf (by omega) (hsb)) (cwV 1 hw (gA_V kw_455 kw_456 kw_457 kw_2 kw_458) rfl rfl rfl (by decide +kernel) ⟨Nat.le_of_ble_eq_true rfl, Nat.le_of_ble_eq_true rfl⟩) (pS_v (ci := 4) (q0 := 0) rfl pw_0 hP hK hE) rfl rfl hl.1 rfl (lv_room (Nat.le_of_ble_eq_true rfl)) dL_isSo_378 ⟨Nat.le_of_ble_eq_true rfl, Nat.le_of_ble_eq_true rfl⟩) hS (fun q _ h => rw_A hS hA hB q h) (fun q h => rw_A hS hA hB q h) (fun r u t H1 locs ht hvm hw9 hB9 hz1 hk1 hS => ?_)
              have hw9 : r = (iI (m_spoiled g ((n : Nat) : Int))) := hw9
              subst hw9
              obtain ⟨v212, hP1⟩ := hB9
              rw [ht] at hP1
              have hP : va_P D vwCl (pw a cH cB cJ cI g v212) H1 := hP1
              have hX := rw_X hX hq hk1
              generalize H1 = H at hP hX hS ⊢
              have s213 := spo_b hWf ((n : Nat) : Int)
              refine lv_iload hx hb dL_isSo_381 (lv_at hl 10 rfl) ?_
              refine n_icmp_eq hx hb (by unfold RI; omega) (by unfold RI; omega) (tgt := 402) dL_isSo_383 (by decide) (fun h214 => absurd h214 (by intro h214; omega)) (fun h214 => ?_)
              refine lv_iload hx hb dL_isSo_386 (lv_at hl 9 rfl) ?_
              refine lv_iconst (v := iI 2) hx hb dL_isSo_388 (by decide) ?_
              refine n_icmp_ge hx hb (by unfold RI; omega) (by unfold RI; omega) (tgt := 404) dL_isSo_389 (by decide) (fun h215 => ?_) (fun h215 => ?_)
              · skip
                refine n_inc (lv' := [(13, .int (iI (((n : Nat) : Int) + 1))), (11, .int (iI x11)), (10, .int (iI (m_bo x10 (m_bt ((n : Nat) : Int))))), (7, .int (iI ((m_sm (fun b => g 2 b 10) n) + (g 2 ((n : Nat) : Int) 10)))), (6, .int (iI ((m_sm (fun b => g 2 b 9) n) + (g 2 ((n : Nat) : Int) 9)))), (5, .int (iI ((m_cnt (m_ent g) n) + (m_ib (m_ent g ((n : Nat) : Int)))))), (8, .int (iI ((m_sm (fun b => m_sm (fun j => m_ib (decide (0 ≤ g 6 j b))) (g 0 0 5).toNat) n) + (m_sm (fun j => m_ib (decide (0 ≤ g 6 j ((n : Nat) : Int)))) ((g 0 0 5).toNat))))), (17, .int (iI ((((g 0 0 5).toNat) : Nat) : Int))), (16, .int (iI (m_sm (fun j => m_ib (decide (0 ≤ g 6 j ((n : Nat) : Int)))) ((g 0 0 5).toNat)))), (15, .int (iI (m_cnt (fun j => m_fair g j (((n : Nat) : Int))) ((g 0 0 5).toNat)))), (14, .int (iI (m_standing g ((n : Nat) : Int)))), (12, .ref q9), (9, .int (iI (m_sm (fun b => m_sm (fun j => max 0 (g 6 j b)) (g 0 0 5).toNat) n + m_sm (fun j => max 0 (g 6 j ((n : Nat) : Int))) ((g 0 0 5).toNat)))), (4, .int (iI (g 0 0 4))), (3, .int (iI (g 0 0 9))), (0, .ref (a 0)), (1, .int (iI (g 0 0 3))), (2, .int (iI (g 0 0 5)))]) hx hb dL_isSo_404 hl (k := 10) rfl (by decide) rfl (fun ls hl => ?_)
                refine lv_goto (tgt := 42) hx hb dL_isSo_407 (by decide) ?_
                have hl : lv_has ls 19 [(13, .int (iI (((n : Nat) : Int) + 1))), (12, .ref q9), (11, .int (iI x11)), (10, .int (iI (m_bo x10 (m_bt ((n : Nat) : Int))))), (9, .int (iI (m_sm (fun b => m_sm (fun j => max 0 (g 6 j b)) (g 0 0 5).toNat) n + m_sm (fun j => max 0 (g 6 j ((n : Nat) : Int))) ((g 0 0 5).toNat)))), (8, .int (iI ((m_sm (fun b => m_sm (fun j => m_ib (decide (0 ≤ g 6 j b))) (g 0 0 5).toNat) n) + (m_sm (fun j => m_ib (decide (0 ≤ g 6 j ((n : Nat) : Int)))) ((g 0 0 5).toNat))))), (7, .int (iI ((m_sm (fun b => g 2 b 10) n) + (g 2 ((n : Nat) : Int) 10)))), (6, .int (iI ((m_sm (fun b => g 2 b 9) n) + (g 2 ((n : Nat) : Int) 9)))), (5, .int (iI ((m_cnt (m_ent g) n) + (m_ib (m_ent g ((n : Nat) : Int)))))), (4, .int (iI (g 0 0 4))), (3, .int (iI (g 0 0 9))), (0, .ref (a 0)), (1, .int (iI (g 0 0 3))), (2, .int (iI (g 0 0 5)))] := lv_sub hl [0, 11, 1, 2, 12, 6, 3, 4, 5, 13, 14, 15, 16, 17] rfl
                have e216 : (((n : Nat) : Int) + 1) = (((n + 1) : Nat) : Int) := by rfl
                have e217 : (m_sm (fun b => m_sm (fun j => max 0 (g 6 j b)) (g 0 0 5).toNat) n + m_sm (fun j => max 0 (g 6 j ((n : Nat) : Int))) ((g 0 0 5).toNat)) = (m_sm (fun b => m_sm (fun j => max 0 (g 6 j b)) (g 0 0 5).toNat) (n + 1)) := by rfl
                have e218 : ((m_sm (fun b => m_sm (fun j => m_ib (decide (0 ≤ g 6 j b))) (g 0 0 5).toNat) n) + (m_sm (fun j => m_ib (decide (0 ≤ g 6 j ((n : Nat) : Int)))) ((g 0 0 5).toNat))) = (m_sm (fun b => m_sm (fun j => m_ib (decide (0 ≤ g 6 j b))) (g 0 0 5).toNat) (n + 1)) := by rfl
                have e219 : ((m_sm (fun b => g 2 b 10) n) + (g 2 ((n : Nat) : Int) 10)) = (m_sm (fun b => g 2 b 10) (n + 1)) := by rfl
                have e220 : ((m_sm (fun b => g 2 b 9) n) + (g 2 ((n : Nat) : Int) 9)) = (m_sm (fun b => g 2 b 9) (n + 1)) := by rfl
                have e221 : ((m_cnt (m_ent g) n) + (m_ib (m_ent g ((n : Nat) : Int)))) = (m_cnt (m_ent g) (n + 1)) := by rfl
                have hl : lv_has ls 19 [(13, .int (iI (((n + 1) : Nat) : Int))), (12, .ref q9), (11, .int (iI x11)), (10, .int (iI (m_bo x10 (m_bt ((n : Nat) : Int))))), (9, .int (iI (m_sm (fun b => m_sm (fun j => max 0 (g 6 j b)) (g 0 0 5).toNat) (n + 1)))), (8, .int (iI (m_sm (fun b => m_sm (fun j => m_ib (decide (0 ≤ g 6 j b))) (g 0 0 5).toNat) (n + 1)))), (7, .int (iI (m_sm (fun b => g 2 b 10) (n + 1)))), (6, .int (iI (m_sm (fun b => g 2 b 9) (n + 1)))), (5, .int (iI (m_cnt (m_ent g) (n + 1)))), (4, .int (iI (g 0 0 4))), (3, .int (iI (g 0 0 9))), (0, .ref (a 0)), (1, .int (iI (g 0 0 3))), (2, .int (iI (g 0 0 5)))] := lv_cast hl (by rw [e216, e217, e218, e219, e220, e221])
                exact ih42 (n + 1) (m_bo x10 (m_bt ((n : Nat) : Int))) x11 v212 fx173 H locs ls (by omega) (by first | (rw [fo_s, ← hx10, h11]; rfl)) (by first | (rw [fo_s, ← hx11, h13]; rfl)) (by omega) (sx_yes hxf1 h11 (by omega) hfx173) hX hP hS hl
              · skip
                refine lv_aload_n hx hb dL_isSo_392 rfl (lv_at hl 15 rfl) ?_
                refine lv_iload hx hb dL_isSo_393 (lv_at hl 10 rfl) ?_
                refine va_calli (va_runV (As := [.int (iI ((n : Nat) : Int))]) (rest := []) ⟨hx, hb, hml, hown, hw⟩ (c_spoiled l D a cH cB cJ cI ha g v212 H.size ((n : Nat) : Int) hWf (by omega) (hsb)) (cwV 1 hw (gA_V kw_455 kw_456 kw_457 kw_2 kw_458) rfl rfl rfl (by decide +kernel) ⟨Nat.le_of_ble_eq_true rfl, Nat.le_of_ble_eq_true rfl⟩) (pS_v (ci := 4) (q0 := 0) rfl pw_0 hP hK hE) rfl rfl hl.1 rfl (lv_room (Nat.le_of_ble_eq_true rfl)) dL_isSo_395 ⟨Nat.le_of_ble_eq_true rfl, Nat.le_of_ble_eq_true rfl⟩) hS (fun q _ h => rw_A hS hA hB q h) (fun q h => rw_A hS hA hB q h) (fun r u t H1 locs ht hvm hw9 hB9 hz1 hk1 hS => ?_)
                have hw9 : r = (iI (m_spoiled g ((n : Nat) : Int))) := hw9
                subst hw9
                obtain ⟨v222, hP1⟩ := hB9
                rw [ht] at hP1
                have hP : va_P D vwCl (pw a cH cB cJ cI g v222) H1 := hP1
                have hX := rw_X hX hq hk1
                generalize H1 = H at hP hX hS ⊢
                refine lv_iconst (v := iI (-1)) hx hb dL_isSo_398 (by decide) ?_
                refine n_icmp_eq hx hb (by unfold RI; omega) (by unfold RI; omega) (tgt := 404) dL_isSo_399 (by decide) (fun h223 => ?_) (fun h223 => absurd h223 (by intro h223; omega))
                refine n_inc (lv' := [(13, .int (iI (((n : Nat) : Int) + 1))), (11, .int (iI x11)), (10, .int (iI (m_bo x10 (m_bt ((n : Nat) : Int))))), (7, .int (iI ((m_sm (fun b => g 2 b 10) n) + (g 2 ((n : Nat) : Int) 10)))), (6, .int (iI ((m_sm (fun b => g 2 b 9) n) + (g 2 ((n : Nat) : Int) 9)))), (5, .int (iI ((m_cnt (m_ent g) n) + (m_ib (m_ent g ((n : Nat) : Int)))))), (8, .int (iI ((m_sm (fun b => m_sm (fun j => m_ib (decide (0 ≤ g 6 j b))) (g 0 0 5).toNat) n) + (m_sm (fun j => m_ib (decide (0 ≤ g 6 j ((n : Nat) : Int)))) ((g 0 0 5).toNat))))), (17, .int (iI ((((g 0 0 5).toNat) : Nat) : Int))), (16, .int (iI (m_sm (fun j => m_ib (decide (0 ≤ g 6 j ((n : Nat) : Int)))) ((g 0 0 5).toNat)))), (15, .int (iI (m_cnt (fun j => m_fair g j (((n : Nat) : Int))) ((g 0 0 5).toNat)))), (14, .int (iI (m_standing g ((n : Nat) : Int)))), (12, .ref q9), (9, .int (iI (m_sm (fun b => m_sm (fun j => max 0 (g 6 j b)) (g 0 0 5).toNat) n + m_sm (fun j => max 0 (g 6 j ((n : Nat) : Int))) ((g 0 0 5).toNat)))), (4, .int (iI (g 0 0 4))), (3, .int (iI (g 0 0 9))), (0, .ref (a 0)), (1, .int (iI (g 0 0 3))), (2, .int (iI (g 0 0 5)))]) hx hb dL_isSo_404 hl (k := 10) rfl (by decide) rfl (fun ls hl => ?_)
                refine lv_goto (tgt := 42) hx hb dL_isSo_407 (by decide) ?_
                have hl : lv_has ls 19 [(13, .int (iI (((n : Nat) : Int) + 1))), (12, .ref q9), (11, .int (iI x11)), (10, .int (iI (m_bo x10 (m_bt ((n : Nat) : Int))))), (9, .int (iI (m_sm (fun b => m_sm (fun j => max 0 (g 6 j b)) (g 0 0 5).toNat) n + m_sm (fun j => max 0 (g 6 j ((n : Nat) : Int))) ((g 0 0 5).toNat)))), (8, .int (iI ((m_sm (fun b => m_sm (fun j => m_ib (decide (0 ≤ g 6 j b))) (g 0 0 5).toNat) n) + (m_sm (fun j => m_ib (decide (0 ≤ g 6 j ((n : Nat) : Int)))) ((g 0 0 5).toNat))))), (7, .int (iI ((m_sm (fun b => g 2 b 10) n) + (g 2 ((n : Nat) : Int) 10)))), (6, .int (iI ((m_sm (fun b => g 2 b 9) n) + (g 2 ((n : Nat) : Int) 9)))), (5, .int (iI ((m_cnt (m_ent g) n) + (m_ib (m_ent g ((n : Nat) : Int)))))), (4, .int (iI (g 0 0 4))), (3, .int (iI (g 0 0 9))), (0, .ref (a 0)), (1, .int (iI (g 0 0 3))), (2, .int (iI (g 0 0 5)))] := lv_sub hl [0, 11, 1, 2, 12, 6, 3, 4, 5, 13, 14, 15, 16, 17] rfl
                have e224 : (((n : Nat) : Int) + 1) = (((n + 1) : Nat) : Int) := by rfl
                have e225 : (m_sm (fun b => m_sm (fun j => max 0 (g 6 j b)) (g 0 0 5).toNat) n + m_sm (fun j => max 0 (g 6 j ((n : Nat) : Int))) ((g 0 0 5).toNat)) = (m_sm (fun b => m_sm (fun j => max 0 (g 6 j b)) (g 0 0 5).toNat) (n + 1)) := by rfl
                have e226 : ((m_sm (fun b => m_sm (fun j => m_ib (decide (0 ≤ g 6 j b))) (g 0 0 5).toNat) n) + (m_sm (fun j => m_ib (decide (0 ≤ g 6 j ((n : Nat) : Int)))) ((g 0 0 5).toNat))) = (m_sm (fun b => m_sm (fun j => m_ib (decide (0 ≤ g 6 j b))) (g 0 0 5).toNat) (n + 1)) := by rfl
                have e227 : ((m_sm (fun b => g 2 b 10) n) + (g 2 ((n : Nat) : Int) 10)) = (m_sm (fun b => g 2 b 10) (n + 1)) := by rfl
                have e228 : ((m_sm (fun b => g 2 b 9) n) + (g 2 ((n : Nat) : Int) 9)) = (m_sm (fun b => g 2 b 9) (n + 1)) := by rfl
                have e229 : ((m_cnt (m_ent g) n) + (m_ib (m_ent g ((n : Nat) : Int)))) = (m_cnt (m_ent g) (n + 1)) := by rfl
                have hl : lv_has ls 19 [(13, .int (iI (((n + 1) : Nat) : Int))), (12, .ref q9), (11, .int (iI x11)), (10, .int (iI (m_bo x10 (m_bt ((n : Nat) : Int))))), (9, .int (iI (m_sm (fun b => m_sm (fun j => max 0 (g 6 j b)) (g 0 0 5).toNat) (n + 1)))), (8, .int (iI (m_sm (fun b => m_sm (fun j => m_ib (decide (0 ≤ g 6 j b))) (g 0 0 5).toNat) (n + 1)))), (7, .int (iI (m_sm (fun b => g 2 b 10) (n + 1)))), (6, .int (iI (m_sm (fun b => g 2 b 9) (n + 1)))), (5, .int (iI (m_cnt (m_ent g) (n + 1)))), (4, .int (iI (g 0 0 4))), (3, .int (iI (g 0 0 9))), (0, .ref (a 0)), (1, .int (iI (g 0 0 3))), (2, .int (iI (g 0 0 5)))] := lv_cast hl (by rw [e224, e225, e226, e227, e228, e229])
                exact ih42 (n + 1) (m_bo x10 (m_bt ((n : Nat) : Int))) x11 v222 fx173 H locs ls (by omega) (by first | (rw [fo_s, ← hx10, h11]; rfl)) (by first | (rw [fo_s, ← hx11, h13]; rfl)) (by omega) (sx_yes hxf1 h11 (by omega) hfx173) hX hP hS hl
          · skip
            obtain ⟨h11, h13, h14⟩ := hsd.2.2.1 hst9
            have hib : m_ib (m_ent g ↑n) = 1 := by rw [(hS5.1 _ h11).2]; rfl
            refine lv_iload hx hb dL_isSo_182 (lv_at hl 9 rfl) ?_
            refine lv_iload hx hb dL_isSo_184 (lv_at hl 1 rfl) ?_
            refine n_add hx hb dL_isSo_186 ?_
            refine lv_istore (lv' := [(8, .int (iI ((m_sm (fun b => m_sm (fun j => m_ib (decide (0 ≤ g 6 j b))) (g 0 0 5).toNat) n) + (m_sm (fun j => m_ib (decide (0 ≤ g 6 j ((n : Nat) : Int)))) ((g 0 0 5).toNat))))), (17, .int (iI ((((g 0 0 5).toNat) : Nat) : Int))), (16, .int (iI (m_sm (fun j => m_ib (decide (0 ≤ g 6 j ((n : Nat) : Int)))) ((g 0 0 5).toNat)))), (15, .int (iI (m_cnt (fun j => m_fair g j (((n : Nat) : Int))) ((g 0 0 5).toNat)))), (14, .int (iI (m_standing g ((n : Nat) : Int)))), (13, .int (iI ((n : Nat) : Int))), (12, .ref q9), (11, .int (iI x11)), (10, .int (iI x10)), (9, .int (iI (m_sm (fun b => m_sm (fun j => max 0 (g 6 j b)) (g 0 0 5).toNat) n + m_sm (fun j => max 0 (g 6 j ((n : Nat) : Int))) ((g 0 0 5).toNat)))), (7, .int (iI (m_sm (fun b => g 2 b 10) n))), (6, .int (iI (m_sm (fun b => g 2 b 9) n))), (5, .int (iI (m_cnt (m_ent g) n))), (4, .int (iI (g 0 0 4))), (3, .int (iI (g 0 0 9))), (0, .ref (a 0)), (1, .int (iI (g 0 0 3))), (2, .int (iI (g 0 0 5)))]) hx hb dL_isSo_187 hl (by decide) rfl (fun ls hl => ?_)
            refine lv_iload hx hb dL_isSo_189 (lv_at hl 12 rfl) ?_
            refine lv_aload_n hx hb dL_isSo_191 rfl (lv_at hl 15 rfl) ?_
            refine lv_iload hx hb dL_isSo_192 (lv_at hl 5 rfl) ?_
            refine lv_bipush (v := iI 6) hx hb dL_isSo_194 (by decide) ?_
            refine va_calli (va_runV (As := [.int (iI ((n : Nat) : Int)), .int (iI 6)]) (rest := [.int (iI (m_cnt (m_ent g) n))]) ⟨hx, hb, hml, hown, hw⟩ (c_ofBook l D a cH cB cJ cI ha g vq H.size ((n : Nat) : Int) 6 hWf (by omega) (by omega)) (cwV 2 hw (gA_V kw_206 kw_207 kw_208 kw_2 kw_209) rfl rfl rfl (by decide +kernel) ⟨Nat.le_of_ble_eq_true rfl, Nat.le_of_ble_eq_true rfl⟩) (pS_v (ci := 4) (q0 := 0) rfl pw_0 hP hK hE) rfl rfl hl.1 rfl (lv_room (Nat.le_of_ble_eq_true rfl)) dL_isSo_196 ⟨Nat.le_of_ble_eq_true rfl, Nat.le_of_ble_eq_true rfl⟩) hS (fun q h1 h2 => ro_A h1 h2) (fun q h => ro_F hS hA q h) (fun r u t H1 locs ht hvm hw9 hB9 hz1 hk1 hS => ?_)
            have hw9 : r = (iI (m_ofBook g ((n : Nat) : Int) 6)) := hw9
            subst hw9
            have hP := ro_P hP hk1
            have hX := ro_P hX hk1
            generalize H1 = H at hP hX hS ⊢
            rw [show (m_ofBook g ((n : Nat) : Int) 6) = (m_ib (m_ent g ((n : Nat) : Int))) from rfl]
            refine n_add hx hb dL_isSo_199 ?_
            refine lv_istore (lv' := [(5, .int (iI ((m_cnt (m_ent g) n) + (m_ib (m_ent g ((n : Nat) : Int)))))), (8, .int (iI ((m_sm (fun b => m_sm (fun j => m_ib (decide (0 ≤ g 6 j b))) (g 0 0 5).toNat) n) + (m_sm (fun j => m_ib (decide (0 ≤ g 6 j ((n : Nat) : Int)))) ((g 0 0 5).toNat))))), (17, .int (iI ((((g 0 0 5).toNat) : Nat) : Int))), (16, .int (iI (m_sm (fun j => m_ib (decide (0 ≤ g 6 j ((n : Nat) : Int)))) ((g 0 0 5).toNat)))), (15, .int (iI (m_cnt (fun j => m_fair g j (((n : Nat) : Int))) ((g 0 0 5).toNat)))), (14, .int (iI (m_standing g ((n : Nat) : Int)))), (13, .int (iI ((n : Nat) : Int))), (12, .ref q9), (11, .int (iI x11)), (10, .int (iI x10)), (9, .int (iI (m_sm (fun b => m_sm (fun j => max 0 (g 6 j b)) (g 0 0 5).toNat) n + m_sm (fun j => max 0 (g 6 j ((n : Nat) : Int))) ((g 0 0 5).toNat)))), (7, .int (iI (m_sm (fun b => g 2 b 10) n))), (6, .int (iI (m_sm (fun b => g 2 b 9) n))), (4, .int (iI (g 0 0 4))), (3, .int (iI (g 0 0 9))), (0, .ref (a 0)), (1, .int (iI (g 0 0 3))), (2, .int (iI (g 0 0 5)))]) hx hb dL_isSo_200 hl (by decide) rfl (fun ls hl => ?_)
            refine lv_iload hx hb dL_isSo_202 (lv_at hl 12 rfl) ?_
            refine lv_aload_n hx hb dL_isSo_204 rfl (lv_at hl 15 rfl) ?_
            refine lv_iload hx hb dL_isSo_205 (lv_at hl 6 rfl) ?_
            refine lv_iconst (v := iI 3) hx hb dL_isSo_207 (by decide) ?_
            refine va_calli (va_runV (As := [.int (iI ((n : Nat) : Int)), .int (iI 3)]) (rest := [.int (iI (m_sm (fun b => g 2 b 9) n))]) ⟨hx, hb, hml, hown, hw⟩ (c_ofBook l D a cH cB cJ cI ha g vq H.size ((n : Nat) : Int) 3 hWf (by omega) (by omega)) (cwV 2 hw (gA_V kw_206 kw_207 kw_208 kw_2 kw_209) rfl rfl rfl (by decide +kernel) ⟨Nat.le_of_ble_eq_true rfl, Nat.le_of_ble_eq_true rfl⟩) (pS_v (ci := 4) (q0 := 0) rfl pw_0 hP hK hE) rfl rfl hl.1 rfl (lv_room (Nat.le_of_ble_eq_true rfl)) dL_isSo_208 ⟨Nat.le_of_ble_eq_true rfl, Nat.le_of_ble_eq_true rfl⟩) hS (fun q h1 h2 => ro_A h1 h2) (fun q h => ro_F hS hA q h) (fun r u t H1 locs ht hvm hw9 hB9 hz1 hk1 hS => ?_)
            have hw9 : r = (iI (m_ofBook g ((n : Nat) : Int) 3)) := hw9
            subst hw9
            have hP := ro_P hP hk1
            have hX := ro_P hX hk1
            generalize H1 = H at hP hX hS ⊢
            rw [show (m_ofBook g ((n : Nat) : Int) 3) = (g 2 ((n : Nat) : Int) 9) from rfl]
            refine n_add hx hb dL_isSo_211 ?_
            refine lv_istore (lv' := [(6, .int (iI ((m_sm (fun b => g 2 b 9) n) + (g 2 ((n : Nat) : Int) 9)))), (5, .int (iI ((m_cnt (m_ent g) n) + (m_ib (m_ent g ((n : Nat) : Int)))))), (8, .int (iI ((m_sm (fun b => m_sm (fun j => m_ib (decide (0 ≤ g 6 j b))) (g 0 0 5).toNat) n) + (m_sm (fun j => m_ib (decide (0 ≤ g 6 j ((n : Nat) : Int)))) ((g 0 0 5).toNat))))), (17, .int (iI ((((g 0 0 5).toNat) : Nat) : Int))), (16, .int (iI (m_sm (fun j => m_ib (decide (0 ≤ g 6 j ((n : Nat) : Int)))) ((g 0 0 5).toNat)))), (15, .int (iI (m_cnt (fun j => m_fair g j (((n : Nat) : Int))) ((g 0 0 5).toNat)))), (14, .int (iI (m_standing g ((n : Nat) : Int)))), (13, .int (iI ((n : Nat) : Int))), (12, .ref q9), (11, .int (iI x11)), (10, .int (iI x10)), (9, .int (iI (m_sm (fun b => m_sm (fun j => max 0 (g 6 j b)) (g 0 0 5).toNat) n + m_sm (fun j => max 0 (g 6 j ((n : Nat) : Int))) ((g 0 0 5).toNat)))), (7, .int (iI (m_sm (fun b => g 2 b 10) n))), (4, .int (iI (g 0 0 4))), (3, .int (iI (g 0 0 9))), (0, .ref (a 0)), (1, .int (iI (g 0 0 3))), (2, .int (iI (g 0 0 5)))]) hx hb dL_isSo_212 hl (by decide) rfl (fun ls hl => ?_)
            refine lv_iload hx hb dL_isSo_214 (lv_at hl 12 rfl) ?_
            refine lv_aload_n hx hb dL_isSo_216 rfl (lv_at hl 15 rfl) ?_
            refine lv_iload hx hb dL_isSo_217 (lv_at hl 7 rfl) ?_
            refine lv_iconst (v := iI 4) hx hb dL_isSo_219 (by decide) ?_
            refine va_calli (va_runV (As := [.int (iI ((n : Nat) : Int)), .int (iI 4)]) (rest := [.int (iI (m_sm (fun b => g 2 b 10) n))]) ⟨hx, hb, hml, hown, hw⟩ (c_ofBook l D a cH cB cJ cI ha g vq H.size ((n : Nat) : Int) 4 hWf (by omega) (by omega)) (cwV 2 hw (gA_V kw_206 kw_207 kw_208 kw_2 kw_209) rfl rfl rfl (by decide +kernel) ⟨Nat.le_of_ble_eq_true rfl, Nat.le_of_ble_eq_true rfl⟩) (pS_v (ci := 4) (q0 := 0) rfl pw_0 hP hK hE) rfl rfl hl.1 rfl (lv_room (Nat.le_of_ble_eq_true rfl)) dL_isSo_220 ⟨Nat.le_of_ble_eq_true rfl, Nat.le_of_ble_eq_true rfl⟩) hS (fun q h1 h2 => ro_A h1 h2) (fun q h => ro_F hS hA q h) (fun r u t H1 locs ht hvm hw9 hB9 hz1 hk1 hS => ?_)
            have hw9 : r = (iI (m_ofBook g ((n : Nat) : Int) 4)) := hw9
            subst hw9
            have hP := ro_P hP hk1
            have hX := ro_P hX hk1
            generalize H1 = H at hP hX hS ⊢
            rw [show (m_ofBook g ((n : Nat) : Int) 4) = (g 2 ((n : Nat) : Int) 10) from rfl]
            refine n_add hx hb dL_isSo_223 ?_
            refine lv_istore (lv' := [(7, .int (iI ((m_sm (fun b => g 2 b 10) n) + (g 2 ((n : Nat) : Int) 10)))), (6, .int (iI ((m_sm (fun b => g 2 b 9) n) + (g 2 ((n : Nat) : Int) 9)))), (5, .int (iI ((m_cnt (m_ent g) n) + (m_ib (m_ent g ((n : Nat) : Int)))))), (8, .int (iI ((m_sm (fun b => m_sm (fun j => m_ib (decide (0 ≤ g 6 j b))) (g 0 0 5).toNat) n) + (m_sm (fun j => m_ib (decide (0 ≤ g 6 j ((n : Nat) : Int)))) ((g 0 0 5).toNat))))), (17, .int (iI ((((g 0 0 5).toNat) : Nat) : Int))), (16, .int (iI (m_sm (fun j => m_ib (decide (0 ≤ g 6 j ((n : Nat) : Int)))) ((g 0 0 5).toNat)))), (15, .int (iI (m_cnt (fun j => m_fair g j (((n : Nat) : Int))) ((g 0 0 5).toNat)))), (14, .int (iI (m_standing g ((n : Nat) : Int)))), (13, .int (iI ((n : Nat) : Int))), (12, .ref q9), (11, .int (iI x11)), (10, .int (iI x10)), (9, .int (iI (m_sm (fun b => m_sm (fun j => max 0 (g 6 j b)) (g 0 0 5).toNat) n + m_sm (fun j => max 0 (g 6 j ((n : Nat) : Int))) ((g 0 0 5).toNat)))), (4, .int (iI (g 0 0 4))), (3, .int (iI (g 0 0 9))), (0, .ref (a 0)), (1, .int (iI (g 0 0 3))), (2, .int (iI (g 0 0 5)))]) hx hb dL_isSo_224 hl (by decide) rfl (fun ls hl => ?_)
            refine lv_iload hx hb dL_isSo_226 (lv_at hl 11 rfl) ?_
            refine lv_iload hx hb dL_isSo_228 (lv_at hl 7 rfl) ?_
            refine n_if_le hx hb (by unfold RI; omega) (tgt := 240) dL_isSo_230 (by decide) (fun h230 => absurd h230 (by intro h230; omega)) (fun h230 => ?_)
            refine lv_iconst (v := iI 1) hx hb dL_isSo_233 (by decide) ?_
            refine lv_iload hx hb dL_isSo_234 (lv_at hl 8 rfl) ?_
            refine n_shl1 hx hb (by omega) (by omega) dL_isSo_236 ?_
            have s231 := bt_nn ((n : Nat) : Int)
            refine lv_goto (tgt := 241) hx hb dL_isSo_237 (by decide) ?_
            have h16 := bo_16 (S := x10) (k := ((n : Nat) : Int)) (by omega) (by omega) (by omega)
            refine n_or hx hb (by omega) (by omega) dL_isSo_241 ?_
            have s232 := bo_nn x10 (m_bt ((n : Nat) : Int))
            refine lv_istore (lv' := [(10, .int (iI (m_bo x10 (m_bt ((n : Nat) : Int))))), (7, .int (iI ((m_sm (fun b => g 2 b 10) n) + (g 2 ((n : Nat) : Int) 10)))), (6, .int (iI ((m_sm (fun b => g 2 b 9) n) + (g 2 ((n : Nat) : Int) 9)))), (5, .int (iI ((m_cnt (m_ent g) n) + (m_ib (m_ent g ((n : Nat) : Int)))))), (8, .int (iI ((m_sm (fun b => m_sm (fun j => m_ib (decide (0 ≤ g 6 j b))) (g 0 0 5).toNat) n) + (m_sm (fun j => m_ib (decide (0 ≤ g 6 j ((n : Nat) : Int)))) ((g 0 0 5).toNat))))), (17, .int (iI ((((g 0 0 5).toNat) : Nat) : Int))), (16, .int (iI (m_sm (fun j => m_ib (decide (0 ≤ g 6 j ((n : Nat) : Int)))) ((g 0 0 5).toNat)))), (15, .int (iI (m_cnt (fun j => m_fair g j (((n : Nat) : Int))) ((g 0 0 5).toNat)))), (14, .int (iI (m_standing g ((n : Nat) : Int)))), (13, .int (iI ((n : Nat) : Int))), (12, .ref q9), (11, .int (iI x11)), (9, .int (iI (m_sm (fun b => m_sm (fun j => max 0 (g 6 j b)) (g 0 0 5).toNat) n + m_sm (fun j => max 0 (g 6 j ((n : Nat) : Int))) ((g 0 0 5).toNat)))), (4, .int (iI (g 0 0 4))), (3, .int (iI (g 0 0 9))), (0, .ref (a 0)), (1, .int (iI (g 0 0 3))), (2, .int (iI (g 0 0 5)))]) hx hb dL_isSo_242 hl (by decide) rfl (fun ls hl => ?_)
            refine lv_iload hx hb dL_isSo_244 (lv_at hl 11 rfl) ?_
            refine lv_iload hx hb dL_isSo_246 (lv_at hl 8 rfl) ?_
            refine lv_iconst (v := iI 1) hx hb dL_isSo_248 (by decide) ?_
            refine n_icmp_le hx hb (by unfold RI; omega) (by unfold RI; omega) (tgt := 259) dL_isSo_249 (by decide) (fun h233 => absurd h233 (by intro h233; omega)) (fun h233 => ?_)
            refine lv_iconst (v := iI 1) hx hb dL_isSo_252 (by decide) ?_
            refine lv_iload hx hb dL_isSo_253 (lv_at hl 9 rfl) ?_
            refine n_shl1 hx hb (by omega) (by omega) dL_isSo_255 ?_
            refine lv_goto (tgt := 260) hx hb dL_isSo_256 (by decide) ?_
            have h16 := bo_16 (S := x11) (k := ((n : Nat) : Int)) (by omega) (by omega) (by omega)
            refine n_or hx hb (by omega) (by omega) dL_isSo_260 ?_
            have s234 := bo_nn x11 (m_bt ((n : Nat) : Int))
            refine lv_istore (lv' := [(11, .int (iI (m_bo x11 (m_bt ((n : Nat) : Int))))), (10, .int (iI (m_bo x10 (m_bt ((n : Nat) : Int))))), (7, .int (iI ((m_sm (fun b => g 2 b 10) n) + (g 2 ((n : Nat) : Int) 10)))), (6, .int (iI ((m_sm (fun b => g 2 b 9) n) + (g 2 ((n : Nat) : Int) 9)))), (5, .int (iI ((m_cnt (m_ent g) n) + (m_ib (m_ent g ((n : Nat) : Int)))))), (8, .int (iI ((m_sm (fun b => m_sm (fun j => m_ib (decide (0 ≤ g 6 j b))) (g 0 0 5).toNat) n) + (m_sm (fun j => m_ib (decide (0 ≤ g 6 j ((n : Nat) : Int)))) ((g 0 0 5).toNat))))), (17, .int (iI ((((g 0 0 5).toNat) : Nat) : Int))), (16, .int (iI (m_sm (fun j => m_ib (decide (0 ≤ g 6 j ((n : Nat) : Int)))) ((g 0 0 5).toNat)))), (15, .int (iI (m_cnt (fun j => m_fair g j (((n : Nat) : Int))) ((g 0 0 5).toNat)))), (14, .int (iI (m_standing g ((n : Nat) : Int)))), (13, .int (iI ((n : Nat) : Int))), (12, .ref q9), (9, .int (iI (m_sm (fun b => m_sm (fun j => max 0 (g 6 j b)) (g 0 0 5).toNat) n + m_sm (fun j => max 0 (g 6 j ((n : Nat) : Int))) ((g 0 0 5).toNat)))), (4, .int (iI (g 0 0 4))), (3, .int (iI (g 0 0 9))), (0, .ref (a 0)), (1, .int (iI (g 0 0 3))), (2, .int (iI (g 0 0 5)))]) hx hb dL_isSo_261 hl (by decide) rfl (fun ls hl => ?_)
            refine lv_iload hx hb dL_isSo_263 (lv_at hl 9 rfl) ?_
            refine n_if_le hx hb (by unfold RI; omega) (tgt := 282) dL_isSo_265 (by decide) (fun h235 => absurd h235 (by intro h235; omega)) (fun h235 => ?_)
            refine lv_aload hx hb dL_isSo_268 (lv_at hl 11 rfl) ?_
            refine lv_aload_n hx hb dL_isSo_270 rfl (lv_at hl 15 rfl) ?_
            refine lv_iload hx hb dL_isSo_271 (lv_at hl 10 rfl) ?_
            refine lv_iconst (v := iI 0) hx hb dL_isSo_273 (by decide) ?_
            refine va_calli (va_runV (As := [.int (iI ((n : Nat) : Int)), .int (iI 0)]) (rest := [.ref q9]) ⟨hx, hb, hml, hown, hw⟩ (c_ofBook l D a cH cB cJ cI ha g vq H.size ((n : Nat) : Int) 0 hWf (by omega) (by omega)) (cwV 2 hw (gA_V kw_206 kw_207 kw_208 kw_2 kw_209) rfl rfl rfl (by decide +kernel) ⟨Nat.le_of_ble_eq_true rfl, Nat.le_of_ble_eq_true rfl⟩) (pS_v (ci := 4) (q0 := 0) rfl pw_0 hP hK hE) rfl rfl hl.1 rfl (lv_room (Nat.le_of_ble_eq_true rfl)) dL_isSo_274 ⟨Nat.le_of_ble_eq_true rfl, Nat.le_of_ble_eq_true rfl⟩) hS (fun q h1 h2 => ro_A h1 h2) (fun q h => ro_F hS hA q h) (fun r u t H1 locs ht hvm hw9 hB9 hz1 hk1 hS => ?_)
            have hw9 : r = (iI (m_ofBook g ((n : Nat) : Int) 0)) := hw9
            subst hw9
            have hP := ro_P hP hk1
            have hX := ro_P hX hk1
            generalize H1 = H at hP hX hS ⊢
            rw [show (m_ofBook g ((n : Nat) : Int) 0) = (g 2 ((n : Nat) : Int) 0) from rfl]
            have s236 := Wf.b0 hWf (k := ((n : Nat) : Int)) (by omega) (by omega)
            refine lv_dup2_11 hx hb dL_isSo_277 rfl rfl ?_
            refine p_xrd hx hb hK hX (k := (g 2 ((n : Nat) : Int) 0)) (by omega) (by omega) (by omega) dL_isSo_278 ?_
            rw [show fq1 ((g 2 ((n : Nat) : Int) 0)).toNat = iI (m_cnt (fun b => m_has (g 0 0 11) b && g 2 b 0 == (g 2 ((n : Nat) : Int) 0)) n) from hxf1 _ (by omega) (by omega)]
            refine lv_iconst (v := iI 1) hx hb dL_isSo_279 (by decide) ?_
            refine n_add hx hb dL_isSo_280 ?_
            refine p_xwr hx hb hK hP ha hB hX hq hqA hS (k := (g 2 ((n : Nat) : Int) 0)) (x := iI ((m_cnt (fun b => m_has (g 0 0 11) b && g 2 b 0 == (g 2 ((n : Nat) : Int) 0)) n) + 1)) (by omega) (by omega) (by omega) dL_isSo_281 (fun H locs hP hX hS => ?_)
            obtain ⟨fx237, hfx237⟩ : ∃ z, z = upd fq1 ((g 2 ((n : Nat) : Int) 0)).toNat (iI ((m_cnt (fun b => m_has (g 0 0 11) b && g 2 b 0 == (g 2 ((n : Nat) : Int) 0)) n) + 1)) := ⟨_, rfl⟩
            rw [← hfx237] at hX
            refine lv_iload hx hb dL_isSo_282 (lv_at hl 7 rfl) ?_
            refine lv_iconst (v := iI 3) hx hb dL_isSo_284 (by decide) ?_
            refine n_icmp_gt hx hb (by unfold RI; omega) (by unfold RI; omega) (tgt := 373) dL_isSo_285 (by decide) (fun h238 => absurd h238 (by intro h238; omega)) (fun h238 => ?_)
            refine lv_iload hx hb dL_isSo_288 (lv_at hl 8 rfl) ?_
            refine lv_aload_n hx hb dL_isSo_290 rfl (lv_at hl 15 rfl) ?_
            refine lv_iload hx hb dL_isSo_291 (lv_at hl 10 rfl) ?_
            refine lv_bipush (v := iI 9) hx hb dL_isSo_293 (by decide) ?_
            refine va_calli (va_runV (As := [.int (iI ((n : Nat) : Int)), .int (iI 9)]) (rest := [.int (iI (m_cnt (fun j => m_fair g j (((n : Nat) : Int))) ((g 0 0 5).toNat)))]) ⟨hx, hb, hml, hown, hw⟩ (c_ofBook l D a cH cB cJ cI ha g vq H.size ((n : Nat) : Int) 9 hWf (by omega) (by omega)) (cwV 2 hw (gA_V kw_206 kw_207 kw_208 kw_2 kw_209) rfl rfl rfl (by decide +kernel) ⟨Nat.le_of_ble_eq_true rfl, Nat.le_of_ble_eq_true rfl⟩) (pS_v (ci := 4) (q0 := 0) rfl pw_0 hP hK hE) rfl rfl hl.1 rfl (lv_room (Nat.le_of_ble_eq_true rfl)) dL_isSo_295 ⟨Nat.le_of_ble_eq_true rfl, Nat.le_of_ble_eq_true rfl⟩) hS (fun q h1 h2 => ro_A h1 h2) (fun q h => ro_F hS hA q h) (fun r u t H1 locs ht hvm hw9 hB9 hz1 hk1 hS => ?_)
            have hw9 : r = (iI (m_ofBook g ((n : Nat) : Int) 9)) := hw9
            subst hw9
            have hP := ro_P hP hk1
            have hX := ro_P hX hk1
            generalize H1 = H at hP hX hS ⊢
            rw [show (m_ofBook g ((n : Nat) : Int) 9) = (m_cnt (fun j => m_fair g j ((n : Nat) : Int)) (g 0 0 5).toNat) from rfl]
            refine n_icmp_ne hx hb (by unfold RI; omega) (by unfold RI; omega) (tgt := 373) dL_isSo_298 (by decide) (fun h239 => absurd h239 (by intro h239; exact h239 rfl)) (fun h239 => ?_)
            refine lv_iload hx hb dL_isSo_301 (lv_at hl 8 rfl) ?_
            refine n_if_ne hx hb (by unfold RI; omega) (tgt := 317) dL_isSo_303 (by decide) (fun h240 => ?_) (fun h240 => ?_)
            · skip
              refine lv_iload hx hb dL_isSo_317 (lv_at hl 9 rfl) ?_
              refine n_if_le hx hb (by unfold RI; omega) (tgt := 333) dL_isSo_319 (by decide) (fun h241 => absurd h241 (by intro h241; omega)) (fun h241 => ?_)
              refine lv_aload_n hx hb dL_isSo_322 rfl (lv_at hl 15 rfl) ?_
              refine lv_iload hx hb dL_isSo_323 (lv_at hl 10 rfl) ?_
              refine lv_bipush (v := iI 6) hx hb dL_isSo_325 (by decide) ?_
              refine va_calli (va_runV (As := [.int (iI ((n : Nat) : Int)), .int (iI 6)]) (rest := []) ⟨hx, hb, hml, hown, hw⟩ (c_ofBook l D a cH cB cJ cI ha g vq H.size ((n : Nat) : Int) 6 hWf (by omega) (by omega)) (cwV 2 hw (gA_V kw_206 kw_207 kw_208 kw_2 kw_209) rfl rfl rfl (by decide +kernel) ⟨Nat.le_of_ble_eq_true rfl, Nat.le_of_ble_eq_true rfl⟩) (pS_v (ci := 4) (q0 := 0) rfl pw_0 hP hK hE) rfl rfl hl.1 rfl (lv_room (Nat.le_of_ble_eq_true rfl)) dL_isSo_327 ⟨Nat.le_of_ble_eq_true rfl, Nat.le_of_ble_eq_true rfl⟩) hS (fun q h1 h2 => ro_A h1 h2) (fun q h => ro_F hS hA q h) (fun r u t H1 locs ht hvm hw9 hB9 hz1 hk1 hS => ?_)
              have hw9 : r = (iI (m_ofBook g ((n : Nat) : Int) 6)) := hw9
              subst hw9
              have hP := ro_P hP hk1
              have hX := ro_P hX hk1
              generalize H1 = H at hP hX hS ⊢
              rw [show (m_ofBook g ((n : Nat) : Int) 6) = (m_ib (m_ent g ((n : Nat) : Int))) from rfl]
              refine n_if_eq hx hb (by unfold RI; omega) (tgt := 373) dL_isSo_330 (by decide) (fun h242 => absurd h242 (by intro h242; omega)) (fun h242 => ?_)
              refine lv_iload hx hb dL_isSo_333 (lv_at hl 9 rfl) ?_
              refine lv_iconst (v := iI 3) hx hb dL_isSo_335 (by decide) ?_
              refine n_icmp_ne hx hb (by unfold RI; omega) (by unfold RI; omega) (tgt := 343) dL_isSo_336 (by decide) (fun h243 => ?_) (fun h243 => absurd h243 (by intro h243; omega))
              refine lv_iconst (v := iI 0) hx hb dL_isSo_343 (by decide) ?_
              refine lv_aload_n hx hb dL_isSo_344 rfl (lv_at hl 15 rfl) ?_
              refine lv_bipush (v := iI 9) hx hb dL_isSo_345 (by decide) ?_
              refine va_calli (va_runV (As := [.int (iI 9)]) (rest := [.int (iI 0)]) ⟨hx, hb, hml, hown, hw⟩ (c_many l D a cH cB cJ cI ha g vq H.size 9 hWf (by omega)) (cwV 1 hw (gA_V kw_92 kw_93 kw_94 kw_2 kw_95) rfl rfl rfl (by decide +kernel) ⟨Nat.le_of_ble_eq_true rfl, Nat.le_of_ble_eq_true rfl⟩) (pS_v (ci := 4) (q0 := 0) rfl pw_0 hP hK hE) rfl rfl hl.1 rfl (lv_room (Nat.le_of_ble_eq_true rfl)) dL_isSo_347 ⟨Nat.le_of_ble_eq_true rfl, Nat.le_of_ble_eq_true rfl⟩) hS (fun q h1 h2 => ro_A h1 h2) (fun q h => ro_F hS hA q h) (fun r u t H1 locs ht hvm hw9 hB9 hz1 hk1 hS => ?_)
              have hw9 : r = (iI (m_many g 9)) := hw9
              subst hw9
              have hP := ro_P hP hk1
              have hX := ro_P hX hk1
              generalize H1 = H at hP hX hS ⊢
              rw [show (m_many g 9) = (g 0 0 14) from rfl]
              have s244 := Wf.m14 hWf
              refine lv_iload hx hb dL_isSo_350 (lv_at hl 10 rfl) ?_
              refine n_icmp_ne hx hb (by unfold RI; omega) (by unfold RI; omega) (tgt := 359) dL_isSo_352 (by decide) (fun h245 => ?_) (fun h245 => absurd h245 (by intro h245; omega))
              refine lv_iconst (v := iI 0) hx hb dL_isSo_359 (by decide) ?_
              refine n_icmp_ne hx hb (by unfold RI; omega) (by unfold RI; omega) (tgt := 373) dL_isSo_360 (by decide) (fun h246 => absurd h246 (by intro h246; omega)) (fun h246 => ?_)
              refine lv_aload_n hx hb dL_isSo_363 rfl (lv_at hl 15 rfl) ?_
              refine lv_iload hx hb dL_isSo_364 (lv_at hl 10 rfl) ?_
              refine lv_iconst (v := iI 2) hx hb dL_isSo_366 (by decide) ?_
              refine va_calli (va_runV (As := [.int (iI ((n : Nat) : Int)), .int (iI 2)]) (rest := []) ⟨hx, hb, hml, hown, hw⟩ (c_ofBook l D a cH cB cJ cI ha g vq H.size ((n : Nat) : Int) 2 hWf (by omega) (by omega)) (cwV 2 hw (gA_V kw_206 kw_207 kw_208 kw_2 kw_209) rfl rfl rfl (by decide +kernel) ⟨Nat.le_of_ble_eq_true rfl, Nat.le_of_ble_eq_true rfl⟩) (pS_v (ci := 4) (q0 := 0) rfl pw_0 hP hK hE) rfl rfl hl.1 rfl (lv_room (Nat.le_of_ble_eq_true rfl)) dL_isSo_367 ⟨Nat.le_of_ble_eq_true rfl, Nat.le_of_ble_eq_true rfl⟩) hS (fun q h1 h2 => ro_A h1 h2) (fun q h => ro_F hS hA q h) (fun r u t H1 locs ht hvm hw9 hB9 hz1 hk1 hS => ?_)
              have hw9 : r = (iI (m_ofBook g ((n : Nat) : Int) 2)) := hw9
              subst hw9
              have hP := ro_P hP hk1
              have hX := ro_P hX hk1
              generalize H1 = H at hP hX hS ⊢
              rw [show (m_ofBook g ((n : Nat) : Int) 2) = (g 2 ((n : Nat) : Int) 8) from rfl]
              have s247 := Wf.b8 hWf (k := ((n : Nat) : Int)) (by omega) (by omega)
              refine n_if_ge hx hb (by unfold RI; omega) (tgt := 375) dL_isSo_370 (by decide) (fun h248 => ?_) (fun h248 => absurd h248 (by intro h248; omega))
              refine lv_aload_n hx hb dL_isSo_375 rfl (lv_at hl 15 rfl) ?_
              refine lv_iload hx hb dL_isSo_376 (lv_at hl 10 rfl) ?_
              refine va_calli (va_runV (As := [.int (iI ((n : Nat) : Int))]) (rest := []) ⟨hx, hb, hml, hown, hw⟩ (c_spoiled l D a cH cB cJ cI ha g vq H.size ((n : Nat) : Int) hWf (by omega) (hsb)) (cwV 1 hw (gA_V kw_455 kw_456 kw_457 kw_2 kw_458) rfl rfl rfl (by decide +kernel) ⟨Nat.le_of_ble_eq_true rfl, Nat.le_of_ble_eq_true rfl⟩) (pS_v (ci := 4) (q0 := 0) rfl pw_0 hP hK hE) rfl rfl hl.1 rfl (lv_room (Nat.le_of_ble_eq_true rfl)) dL_isSo_378 ⟨Nat.le_of_ble_eq_true rfl, Nat.le_of_ble_eq_true rfl⟩) hS (fun q _ h => rw_A hS hA hB q h) (fun q h => rw_A hS hA hB q h) (fun r u t H1 locs ht hvm hw9 hB9 hz1 hk1 hS => ?_)
              have hw9 : r = (iI (m_spoiled g ((n : Nat) : Int))) := hw9
              subst hw9
              obtain ⟨v249, hP1⟩ := hB9
              rw [ht] at hP1
              have hP : va_P D vwCl (pw a cH cB cJ cI g v249) H1 := hP1
              have hX := rw_X hX hq hk1
              generalize H1 = H at hP hX hS ⊢
              have s250 := spo_b hWf ((n : Nat) : Int)
              refine lv_iload hx hb dL_isSo_381 (lv_at hl 10 rfl) ?_
              refine n_icmp_eq hx hb (by unfold RI; omega) (by unfold RI; omega) (tgt := 402) dL_isSo_383 (by decide) (fun h251 => absurd h251 (by intro h251; omega)) (fun h251 => ?_)
              refine lv_iload hx hb dL_isSo_386 (lv_at hl 9 rfl) ?_
              refine lv_iconst (v := iI 2) hx hb dL_isSo_388 (by decide) ?_
              refine n_icmp_ge hx hb (by unfold RI; omega) (by unfold RI; omega) (tgt := 404) dL_isSo_389 (by decide) (fun h252 => ?_) (fun h252 => ?_)
              · skip
                refine n_inc (lv' := [(13, .int (iI (((n : Nat) : Int) + 1))), (11, .int (iI (m_bo x11 (m_bt ((n : Nat) : Int))))), (10, .int (iI (m_bo x10 (m_bt ((n : Nat) : Int))))), (7, .int (iI ((m_sm (fun b => g 2 b 10) n) + (g 2 ((n : Nat) : Int) 10)))), (6, .int (iI ((m_sm (fun b => g 2 b 9) n) + (g 2 ((n : Nat) : Int) 9)))), (5, .int (iI ((m_cnt (m_ent g) n) + (m_ib (m_ent g ((n : Nat) : Int)))))), (8, .int (iI ((m_sm (fun b => m_sm (fun j => m_ib (decide (0 ≤ g 6 j b))) (g 0 0 5).toNat) n) + (m_sm (fun j => m_ib (decide (0 ≤ g 6 j ((n : Nat) : Int)))) ((g 0 0 5).toNat))))), (17, .int (iI ((((g 0 0 5).toNat) : Nat) : Int))), (16, .int (iI (m_sm (fun j => m_ib (decide (0 ≤ g 6 j ((n : Nat) : Int)))) ((g 0 0 5).toNat)))), (15, .int (iI (m_cnt (fun j => m_fair g j (((n : Nat) : Int))) ((g 0 0 5).toNat)))), (14, .int (iI (m_standing g ((n : Nat) : Int)))), (12, .ref q9), (9, .int (iI (m_sm (fun b => m_sm (fun j => max 0 (g 6 j b)) (g 0 0 5).toNat) n + m_sm (fun j => max 0 (g 6 j ((n : Nat) : Int))) ((g 0 0 5).toNat)))), (4, .int (iI (g 0 0 4))), (3, .int (iI (g 0 0 9))), (0, .ref (a 0)), (1, .int (iI (g 0 0 3))), (2, .int (iI (g 0 0 5)))]) hx hb dL_isSo_404 hl (k := 10) rfl (by decide) rfl (fun ls hl => ?_)
                refine lv_goto (tgt := 42) hx hb dL_isSo_407 (by decide) ?_
                have hl : lv_has ls 19 [(13, .int (iI (((n : Nat) : Int) + 1))), (12, .ref q9), (11, .int (iI (m_bo x11 (m_bt ((n : Nat) : Int))))), (10, .int (iI (m_bo x10 (m_bt ((n : Nat) : Int))))), (9, .int (iI (m_sm (fun b => m_sm (fun j => max 0 (g 6 j b)) (g 0 0 5).toNat) n + m_sm (fun j => max 0 (g 6 j ((n : Nat) : Int))) ((g 0 0 5).toNat)))), (8, .int (iI ((m_sm (fun b => m_sm (fun j => m_ib (decide (0 ≤ g 6 j b))) (g 0 0 5).toNat) n) + (m_sm (fun j => m_ib (decide (0 ≤ g 6 j ((n : Nat) : Int)))) ((g 0 0 5).toNat))))), (7, .int (iI ((m_sm (fun b => g 2 b 10) n) + (g 2 ((n : Nat) : Int) 10)))), (6, .int (iI ((m_sm (fun b => g 2 b 9) n) + (g 2 ((n : Nat) : Int) 9)))), (5, .int (iI ((m_cnt (m_ent g) n) + (m_ib (m_ent g ((n : Nat) : Int)))))), (4, .int (iI (g 0 0 4))), (3, .int (iI (g 0 0 9))), (0, .ref (a 0)), (1, .int (iI (g 0 0 3))), (2, .int (iI (g 0 0 5)))] := lv_sub hl [0, 11, 1, 2, 12, 6, 3, 4, 5, 13, 14, 15, 16, 17] rfl
                have e253 : (((n : Nat) : Int) + 1) = (((n + 1) : Nat) : Int) := by rfl
                have e254 : (m_sm (fun b => m_sm (fun j => max 0 (g 6 j b)) (g 0 0 5).toNat) n + m_sm (fun j => max 0 (g 6 j ((n : Nat) : Int))) ((g 0 0 5).toNat)) = (m_sm (fun b => m_sm (fun j => max 0 (g 6 j b)) (g 0 0 5).toNat) (n + 1)) := by rfl
                have e255 : ((m_sm (fun b => m_sm (fun j => m_ib (decide (0 ≤ g 6 j b))) (g 0 0 5).toNat) n) + (m_sm (fun j => m_ib (decide (0 ≤ g 6 j ((n : Nat) : Int)))) ((g 0 0 5).toNat))) = (m_sm (fun b => m_sm (fun j => m_ib (decide (0 ≤ g 6 j b))) (g 0 0 5).toNat) (n + 1)) := by rfl
                have e256 : ((m_sm (fun b => g 2 b 10) n) + (g 2 ((n : Nat) : Int) 10)) = (m_sm (fun b => g 2 b 10) (n + 1)) := by rfl
                have e257 : ((m_sm (fun b => g 2 b 9) n) + (g 2 ((n : Nat) : Int) 9)) = (m_sm (fun b => g 2 b 9) (n + 1)) := by rfl
                have e258 : ((m_cnt (m_ent g) n) + (m_ib (m_ent g ((n : Nat) : Int)))) = (m_cnt (m_ent g) (n + 1)) := by rfl
                have hl : lv_has ls 19 [(13, .int (iI (((n + 1) : Nat) : Int))), (12, .ref q9), (11, .int (iI (m_bo x11 (m_bt ((n : Nat) : Int))))), (10, .int (iI (m_bo x10 (m_bt ((n : Nat) : Int))))), (9, .int (iI (m_sm (fun b => m_sm (fun j => max 0 (g 6 j b)) (g 0 0 5).toNat) (n + 1)))), (8, .int (iI (m_sm (fun b => m_sm (fun j => m_ib (decide (0 ≤ g 6 j b))) (g 0 0 5).toNat) (n + 1)))), (7, .int (iI (m_sm (fun b => g 2 b 10) (n + 1)))), (6, .int (iI (m_sm (fun b => g 2 b 9) (n + 1)))), (5, .int (iI (m_cnt (m_ent g) (n + 1)))), (4, .int (iI (g 0 0 4))), (3, .int (iI (g 0 0 9))), (0, .ref (a 0)), (1, .int (iI (g 0 0 3))), (2, .int (iI (g 0 0 5)))] := lv_cast hl (by rw [e253, e254, e255, e256, e257, e258])
                exact ih42 (n + 1) (m_bo x10 (m_bt ((n : Nat) : Int))) (m_bo x11 (m_bt ((n : Nat) : Int))) v249 fx237 H locs ls (by omega) (by first | (rw [fo_s, ← hx10, h11]; rfl)) (by first | (rw [fo_s, ← hx11, h13]; rfl)) (by omega) (sx_yes hxf1 h11 (by omega) hfx237) hX hP hS hl
              · skip
                refine lv_aload_n hx hb dL_isSo_392 rfl (lv_at hl 15 rfl) ?_
                refine lv_iload hx hb dL_isSo_393 (lv_at hl 10 rfl) ?_
                refine va_calli (va_runV (As := [.int (iI ((n : Nat) : Int))]) (rest := []) ⟨hx, hb, hml, hown, hw⟩ (c_spoiled l D a cH cB cJ cI ha g v249 H.size ((n : Nat) : Int) hWf (by omega) (hsb)) (cwV 1 hw (gA_V kw_455 kw_456 kw_457 kw_2 kw_458) rfl rfl rfl (by decide +kernel) ⟨Nat.le_of_ble_eq_true rfl, Nat.le_of_ble_eq_true rfl⟩) (pS_v (ci := 4) (q0 := 0) rfl pw_0 hP hK hE) rfl rfl hl.1 rfl (lv_room (Nat.le_of_ble_eq_true rfl)) dL_isSo_395 ⟨Nat.le_of_ble_eq_true rfl, Nat.le_of_ble_eq_true rfl⟩) hS (fun q _ h => rw_A hS hA hB q h) (fun q h => rw_A hS hA hB q h) (fun r u t H1 locs ht hvm hw9 hB9 hz1 hk1 hS => ?_)
                have hw9 : r = (iI (m_spoiled g ((n : Nat) : Int))) := hw9
                subst hw9
                obtain ⟨v259, hP1⟩ := hB9
                rw [ht] at hP1
                have hP : va_P D vwCl (pw a cH cB cJ cI g v259) H1 := hP1
                have hX := rw_X hX hq hk1
                generalize H1 = H at hP hX hS ⊢
                refine lv_iconst (v := iI (-1)) hx hb dL_isSo_398 (by decide) ?_
                refine n_icmp_eq hx hb (by unfold RI; omega) (by unfold RI; omega) (tgt := 404) dL_isSo_399 (by decide) (fun h260 => ?_) (fun h260 => absurd h260 (by intro h260; omega))
                refine n_inc (lv' := [(13, .int (iI (((n : Nat) : Int) + 1))), (11, .int (iI (m_bo x11 (m_bt ((n : Nat) : Int))))), (10, .int (iI (m_bo x10 (m_bt ((n : Nat) : Int))))), (7, .int (iI ((m_sm (fun b => g 2 b 10) n) + (g 2 ((n : Nat) : Int) 10)))), (6, .int (iI ((m_sm (fun b => g 2 b 9) n) + (g 2 ((n : Nat) : Int) 9)))), (5, .int (iI ((m_cnt (m_ent g) n) + (m_ib (m_ent g ((n : Nat) : Int)))))), (8, .int (iI ((m_sm (fun b => m_sm (fun j => m_ib (decide (0 ≤ g 6 j b))) (g 0 0 5).toNat) n) + (m_sm (fun j => m_ib (decide (0 ≤ g 6 j ((n : Nat) : Int)))) ((g 0 0 5).toNat))))), (17, .int (iI ((((g 0 0 5).toNat) : Nat) : Int))), (16, .int (iI (m_sm (fun j => m_ib (decide (0 ≤ g 6 j ((n : Nat) : Int)))) ((g 0 0 5).toNat)))), (15, .int (iI (m_cnt (fun j => m_fair g j (((n : Nat) : Int))) ((g 0 0 5).toNat)))), (14, .int (iI (m_standing g ((n : Nat) : Int)))), (12, .ref q9), (9, .int (iI (m_sm (fun b => m_sm (fun j => max 0 (g 6 j b)) (g 0 0 5).toNat) n + m_sm (fun j => max 0 (g 6 j ((n : Nat) : Int))) ((g 0 0 5).toNat)))), (4, .int (iI (g 0 0 4))), (3, .int (iI (g 0 0 9))), (0, .ref (a 0)), (1, .int (iI (g 0 0 3))), (2, .int (iI (g 0 0 5)))]) hx hb dL_isSo_404 hl (k := 10) rfl (by decide) rfl (fun ls hl => ?_)
                refine lv_goto (tgt := 42) hx hb dL_isSo_407 (by decide) ?_
                have hl : lv_has ls 19 [(13, .int (iI (((n : Nat) : Int) + 1))), (12, .ref q9), (11, .int (iI (m_bo x11 (m_bt ((n : Nat) : Int))))), (10, .int (iI (m_bo x10 (m_bt ((n : Nat) : Int))))), (9, .int (iI (m_sm (fun b => m_sm (fun j => max 0 (g 6 j b)) (g 0 0 5).toNat) n + m_sm (fun j => max 0 (g 6 j ((n : Nat) : Int))) ((g 0 0 5).toNat)))), (8, .int (iI ((m_sm (fun b => m_sm (fun j => m_ib (decide (0 ≤ g 6 j b))) (g 0 0 5).toNat) n) + (m_sm (fun j => m_ib (decide (0 ≤ g 6 j ((n : Nat) : Int)))) ((g 0 0 5).toNat))))), (7, .int (iI ((m_sm (fun b => g 2 b 10) n) + (g 2 ((n : Nat) : Int) 10)))), (6, .int (iI ((m_sm (fun b => g 2 b 9) n) + (g 2 ((n : Nat) : Int) 9)))), (5, .int (iI ((m_cnt (m_ent g) n) + (m_ib (m_ent g ((n : Nat) : Int)))))), (4, .int (iI (g 0 0 4))), (3, .int (iI (g 0 0 9))), (0, .ref (a 0)), (1, .int (iI (g 0 0 3))), (2, .int (iI (g 0 0 5)))] := lv_sub hl [0, 11, 1, 2, 12, 6, 3, 4, 5, 13, 14, 15, 16, 17] rfl
                have e261 : (((n : Nat) : Int) + 1) = (((n + 1) : Nat) : Int) := by rfl
                have e262 : (m_sm (fun b => m_sm (fun j => max 0 (g 6 j b)) (g 0 0 5).toNat) n + m_sm (fun j => max 0 (g 6 j ((n : Nat) : Int))) ((g 0 0 5).toNat)) = (m_sm (fun b => m_sm (fun j => max 0 (g 6 j b)) (g 0 0 5).toNat) (n + 1)) := by rfl
                have e263 : ((m_sm (fun b => m_sm (fun j => m_ib (decide (0 ≤ g 6 j b))) (g 0 0 5).toNat) n) + (m_sm (fun j => m_ib (decide (0 ≤ g 6 j ((n : Nat) : Int)))) ((g 0 0 5).toNat))) = (m_sm (fun b => m_sm (fun j => m_ib (decide (0 ≤ g 6 j b))) (g 0 0 5).toNat) (n + 1)) := by rfl
                have e264 : ((m_sm (fun b => g 2 b 10) n) + (g 2 ((n : Nat) : Int) 10)) = (m_sm (fun b => g 2 b 10) (n + 1)) := by rfl
                have e265 : ((m_sm (fun b => g 2 b 9) n) + (g 2 ((n : Nat) : Int) 9)) = (m_sm (fun b => g 2 b 9) (n + 1)) := by rfl
                have e266 : ((m_cnt (m_ent g) n) + (m_ib (m_ent g ((n : Nat) : Int)))) = (m_cnt (m_ent g) (n + 1)) := by rfl
                have hl : lv_has ls 19 [(13, .int (iI (((n + 1) : Nat) : Int))), (12, .ref q9), (11, .int (iI (m_bo x11 (m_bt ((n : Nat) : Int))))), (10, .int (iI (m_bo x10 (m_bt ((n : Nat) : Int))))), (9, .int (iI (m_sm (fun b => m_sm (fun j => max 0 (g 6 j b)) (g 0 0 5).toNat) (n + 1)))), (8, .int (iI (m_sm (fun b => m_sm (fun j => m_ib (decide (0 ≤ g 6 j b))) (g 0 0 5).toNat) (n + 1)))), (7, .int (iI (m_sm (fun b => g 2 b 10) (n + 1)))), (6, .int (iI (m_sm (fun b => g 2 b 9) (n + 1)))), (5, .int (iI (m_cnt (m_ent g) (n + 1)))), (4, .int (iI (g 0 0 4))), (3, .int (iI (g 0 0 9))), (0, .ref (a 0)), (1, .int (iI (g 0 0 3))), (2, .int (iI (g 0 0 5)))] := lv_cast hl (by rw [e261, e262, e263, e264, e265, e266])
                exact ih42 (n + 1) (m_bo x10 (m_bt ((n : Nat) : Int))) (m_bo x11 (m_bt ((n : Nat) : Int))) v259 fx237 H locs ls (by omega) (by first | (rw [fo_s, ← hx10, h11]; rfl)) (by first | (rw [fo_s, ← hx11, h13]; rfl)) (by omega) (sx_yes hxf1 h11 (by omega) hfx237) hX hP hS hl
            · skip
              refine lv_aload_n hx hb dL_isSo_306 rfl (lv_at hl 15 rfl) ?_
              refine lv_iload hx hb dL_isSo_307 (lv_at hl 10 rfl) ?_
              refine lv_bipush (v := iI 8) hx hb dL_isSo_309 (by decide) ?_
              refine va_calli (va_runV (As := [.int (iI ((n : Nat) : Int)), .int (iI 8)]) (rest := []) ⟨hx, hb, hml, hown, hw⟩ (c_ofBook l D a cH cB cJ cI ha g vq H.size ((n : Nat) : Int) 8 hWf (by omega) (by omega)) (cwV 2 hw (gA_V kw_206 kw_207 kw_208 kw_2 kw_209) rfl rfl rfl (by decide +kernel) ⟨Nat.le_of_ble_eq_true rfl, Nat.le_of_ble_eq_true rfl⟩) (pS_v (ci := 4) (q0 := 0) rfl pw_0 hP hK hE) rfl rfl hl.1 rfl (lv_room (Nat.le_of_ble_eq_true rfl)) dL_isSo_311 ⟨Nat.le_of_ble_eq_true rfl, Nat.le_of_ble_eq_true rfl⟩) hS (fun q h1 h2 => ro_A h1 h2) (fun q h => ro_F hS hA q h) (fun r u t H1 locs ht hvm hw9 hB9 hz1 hk1 hS => ?_)
              have hw9 : r = (iI (m_ofBook g ((n : Nat) : Int) 8)) := hw9
              subst hw9
              have hP := ro_P hP hk1
              have hX := ro_P hX hk1
              generalize H1 = H at hP hX hS ⊢
              rw [show (m_ofBook g ((n : Nat) : Int) 8) = 0 from (show m_score g ↑n = 0 from by unfold m_score; exact if_pos h240)]
              refine n_if_ne hx hb (by unfold RI; omega) (tgt := 373) dL_isSo_314 (by decide) (fun h267 => absurd h267 (by intro h267; omega)) (fun h267 => ?_)
              refine lv_iload hx hb dL_isSo_317 (lv_at hl 9 rfl) ?_
              refine n_if_le hx hb (by unfold RI; omega) (tgt := 333) dL_isSo_319 (by decide) (fun h268 => absurd h268 (by intro h268; omega)) (fun h268 => ?_)
              refine lv_aload_n hx hb dL_isSo_322 rfl (lv_at hl 15 rfl) ?_
              refine lv_iload hx hb dL_isSo_323 (lv_at hl 10 rfl) ?_
              refine lv_bipush (v := iI 6) hx hb dL_isSo_325 (by decide) ?_
              refine va_calli (va_runV (As := [.int (iI ((n : Nat) : Int)), .int (iI 6)]) (rest := []) ⟨hx, hb, hml, hown, hw⟩ (c_ofBook l D a cH cB cJ cI ha g vq H.size ((n : Nat) : Int) 6 hWf (by omega) (by omega)) (cwV 2 hw (gA_V kw_206 kw_207 kw_208 kw_2 kw_209) rfl rfl rfl (by decide +kernel) ⟨Nat.le_of_ble_eq_true rfl, Nat.le_of_ble_eq_true rfl⟩) (pS_v (ci := 4) (q0 := 0) rfl pw_0 hP hK hE) rfl rfl hl.1 rfl (lv_room (Nat.le_of_ble_eq_true rfl)) dL_isSo_327 ⟨Nat.le_of_ble_eq_true rfl, Nat.le_of_ble_eq_true rfl⟩) hS (fun q h1 h2 => ro_A h1 h2) (fun q h => ro_F hS hA q h) (fun r u t H1 locs ht hvm hw9 hB9 hz1 hk1 hS => ?_)
              have hw9 : r = (iI (m_ofBook g ((n : Nat) : Int) 6)) := hw9
              subst hw9
              have hP := ro_P hP hk1
              have hX := ro_P hX hk1
              generalize H1 = H at hP hX hS ⊢
              rw [show (m_ofBook g ((n : Nat) : Int) 6) = (m_ib (m_ent g ((n : Nat) : Int))) from rfl]
              refine n_if_eq hx hb (by unfold RI; omega) (tgt := 373) dL_isSo_330 (by decide) (fun h269 => absurd h269 (by intro h269; omega)) (fun h269 => ?_)
              refine lv_iload hx hb dL_isSo_333 (lv_at hl 9 rfl) ?_
              refine lv_iconst (v := iI 3) hx hb dL_isSo_335 (by decide) ?_
              refine n_icmp_ne hx hb (by unfold RI; omega) (by unfold RI; omega) (tgt := 343) dL_isSo_336 (by decide) (fun h270 => ?_) (fun h270 => absurd h270 (by intro h270; omega))
              refine lv_iconst (v := iI 0) hx hb dL_isSo_343 (by decide) ?_
              refine lv_aload_n hx hb dL_isSo_344 rfl (lv_at hl 15 rfl) ?_
              refine lv_bipush (v := iI 9) hx hb dL_isSo_345 (by decide) ?_
              refine va_calli (va_runV (As := [.int (iI 9)]) (rest := [.int (iI 0)]) ⟨hx, hb, hml, hown, hw⟩ (c_many l D a cH cB cJ cI ha g vq H.size 9 hWf (by omega)) (cwV 1 hw (gA_V kw_92 kw_93 kw_94 kw_2 kw_95) rfl rfl rfl (by decide +kernel) ⟨Nat.le_of_ble_eq_true rfl, Nat.le_of_ble_eq_true rfl⟩) (pS_v (ci := 4) (q0 := 0) rfl pw_0 hP hK hE) rfl rfl hl.1 rfl (lv_room (Nat.le_of_ble_eq_true rfl)) dL_isSo_347 ⟨Nat.le_of_ble_eq_true rfl, Nat.le_of_ble_eq_true rfl⟩) hS (fun q h1 h2 => ro_A h1 h2) (fun q h => ro_F hS hA q h) (fun r u t H1 locs ht hvm hw9 hB9 hz1 hk1 hS => ?_)
              have hw9 : r = (iI (m_many g 9)) := hw9
              subst hw9
              have hP := ro_P hP hk1
              have hX := ro_P hX hk1
              generalize H1 = H at hP hX hS ⊢
              rw [show (m_many g 9) = (g 0 0 14) from rfl]
              have s271 := Wf.m14 hWf
              refine lv_iload hx hb dL_isSo_350 (lv_at hl 10 rfl) ?_
              refine n_icmp_ne hx hb (by unfold RI; omega) (by unfold RI; omega) (tgt := 359) dL_isSo_352 (by decide) (fun h272 => ?_) (fun h272 => absurd h272 (by intro h272; omega))
              refine lv_iconst (v := iI 0) hx hb dL_isSo_359 (by decide) ?_
              refine n_icmp_ne hx hb (by unfold RI; omega) (by unfold RI; omega) (tgt := 373) dL_isSo_360 (by decide) (fun h273 => absurd h273 (by intro h273; omega)) (fun h273 => ?_)
              refine lv_aload_n hx hb dL_isSo_363 rfl (lv_at hl 15 rfl) ?_
              refine lv_iload hx hb dL_isSo_364 (lv_at hl 10 rfl) ?_
              refine lv_iconst (v := iI 2) hx hb dL_isSo_366 (by decide) ?_
              refine va_calli (va_runV (As := [.int (iI ((n : Nat) : Int)), .int (iI 2)]) (rest := []) ⟨hx, hb, hml, hown, hw⟩ (c_ofBook l D a cH cB cJ cI ha g vq H.size ((n : Nat) : Int) 2 hWf (by omega) (by omega)) (cwV 2 hw (gA_V kw_206 kw_207 kw_208 kw_2 kw_209) rfl rfl rfl (by decide +kernel) ⟨Nat.le_of_ble_eq_true rfl, Nat.le_of_ble_eq_true rfl⟩) (pS_v (ci := 4) (q0 := 0) rfl pw_0 hP hK hE) rfl rfl hl.1 rfl (lv_room (Nat.le_of_ble_eq_true rfl)) dL_isSo_367 ⟨Nat.le_of_ble_eq_true rfl, Nat.le_of_ble_eq_true rfl⟩) hS (fun q h1 h2 => ro_A h1 h2) (fun q h => ro_F hS hA q h) (fun r u t H1 locs ht hvm hw9 hB9 hz1 hk1 hS => ?_)
              have hw9 : r = (iI (m_ofBook g ((n : Nat) : Int) 2)) := hw9
              subst hw9
              have hP := ro_P hP hk1
              have hX := ro_P hX hk1
              generalize H1 = H at hP hX hS ⊢
              rw [show (m_ofBook g ((n : Nat) : Int) 2) = (g 2 ((n : Nat) : Int) 8) from rfl]
              have s274 := Wf.b8 hWf (k := ((n : Nat) : Int)) (by omega) (by omega)
              refine n_if_ge hx hb (by unfold RI; omega) (tgt := 375) dL_isSo_370 (by decide) (fun h275 => ?_) (fun h275 => absurd h275 (by intro h275; omega))
              refine lv_aload_n hx hb dL_isSo_375 rfl (lv_at hl 15 rfl) ?_
              refine lv_iload hx hb dL_isSo_376 (lv_at hl 10 rfl) ?_
              refine va_calli (va_runV (As := [.int (iI ((n : Nat) : Int))]) (rest := []) ⟨hx, hb, hml, hown, hw⟩ (c_spoiled l D a cH cB cJ cI ha g vq H.size ((n : Nat) : Int) hWf (by omega) (hsb)) (cwV 1 hw (gA_V kw_455 kw_456 kw_457 kw_2 kw_458) rfl rfl rfl (by decide +kernel) ⟨Nat.le_of_ble_eq_true rfl, Nat.le_of_ble_eq_true rfl⟩) (pS_v (ci := 4) (q0 := 0) rfl pw_0 hP hK hE) rfl rfl hl.1 rfl (lv_room (Nat.le_of_ble_eq_true rfl)) dL_isSo_378 ⟨Nat.le_of_ble_eq_true rfl, Nat.le_of_ble_eq_true rfl⟩) hS (fun q _ h => rw_A hS hA hB q h) (fun q h => rw_A hS hA hB q h) (fun r u t H1 locs ht hvm hw9 hB9 hz1 hk1 hS => ?_)
              have hw9 : r = (iI (m_spoiled g ((n : Nat) : Int))) := hw9
              subst hw9
              obtain ⟨v276, hP1⟩ := hB9
              rw [ht] at hP1
              have hP : va_P D vwCl (pw a cH cB cJ cI g v276) H1 := hP1
              have hX := rw_X hX hq hk1
              generalize H1 = H at hP hX hS ⊢
              have s277 := spo_b hWf ((n : Nat) : Int)
              refine lv_iload hx hb dL_isSo_381 (lv_at hl 10 rfl) ?_
              refine n_icmp_eq hx hb (by unfold RI; omega) (by unfold RI; omega) (tgt := 402) dL_isSo_383 (by decide) (fun h278 => absurd h278 (by intro h278; omega)) (fun h278 => ?_)
              refine lv_iload hx hb dL_isSo_386 (lv_at hl 9 rfl) ?_
              refine lv_iconst (v := iI 2) hx hb dL_isSo_388 (by decide) ?_
              refine n_icmp_ge hx hb (by unfold RI; omega) (by unfold RI; omega) (tgt := 404) dL_isSo_389 (by decide) (fun h279 => ?_) (fun h279 => ?_)
              · skip
                refine n_inc (lv' := [(13, .int (iI (((n : Nat) : Int) + 1))), (11, .int (iI (m_bo x11 (m_bt ((n : Nat) : Int))))), (10, .int (iI (m_bo x10 (m_bt ((n : Nat) : Int))))), (7, .int (iI ((m_sm (fun b => g 2 b 10) n) + (g 2 ((n : Nat) : Int) 10)))), (6, .int (iI ((m_sm (fun b => g 2 b 9) n) + (g 2 ((n : Nat) : Int) 9)))), (5, .int (iI ((m_cnt (m_ent g) n) + (m_ib (m_ent g ((n : Nat) : Int)))))), (8, .int (iI ((m_sm (fun b => m_sm (fun j => m_ib (decide (0 ≤ g 6 j b))) (g 0 0 5).toNat) n) + (m_sm (fun j => m_ib (decide (0 ≤ g 6 j ((n : Nat) : Int)))) ((g 0 0 5).toNat))))), (17, .int (iI ((((g 0 0 5).toNat) : Nat) : Int))), (16, .int (iI (m_sm (fun j => m_ib (decide (0 ≤ g 6 j ((n : Nat) : Int)))) ((g 0 0 5).toNat)))), (15, .int (iI (m_cnt (fun j => m_fair g j (((n : Nat) : Int))) ((g 0 0 5).toNat)))), (14, .int (iI (m_standing g ((n : Nat) : Int)))), (12, .ref q9), (9, .int (iI (m_sm (fun b => m_sm (fun j => max 0 (g 6 j b)) (g 0 0 5).toNat) n + m_sm (fun j => max 0 (g 6 j ((n : Nat) : Int))) ((g 0 0 5).toNat)))), (4, .int (iI (g 0 0 4))), (3, .int (iI (g 0 0 9))), (0, .ref (a 0)), (1, .int (iI (g 0 0 3))), (2, .int (iI (g 0 0 5)))]) hx hb dL_isSo_404 hl (k := 10) rfl (by decide) rfl (fun ls hl => ?_)
                refine lv_goto (tgt := 42) hx hb dL_isSo_407 (by decide) ?_
                have hl : lv_has ls 19 [(13, .int (iI (((n : Nat) : Int) + 1))), (12, .ref q9), (11, .int (iI (m_bo x11 (m_bt ((n : Nat) : Int))))), (10, .int (iI (m_bo x10 (m_bt ((n : Nat) : Int))))), (9, .int (iI (m_sm (fun b => m_sm (fun j => max 0 (g 6 j b)) (g 0 0 5).toNat) n + m_sm (fun j => max 0 (g 6 j ((n : Nat) : Int))) ((g 0 0 5).toNat)))), (8, .int (iI ((m_sm (fun b => m_sm (fun j => m_ib (decide (0 ≤ g 6 j b))) (g 0 0 5).toNat) n) + (m_sm (fun j => m_ib (decide (0 ≤ g 6 j ((n : Nat) : Int)))) ((g 0 0 5).toNat))))), (7, .int (iI ((m_sm (fun b => g 2 b 10) n) + (g 2 ((n : Nat) : Int) 10)))), (6, .int (iI ((m_sm (fun b => g 2 b 9) n) + (g 2 ((n : Nat) : Int) 9)))), (5, .int (iI ((m_cnt (m_ent g) n) + (m_ib (m_ent g ((n : Nat) : Int)))))), (4, .int (iI (g 0 0 4))), (3, .int (iI (g 0 0 9))), (0, .ref (a 0)), (1, .int (iI (g 0 0 3))), (2, .int (iI (g 0 0 5)))] := lv_sub hl [0, 11, 1, 2, 12, 6, 3, 4, 5, 13, 14, 15, 16, 17] rfl
                have e280 : (((n : Nat) : Int) + 1) = (((n + 1) : Nat) : Int) := by rfl
                have e281 : (m_sm (fun b => m_sm (fun j => max 0 (g 6 j b)) (g 0 0 5).toNat) n + m_sm (fun j => max 0 (g 6 j ((n : Nat) : Int))) ((g 0 0 5).toNat)) = (m_sm (fun b => m_sm (fun j => max 0 (g 6 j b)) (g 0 0 5).toNat) (n + 1)) := by rfl
                have e282 : ((m_sm (fun b => m_sm (fun j => m_ib (decide (0 ≤ g 6 j b))) (g 0 0 5).toNat) n) + (m_sm (fun j => m_ib (decide (0 ≤ g 6 j ((n : Nat) : Int)))) ((g 0 0 5).toNat))) = (m_sm (fun b => m_sm (fun j => m_ib (decide (0 ≤ g 6 j b))) (g 0 0 5).toNat) (n + 1)) := by rfl
                have e283 : ((m_sm (fun b => g 2 b 10) n) + (g 2 ((n : Nat) : Int) 10)) = (m_sm (fun b => g 2 b 10) (n + 1)) := by rfl
                have e284 : ((m_sm (fun b => g 2 b 9) n) + (g 2 ((n : Nat) : Int) 9)) = (m_sm (fun b => g 2 b 9) (n + 1)) := by rfl
                have e285 : ((m_cnt (m_ent g) n) + (m_ib (m_ent g ((n : Nat) : Int)))) = (m_cnt (m_ent g) (n + 1)) := by rfl
                have hl : lv_has ls 19 [(13, .int (iI (((n + 1) : Nat) : Int))), (12, .ref q9), (11, .int (iI (m_bo x11 (m_bt ((n : Nat) : Int))))), (10, .int (iI (m_bo x10 (m_bt ((n : Nat) : Int))))), (9, .int (iI (m_sm (fun b => m_sm (fun j => max 0 (g 6 j b)) (g 0 0 5).toNat) (n + 1)))), (8, .int (iI (m_sm (fun b => m_sm (fun j => m_ib (decide (0 ≤ g 6 j b))) (g 0 0 5).toNat) (n + 1)))), (7, .int (iI (m_sm (fun b => g 2 b 10) (n + 1)))), (6, .int (iI (m_sm (fun b => g 2 b 9) (n + 1)))), (5, .int (iI (m_cnt (m_ent g) (n + 1)))), (4, .int (iI (g 0 0 4))), (3, .int (iI (g 0 0 9))), (0, .ref (a 0)), (1, .int (iI (g 0 0 3))), (2, .int (iI (g 0 0 5)))] := lv_cast hl (by rw [e280, e281, e282, e283, e284, e285])
                exact ih42 (n + 1) (m_bo x10 (m_bt ((n : Nat) : Int))) (m_bo x11 (m_bt ((n : Nat) : Int))) v276 fx237 H locs ls (by omega) (by first | (rw [fo_s, ← hx10, h11]; rfl)) (by first | (rw [fo_s, ← hx11, h13]; rfl)) (by omega) (sx_yes hxf1 h11 (by omega) hfx237) hX hP hS hl
              · skip
                refine lv_aload_n hx hb dL_isSo_392 rfl (lv_at hl 15 rfl) ?_
                refine lv_iload hx hb dL_isSo_393 (lv_at hl 10 rfl) ?_
                refine va_calli (va_runV (As := [.int (iI ((n : Nat) : Int))]) (rest := []) ⟨hx, hb, hml, hown, hw⟩ (c_spoiled l D a cH cB cJ cI ha g v276 H.size ((n : Nat) : Int) hWf (by omega) (hsb)) (cwV 1 hw (gA_V kw_455 kw_456 kw_457 kw_2 kw_458) rfl rfl rfl (by decide +kernel) ⟨Nat.le_of_ble_eq_true rfl, Nat.le_of_ble_eq_true rfl⟩) (pS_v (ci := 4) (q0 := 0) rfl pw_0 hP hK hE) rfl rfl hl.1 rfl (lv_room (Nat.le_of_ble_eq_true rfl)) dL_isSo_395 ⟨Nat.le_of_ble_eq_true rfl, Nat.le_of_ble_eq_true rfl⟩) hS (fun q _ h => rw_A hS hA hB q h) (fun q h => rw_A hS hA hB q h) (fun r u t H1 locs ht hvm hw9 hB9 hz1 hk1 hS => ?_)
                have hw9 : r = (iI (m_spoiled g ((n : Nat) : Int))) := hw9
                subst hw9
                obtain ⟨v286, hP1⟩ := hB9
                rw [ht] at hP1
                have hP : va_P D vwCl (pw a cH cB cJ cI g v286) H1 := hP1
                have hX := rw_X hX hq hk1
                generalize H1 = H at hP hX hS ⊢
                refine lv_iconst (v := iI (-1)) hx hb dL_isSo_398 (by decide) ?_
                refine n_icmp_eq hx hb (by unfold RI; omega) (by unfold RI; omega) (tgt := 404) dL_isSo_399 (by decide) (fun h287 => ?_) (fun h287 => absurd h287 (by intro h287; omega))
                refine n_inc (lv' := [(13, .int (iI (((n : Nat) : Int) + 1))), (11, .int (iI (m_bo x11 (m_bt ((n : Nat) : Int))))), (10, .int (iI (m_bo x10 (m_bt ((n : Nat) : Int))))), (7, .int (iI ((m_sm (fun b => g 2 b 10) n) + (g 2 ((n : Nat) : Int) 10)))), (6, .int (iI ((m_sm (fun b => g 2 b 9) n) + (g 2 ((n : Nat) : Int) 9)))), (5, .int (iI ((m_cnt (m_ent g) n) + (m_ib (m_ent g ((n : Nat) : Int)))))), (8, .int (iI ((m_sm (fun b => m_sm (fun j => m_ib (decide (0 ≤ g 6 j b))) (g 0 0 5).toNat) n) + (m_sm (fun j => m_ib (decide (0 ≤ g 6 j ((n : Nat) : Int)))) ((g 0 0 5).toNat))))), (17, .int (iI ((((g 0 0 5).toNat) : Nat) : Int))), (16, .int (iI (m_sm (fun j => m_ib (decide (0 ≤ g 6 j ((n : Nat) : Int)))) ((g 0 0 5).toNat)))), (15, .int (iI (m_cnt (fun j => m_fair g j (((n : Nat) : Int))) ((g 0 0 5).toNat)))), (14, .int (iI (m_standing g ((n : Nat) : Int)))), (12, .ref q9), (9, .int (iI (m_sm (fun b => m_sm (fun j => max 0 (g 6 j b)) (g 0 0 5).toNat) n + m_sm (fun j => max 0 (g 6 j ((n : Nat) : Int))) ((g 0 0 5).toNat)))), (4, .int (iI (g 0 0 4))), (3, .int (iI (g 0 0 9))), (0, .ref (a 0)), (1, .int (iI (g 0 0 3))), (2, .int (iI (g 0 0 5)))]) hx hb dL_isSo_404 hl (k := 10) rfl (by decide) rfl (fun ls hl => ?_)
                refine lv_goto (tgt := 42) hx hb dL_isSo_407 (by decide) ?_
                have hl : lv_has ls 19 [(13, .int (iI (((n : Nat) : Int) + 1))), (12, .ref q9), (11, .int (iI (m_bo x11 (m_bt ((n : Nat) : Int))))), (10, .int (iI (m_bo x10 (m_bt ((n : Nat) : Int))))), (9, .int (iI (m_sm (fun b => m_sm (fun j => max 0 (g 6 j b)) (g 0 0 5).toNat) n + m_sm (fun j => max 0 (g 6 j ((n : Nat) : Int))) ((g 0 0 5).toNat)))), (8, .int (iI ((m_sm (fun b => m_sm (fun j => m_ib (decide (0 ≤ g 6 j b))) (g 0 0 5).toNat) n) + (m_sm (fun j => m_ib (decide (0 ≤ g 6 j ((n : Nat) : Int)))) ((g 0 0 5).toNat))))), (7, .int (iI ((m_sm (fun b => g 2 b 10) n) + (g 2 ((n : Nat) : Int) 10)))), (6, .int (iI ((m_sm (fun b => g 2 b 9) n) + (g 2 ((n : Nat) : Int) 9)))), (5, .int (iI ((m_cnt (m_ent g) n) + (m_ib (m_ent g ((n : Nat) : Int)))))), (4, .int (iI (g 0 0 4))), (3, .int (iI (g 0 0 9))), (0, .ref (a 0)), (1, .int (iI (g 0 0 3))), (2, .int (iI (g 0 0 5)))] := lv_sub hl [0, 11, 1, 2, 12, 6, 3, 4, 5, 13, 14, 15, 16, 17] rfl
                have e288 : (((n : Nat) : Int) + 1) = (((n + 1) : Nat) : Int) := by rfl
                have e289 : (m_sm (fun b => m_sm (fun j => max 0 (g 6 j b)) (g 0 0 5).toNat) n + m_sm (fun j => max 0 (g 6 j ((n : Nat) : Int))) ((g 0 0 5).toNat)) = (m_sm (fun b => m_sm (fun j => max 0 (g 6 j b)) (g 0 0 5).toNat) (n + 1)) := by rfl
                have e290 : ((m_sm (fun b => m_sm (fun j => m_ib (decide (0 ≤ g 6 j b))) (g 0 0 5).toNat) n) + (m_sm (fun j => m_ib (decide (0 ≤ g 6 j ((n : Nat) : Int)))) ((g 0 0 5).toNat))) = (m_sm (fun b => m_sm (fun j => m_ib (decide (0 ≤ g 6 j b))) (g 0 0 5).toNat) (n + 1)) := by rfl
                have e291 : ((m_sm (fun b => g 2 b 10) n) + (g 2 ((n : Nat) : Int) 10)) = (m_sm (fun b => g 2 b 10) (n + 1)) := by rfl
                have e292 : ((m_sm (fun b => g 2 b 9) n) + (g 2 ((n : Nat) : Int) 9)) = (m_sm (fun b => g 2 b 9) (n + 1)) := by rfl
                have e293 : ((m_cnt (m_ent g) n) + (m_ib (m_ent g ((n : Nat) : Int)))) = (m_cnt (m_ent g) (n + 1)) := by rfl
                have hl : lv_has ls 19 [(13, .int (iI (((n + 1) : Nat) : Int))), (12, .ref q9), (11, .int (iI (m_bo x11 (m_bt ((n : Nat) : Int))))), (10, .int (iI (m_bo x10 (m_bt ((n : Nat) : Int))))), (9, .int (iI (m_sm (fun b => m_sm (fun j => max 0 (g 6 j b)) (g 0 0 5).toNat) (n + 1)))), (8, .int (iI (m_sm (fun b => m_sm (fun j => m_ib (decide (0 ≤ g 6 j b))) (g 0 0 5).toNat) (n + 1)))), (7, .int (iI (m_sm (fun b => g 2 b 10) (n + 1)))), (6, .int (iI (m_sm (fun b => g 2 b 9) (n + 1)))), (5, .int (iI (m_cnt (m_ent g) (n + 1)))), (4, .int (iI (g 0 0 4))), (3, .int (iI (g 0 0 9))), (0, .ref (a 0)), (1, .int (iI (g 0 0 3))), (2, .int (iI (g 0 0 5)))] := lv_cast hl (by rw [e288, e289, e290, e291, e292, e293])
                exact ih42 (n + 1) (m_bo x10 (m_bt ((n : Nat) : Int))) (m_bo x11 (m_bt ((n : Nat) : Int))) v286 fx237 H locs ls (by omega) (by first | (rw [fo_s, ← hx10, h11]; rfl)) (by first | (rw [fo_s, ← hx11, h13]; rfl)) (by omega) (sx_yes hxf1 h11 (by omega) hfx237) hX hP hS hl
          · skip
            obtain ⟨h11, h13, h14⟩ := hsd.2.2.2 hst9
            have hib : m_ib (m_ent g ↑n) = 1 := by rw [(hS5.1 _ h11).2]; rfl
            refine lv_iload hx hb dL_isSo_182 (lv_at hl 9 rfl) ?_
            refine lv_iload hx hb dL_isSo_184 (lv_at hl 1 rfl) ?_
            refine n_add hx hb dL_isSo_186 ?_
            refine lv_istore (lv' := [(8, .int (iI ((m_sm (fun b => m_sm (fun j => m_ib (decide (0 ≤ g 6 j b))) (g 0 0 5).toNat) n) + (m_sm (fun j => m_ib (decide (0 ≤ g 6 j ((n : Nat) : Int)))) ((g 0 0 5).toNat))))), (17, .int (iI ((((g 0 0 5).toNat) : Nat) : Int))), (16, .int (iI (m_sm (fun j => m_ib (decide (0 ≤ g 6 j ((n : Nat) : Int)))) ((g 0 0 5).toNat)))), (15, .int (iI (m_cnt (fun j => m_fair g j (((n : Nat) : Int))) ((g 0 0 5).toNat)))), (14, .int (iI (m_standing g ((n : Nat) : Int)))), (13, .int (iI ((n : Nat) : Int))), (12, .ref q9), (11, .int (iI x11)), (10, .int (iI x10)), (9, .int (iI (m_sm (fun b => m_sm (fun j => max 0 (g 6 j b)) (g 0 0 5).toNat) n + m_sm (fun j => max 0 (g 6 j ((n : Nat) : Int))) ((g 0 0 5).toNat)))), (7, .int (iI (m_sm (fun b => g 2 b 10) n))), (6, .int (iI (m_sm (fun b => g 2 b 9) n))), (5, .int (iI (m_cnt (m_ent g) n))), (4, .int (iI (g 0 0 4))), (3, .int (iI (g 0 0 9))), (0, .ref (a 0)), (1, .int (iI (g 0 0 3))), (2, .int (iI (g 0 0 5)))]) hx hb dL_isSo_187 hl (by decide) rfl (fun ls hl => ?_)
            refine lv_iload hx hb dL_isSo_189 (lv_at hl 12 rfl) ?_
            refine lv_aload_n hx hb dL_isSo_191 rfl (lv_at hl 15 rfl) ?_
            refine lv_iload hx hb dL_isSo_192 (lv_at hl 5 rfl) ?_
            refine lv_bipush (v := iI 6) hx hb dL_isSo_194 (by decide) ?_
            refine va_calli (va_runV (As := [.int (iI ((n : Nat) : Int)), .int (iI 6)]) (rest := [.int (iI (m_cnt (m_ent g) n))]) ⟨hx, hb, hml, hown, hw⟩ (c_ofBook l D a cH cB cJ cI ha g vq H.size ((n : Nat) : Int) 6 hWf (by omega) (by omega)) (cwV 2 hw (gA_V kw_206 kw_207 kw_208 kw_2 kw_209) rfl rfl rfl (by decide +kernel) ⟨Nat.le_of_ble_eq_true rfl, Nat.le_of_ble_eq_true rfl⟩) (pS_v (ci := 4) (q0 := 0) rfl pw_0 hP hK hE) rfl rfl hl.1 rfl (lv_room (Nat.le_of_ble_eq_true rfl)) dL_isSo_196 ⟨Nat.le_of_ble_eq_true rfl, Nat.le_of_ble_eq_true rfl⟩) hS (fun q h1 h2 => ro_A h1 h2) (fun q h => ro_F hS hA q h) (fun r u t H1 locs ht hvm hw9 hB9 hz1 hk1 hS => ?_)
            have hw9 : r = (iI (m_ofBook g ((n : Nat) : Int) 6)) := hw9
            subst hw9
            have hP := ro_P hP hk1
            have hX := ro_P hX hk1
            generalize H1 = H at hP hX hS ⊢
            rw [show (m_ofBook g ((n : Nat) : Int) 6) = (m_ib (m_ent g ((n : Nat) : Int))) from rfl]
            refine n_add hx hb dL_isSo_199 ?_
            refine lv_istore (lv' := [(5, .int (iI ((m_cnt (m_ent g) n) + (m_ib (m_ent g ((n : Nat) : Int)))))), (8, .int (iI ((m_sm (fun b => m_sm (fun j => m_ib (decide (0 ≤ g 6 j b))) (g 0 0 5).toNat) n) + (m_sm (fun j => m_ib (decide (0 ≤ g 6 j ((n : Nat) : Int)))) ((g 0 0 5).toNat))))), (17, .int (iI ((((g 0 0 5).toNat) : Nat) : Int))), (16, .int (iI (m_sm (fun j => m_ib (decide (0 ≤ g 6 j ((n : Nat) : Int)))) ((g 0 0 5).toNat)))), (15, .int (iI (m_cnt (fun j => m_fair g j (((n : Nat) : Int))) ((g 0 0 5).toNat)))), (14, .int (iI (m_standing g ((n : Nat) : Int)))), (13, .int (iI ((n : Nat) : Int))), (12, .ref q9), (11, .int (iI x11)), (10, .int (iI x10)), (9, .int (iI (m_sm (fun b => m_sm (fun j => max 0 (g 6 j b)) (g 0 0 5).toNat) n + m_sm (fun j => max 0 (g 6 j ((n : Nat) : Int))) ((g 0 0 5).toNat)))), (7, .int (iI (m_sm (fun b => g 2 b 10) n))), (6, .int (iI (m_sm (fun b => g 2 b 9) n))), (4, .int (iI (g 0 0 4))), (3, .int (iI (g 0 0 9))), (0, .ref (a 0)), (1, .int (iI (g 0 0 3))), (2, .int (iI (g 0 0 5)))]) hx hb dL_isSo_200 hl (by decide) rfl (fun ls hl => ?_)
            refine lv_iload hx hb dL_isSo_202 (lv_at hl 12 rfl) ?_
            refine lv_aload_n hx hb dL_isSo_204 rfl (lv_at hl 15 rfl) ?_
            refine lv_iload hx hb dL_isSo_205 (lv_at hl 6 rfl) ?_
            refine lv_iconst (v := iI 3) hx hb dL_isSo_207 (by decide) ?_
            refine va_calli (va_runV (As := [.int (iI ((n : Nat) : Int)), .int (iI 3)]) (rest := [.int (iI (m_sm (fun b => g 2 b 9) n))]) ⟨hx, hb, hml, hown, hw⟩ (c_ofBook l D a cH cB cJ cI ha g vq H.size ((n : Nat) : Int) 3 hWf (by omega) (by omega)) (cwV 2 hw (gA_V kw_206 kw_207 kw_208 kw_2 kw_209) rfl rfl rfl (by decide +kernel) ⟨Nat.le_of_ble_eq_true rfl, Nat.le_of_ble_eq_true rfl⟩) (pS_v (ci := 4) (q0 := 0) rfl pw_0 hP hK hE) rfl rfl hl.1 rfl (lv_room (Nat.le_of_ble_eq_true rfl)) dL_isSo_208 ⟨Nat.le_of_ble_eq_true rfl, Nat.le_of_ble_eq_true rfl⟩) hS (fun q h1 h2 => ro_A h1 h2) (fun q h => ro_F hS hA q h) (fun r u t H1 locs ht hvm hw9 hB9 hz1 hk1 hS => ?_)
            have hw9 : r = (iI (m_ofBook g ((n : Nat) : Int) 3)) := hw9
            subst hw9
            have hP := ro_P hP hk1
            have hX := ro_P hX hk1
            generalize H1 = H at hP hX hS ⊢
            rw [show (m_ofBook g ((n : Nat) : Int) 3) = (g 2 ((n : Nat) : Int) 9) from rfl]
            refine n_add hx hb dL_isSo_211 ?_
            refine lv_istore (lv' := [(6, .int (iI ((m_sm (fun b => g 2 b 9) n) + (g 2 ((n : Nat) : Int) 9)))), (5, .int (iI ((m_cnt (m_ent g) n) + (m_ib (m_ent g ((n : Nat) : Int)))))), (8, .int (iI ((m_sm (fun b => m_sm (fun j => m_ib (decide (0 ≤ g 6 j b))) (g 0 0 5).toNat) n) + (m_sm (fun j => m_ib (decide (0 ≤ g 6 j ((n : Nat) : Int)))) ((g 0 0 5).toNat))))), (17, .int (iI ((((g 0 0 5).toNat) : Nat) : Int))), (16, .int (iI (m_sm (fun j => m_ib (decide (0 ≤ g 6 j ((n : Nat) : Int)))) ((g 0 0 5).toNat)))), (15, .int (iI (m_cnt (fun j => m_fair g j (((n : Nat) : Int))) ((g 0 0 5).toNat)))), (14, .int (iI (m_standing g ((n : Nat) : Int)))), (13, .int (iI ((n : Nat) : Int))), (12, .ref q9), (11, .int (iI x11)), (10, .int (iI x10)), (9, .int (iI (m_sm (fun b => m_sm (fun j => max 0 (g 6 j b)) (g 0 0 5).toNat) n + m_sm (fun j => max 0 (g 6 j ((n : Nat) : Int))) ((g 0 0 5).toNat)))), (7, .int (iI (m_sm (fun b => g 2 b 10) n))), (4, .int (iI (g 0 0 4))), (3, .int (iI (g 0 0 9))), (0, .ref (a 0)), (1, .int (iI (g 0 0 3))), (2, .int (iI (g 0 0 5)))]) hx hb dL_isSo_212 hl (by decide) rfl (fun ls hl => ?_)
            refine lv_iload hx hb dL_isSo_214 (lv_at hl 12 rfl) ?_
            refine lv_aload_n hx hb dL_isSo_216 rfl (lv_at hl 15 rfl) ?_
            refine lv_iload hx hb dL_isSo_217 (lv_at hl 7 rfl) ?_
            refine lv_iconst (v := iI 4) hx hb dL_isSo_219 (by decide) ?_
            refine va_calli (va_runV (As := [.int (iI ((n : Nat) : Int)), .int (iI 4)]) (rest := [.int (iI (m_sm (fun b => g 2 b 10) n))]) ⟨hx, hb, hml, hown, hw⟩ (c_ofBook l D a cH cB cJ cI ha g vq H.size ((n : Nat) : Int) 4 hWf (by omega) (by omega)) (cwV 2 hw (gA_V kw_206 kw_207 kw_208 kw_2 kw_209) rfl rfl rfl (by decide +kernel) ⟨Nat.le_of_ble_eq_true rfl, Nat.le_of_ble_eq_true rfl⟩) (pS_v (ci := 4) (q0 := 0) rfl pw_0 hP hK hE) rfl rfl hl.1 rfl (lv_room (Nat.le_of_ble_eq_true rfl)) dL_isSo_220 ⟨Nat.le_of_ble_eq_true rfl, Nat.le_of_ble_eq_true rfl⟩) hS (fun q h1 h2 => ro_A h1 h2) (fun q h => ro_F hS hA q h) (fun r u t H1 locs ht hvm hw9 hB9 hz1 hk1 hS => ?_)
            have hw9 : r = (iI (m_ofBook g ((n : Nat) : Int) 4)) := hw9
            subst hw9
            have hP := ro_P hP hk1
            have hX := ro_P hX hk1
            generalize H1 = H at hP hX hS ⊢
            rw [show (m_ofBook g ((n : Nat) : Int) 4) = (g 2 ((n : Nat) : Int) 10) from rfl]
            refine n_add hx hb dL_isSo_223 ?_
            refine lv_istore (lv' := [(7, .int (iI ((m_sm (fun b => g 2 b 10) n) + (g 2 ((n : Nat) : Int) 10)))), (6, .int (iI ((m_sm (fun b => g 2 b 9) n) + (g 2 ((n : Nat) : Int) 9)))), (5, .int (iI ((m_cnt (m_ent g) n) + (m_ib (m_ent g ((n : Nat) : Int)))))), (8, .int (iI ((m_sm (fun b => m_sm (fun j => m_ib (decide (0 ≤ g 6 j b))) (g 0 0 5).toNat) n) + (m_sm (fun j => m_ib (decide (0 ≤ g 6 j ((n : Nat) : Int)))) ((g 0 0 5).toNat))))), (17, .int (iI ((((g 0 0 5).toNat) : Nat) : Int))), (16, .int (iI (m_sm (fun j => m_ib (decide (0 ≤ g 6 j ((n : Nat) : Int)))) ((g 0 0 5).toNat)))), (15, .int (iI (m_cnt (fun j => m_fair g j (((n : Nat) : Int))) ((g 0 0 5).toNat)))), (14, .int (iI (m_standing g ((n : Nat) : Int)))), (13, .int (iI ((n : Nat) : Int))), (12, .ref q9), (11, .int (iI x11)), (10, .int (iI x10)), (9, .int (iI (m_sm (fun b => m_sm (fun j => max 0 (g 6 j b)) (g 0 0 5).toNat) n + m_sm (fun j => max 0 (g 6 j ((n : Nat) : Int))) ((g 0 0 5).toNat)))), (4, .int (iI (g 0 0 4))), (3, .int (iI (g 0 0 9))), (0, .ref (a 0)), (1, .int (iI (g 0 0 3))), (2, .int (iI (g 0 0 5)))]) hx hb dL_isSo_224 hl (by decide) rfl (fun ls hl => ?_)
            refine lv_iload hx hb dL_isSo_226 (lv_at hl 11 rfl) ?_
            refine lv_iload hx hb dL_isSo_228 (lv_at hl 7 rfl) ?_
            refine n_if_le hx hb (by unfold RI; omega) (tgt := 240) dL_isSo_230 (by decide) (fun h294 => absurd h294 (by intro h294; omega)) (fun h294 => ?_)
            refine lv_iconst (v := iI 1) hx hb dL_isSo_233 (by decide) ?_
            refine lv_iload hx hb dL_isSo_234 (lv_at hl 8 rfl) ?_
            refine n_shl1 hx hb (by omega) (by omega) dL_isSo_236 ?_
            have s295 := bt_nn ((n : Nat) : Int)
            refine lv_goto (tgt := 241) hx hb dL_isSo_237 (by decide) ?_
            have h16 := bo_16 (S := x10) (k := ((n : Nat) : Int)) (by omega) (by omega) (by omega)
            refine n_or hx hb (by omega) (by omega) dL_isSo_241 ?_
            have s296 := bo_nn x10 (m_bt ((n : Nat) : Int))
            refine lv_istore (lv' := [(10, .int (iI (m_bo x10 (m_bt ((n : Nat) : Int))))), (7, .int (iI ((m_sm (fun b => g 2 b 10) n) + (g 2 ((n : Nat) : Int) 10)))), (6, .int (iI ((m_sm (fun b => g 2 b 9) n) + (g 2 ((n : Nat) : Int) 9)))), (5, .int (iI ((m_cnt (m_ent g) n) + (m_ib (m_ent g ((n : Nat) : Int)))))), (8, .int (iI ((m_sm (fun b => m_sm (fun j => m_ib (decide (0 ≤ g 6 j b))) (g 0 0 5).toNat) n) + (m_sm (fun j => m_ib (decide (0 ≤ g 6 j ((n : Nat) : Int)))) ((g 0 0 5).toNat))))), (17, .int (iI ((((g 0 0 5).toNat) : Nat) : Int))), (16, .int (iI (m_sm (fun j => m_ib (decide (0 ≤ g 6 j ((n : Nat) : Int)))) ((g 0 0 5).toNat)))), (15, .int (iI (m_cnt (fun j => m_fair g j (((n : Nat) : Int))) ((g 0 0 5).toNat)))), (14, .int (iI (m_standing g ((n : Nat) : Int)))), (13, .int (iI ((n : Nat) : Int))), (12, .ref q9), (11, .int (iI x11)), (9, .int (iI (m_sm (fun b => m_sm (fun j => max 0 (g 6 j b)) (g 0 0 5).toNat) n + m_sm (fun j => max 0 (g 6 j ((n : Nat) : Int))) ((g 0 0 5).toNat)))), (4, .int (iI (g 0 0 4))), (3, .int (iI (g 0 0 9))), (0, .ref (a 0)), (1, .int (iI (g 0 0 3))), (2, .int (iI (g 0 0 5)))]) hx hb dL_isSo_242 hl (by decide) rfl (fun ls hl => ?_)
            refine lv_iload hx hb dL_isSo_244 (lv_at hl 11 rfl) ?_
            refine lv_iload hx hb dL_isSo_246 (lv_at hl 8 rfl) ?_
            refine lv_iconst (v := iI 1) hx hb dL_isSo_248 (by decide) ?_
            refine n_icmp_le hx hb (by unfold RI; omega) (by unfold RI; omega) (tgt := 259) dL_isSo_249 (by decide) (fun h297 => absurd h297 (by intro h297; omega)) (fun h297 => ?_)
            refine lv_iconst (v := iI 1) hx hb dL_isSo_252 (by decide) ?_
            refine lv_iload hx hb dL_isSo_253 (lv_at hl 9 rfl) ?_
            refine n_shl1 hx hb (by omega) (by omega) dL_isSo_255 ?_
            refine lv_goto (tgt := 260) hx hb dL_isSo_256 (by decide) ?_
            have h16 := bo_16 (S := x11) (k := ((n : Nat) : Int)) (by omega) (by omega) (by omega)
            refine n_or hx hb (by omega) (by omega) dL_isSo_260 ?_
            have s298 := bo_nn x11 (m_bt ((n : Nat) : Int))
            refine lv_istore (lv' := [(11, .int (iI (m_bo x11 (m_bt ((n : Nat) : Int))))), (10, .int (iI (m_bo x10 (m_bt ((n : Nat) : Int))))), (7, .int (iI ((m_sm (fun b => g 2 b 10) n) + (g 2 ((n : Nat) : Int) 10)))), (6, .int (iI ((m_sm (fun b => g 2 b 9) n) + (g 2 ((n : Nat) : Int) 9)))), (5, .int (iI ((m_cnt (m_ent g) n) + (m_ib (m_ent g ((n : Nat) : Int)))))), (8, .int (iI ((m_sm (fun b => m_sm (fun j => m_ib (decide (0 ≤ g 6 j b))) (g 0 0 5).toNat) n) + (m_sm (fun j => m_ib (decide (0 ≤ g 6 j ((n : Nat) : Int)))) ((g 0 0 5).toNat))))), (17, .int (iI ((((g 0 0 5).toNat) : Nat) : Int))), (16, .int (iI (m_sm (fun j => m_ib (decide (0 ≤ g 6 j ((n : Nat) : Int)))) ((g 0 0 5).toNat)))), (15, .int (iI (m_cnt (fun j => m_fair g j (((n : Nat) : Int))) ((g 0 0 5).toNat)))), (14, .int (iI (m_standing g ((n : Nat) : Int)))), (13, .int (iI ((n : Nat) : Int))), (12, .ref q9), (9, .int (iI (m_sm (fun b => m_sm (fun j => max 0 (g 6 j b)) (g 0 0 5).toNat) n + m_sm (fun j => max 0 (g 6 j ((n : Nat) : Int))) ((g 0 0 5).toNat)))), (4, .int (iI (g 0 0 4))), (3, .int (iI (g 0 0 9))), (0, .ref (a 0)), (1, .int (iI (g 0 0 3))), (2, .int (iI (g 0 0 5)))]) hx hb dL_isSo_261 hl (by decide) rfl (fun ls hl => ?_)
            refine lv_iload hx hb dL_isSo_263 (lv_at hl 9 rfl) ?_
            refine n_if_le hx hb (by unfold RI; omega) (tgt := 282) dL_isSo_265 (by decide) (fun h299 => absurd h299 (by intro h299; omega)) (fun h299 => ?_)
            refine lv_aload hx hb dL_isSo_268 (lv_at hl 11 rfl) ?_
            refine lv_aload_n hx hb dL_isSo_270 rfl (lv_at hl 15 rfl) ?_
            refine lv_iload hx hb dL_isSo_271 (lv_at hl 10 rfl) ?_
            refine lv_iconst (v := iI 0) hx hb dL_isSo_273 (by decide) ?_
            refine va_calli (va_runV (As := [.int (iI ((n : Nat) : Int)), .int (iI 0)]) (rest := [.ref q9]) ⟨hx, hb, hml, hown, hw⟩ (c_ofBook l D a cH cB cJ cI ha g vq H.size ((n : Nat) : Int) 0 hWf (by omega) (by omega)) (cwV 2 hw (gA_V kw_206 kw_207 kw_208 kw_2 kw_209) rfl rfl rfl (by decide +kernel) ⟨Nat.le_of_ble_eq_true rfl, Nat.le_of_ble_eq_true rfl⟩) (pS_v (ci := 4) (q0 := 0) rfl pw_0 hP hK hE) rfl rfl hl.1 rfl (lv_room (Nat.le_of_ble_eq_true rfl)) dL_isSo_274 ⟨Nat.le_of_ble_eq_true rfl, Nat.le_of_ble_eq_true rfl⟩) hS (fun q h1 h2 => ro_A h1 h2) (fun q h => ro_F hS hA q h) (fun r u t H1 locs ht hvm hw9 hB9 hz1 hk1 hS => ?_)
            have hw9 : r = (iI (m_ofBook g ((n : Nat) : Int) 0)) := hw9
            subst hw9
            have hP := ro_P hP hk1
            have hX := ro_P hX hk1
            generalize H1 = H at hP hX hS ⊢
            rw [show (m_ofBook g ((n : Nat) : Int) 0) = (g 2 ((n : Nat) : Int) 0) from rfl]
            have s300 := Wf.b0 hWf (k := ((n : Nat) : Int)) (by omega) (by omega)
            refine lv_dup2_11 hx hb dL_isSo_277 rfl rfl ?_
            refine p_xrd hx hb hK hX (k := (g 2 ((n : Nat) : Int) 0)) (by omega) (by omega) (by omega) dL_isSo_278 ?_
            rw [show fq1 ((g 2 ((n : Nat) : Int) 0)).toNat = iI (m_cnt (fun b => m_has (g 0 0 11) b && g 2 b 0 == (g 2 ((n : Nat) : Int) 0)) n) from hxf1 _ (by omega) (by omega)]
            refine lv_iconst (v := iI 1) hx hb dL_isSo_279 (by decide) ?_
            refine n_add hx hb dL_isSo_280 ?_
            refine p_xwr hx hb hK hP ha hB hX hq hqA hS (k := (g 2 ((n : Nat) : Int) 0)) (x := iI ((m_cnt (fun b => m_has (g 0 0 11) b && g 2 b 0 == (g 2 ((n : Nat) : Int) 0)) n) + 1)) (by omega) (by omega) (by omega) dL_isSo_281 (fun H locs hP hX hS => ?_)
            obtain ⟨fx301, hfx301⟩ : ∃ z, z = upd fq1 ((g 2 ((n : Nat) : Int) 0)).toNat (iI ((m_cnt (fun b => m_has (g 0 0 11) b && g 2 b 0 == (g 2 ((n : Nat) : Int) 0)) n) + 1)) := ⟨_, rfl⟩
            rw [← hfx301] at hX
            refine lv_iload hx hb dL_isSo_282 (lv_at hl 7 rfl) ?_
            refine lv_iconst (v := iI 3) hx hb dL_isSo_284 (by decide) ?_
            refine n_icmp_gt hx hb (by unfold RI; omega) (by unfold RI; omega) (tgt := 373) dL_isSo_285 (by decide) (fun h302 => absurd h302 (by intro h302; omega)) (fun h302 => ?_)
            refine lv_iload hx hb dL_isSo_288 (lv_at hl 8 rfl) ?_
            refine lv_aload_n hx hb dL_isSo_290 rfl (lv_at hl 15 rfl) ?_
            refine lv_iload hx hb dL_isSo_291 (lv_at hl 10 rfl) ?_
            refine lv_bipush (v := iI 9) hx hb dL_isSo_293 (by decide) ?_
            refine va_calli (va_runV (As := [.int (iI ((n : Nat) : Int)), .int (iI 9)]) (rest := [.int (iI (m_cnt (fun j => m_fair g j (((n : Nat) : Int))) ((g 0 0 5).toNat)))]) ⟨hx, hb, hml, hown, hw⟩ (c_ofBook l D a cH cB cJ cI ha g vq H.size ((n : Nat) : Int) 9 hWf (by omega) (by omega)) (cwV 2 hw (gA_V kw_206 kw_207 kw_208 kw_2 kw_209) rfl rfl rfl (by decide +kernel) ⟨Nat.le_of_ble_eq_true rfl, Nat.le_of_ble_eq_true rfl⟩) (pS_v (ci := 4) (q0 := 0) rfl pw_0 hP hK hE) rfl rfl hl.1 rfl (lv_room (Nat.le_of_ble_eq_true rfl)) dL_isSo_295 ⟨Nat.le_of_ble_eq_true rfl, Nat.le_of_ble_eq_true rfl⟩) hS (fun q h1 h2 => ro_A h1 h2) (fun q h => ro_F hS hA q h) (fun r u t H1 locs ht hvm hw9 hB9 hz1 hk1 hS => ?_)
            have hw9 : r = (iI (m_ofBook g ((n : Nat) : Int) 9)) := hw9
            subst hw9
            have hP := ro_P hP hk1
            have hX := ro_P hX hk1
            generalize H1 = H at hP hX hS ⊢
            rw [show (m_ofBook g ((n : Nat) : Int) 9) = (m_cnt (fun j => m_fair g j ((n : Nat) : Int)) (g 0 0 5).toNat) from rfl]
            refine n_icmp_ne hx hb (by unfold RI; omega) (by unfold RI; omega) (tgt := 373) dL_isSo_298 (by decide) (fun h303 => absurd h303 (by intro h303; exact h303 rfl)) (fun h303 => ?_)
            refine lv_iload hx hb dL_isSo_301 (lv_at hl 8 rfl) ?_
            refine n_if_ne hx hb (by unfold RI; omega) (tgt := 317) dL_isSo_303 (by decide) (fun h304 => ?_) (fun h304 => ?_)
            · skip
              refine lv_iload hx hb dL_isSo_317 (lv_at hl 9 rfl) ?_
              refine n_if_le hx hb (by unfold RI; omega) (tgt := 333) dL_isSo_319 (by decide) (fun h305 => absurd h305 (by intro h305; omega)) (fun h305 => ?_)
              refine lv_aload_n hx hb dL_isSo_322 rfl (lv_at hl 15 rfl) ?_
              refine lv_iload hx hb dL_isSo_323 (lv_at hl 10 rfl) ?_
              refine lv_bipush (v := iI 6) hx hb dL_isSo_325 (by decide) ?_
              refine va_calli (va_runV (As := [.int (iI ((n : Nat) : Int)), .int (iI 6)]) (rest := []) ⟨hx, hb, hml, hown, hw⟩ (c_ofBook l D a cH cB cJ cI ha g vq H.size ((n : Nat) : Int) 6 hWf (by omega) (by omega)) (cwV 2 hw (gA_V kw_206 kw_207 kw_208 kw_2 kw_209) rfl rfl rfl (by decide +kernel) ⟨Nat.le_of_ble_eq_true rfl, Nat.le_of_ble_eq_true rfl⟩) (pS_v (ci := 4) (q0 := 0) rfl pw_0 hP hK hE) rfl rfl hl.1 rfl (lv_room (Nat.le_of_ble_eq_true rfl)) dL_isSo_327 ⟨Nat.le_of_ble_eq_true rfl, Nat.le_of_ble_eq_true rfl⟩) hS (fun q h1 h2 => ro_A h1 h2) (fun q h => ro_F hS hA q h) (fun r u t H1 locs ht hvm hw9 hB9 hz1 hk1 hS => ?_)
              have hw9 : r = (iI (m_ofBook g ((n : Nat) : Int) 6)) := hw9
              subst hw9
              have hP := ro_P hP hk1
              have hX := ro_P hX hk1
              generalize H1 = H at hP hX hS ⊢
              rw [show (m_ofBook g ((n : Nat) : Int) 6) = (m_ib (m_ent g ((n : Nat) : Int))) from rfl]
              refine n_if_eq hx hb (by unfold RI; omega) (tgt := 373) dL_isSo_330 (by decide) (fun h306 => absurd h306 (by intro h306; omega)) (fun h306 => ?_)
              refine lv_iload hx hb dL_isSo_333 (lv_at hl 9 rfl) ?_
              refine lv_iconst (v := iI 3) hx hb dL_isSo_335 (by decide) ?_
              refine n_icmp_ne hx hb (by unfold RI; omega) (by unfold RI; omega) (tgt := 343) dL_isSo_336 (by decide) (fun h307 => absurd h307 (by intro h307; omega)) (fun h307 => ?_)
              refine lv_iconst (v := iI 1) hx hb dL_isSo_339 (by decide) ?_
              refine lv_goto (tgt := 344) hx hb dL_isSo_340 (by decide) ?_
              refine lv_aload_n hx hb dL_isSo_344 rfl (lv_at hl 15 rfl) ?_
              refine lv_bipush (v := iI 9) hx hb dL_isSo_345 (by decide) ?_
              refine va_calli (va_runV (As := [.int (iI 9)]) (rest := [.int (iI 1)]) ⟨hx, hb, hml, hown, hw⟩ (c_many l D a cH cB cJ cI ha g vq H.size 9 hWf (by omega)) (cwV 1 hw (gA_V kw_92 kw_93 kw_94 kw_2 kw_95) rfl rfl rfl (by decide +kernel) ⟨Nat.le_of_ble_eq_true rfl, Nat.le_of_ble_eq_true rfl⟩) (pS_v (ci := 4) (q0 := 0) rfl pw_0 hP hK hE) rfl rfl hl.1 rfl (lv_room (Nat.le_of_ble_eq_true rfl)) dL_isSo_347 ⟨Nat.le_of_ble_eq_true rfl, Nat.le_of_ble_eq_true rfl⟩) hS (fun q h1 h2 => ro_A h1 h2) (fun q h => ro_F hS hA q h) (fun r u t H1 locs ht hvm hw9 hB9 hz1 hk1 hS => ?_)
              have hw9 : r = (iI (m_many g 9)) := hw9
              subst hw9
              have hP := ro_P hP hk1
              have hX := ro_P hX hk1
              generalize H1 = H at hP hX hS ⊢
              rw [show (m_many g 9) = (g 0 0 14) from rfl]
              have s308 := Wf.m14 hWf
              refine lv_iload hx hb dL_isSo_350 (lv_at hl 10 rfl) ?_
              refine n_icmp_ne hx hb (by unfold RI; omega) (by unfold RI; omega) (tgt := 359) dL_isSo_352 (by decide) (fun h309 => absurd h309 (by intro h309; omega)) (fun h309 => ?_)
              refine lv_iconst (v := iI 1) hx hb dL_isSo_355 (by decide) ?_
              refine lv_goto (tgt := 360) hx hb dL_isSo_356 (by decide) ?_
              refine n_icmp_ne hx hb (by unfold RI; omega) (by unfold RI; omega) (tgt := 373) dL_isSo_360 (by decide) (fun h310 => absurd h310 (by intro h310; omega)) (fun h310 => ?_)
              refine lv_aload_n hx hb dL_isSo_363 rfl (lv_at hl 15 rfl) ?_
              refine lv_iload hx hb dL_isSo_364 (lv_at hl 10 rfl) ?_
              refine lv_iconst (v := iI 2) hx hb dL_isSo_366 (by decide) ?_
              refine va_calli (va_runV (As := [.int (iI ((n : Nat) : Int)), .int (iI 2)]) (rest := []) ⟨hx, hb, hml, hown, hw⟩ (c_ofBook l D a cH cB cJ cI ha g vq H.size ((n : Nat) : Int) 2 hWf (by omega) (by omega)) (cwV 2 hw (gA_V kw_206 kw_207 kw_208 kw_2 kw_209) rfl rfl rfl (by decide +kernel) ⟨Nat.le_of_ble_eq_true rfl, Nat.le_of_ble_eq_true rfl⟩) (pS_v (ci := 4) (q0 := 0) rfl pw_0 hP hK hE) rfl rfl hl.1 rfl (lv_room (Nat.le_of_ble_eq_true rfl)) dL_isSo_367 ⟨Nat.le_of_ble_eq_true rfl, Nat.le_of_ble_eq_true rfl⟩) hS (fun q h1 h2 => ro_A h1 h2) (fun q h => ro_F hS hA q h) (fun r u t H1 locs ht hvm hw9 hB9 hz1 hk1 hS => ?_)
              have hw9 : r = (iI (m_ofBook g ((n : Nat) : Int) 2)) := hw9
              subst hw9
              have hP := ro_P hP hk1
              have hX := ro_P hX hk1
              generalize H1 = H at hP hX hS ⊢
              rw [show (m_ofBook g ((n : Nat) : Int) 2) = (g 2 ((n : Nat) : Int) 8) from rfl]
              have s311 := Wf.b8 hWf (k := ((n : Nat) : Int)) (by omega) (by omega)
              refine n_if_ge hx hb (by unfold RI; omega) (tgt := 375) dL_isSo_370 (by decide) (fun h312 => ?_) (fun h312 => absurd h312 (by intro h312; omega))
              refine lv_aload_n hx hb dL_isSo_375 rfl (lv_at hl 15 rfl) ?_
              refine lv_iload hx hb dL_isSo_376 (lv_at hl 10 rfl) ?_
              refine va_calli (va_runV (As := [.int (iI ((n : Nat) : Int))]) (rest := []) ⟨hx, hb, hml, hown, hw⟩ (c_spoiled l D a cH cB cJ cI ha g vq H.size ((n : Nat) : Int) hWf (by omega) (hsb)) (cwV 1 hw (gA_V kw_455 kw_456 kw_457 kw_2 kw_458) rfl rfl rfl (by decide +kernel) ⟨Nat.le_of_ble_eq_true rfl, Nat.le_of_ble_eq_true rfl⟩) (pS_v (ci := 4) (q0 := 0) rfl pw_0 hP hK hE) rfl rfl hl.1 rfl (lv_room (Nat.le_of_ble_eq_true rfl)) dL_isSo_378 ⟨Nat.le_of_ble_eq_true rfl, Nat.le_of_ble_eq_true rfl⟩) hS (fun q _ h => rw_A hS hA hB q h) (fun q h => rw_A hS hA hB q h) (fun r u t H1 locs ht hvm hw9 hB9 hz1 hk1 hS => ?_)
              have hw9 : r = (iI (m_spoiled g ((n : Nat) : Int))) := hw9
              subst hw9
              obtain ⟨v313, hP1⟩ := hB9
              rw [ht] at hP1
              have hP : va_P D vwCl (pw a cH cB cJ cI g v313) H1 := hP1
              have hX := rw_X hX hq hk1
              generalize H1 = H at hP hX hS ⊢
              have s314 := spo_b hWf ((n : Nat) : Int)
              refine lv_iload hx hb dL_isSo_381 (lv_at hl 10 rfl) ?_
              refine n_icmp_eq hx hb (by unfold RI; omega) (by unfold RI; omega) (tgt := 402) dL_isSo_383 (by decide) (fun h315 => absurd h315 (by intro h315; omega)) (fun h315 => ?_)
              refine lv_iload hx hb dL_isSo_386 (lv_at hl 9 rfl) ?_
              refine lv_iconst (v := iI 2) hx hb dL_isSo_388 (by decide) ?_
              refine n_icmp_ge hx hb (by unfold RI; omega) (by unfold RI; omega) (tgt := 404) dL_isSo_389 (by decide) (fun h316 => ?_) (fun h316 => ?_)
              · skip
                refine n_inc (lv' := [(13, .int (iI (((n : Nat) : Int) + 1))), (11, .int (iI (m_bo x11 (m_bt ((n : Nat) : Int))))), (10, .int (iI (m_bo x10 (m_bt ((n : Nat) : Int))))), (7, .int (iI ((m_sm (fun b => g 2 b 10) n) + (g 2 ((n : Nat) : Int) 10)))), (6, .int (iI ((m_sm (fun b => g 2 b 9) n) + (g 2 ((n : Nat) : Int) 9)))), (5, .int (iI ((m_cnt (m_ent g) n) + (m_ib (m_ent g ((n : Nat) : Int)))))), (8, .int (iI ((m_sm (fun b => m_sm (fun j => m_ib (decide (0 ≤ g 6 j b))) (g 0 0 5).toNat) n) + (m_sm (fun j => m_ib (decide (0 ≤ g 6 j ((n : Nat) : Int)))) ((g 0 0 5).toNat))))), (17, .int (iI ((((g 0 0 5).toNat) : Nat) : Int))), (16, .int (iI (m_sm (fun j => m_ib (decide (0 ≤ g 6 j ((n : Nat) : Int)))) ((g 0 0 5).toNat)))), (15, .int (iI (m_cnt (fun j => m_fair g j (((n : Nat) : Int))) ((g 0 0 5).toNat)))), (14, .int (iI (m_standing g ((n : Nat) : Int)))), (12, .ref q9), (9, .int (iI (m_sm (fun b => m_sm (fun j => max 0 (g 6 j b)) (g 0 0 5).toNat) n + m_sm (fun j => max 0 (g 6 j ((n : Nat) : Int))) ((g 0 0 5).toNat)))), (4, .int (iI (g 0 0 4))), (3, .int (iI (g 0 0 9))), (0, .ref (a 0)), (1, .int (iI (g 0 0 3))), (2, .int (iI (g 0 0 5)))]) hx hb dL_isSo_404 hl (k := 10) rfl (by decide) rfl (fun ls hl => ?_)
                refine lv_goto (tgt := 42) hx hb dL_isSo_407 (by decide) ?_
                have hl : lv_has ls 19 [(13, .int (iI (((n : Nat) : Int) + 1))), (12, .ref q9), (11, .int (iI (m_bo x11 (m_bt ((n : Nat) : Int))))), (10, .int (iI (m_bo x10 (m_bt ((n : Nat) : Int))))), (9, .int (iI (m_sm (fun b => m_sm (fun j => max 0 (g 6 j b)) (g 0 0 5).toNat) n + m_sm (fun j => max 0 (g 6 j ((n : Nat) : Int))) ((g 0 0 5).toNat)))), (8, .int (iI ((m_sm (fun b => m_sm (fun j => m_ib (decide (0 ≤ g 6 j b))) (g 0 0 5).toNat) n) + (m_sm (fun j => m_ib (decide (0 ≤ g 6 j ((n : Nat) : Int)))) ((g 0 0 5).toNat))))), (7, .int (iI ((m_sm (fun b => g 2 b 10) n) + (g 2 ((n : Nat) : Int) 10)))), (6, .int (iI ((m_sm (fun b => g 2 b 9) n) + (g 2 ((n : Nat) : Int) 9)))), (5, .int (iI ((m_cnt (m_ent g) n) + (m_ib (m_ent g ((n : Nat) : Int)))))), (4, .int (iI (g 0 0 4))), (3, .int (iI (g 0 0 9))), (0, .ref (a 0)), (1, .int (iI (g 0 0 3))), (2, .int (iI (g 0 0 5)))] := lv_sub hl [0, 11, 1, 2, 12, 6, 3, 4, 5, 13, 14, 15, 16, 17] rfl
                have e317 : (((n : Nat) : Int) + 1) = (((n + 1) : Nat) : Int) := by rfl
                have e318 : (m_sm (fun b => m_sm (fun j => max 0 (g 6 j b)) (g 0 0 5).toNat) n + m_sm (fun j => max 0 (g 6 j ((n : Nat) : Int))) ((g 0 0 5).toNat)) = (m_sm (fun b => m_sm (fun j => max 0 (g 6 j b)) (g 0 0 5).toNat) (n + 1)) := by rfl
                have e319 : ((m_sm (fun b => m_sm (fun j => m_ib (decide (0 ≤ g 6 j b))) (g 0 0 5).toNat) n) + (m_sm (fun j => m_ib (decide (0 ≤ g 6 j ((n : Nat) : Int)))) ((g 0 0 5).toNat))) = (m_sm (fun b => m_sm (fun j => m_ib (decide (0 ≤ g 6 j b))) (g 0 0 5).toNat) (n + 1)) := by rfl
                have e320 : ((m_sm (fun b => g 2 b 10) n) + (g 2 ((n : Nat) : Int) 10)) = (m_sm (fun b => g 2 b 10) (n + 1)) := by rfl
                have e321 : ((m_sm (fun b => g 2 b 9) n) + (g 2 ((n : Nat) : Int) 9)) = (m_sm (fun b => g 2 b 9) (n + 1)) := by rfl
                have e322 : ((m_cnt (m_ent g) n) + (m_ib (m_ent g ((n : Nat) : Int)))) = (m_cnt (m_ent g) (n + 1)) := by rfl
                have hl : lv_has ls 19 [(13, .int (iI (((n + 1) : Nat) : Int))), (12, .ref q9), (11, .int (iI (m_bo x11 (m_bt ((n : Nat) : Int))))), (10, .int (iI (m_bo x10 (m_bt ((n : Nat) : Int))))), (9, .int (iI (m_sm (fun b => m_sm (fun j => max 0 (g 6 j b)) (g 0 0 5).toNat) (n + 1)))), (8, .int (iI (m_sm (fun b => m_sm (fun j => m_ib (decide (0 ≤ g 6 j b))) (g 0 0 5).toNat) (n + 1)))), (7, .int (iI (m_sm (fun b => g 2 b 10) (n + 1)))), (6, .int (iI (m_sm (fun b => g 2 b 9) (n + 1)))), (5, .int (iI (m_cnt (m_ent g) (n + 1)))), (4, .int (iI (g 0 0 4))), (3, .int (iI (g 0 0 9))), (0, .ref (a 0)), (1, .int (iI (g 0 0 3))), (2, .int (iI (g 0 0 5)))] := lv_cast hl (by rw [e317, e318, e319, e320, e321, e322])
                exact ih42 (n + 1) (m_bo x10 (m_bt ((n : Nat) : Int))) (m_bo x11 (m_bt ((n : Nat) : Int))) v313 fx301 H locs ls (by omega) (by first | (rw [fo_s, ← hx10, h11]; rfl)) (by first | (rw [fo_s, ← hx11, h13]; rfl)) (by omega) (sx_yes hxf1 h11 (by omega) hfx301) hX hP hS hl
              · skip
                refine lv_aload_n hx hb dL_isSo_392 rfl (lv_at hl 15 rfl) ?_
                refine lv_iload hx hb dL_isSo_393 (lv_at hl 10 rfl) ?_
                refine va_calli (va_runV (As := [.int (iI ((n : Nat) : Int))]) (rest := []) ⟨hx, hb, hml, hown, hw⟩ (c_spoiled l D a cH cB cJ cI ha g v313 H.size ((n : Nat) : Int) hWf (by omega) (hsb)) (cwV 1 hw (gA_V kw_455 kw_456 kw_457 kw_2 kw_458) rfl rfl rfl (by decide +kernel) ⟨Nat.le_of_ble_eq_true rfl, Nat.le_of_ble_eq_true rfl⟩) (pS_v (ci := 4) (q0 := 0) rfl pw_0 hP hK hE) rfl rfl hl.1 rfl (lv_room (Nat.le_of_ble_eq_true rfl)) dL_isSo_395 ⟨Nat.le_of_ble_eq_true rfl, Nat.le_of_ble_eq_true rfl⟩) hS (fun q _ h => rw_A hS hA hB q h) (fun q h => rw_A hS hA hB q h) (fun r u t H1 locs ht hvm hw9 hB9 hz1 hk1 hS => ?_)
                have hw9 : r = (iI (m_spoiled g ((n : Nat) : Int))) := hw9
                subst hw9
                obtain ⟨v323, hP1⟩ := hB9
                rw [ht] at hP1
                have hP : va_P D vwCl (pw a cH cB cJ cI g v323) H1 := hP1
                have hX := rw_X hX hq hk1
                generalize H1 = H at hP hX hS ⊢
                refine lv_iconst (v := iI (-1)) hx hb dL_isSo_398 (by decide) ?_
                refine n_icmp_eq hx hb (by unfold RI; omega) (by unfold RI; omega) (tgt := 404) dL_isSo_399 (by decide) (fun h324 => ?_) (fun h324 => absurd h324 (by intro h324; omega))
                refine n_inc (lv' := [(13, .int (iI (((n : Nat) : Int) + 1))), (11, .int (iI (m_bo x11 (m_bt ((n : Nat) : Int))))), (10, .int (iI (m_bo x10 (m_bt ((n : Nat) : Int))))), (7, .int (iI ((m_sm (fun b => g 2 b 10) n) + (g 2 ((n : Nat) : Int) 10)))), (6, .int (iI ((m_sm (fun b => g 2 b 9) n) + (g 2 ((n : Nat) : Int) 9)))), (5, .int (iI ((m_cnt (m_ent g) n) + (m_ib (m_ent g ((n : Nat) : Int)))))), (8, .int (iI ((m_sm (fun b => m_sm (fun j => m_ib (decide (0 ≤ g 6 j b))) (g 0 0 5).toNat) n) + (m_sm (fun j => m_ib (decide (0 ≤ g 6 j ((n : Nat) : Int)))) ((g 0 0 5).toNat))))), (17, .int (iI ((((g 0 0 5).toNat) : Nat) : Int))), (16, .int (iI (m_sm (fun j => m_ib (decide (0 ≤ g 6 j ((n : Nat) : Int)))) ((g 0 0 5).toNat)))), (15, .int (iI (m_cnt (fun j => m_fair g j (((n : Nat) : Int))) ((g 0 0 5).toNat)))), (14, .int (iI (m_standing g ((n : Nat) : Int)))), (12, .ref q9), (9, .int (iI (m_sm (fun b => m_sm (fun j => max 0 (g 6 j b)) (g 0 0 5).toNat) n + m_sm (fun j => max 0 (g 6 j ((n : Nat) : Int))) ((g 0 0 5).toNat)))), (4, .int (iI (g 0 0 4))), (3, .int (iI (g 0 0 9))), (0, .ref (a 0)), (1, .int (iI (g 0 0 3))), (2, .int (iI (g 0 0 5)))]) hx hb dL_isSo_404 hl (k := 10) rfl (by decide) rfl (fun ls hl => ?_)
                refine lv_goto (tgt := 42) hx hb dL_isSo_407 (by decide) ?_
                have hl : lv_has ls 19 [(13, .int (iI (((n : Nat) : Int) + 1))), (12, .ref q9), (11, .int (iI (m_bo x11 (m_bt ((n : Nat) : Int))))), (10, .int (iI (m_bo x10 (m_bt ((n : Nat) : Int))))), (9, .int (iI (m_sm (fun b => m_sm (fun j => max 0 (g 6 j b)) (g 0 0 5).toNat) n + m_sm (fun j => max 0 (g 6 j ((n : Nat) : Int))) ((g 0 0 5).toNat)))), (8, .int (iI ((m_sm (fun b => m_sm (fun j => m_ib (decide (0 ≤ g 6 j b))) (g 0 0 5).toNat) n) + (m_sm (fun j => m_ib (decide (0 ≤ g 6 j ((n : Nat) : Int)))) ((g 0 0 5).toNat))))), (7, .int (iI ((m_sm (fun b => g 2 b 10) n) + (g 2 ((n : Nat) : Int) 10)))), (6, .int (iI ((m_sm (fun b => g 2 b 9) n) + (g 2 ((n : Nat) : Int) 9)))), (5, .int (iI ((m_cnt (m_ent g) n) + (m_ib (m_ent g ((n : Nat) : Int)))))), (4, .int (iI (g 0 0 4))), (3, .int (iI (g 0 0 9))), (0, .ref (a 0)), (1, .int (iI (g 0 0 3))), (2, .int (iI (g 0 0 5)))] := lv_sub hl [0, 11, 1, 2, 12, 6, 3, 4, 5, 13, 14, 15, 16, 17] rfl
                have e325 : (((n : Nat) : Int) + 1) = (((n + 1) : Nat) : Int) := by rfl
                have e326 : (m_sm (fun b => m_sm (fun j => max 0 (g 6 j b)) (g 0 0 5).toNat) n + m_sm (fun j => max 0 (g 6 j ((n : Nat) : Int))) ((g 0 0 5).toNat)) = (m_sm (fun b => m_sm (fun j => max 0 (g 6 j b)) (g 0 0 5).toNat) (n + 1)) := by rfl
                have e327 : ((m_sm (fun b => m_sm (fun j => m_ib (decide (0 ≤ g 6 j b))) (g 0 0 5).toNat) n) + (m_sm (fun j => m_ib (decide (0 ≤ g 6 j ((n : Nat) : Int)))) ((g 0 0 5).toNat))) = (m_sm (fun b => m_sm (fun j => m_ib (decide (0 ≤ g 6 j b))) (g 0 0 5).toNat) (n + 1)) := by rfl
                have e328 : ((m_sm (fun b => g 2 b 10) n) + (g 2 ((n : Nat) : Int) 10)) = (m_sm (fun b => g 2 b 10) (n + 1)) := by rfl
                have e329 : ((m_sm (fun b => g 2 b 9) n) + (g 2 ((n : Nat) : Int) 9)) = (m_sm (fun b => g 2 b 9) (n + 1)) := by rfl
                have e330 : ((m_cnt (m_ent g) n) + (m_ib (m_ent g ((n : Nat) : Int)))) = (m_cnt (m_ent g) (n + 1)) := by rfl
                have hl : lv_has ls 19 [(13, .int (iI (((n + 1) : Nat) : Int))), (12, .ref q9), (11, .int (iI (m_bo x11 (m_bt ((n : Nat) : Int))))), (10, .int (iI (m_bo x10 (m_bt ((n : Nat) : Int))))), (9, .int (iI (m_sm (fun b => m_sm (fun j => max 0 (g 6 j b)) (g 0 0 5).toNat) (n + 1)))), (8, .int (iI (m_sm (fun b => m_sm (fun j => m_ib (decide (0 ≤ g 6 j b))) (g 0 0 5).toNat) (n + 1)))), (7, .int (iI (m_sm (fun b => g 2 b 10) (n + 1)))), (6, .int (iI (m_sm (fun b => g 2 b 9) (n + 1)))), (5, .int (iI (m_cnt (m_ent g) (n + 1)))), (4, .int (iI (g 0 0 4))), (3, .int (iI (g 0 0 9))), (0, .ref (a 0)), (1, .int (iI (g 0 0 3))), (2, .int (iI (g 0 0 5)))] := lv_cast hl (by rw [e325, e326, e327, e328, e329, e330])
                exact ih42 (n + 1) (m_bo x10 (m_bt ((n : Nat) : Int))) (m_bo x11 (m_bt ((n : Nat) : Int))) v323 fx301 H locs ls (by omega) (by first | (rw [fo_s, ← hx10, h11]; rfl)) (by first | (rw [fo_s, ← hx11, h13]; rfl)) (by omega) (sx_yes hxf1 h11 (by omega) hfx301) hX hP hS hl
            · skip
              refine lv_aload_n hx hb dL_isSo_306 rfl (lv_at hl 15 rfl) ?_
              refine lv_iload hx hb dL_isSo_307 (lv_at hl 10 rfl) ?_
              refine lv_bipush (v := iI 8) hx hb dL_isSo_309 (by decide) ?_
              refine va_calli (va_runV (As := [.int (iI ((n : Nat) : Int)), .int (iI 8)]) (rest := []) ⟨hx, hb, hml, hown, hw⟩ (c_ofBook l D a cH cB cJ cI ha g vq H.size ((n : Nat) : Int) 8 hWf (by omega) (by omega)) (cwV 2 hw (gA_V kw_206 kw_207 kw_208 kw_2 kw_209) rfl rfl rfl (by decide +kernel) ⟨Nat.le_of_ble_eq_true rfl, Nat.le_of_ble_eq_true rfl⟩) (pS_v (ci := 4) (q0 := 0) rfl pw_0 hP hK hE) rfl rfl hl.1 rfl (lv_room (Nat.le_of_ble_eq_true rfl)) dL_isSo_311 ⟨Nat.le_of_ble_eq_true rfl, Nat.le_of_ble_eq_true rfl⟩) hS (fun q h1 h2 => ro_A h1 h2) (fun q h => ro_F hS hA q h) (fun r u t H1 locs ht hvm hw9 hB9 hz1 hk1 hS => ?_)
              have hw9 : r = (iI (m_ofBook g ((n : Nat) : Int) 8)) := hw9
              subst hw9
              have hP := ro_P hP hk1
              have hX := ro_P hX hk1
              generalize H1 = H at hP hX hS ⊢
              rw [show (m_ofBook g ((n : Nat) : Int) 8) = 0 from (show m_score g ↑n = 0 from by unfold m_score; exact if_pos h304)]
              refine n_if_ne hx hb (by unfold RI; omega) (tgt := 373) dL_isSo_314 (by decide) (fun h331 => absurd h331 (by intro h331; omega)) (fun h331 => ?_)
              refine lv_iload hx hb dL_isSo_317 (lv_at hl 9 rfl) ?_
              refine n_if_le hx hb (by unfold RI; omega) (tgt := 333) dL_isSo_319 (by decide) (fun h332 => absurd h332 (by intro h332; omega)) (fun h332 => ?_)
              refine lv_aload_n hx hb dL_isSo_322 rfl (lv_at hl 15 rfl) ?_
              refine lv_iload hx hb dL_isSo_323 (lv_at hl 10 rfl) ?_
              refine lv_bipush (v := iI 6) hx hb dL_isSo_325 (by decide) ?_
              refine va_calli (va_runV (As := [.int (iI ((n : Nat) : Int)), .int (iI 6)]) (rest := []) ⟨hx, hb, hml, hown, hw⟩ (c_ofBook l D a cH cB cJ cI ha g vq H.size ((n : Nat) : Int) 6 hWf (by omega) (by omega)) (cwV 2 hw (gA_V kw_206 kw_207 kw_208 kw_2 kw_209) rfl rfl rfl (by decide +kernel) ⟨Nat.le_of_ble_eq_true rfl, Nat.le_of_ble_eq_true rfl⟩) (pS_v (ci := 4) (q0 := 0) rfl pw_0 hP hK hE) rfl rfl hl.1 rfl (lv_room (Nat.le_of_ble_eq_true rfl)) dL_isSo_327 ⟨Nat.le_of_ble_eq_true rfl, Nat.le_of_ble_eq_true rfl⟩) hS (fun q h1 h2 => ro_A h1 h2) (fun q h => ro_F hS hA q h) (fun r u t H1 locs ht hvm hw9 hB9 hz1 hk1 hS => ?_)
              have hw9 : r = (iI (m_ofBook g ((n : Nat) : Int) 6)) := hw9
              subst hw9
              have hP := ro_P hP hk1
              have hX := ro_P hX hk1
              generalize H1 = H at hP hX hS ⊢
              rw [show (m_ofBook g ((n : Nat) : Int) 6) = (m_ib (m_ent g ((n : Nat) : Int))) from rfl]
              refine n_if_eq hx hb (by unfold RI; omega) (tgt := 373) dL_isSo_330 (by decide) (fun h333 => absurd h333 (by intro h333; omega)) (fun h333 => ?_)
              refine lv_iload hx hb dL_isSo_333 (lv_at hl 9 rfl) ?_
              refine lv_iconst (v := iI 3) hx hb dL_isSo_335 (by decide) ?_
              refine n_icmp_ne hx hb (by unfold RI; omega) (by unfold RI; omega) (tgt := 343) dL_isSo_336 (by decide) (fun h334 => absurd h334 (by intro h334; omega)) (fun h334 => ?_)
              refine lv_iconst (v := iI 1) hx hb dL_isSo_339 (by decide) ?_
              refine lv_goto (tgt := 344) hx hb dL_isSo_340 (by decide) ?_
              refine lv_aload_n hx hb dL_isSo_344 rfl (lv_at hl 15 rfl) ?_
              refine lv_bipush (v := iI 9) hx hb dL_isSo_345 (by decide) ?_
              refine va_calli (va_runV (As := [.int (iI 9)]) (rest := [.int (iI 1)]) ⟨hx, hb, hml, hown, hw⟩ (c_many l D a cH cB cJ cI ha g vq H.size 9 hWf (by omega)) (cwV 1 hw (gA_V kw_92 kw_93 kw_94 kw_2 kw_95) rfl rfl rfl (by decide +kernel) ⟨Nat.le_of_ble_eq_true rfl, Nat.le_of_ble_eq_true rfl⟩) (pS_v (ci := 4) (q0 := 0) rfl pw_0 hP hK hE) rfl rfl hl.1 rfl (lv_room (Nat.le_of_ble_eq_true rfl)) dL_isSo_347 ⟨Nat.le_of_ble_eq_true rfl, Nat.le_of_ble_eq_true rfl⟩) hS (fun q h1 h2 => ro_A h1 h2) (fun q h => ro_F hS hA q h) (fun r u t H1 locs ht hvm hw9 hB9 hz1 hk1 hS => ?_)
              have hw9 : r = (iI (m_many g 9)) := hw9
              subst hw9
              have hP := ro_P hP hk1
              have hX := ro_P hX hk1
              generalize H1 = H at hP hX hS ⊢
              rw [show (m_many g 9) = (g 0 0 14) from rfl]
              have s335 := Wf.m14 hWf
              refine lv_iload hx hb dL_isSo_350 (lv_at hl 10 rfl) ?_
              refine n_icmp_ne hx hb (by unfold RI; omega) (by unfold RI; omega) (tgt := 359) dL_isSo_352 (by decide) (fun h336 => absurd h336 (by intro h336; omega)) (fun h336 => ?_)
              refine lv_iconst (v := iI 1) hx hb dL_isSo_355 (by decide) ?_
              refine lv_goto (tgt := 360) hx hb dL_isSo_356 (by decide) ?_
              refine n_icmp_ne hx hb (by unfold RI; omega) (by unfold RI; omega) (tgt := 373) dL_isSo_360 (by decide) (fun h337 => absurd h337 (by intro h337; omega)) (fun h337 => ?_)
              refine lv_aload_n hx hb dL_isSo_363 rfl (lv_at hl 15 rfl) ?_
              refine lv_iload hx hb dL_isSo_364 (lv_at hl 10 rfl) ?_
              refine lv_iconst (v := iI 2) hx hb dL_isSo_366 (by decide) ?_
              refine va_calli (va_runV (As := [.int (iI ((n : Nat) : Int)), .int (iI 2)]) (rest := []) ⟨hx, hb, hml, hown, hw⟩ (c_ofBook l D a cH cB cJ cI ha g vq H.size ((n : Nat) : Int) 2 hWf (by omega) (by omega)) (cwV 2 hw (gA_V kw_206 kw_207 kw_208 kw_2 kw_209) rfl rfl rfl (by decide +kernel) ⟨Nat.le_of_ble_eq_true rfl, Nat.le_of_ble_eq_true rfl⟩) (pS_v (ci := 4) (q0 := 0) rfl pw_0 hP hK hE) rfl rfl hl.1 rfl (lv_room (Nat.le_of_ble_eq_true rfl)) dL_isSo_367 ⟨Nat.le_of_ble_eq_true rfl, Nat.le_of_ble_eq_true rfl⟩) hS (fun q h1 h2 => ro_A h1 h2) (fun q h => ro_F hS hA q h) (fun r u t H1 locs ht hvm hw9 hB9 hz1 hk1 hS => ?_)
              have hw9 : r = (iI (m_ofBook g ((n : Nat) : Int) 2)) := hw9
              subst hw9
              have hP := ro_P hP hk1
              have hX := ro_P hX hk1
              generalize H1 = H at hP hX hS ⊢
              rw [show (m_ofBook g ((n : Nat) : Int) 2) = (g 2 ((n : Nat) : Int) 8) from rfl]
              have s338 := Wf.b8 hWf (k := ((n : Nat) : Int)) (by omega) (by omega)
              refine n_if_ge hx hb (by unfold RI; omega) (tgt := 375) dL_isSo_370 (by decide) (fun h339 => ?_) (fun h339 => absurd h339 (by intro h339; omega))
              refine lv_aload_n hx hb dL_isSo_375 rfl (lv_at hl 15 rfl) ?_
              refine lv_iload hx hb dL_isSo_376 (lv_at hl 10 rfl) ?_
              refine va_calli (va_runV (As := [.int (iI ((n : Nat) : Int))]) (rest := []) ⟨hx, hb, hml, hown, hw⟩ (c_spoiled l D a cH cB cJ cI ha g vq H.size ((n : Nat) : Int) hWf (by omega) (hsb)) (cwV 1 hw (gA_V kw_455 kw_456 kw_457 kw_2 kw_458) rfl rfl rfl (by decide +kernel) ⟨Nat.le_of_ble_eq_true rfl, Nat.le_of_ble_eq_true rfl⟩) (pS_v (ci := 4) (q0 := 0) rfl pw_0 hP hK hE) rfl rfl hl.1 rfl (lv_room (Nat.le_of_ble_eq_true rfl)) dL_isSo_378 ⟨Nat.le_of_ble_eq_true rfl, Nat.le_of_ble_eq_true rfl⟩) hS (fun q _ h => rw_A hS hA hB q h) (fun q h => rw_A hS hA hB q h) (fun r u t H1 locs ht hvm hw9 hB9 hz1 hk1 hS => ?_)
              have hw9 : r = (iI (m_spoiled g ((n : Nat) : Int))) := hw9
              subst hw9
              obtain ⟨v340, hP1⟩ := hB9
              rw [ht] at hP1
              have hP : va_P D vwCl (pw a cH cB cJ cI g v340) H1 := hP1
              have hX := rw_X hX hq hk1
              generalize H1 = H at hP hX hS ⊢
              have s341 := spo_b hWf ((n : Nat) : Int)
              refine lv_iload hx hb dL_isSo_381 (lv_at hl 10 rfl) ?_
              refine n_icmp_eq hx hb (by unfold RI; omega) (by unfold RI; omega) (tgt := 402) dL_isSo_383 (by decide) (fun h342 => absurd h342 (by intro h342; omega)) (fun h342 => ?_)
              refine lv_iload hx hb dL_isSo_386 (lv_at hl 9 rfl) ?_
              refine lv_iconst (v := iI 2) hx hb dL_isSo_388 (by decide) ?_
              refine n_icmp_ge hx hb (by unfold RI; omega) (by unfold RI; omega) (tgt := 404) dL_isSo_389 (by decide) (fun h343 => ?_) (fun h343 => ?_)
              · skip
                refine n_inc (lv' := [(13, .int (iI (((n : Nat) : Int) + 1))), (11, .int (iI (m_bo x11 (m_bt ((n : Nat) : Int))))), (10, .int (iI (m_bo x10 (m_bt ((n : Nat) : Int))))), (7, .int (iI ((m_sm (fun b => g 2 b 10) n) + (g 2 ((n : Nat) : Int) 10)))), (6, .int (iI ((m_sm (fun b => g 2 b 9) n) + (g 2 ((n : Nat) : Int) 9)))), (5, .int (iI ((m_cnt (m_ent g) n) + (m_ib (m_ent g ((n : Nat) : Int)))))), (8, .int (iI ((m_sm (fun b => m_sm (fun j => m_ib (decide (0 ≤ g 6 j b))) (g 0 0 5).toNat) n) + (m_sm (fun j => m_ib (decide (0 ≤ g 6 j ((n : Nat) : Int)))) ((g 0 0 5).toNat))))), (17, .int (iI ((((g 0 0 5).toNat) : Nat) : Int))), (16, .int (iI (m_sm (fun j => m_ib (decide (0 ≤ g 6 j ((n : Nat) : Int)))) ((g 0 0 5).toNat)))), (15, .int (iI (m_cnt (fun j => m_fair g j (((n : Nat) : Int))) ((g 0 0 5).toNat)))), (14, .int (iI (m_standing g ((n : Nat) : Int)))), (12, .ref q9), (9, .int (iI (m_sm (fun b => m_sm (fun j => max 0 (g 6 j b)) (g 0 0 5).toNat) n + m_sm (fun j => max 0 (g 6 j ((n : Nat) : Int))) ((g 0 0 5).toNat)))), (4, .int (iI (g 0 0 4))), (3, .int (iI (g 0 0 9))), (0, .ref (a 0)), (1, .int (iI (g 0 0 3))), (2, .int (iI (g 0 0 5)))]) hx hb dL_isSo_404 hl (k := 10) rfl (by decide) rfl (fun ls hl => ?_)
                refine lv_goto (tgt := 42) hx hb dL_isSo_407 (by decide) ?_
                have hl : lv_has ls 19 [(13, .int (iI (((n : Nat) : Int) + 1))), (12, .ref q9), (11, .int (iI (m_bo x11 (m_bt ((n : Nat) : Int))))), (10, .int (iI (m_bo x10 (m_bt ((n : Nat) : Int))))), (9, .int (iI (m_sm (fun b => m_sm (fun j => max 0 (g 6 j b)) (g 0 0 5).toNat) n + m_sm (fun j => max 0 (g 6 j ((n : Nat) : Int))) ((g 0 0 5).toNat)))), (8, .int (iI ((m_sm (fun b => m_sm (fun j => m_ib (decide (0 ≤ g 6 j b))) (g 0 0 5).toNat) n) + (m_sm (fun j => m_ib (decide (0 ≤ g 6 j ((n : Nat) : Int)))) ((g 0 0 5).toNat))))), (7, .int (iI ((m_sm (fun b => g 2 b 10) n) + (g 2 ((n : Nat) : Int) 10)))), (6, .int (iI ((m_sm (fun b => g 2 b 9) n) + (g 2 ((n : Nat) : Int) 9)))), (5, .int (iI ((m_cnt (m_ent g) n) + (m_ib (m_ent g ((n : Nat) : Int)))))), (4, .int (iI (g 0 0 4))), (3, .int (iI (g 0 0 9))), (0, .ref (a 0)), (1, .int (iI (g 0 0 3))), (2, .int (iI (g 0 0 5)))] := lv_sub hl [0, 11, 1, 2, 12, 6, 3, 4, 5, 13, 14, 15, 16, 17] rfl
                have e344 : (((n : Nat) : Int) + 1) = (((n + 1) : Nat) : Int) := by rfl
                have e345 : (m_sm (fun b => m_sm (fun j => max 0 (g 6 j b)) (g 0 0 5).toNat) n + m_sm (fun j => max 0 (g 6 j ((n : Nat) : Int))) ((g 0 0 5).toNat)) = (m_sm (fun b => m_sm (fun j => max 0 (g 6 j b)) (g 0 0 5).toNat) (n + 1)) := by rfl
                have e346 : ((m_sm (fun b => m_sm (fun j => m_ib (decide (0 ≤ g 6 j b))) (g 0 0 5).toNat) n) + (m_sm (fun j => m_ib (decide (0 ≤ g 6 j ((n : Nat) : Int)))) ((g 0 0 5).toNat))) = (m_sm (fun b => m_sm (fun j => m_ib (decide (0 ≤ g 6 j b))) (g 0 0 5).toNat) (n + 1)) := by rfl
                have e347 : ((m_sm (fun b => g 2 b 10) n) + (g 2 ((n : Nat) : Int) 10)) = (m_sm (fun b => g 2 b 10) (n + 1)) := by rfl
                have e348 : ((m_sm (fun b => g 2 b 9) n) + (g 2 ((n : Nat) : Int) 9)) = (m_sm (fun b => g 2 b 9) (n + 1)) := by rfl
                have e349 : ((m_cnt (m_ent g) n) + (m_ib (m_ent g ((n : Nat) : Int)))) = (m_cnt (m_ent g) (n + 1)) := by rfl
                have hl : lv_has ls 19 [(13, .int (iI (((n + 1) : Nat) : Int))), (12, .ref q9), (11, .int (iI (m_bo x11 (m_bt ((n : Nat) : Int))))), (10, .int (iI (m_bo x10 (m_bt ((n : Nat) : Int))))), (9, .int (iI (m_sm (fun b => m_sm (fun j => max 0 (g 6 j b)) (g 0 0 5).toNat) (n + 1)))), (8, .int (iI (m_sm (fun b => m_sm (fun j => m_ib (decide (0 ≤ g 6 j b))) (g 0 0 5).toNat) (n + 1)))), (7, .int (iI (m_sm (fun b => g 2 b 10) (n + 1)))), (6, .int (iI (m_sm (fun b => g 2 b 9) (n + 1)))), (5, .int (iI (m_cnt (m_ent g) (n + 1)))), (4, .int (iI (g 0 0 4))), (3, .int (iI (g 0 0 9))), (0, .ref (a 0)), (1, .int (iI (g 0 0 3))), (2, .int (iI (g 0 0 5)))] := lv_cast hl (by rw [e344, e345, e346, e347, e348, e349])
                exact ih42 (n + 1) (m_bo x10 (m_bt ((n : Nat) : Int))) (m_bo x11 (m_bt ((n : Nat) : Int))) v340 fx301 H locs ls (by omega) (by first | (rw [fo_s, ← hx10, h11]; rfl)) (by first | (rw [fo_s, ← hx11, h13]; rfl)) (by omega) (sx_yes hxf1 h11 (by omega) hfx301) hX hP hS hl
              · skip
                refine lv_aload_n hx hb dL_isSo_392 rfl (lv_at hl 15 rfl) ?_
                refine lv_iload hx hb dL_isSo_393 (lv_at hl 10 rfl) ?_
                refine va_calli (va_runV (As := [.int (iI ((n : Nat) : Int))]) (rest := []) ⟨hx, hb, hml, hown, hw⟩ (c_spoiled l D a cH cB cJ cI ha g v340 H.size ((n : Nat) : Int) hWf (by omega) (hsb)) (cwV 1 hw (gA_V kw_455 kw_456 kw_457 kw_2 kw_458) rfl rfl rfl (by decide +kernel) ⟨Nat.le_of_ble_eq_true rfl, Nat.le_of_ble_eq_true rfl⟩) (pS_v (ci := 4) (q0 := 0) rfl pw_0 hP hK hE) rfl rfl hl.1 rfl (lv_room (Nat.le_of_ble_eq_true rfl)) dL_isSo_395 ⟨Nat.le_of_ble_eq_true rfl, Nat.le_of_ble_eq_true rfl⟩) hS (fun q _ h => rw_A hS hA hB q h) (fun q h => rw_A hS hA hB q h) (fun r u t H1 locs ht hvm hw9 hB9 hz1 hk1 hS => ?_)
                have hw9 : r = (iI (m_spoiled g ((n : Nat) : Int))) := hw9
                subst hw9
                obtain ⟨v350, hP1⟩ := hB9
                rw [ht] at hP1
                have hP : va_P D vwCl (pw a cH cB cJ cI g v350) H1 := hP1
                have hX := rw_X hX hq hk1
                generalize H1 = H at hP hX hS ⊢
                refine lv_iconst (v := iI (-1)) hx hb dL_isSo_398 (by decide) ?_
                refine n_icmp_eq hx hb (by unfold RI; omega) (by unfold RI; omega) (tgt := 404) dL_isSo_399 (by decide) (fun h351 => ?_) (fun h351 => absurd h351 (by intro h351; omega))
                refine n_inc (lv' := [(13, .int (iI (((n : Nat) : Int) + 1))), (11, .int (iI (m_bo x11 (m_bt ((n : Nat) : Int))))), (10, .int (iI (m_bo x10 (m_bt ((n : Nat) : Int))))), (7, .int (iI ((m_sm (fun b => g 2 b 10) n) + (g 2 ((n : Nat) : Int) 10)))), (6, .int (iI ((m_sm (fun b => g 2 b 9) n) + (g 2 ((n : Nat) : Int) 9)))), (5, .int (iI ((m_cnt (m_ent g) n) + (m_ib (m_ent g ((n : Nat) : Int)))))), (8, .int (iI ((m_sm (fun b => m_sm (fun j => m_ib (decide (0 ≤ g 6 j b))) (g 0 0 5).toNat) n) + (m_sm (fun j => m_ib (decide (0 ≤ g 6 j ((n : Nat) : Int)))) ((g 0 0 5).toNat))))), (17, .int (iI ((((g 0 0 5).toNat) : Nat) : Int))), (16, .int (iI (m_sm (fun j => m_ib (decide (0 ≤ g 6 j ((n : Nat) : Int)))) ((g 0 0 5).toNat)))), (15, .int (iI (m_cnt (fun j => m_fair g j (((n : Nat) : Int))) ((g 0 0 5).toNat)))), (14, .int (iI (m_standing g ((n : Nat) : Int)))), (12, .ref q9), (9, .int (iI (m_sm (fun b => m_sm (fun j => max 0 (g 6 j b)) (g 0 0 5).toNat) n + m_sm (fun j => max 0 (g 6 j ((n : Nat) : Int))) ((g 0 0 5).toNat)))), (4, .int (iI (g 0 0 4))), (3, .int (iI (g 0 0 9))), (0, .ref (a 0)), (1, .int (iI (g 0 0 3))), (2, .int (iI (g 0 0 5)))]) hx hb dL_isSo_404 hl (k := 10) rfl (by decide) rfl (fun ls hl => ?_)
                refine lv_goto (tgt := 42) hx hb dL_isSo_407 (by decide) ?_
                have hl : lv_has ls 19 [(13, .int (iI (((n : Nat) : Int) + 1))), (12, .ref q9), (11, .int (iI (m_bo x11 (m_bt ((n : Nat) : Int))))), (10, .int (iI (m_bo x10 (m_bt ((n : Nat) : Int))))), (9, .int (iI (m_sm (fun b => m_sm (fun j => max 0 (g 6 j b)) (g 0 0 5).toNat) n + m_sm (fun j => max 0 (g 6 j ((n : Nat) : Int))) ((g 0 0 5).toNat)))), (8, .int (iI ((m_sm (fun b => m_sm (fun j => m_ib (decide (0 ≤ g 6 j b))) (g 0 0 5).toNat) n) + (m_sm (fun j => m_ib (decide (0 ≤ g 6 j ((n : Nat) : Int)))) ((g 0 0 5).toNat))))), (7, .int (iI ((m_sm (fun b => g 2 b 10) n) + (g 2 ((n : Nat) : Int) 10)))), (6, .int (iI ((m_sm (fun b => g 2 b 9) n) + (g 2 ((n : Nat) : Int) 9)))), (5, .int (iI ((m_cnt (m_ent g) n) + (m_ib (m_ent g ((n : Nat) : Int)))))), (4, .int (iI (g 0 0 4))), (3, .int (iI (g 0 0 9))), (0, .ref (a 0)), (1, .int (iI (g 0 0 3))), (2, .int (iI (g 0 0 5)))] := lv_sub hl [0, 11, 1, 2, 12, 6, 3, 4, 5, 13, 14, 15, 16, 17] rfl
                have e352 : (((n : Nat) : Int) + 1) = (((n + 1) : Nat) : Int) := by rfl
                have e353 : (m_sm (fun b => m_sm (fun j => max 0 (g 6 j b)) (g 0 0 5).toNat) n + m_sm (fun j => max 0 (g 6 j ((n : Nat) : Int))) ((g 0 0 5).toNat)) = (m_sm (fun b => m_sm (fun j => max 0 (g 6 j b)) (g 0 0 5).toNat) (n + 1)) := by rfl
                have e354 : ((m_sm (fun b => m_sm (fun j => m_ib (decide (0 ≤ g 6 j b))) (g 0 0 5).toNat) n) + (m_sm (fun j => m_ib (decide (0 ≤ g 6 j ((n : Nat) : Int)))) ((g 0 0 5).toNat))) = (m_sm (fun b => m_sm (fun j => m_ib (decide (0 ≤ g 6 j b))) (g 0 0 5).toNat) (n + 1)) := by rfl
                have e355 : ((m_sm (fun b => g 2 b 10) n) + (g 2 ((n : Nat) : Int) 10)) = (m_sm (fun b => g 2 b 10) (n + 1)) := by rfl
                have e356 : ((m_sm (fun b => g 2 b 9) n) + (g 2 ((n : Nat) : Int) 9)) = (m_sm (fun b => g 2 b 9) (n + 1)) := by rfl
                have e357 : ((m_cnt (m_ent g) n) + (m_ib (m_ent g ((n : Nat) : Int)))) = (m_cnt (m_ent g) (n + 1)) := by rfl
                have hl : lv_has ls 19 [(13, .int (iI (((n + 1) : Nat) : Int))), (12, .ref q9), (11, .int (iI (m_bo x11 (m_bt ((n : Nat) : Int))))), (10, .int (iI (m_bo x10 (m_bt ((n : Nat) : Int))))), (9, .int (iI (m_sm (fun b => m_sm (fun j => max 0 (g 6 j b)) (g 0 0 5).toNat) (n + 1)))), (8, .int (iI (m_sm (fun b => m_sm (fun j => m_ib (decide (0 ≤ g 6 j b))) (g 0 0 5).toNat) (n + 1)))), (7, .int (iI (m_sm (fun b => g 2 b 10) (n + 1)))), (6, .int (iI (m_sm (fun b => g 2 b 9) (n + 1)))), (5, .int (iI (m_cnt (m_ent g) (n + 1)))), (4, .int (iI (g 0 0 4))), (3, .int (iI (g 0 0 9))), (0, .ref (a 0)), (1, .int (iI (g 0 0 3))), (2, .int (iI (g 0 0 5)))] := lv_cast hl (by rw [e352, e353, e354, e355, e356, e357])
                exact ih42 (n + 1) (m_bo x10 (m_bt ((n : Nat) : Int))) (m_bo x11 (m_bt ((n : Nat) : Int))) v350 fx301 H locs ls (by omega) (by first | (rw [fo_s, ← hx10, h11]; rfl)) (by first | (rw [fo_s, ← hx11, h13]; rfl)) (by omega) (sx_yes hxf1 h11 (by omega) hfx301) hX hP hS hl
        | succ d1 ih68 =>
          intro n1 fq1 H locs ls hn1 hxf1 hX hP hS hl
          refine lv_iload hx hb dL_isSo_68 (lv_at hl 0 rfl) ?_
          refine lv_iload_n hx hb dL_isSo_70 rfl (lv_at hl 17 rfl) ?_
          refine n_icmp_ge hx hb (by unfold RI; omega) (by unfold RI; omega) (tgt := 182) dL_isSo_71 (by decide) (fun h358 => absurd h358 (by intro h358; omega)) (fun h358 => ?_)
          refine lv_aload_n hx hb dL_isSo_74 rfl (lv_at hl 15 rfl) ?_
          refine lv_iload hx hb dL_isSo_75 (lv_at hl 0 rfl) ?_
          refine lv_iload hx hb dL_isSo_77 (lv_at hl 4 rfl) ?_
          refine va_calli (va_runV (As := [.int (iI ((n1 : Nat) : Int)), .int (iI ((n : Nat) : Int))]) (rest := []) ⟨hx, hb, hml, hown, hw⟩ (c_mark l D a cH cB cJ cI ha g vq H.size ((n1 : Nat) : Int) ((n : Nat) : Int) hWf (by omega) (by omega)) (cwV 2 hw (gA_V kw_153 kw_154 kw_155 kw_2 kw_156) rfl rfl rfl (by decide +kernel) ⟨Nat.le_of_ble_eq_true rfl, Nat.le_of_ble_eq_true rfl⟩) (pS_v (ci := 4) (q0 := 0) rfl pw_0 hP hK hE) rfl rfl hl.1 rfl (lv_room (Nat.le_of_ble_eq_true rfl)) dL_isSo_79 ⟨Nat.le_of_ble_eq_true rfl, Nat.le_of_ble_eq_true rfl⟩) hS (fun q h1 h2 => ro_A h1 h2) (fun q h => ro_F hS hA q h) (fun r u t H1 locs ht hvm hw9 hB9 hz1 hk1 hS => ?_)
          have hw9 : r = (iI (g 6 ((n1 : Nat) : Int) ((n : Nat) : Int))) := hw9
          subst hw9
          have hP := ro_P hP hk1
          have hX := ro_P hX hk1
          generalize H1 = H at hP hX hS ⊢
          have s359 := Wf.r6 hWf (j := ((n1 : Nat) : Int)) (k := ((n : Nat) : Int)) (by omega) (by have := Wf.m5 hWf; omega) (by omega) (by have := Wf.m4 hWf; omega)
          refine lv_istore (lv' := [(18, .int (iI (g 6 ((n1 : Nat) : Int) ((n : Nat) : Int)))), (17, .int (iI ((n1 : Nat) : Int))), (16, .int (iI (m_sm (fun j => m_ib (decide (0 ≤ g 6 j ((n : Nat) : Int)))) n1))), (15, .int (iI (m_cnt (fun j => m_fair g j (((n : Nat) : Int))) n1))), (14, .int (iI (m_standing g ((n : Nat) : Int)))), (13, .int (iI ((n : Nat) : Int))), (12, .ref q9), (11, .int (iI x11)), (10, .int (iI x10)), (9, .int (iI (m_sm (fun b => m_sm (fun j => max 0 (g 6 j b)) (g 0 0 5).toNat) n + m_sm (fun j => max 0 (g 6 j ((n : Nat) : Int))) n1))), (8, .int (iI (m_sm (fun b => m_sm (fun j => m_ib (decide (0 ≤ g 6 j b))) (g 0 0 5).toNat) n))), (7, .int (iI (m_sm (fun b => g 2 b 10) n))), (6, .int (iI (m_sm (fun b => g 2 b 9) n))), (5, .int (iI (m_cnt (m_ent g) n))), (4, .int (iI (g 0 0 4))), (3, .int (iI (g 0 0 9))), (0, .ref (a 0)), (1, .int (iI (g 0 0 3))), (2, .int (iI (g 0 0 5)))]) hx hb dL_isSo_82 hl (by decide) rfl (fun ls hl => ?_)
          have hM := so_mark hIv (j := ↑n1) (b := ↑n) (by omega) (by omega)
          rcases (show g 6 ↑n1 ↑n < 0 ∨ 0 ≤ g 6 ↑n1 ↑n from by omega) with hmk | hmk
          · skip
            have hm1 : g 6 ↑n1 ↑n = -1 := by omega
            have hd : decide (0 ≤ g 6 ↑n1 ↑n) = false := decide_eq_false (by omega)
            have hfr : m_fair g ↑n1 ↑n = false := by unfold m_fair; rw [hm1]; rfl
            refine lv_iload hx hb dL_isSo_84 (lv_at hl 0 rfl) ?_
            refine lv_bipush (v := iI 99) hx hb dL_isSo_86 (by decide) ?_
            refine n_icmp_gt hx hb (by unfold RI; omega) (by unfold RI; omega) (tgt := 113) dL_isSo_88 (by decide) (fun h360 => absurd h360 (by intro h360; omega)) (fun h360 => ?_)
            refine lv_iload hx hb dL_isSo_91 (lv_at hl 0 rfl) ?_
            refine lv_iconst (v := iI (-1)) hx hb dL_isSo_93 (by decide) ?_
            refine n_icmp_lt hx hb (by unfold RI; omega) (by unfold RI; omega) (tgt := 113) dL_isSo_94 (by decide) (fun h361 => absurd h361 (by intro h361; omega)) (fun h361 => ?_)
            refine lv_iload hx hb dL_isSo_97 (lv_at hl 0 rfl) ?_
            refine n_if_lt hx hb (by unfold RI; omega) (tgt := 115) dL_isSo_99 (by decide) (fun h362 => ?_) (fun h362 => absurd h362 (by intro h362; omega))
            refine lv_iload hx hb dL_isSo_115 (lv_at hl 2 rfl) ?_
            refine lv_iload hx hb dL_isSo_117 (lv_at hl 0 rfl) ?_
            refine n_if_ge hx hb (by unfold RI; omega) (tgt := 126) dL_isSo_119 (by decide) (fun h363 => absurd h363 (by intro h363; omega)) (fun h363 => ?_)
            refine lv_iconst (v := iI 0) hx hb dL_isSo_122 (by decide) ?_
            refine lv_goto (tgt := 127) hx hb dL_isSo_123 (by decide) ?_
            refine n_add hx hb dL_isSo_127 ?_
            refine lv_istore (lv' := [(16, .int (iI ((m_sm (fun j => m_ib (decide (0 ≤ g 6 j ((n : Nat) : Int)))) n1) + 0))), (18, .int (iI (g 6 ((n1 : Nat) : Int) ((n : Nat) : Int)))), (17, .int (iI ((n1 : Nat) : Int))), (15, .int (iI (m_cnt (fun j => m_fair g j (((n : Nat) : Int))) n1))), (14, .int (iI (m_standing g ((n : Nat) : Int)))), (13, .int (iI ((n : Nat) : Int))), (12, .ref q9), (11, .int (iI x11)), (10, .int (iI x10)), (9, .int (iI (m_sm (fun b => m_sm (fun j => max 0 (g 6 j b)) (g 0 0 5).toNat) n + m_sm (fun j => max 0 (g 6 j ((n : Nat) : Int))) n1))), (8, .int (iI (m_sm (fun b => m_sm (fun j => m_ib (decide (0 ≤ g 6 j b))) (g 0 0 5).toNat) n))), (7, .int (iI (m_sm (fun b => g 2 b 10) n))), (6, .int (iI (m_sm (fun b => g 2 b 9) n))), (5, .int (iI (m_cnt (m_ent g) n))), (4, .int (iI (g 0 0 4))), (3, .int (iI (g 0 0 9))), (0, .ref (a 0)), (1, .int (iI (g 0 0 3))), (2, .int (iI (g 0 0 5)))]) hx hb dL_isSo_128 hl (by decide) rfl (fun ls hl => ?_)
            refine lv_iload hx hb dL_isSo_130 (lv_at hl 9 rfl) ?_
            refine lv_iconst (v := iI 0) hx hb dL_isSo_132 (by decide) ?_
            refine lv_iload hx hb dL_isSo_133 (lv_at hl 1 rfl) ?_
            refine va_mmax hx hb (hml.trans hl.1.symm) hown (hw _ kw_4) (hw _ kw_5) (hw _ kw_6) (hw _ kw_7) (Nat.le_of_ble_eq_true rfl) (Nat.le_of_ble_eq_true rfl) (Nat.le_of_ble_eq_true rfl) (Nat.le_of_ble_eq_true rfl) dL_isSo_135 ?_
            rw [n_max (by unfold RI; omega) (by unfold RI; omega)]
            refine n_add hx hb dL_isSo_138 ?_
            refine lv_istore (lv' := [(9, .int (iI ((m_sm (fun b => m_sm (fun j => max 0 (g 6 j b)) (g 0 0 5).toNat) n + m_sm (fun j => max 0 (g 6 j ((n : Nat) : Int))) n1) + (max 0 (g 6 ((n1 : Nat) : Int) ((n : Nat) : Int)))))), (16, .int (iI ((m_sm (fun j => m_ib (decide (0 ≤ g 6 j ((n : Nat) : Int)))) n1) + 0))), (18, .int (iI (g 6 ((n1 : Nat) : Int) ((n : Nat) : Int)))), (17, .int (iI ((n1 : Nat) : Int))), (15, .int (iI (m_cnt (fun j => m_fair g j (((n : Nat) : Int))) n1))), (14, .int (iI (m_standing g ((n : Nat) : Int)))), (13, .int (iI ((n : Nat) : Int))), (12, .ref q9), (11, .int (iI x11)), (10, .int (iI x10)), (8, .int (iI (m_sm (fun b => m_sm (fun j => m_ib (decide (0 ≤ g 6 j b))) (g 0 0 5).toNat) n))), (7, .int (iI (m_sm (fun b => g 2 b 10) n))), (6, .int (iI (m_sm (fun b => g 2 b 9) n))), (5, .int (iI (m_cnt (m_ent g) n))), (4, .int (iI (g 0 0 4))), (3, .int (iI (g 0 0 9))), (0, .ref (a 0)), (1, .int (iI (g 0 0 3))), (2, .int (iI (g 0 0 5)))]) hx hb dL_isSo_139 hl (by decide) rfl (fun ls hl => ?_)
            refine lv_iload hx hb dL_isSo_141 (lv_at hl 4 rfl) ?_
            refine lv_iload hx hb dL_isSo_143 (lv_at hl 2 rfl) ?_
            refine n_if_lt hx hb (by unfold RI; omega) (tgt := 172) dL_isSo_145 (by decide) (fun h364 => ?_) (fun h364 => absurd h364 (by intro h364; omega))
            refine lv_iconst (v := iI 0) hx hb dL_isSo_172 (by decide) ?_
            refine n_add hx hb dL_isSo_173 ?_
            refine lv_istore (lv' := [(15, .int (iI ((m_cnt (fun j => m_fair g j (((n : Nat) : Int))) n1) + 0))), (9, .int (iI ((m_sm (fun b => m_sm (fun j => max 0 (g 6 j b)) (g 0 0 5).toNat) n + m_sm (fun j => max 0 (g 6 j ((n : Nat) : Int))) n1) + (max 0 (g 6 ((n1 : Nat) : Int) ((n : Nat) : Int)))))), (16, .int (iI ((m_sm (fun j => m_ib (decide (0 ≤ g 6 j ((n : Nat) : Int)))) n1) + 0))), (18, .int (iI (g 6 ((n1 : Nat) : Int) ((n : Nat) : Int)))), (17, .int (iI ((n1 : Nat) : Int))), (14, .int (iI (m_standing g ((n : Nat) : Int)))), (13, .int (iI ((n : Nat) : Int))), (12, .ref q9), (11, .int (iI x11)), (10, .int (iI x10)), (8, .int (iI (m_sm (fun b => m_sm (fun j => m_ib (decide (0 ≤ g 6 j b))) (g 0 0 5).toNat) n))), (7, .int (iI (m_sm (fun b => g 2 b 10) n))), (6, .int (iI (m_sm (fun b => g 2 b 9) n))), (5, .int (iI (m_cnt (m_ent g) n))), (4, .int (iI (g 0 0 4))), (3, .int (iI (g 0 0 9))), (0, .ref (a 0)), (1, .int (iI (g 0 0 3))), (2, .int (iI (g 0 0 5)))]) hx hb dL_isSo_174 hl (by decide) rfl (fun ls hl => ?_)
            refine n_inc (lv' := [(17, .int (iI (((n1 : Nat) : Int) + 1))), (15, .int (iI ((m_cnt (fun j => m_fair g j (((n : Nat) : Int))) n1) + 0))), (9, .int (iI ((m_sm (fun b => m_sm (fun j => max 0 (g 6 j b)) (g 0 0 5).toNat) n + m_sm (fun j => max 0 (g 6 j ((n : Nat) : Int))) n1) + (max 0 (g 6 ((n1 : Nat) : Int) ((n : Nat) : Int)))))), (16, .int (iI ((m_sm (fun j => m_ib (decide (0 ≤ g 6 j ((n : Nat) : Int)))) n1) + 0))), (18, .int (iI (g 6 ((n1 : Nat) : Int) ((n : Nat) : Int)))), (14, .int (iI (m_standing g ((n : Nat) : Int)))), (13, .int (iI ((n : Nat) : Int))), (12, .ref q9), (11, .int (iI x11)), (10, .int (iI x10)), (8, .int (iI (m_sm (fun b => m_sm (fun j => m_ib (decide (0 ≤ g 6 j b))) (g 0 0 5).toNat) n))), (7, .int (iI (m_sm (fun b => g 2 b 10) n))), (6, .int (iI (m_sm (fun b => g 2 b 9) n))), (5, .int (iI (m_cnt (m_ent g) n))), (4, .int (iI (g 0 0 4))), (3, .int (iI (g 0 0 9))), (0, .ref (a 0)), (1, .int (iI (g 0 0 3))), (2, .int (iI (g 0 0 5)))]) hx hb dL_isSo_176 hl (k := 4) rfl (by decide) rfl (fun ls hl => ?_)
            refine lv_goto (tgt := 68) hx hb dL_isSo_179 (by decide) ?_
            have hl : lv_has ls 19 [(17, .int (iI (((n1 : Nat) : Int) + 1))), (16, .int (iI ((m_sm (fun j => m_ib (decide (0 ≤ g 6 j ((n : Nat) : Int)))) n1) + 0))), (15, .int (iI ((m_cnt (fun j => m_fair g j (((n : Nat) : Int))) n1) + 0))), (14, .int (iI (m_standing g ((n : Nat) : Int)))), (13, .int (iI ((n : Nat) : Int))), (12, .ref q9), (11, .int (iI x11)), (10, .int (iI x10)), (9, .int (iI ((m_sm (fun b => m_sm (fun j => max 0 (g 6 j b)) (g 0 0 5).toNat) n + m_sm (fun j => max 0 (g 6 j ((n : Nat) : Int))) n1) + (max 0 (g 6 ((n1 : Nat) : Int) ((n : Nat) : Int)))))), (8, .int (iI (m_sm (fun b => m_sm (fun j => m_ib (decide (0 ≤ g 6 j b))) (g 0 0 5).toNat) n))), (7, .int (iI (m_sm (fun b => g 2 b 10) n))), (6, .int (iI (m_sm (fun b => g 2 b 9) n))), (5, .int (iI (m_cnt (m_ent g) n))), (4, .int (iI (g 0 0 4))), (3, .int (iI (g 0 0 9))), (0, .ref (a 0)), (1, .int (iI (g 0 0 3))), (2, .int (iI (g 0 0 5)))] := lv_sub hl [0, 3, 1, 5, 6, 7, 8, 9, 2, 10, 11, 12, 13, 14, 15, 16, 17, 18] rfl
            have e365 : (((n1 : Nat) : Int) + 1) = (((n1 + 1) : Nat) : Int) := by rfl
            have e366 : ((m_sm (fun j => m_ib (decide (0 ≤ g 6 j ((n : Nat) : Int)))) n1) + 0) = (m_sm (fun j => m_ib (decide (0 ≤ g 6 j ((n : Nat) : Int)))) (n1 + 1)) := by rw [sm_s, hd]; rfl
            have e367 : ((m_cnt (fun j => m_fair g j (((n : Nat) : Int))) n1) + 0) = (m_cnt (fun j => m_fair g j (((n : Nat) : Int))) (n1 + 1)) := by rw [cnt_s, hfr]; first | rfl | (simp [m_ib, h108, Int.not_le.mpr h108, h358, Int.not_le.mpr h358, hmk, h360, Int.not_lt.mpr h360, h361, Int.not_lt.mpr h361, h362, Int.not_le.mpr h362, h363, Int.not_le.mpr h363, h364, Int.not_le.mpr h364]; done) | simp [m_ib, h108, Int.not_le.mpr h108, h358, Int.not_le.mpr h358, hmk, h360, Int.not_lt.mpr h360, h361, Int.not_lt.mpr h361, h362, Int.not_le.mpr h362, h363, Int.not_le.mpr h363, h364, Int.not_le.mpr h364]
            have e368 : ((m_sm (fun b => m_sm (fun j => max 0 (g 6 j b)) (g 0 0 5).toNat) n + m_sm (fun j => max 0 (g 6 j ((n : Nat) : Int))) n1) + (max 0 (g 6 ((n1 : Nat) : Int) ((n : Nat) : Int)))) = (m_sm (fun b => m_sm (fun j => max 0 (g 6 j b)) (g 0 0 5).toNat) n + m_sm (fun j => max 0 (g 6 j ((n : Nat) : Int))) (n1 + 1)) := by rw [sm_s, Int.add_assoc]
            have hl : lv_has ls 19 [(17, .int (iI (((n1 + 1) : Nat) : Int))), (16, .int (iI (m_sm (fun j => m_ib (decide (0 ≤ g 6 j ((n : Nat) : Int)))) (n1 + 1)))), (15, .int (iI (m_cnt (fun j => m_fair g j (((n : Nat) : Int))) (n1 + 1)))), (14, .int (iI (m_standing g ((n : Nat) : Int)))), (13, .int (iI ((n : Nat) : Int))), (12, .ref q9), (11, .int (iI x11)), (10, .int (iI x10)), (9, .int (iI (m_sm (fun b => m_sm (fun j => max 0 (g 6 j b)) (g 0 0 5).toNat) n + m_sm (fun j => max 0 (g 6 j ((n : Nat) : Int))) (n1 + 1)))), (8, .int (iI (m_sm (fun b => m_sm (fun j => m_ib (decide (0 ≤ g 6 j b))) (g 0 0 5).toNat) n))), (7, .int (iI (m_sm (fun b => g 2 b 10) n))), (6, .int (iI (m_sm (fun b => g 2 b 9) n))), (5, .int (iI (m_cnt (m_ent g) n))), (4, .int (iI (g 0 0 4))), (3, .int (iI (g 0 0 9))), (0, .ref (a 0)), (1, .int (iI (g 0 0 3))), (2, .int (iI (g 0 0 5)))] := lv_cast hl (by rw [e365, e366, e367, e368])
            exact ih68 (n1 + 1) fq1 H locs ls (by omega) hxf1 hX hP hS hl
          · skip
            have hd : decide (0 ≤ g 6 ↑n1 ↑n) = true := decide_eq_true hmk
            have hib : m_ib (m_ent g ↑n) = 1 := by rw [(hM.2.2 hmk).2.1]; rfl
            have hfr : m_fair g ↑n1 ↑n = !m_has (g 3 ↑n1 3) (g 2 ↑n 1) := by unfold m_fair m_agn; rw [show (g 6 ↑n1 ↑n != -1) = true from by simp; omega]; rfl
            refine lv_iload hx hb dL_isSo_84 (lv_at hl 0 rfl) ?_
            refine lv_bipush (v := iI 99) hx hb dL_isSo_86 (by decide) ?_
            refine n_icmp_gt hx hb (by unfold RI; omega) (by unfold RI; omega) (tgt := 113) dL_isSo_88 (by decide) (fun h369 => absurd h369 (by intro h369; omega)) (fun h369 => ?_)
            refine lv_iload hx hb dL_isSo_91 (lv_at hl 0 rfl) ?_
            refine lv_iconst (v := iI (-1)) hx hb dL_isSo_93 (by decide) ?_
            refine n_icmp_lt hx hb (by unfold RI; omega) (by unfold RI; omega) (tgt := 113) dL_isSo_94 (by decide) (fun h370 => absurd h370 (by intro h370; omega)) (fun h370 => ?_)
            refine lv_iload hx hb dL_isSo_97 (lv_at hl 0 rfl) ?_
            refine n_if_lt hx hb (by unfold RI; omega) (tgt := 115) dL_isSo_99 (by decide) (fun h371 => absurd h371 (by intro h371; omega)) (fun h371 => ?_)
            refine lv_aload_n hx hb dL_isSo_102 rfl (lv_at hl 16 rfl) ?_
            refine lv_iload hx hb dL_isSo_103 (lv_at hl 5 rfl) ?_
            refine lv_bipush (v := iI 6) hx hb dL_isSo_105 (by decide) ?_
            refine va_calli (va_runV (As := [.int (iI ((n : Nat) : Int)), .int (iI 6)]) (rest := []) ⟨hx, hb, hml, hown, hw⟩ (c_ofBook l D a cH cB cJ cI ha g vq H.size ((n : Nat) : Int) 6 hWf (by omega) (by omega)) (cwV 2 hw (gA_V kw_206 kw_207 kw_208 kw_2 kw_209) rfl rfl rfl (by decide +kernel) ⟨Nat.le_of_ble_eq_true rfl, Nat.le_of_ble_eq_true rfl⟩) (pS_v (ci := 4) (q0 := 0) rfl pw_0 hP hK hE) rfl rfl hl.1 rfl (lv_room (Nat.le_of_ble_eq_true rfl)) dL_isSo_107 ⟨Nat.le_of_ble_eq_true rfl, Nat.le_of_ble_eq_true rfl⟩) hS (fun q h1 h2 => ro_A h1 h2) (fun q h => ro_F hS hA q h) (fun r u t H1 locs ht hvm hw9 hB9 hz1 hk1 hS => ?_)
            have hw9 : r = (iI (m_ofBook g ((n : Nat) : Int) 6)) := hw9
            subst hw9
            have hP := ro_P hP hk1
            have hX := ro_P hX hk1
            generalize H1 = H at hP hX hS ⊢
            rw [show (m_ofBook g ((n : Nat) : Int) 6) = (m_ib (m_ent g ((n : Nat) : Int))) from rfl]
            refine n_if_ne hx hb (by unfold RI; omega) (tgt := 115) dL_isSo_110 (by decide) (fun h372 => ?_) (fun h372 => absurd h372 (by intro h372; omega))
            refine lv_iload hx hb dL_isSo_115 (lv_at hl 2 rfl) ?_
            refine lv_iload hx hb dL_isSo_117 (lv_at hl 0 rfl) ?_
            refine n_if_ge hx hb (by unfold RI; omega) (tgt := 126) dL_isSo_119 (by decide) (fun h373 => ?_) (fun h373 => absurd h373 (by intro h373; omega))
            refine lv_iconst (v := iI 1) hx hb dL_isSo_126 (by decide) ?_
            refine n_add hx hb dL_isSo_127 ?_
            refine lv_istore (lv' := [(16, .int (iI ((m_sm (fun j => m_ib (decide (0 ≤ g 6 j ((n : Nat) : Int)))) n1) + 1))), (18, .int (iI (g 6 ((n1 : Nat) : Int) ((n : Nat) : Int)))), (17, .int (iI ((n1 : Nat) : Int))), (15, .int (iI (m_cnt (fun j => m_fair g j (((n : Nat) : Int))) n1))), (14, .int (iI (m_standing g ((n : Nat) : Int)))), (13, .int (iI ((n : Nat) : Int))), (12, .ref q9), (11, .int (iI x11)), (10, .int (iI x10)), (9, .int (iI (m_sm (fun b => m_sm (fun j => max 0 (g 6 j b)) (g 0 0 5).toNat) n + m_sm (fun j => max 0 (g 6 j ((n : Nat) : Int))) n1))), (8, .int (iI (m_sm (fun b => m_sm (fun j => m_ib (decide (0 ≤ g 6 j b))) (g 0 0 5).toNat) n))), (7, .int (iI (m_sm (fun b => g 2 b 10) n))), (6, .int (iI (m_sm (fun b => g 2 b 9) n))), (5, .int (iI (m_cnt (m_ent g) n))), (4, .int (iI (g 0 0 4))), (3, .int (iI (g 0 0 9))), (0, .ref (a 0)), (1, .int (iI (g 0 0 3))), (2, .int (iI (g 0 0 5)))]) hx hb dL_isSo_128 hl (by decide) rfl (fun ls hl => ?_)
            refine lv_iload hx hb dL_isSo_130 (lv_at hl 9 rfl) ?_
            refine lv_iconst (v := iI 0) hx hb dL_isSo_132 (by decide) ?_
            refine lv_iload hx hb dL_isSo_133 (lv_at hl 1 rfl) ?_
            refine va_mmax hx hb (hml.trans hl.1.symm) hown (hw _ kw_4) (hw _ kw_5) (hw _ kw_6) (hw _ kw_7) (Nat.le_of_ble_eq_true rfl) (Nat.le_of_ble_eq_true rfl) (Nat.le_of_ble_eq_true rfl) (Nat.le_of_ble_eq_true rfl) dL_isSo_135 ?_
            rw [n_max (by unfold RI; omega) (by unfold RI; omega)]
            refine n_add hx hb dL_isSo_138 ?_
            refine lv_istore (lv' := [(9, .int (iI ((m_sm (fun b => m_sm (fun j => max 0 (g 6 j b)) (g 0 0 5).toNat) n + m_sm (fun j => max 0 (g 6 j ((n : Nat) : Int))) n1) + (max 0 (g 6 ((n1 : Nat) : Int) ((n : Nat) : Int)))))), (16, .int (iI ((m_sm (fun j => m_ib (decide (0 ≤ g 6 j ((n : Nat) : Int)))) n1) + 1))), (18, .int (iI (g 6 ((n1 : Nat) : Int) ((n : Nat) : Int)))), (17, .int (iI ((n1 : Nat) : Int))), (15, .int (iI (m_cnt (fun j => m_fair g j (((n : Nat) : Int))) n1))), (14, .int (iI (m_standing g ((n : Nat) : Int)))), (13, .int (iI ((n : Nat) : Int))), (12, .ref q9), (11, .int (iI x11)), (10, .int (iI x10)), (8, .int (iI (m_sm (fun b => m_sm (fun j => m_ib (decide (0 ≤ g 6 j b))) (g 0 0 5).toNat) n))), (7, .int (iI (m_sm (fun b => g 2 b 10) n))), (6, .int (iI (m_sm (fun b => g 2 b 9) n))), (5, .int (iI (m_cnt (m_ent g) n))), (4, .int (iI (g 0 0 4))), (3, .int (iI (g 0 0 9))), (0, .ref (a 0)), (1, .int (iI (g 0 0 3))), (2, .int (iI (g 0 0 5)))]) hx hb dL_isSo_139 hl (by decide) rfl (fun ls hl => ?_)
            refine lv_iload hx hb dL_isSo_141 (lv_at hl 4 rfl) ?_
            refine lv_iload hx hb dL_isSo_143 (lv_at hl 2 rfl) ?_
            refine n_if_lt hx hb (by unfold RI; omega) (tgt := 172) dL_isSo_145 (by decide) (fun h374 => absurd h374 (by intro h374; omega)) (fun h374 => ?_)
            refine lv_aload_n hx hb dL_isSo_148 rfl (lv_at hl 16 rfl) ?_
            refine lv_iload hx hb dL_isSo_149 (lv_at hl 3 rfl) ?_
            refine lv_iconst (v := iI 1) hx hb dL_isSo_151 (by decide) ?_
            refine va_calli (va_runV (As := [.int (iI ((n1 : Nat) : Int)), .int (iI 1)]) (rest := [.int (iI (m_cnt (fun j => m_fair g j (((n : Nat) : Int))) n1))]) ⟨hx, hb, hml, hown, hw⟩ (c_ofJudge l D a cH cB cJ cI ha g vq H.size ((n1 : Nat) : Int) 1 hWf (by omega) (by omega)) (cwV 2 hw (gA_V kw_174 kw_175 kw_176 kw_2 kw_177) rfl rfl rfl (by decide +kernel) ⟨Nat.le_of_ble_eq_true rfl, Nat.le_of_ble_eq_true rfl⟩) (pS_v (ci := 4) (q0 := 0) rfl pw_0 hP hK hE) rfl rfl hl.1 rfl (lv_room (Nat.le_of_ble_eq_true rfl)) dL_isSo_152 ⟨Nat.le_of_ble_eq_true rfl, Nat.le_of_ble_eq_true rfl⟩) hS (fun q h1 h2 => ro_A h1 h2) (fun q h => ro_F hS hA q h) (fun r u t H1 locs ht hvm hw9 hB9 hz1 hk1 hS => ?_)
            have hw9 : r = (iI (m_ofJudge g ((n1 : Nat) : Int) 1)) := hw9
            subst hw9
            have hP := ro_P hP hk1
            have hX := ro_P hX hk1
            generalize H1 = H at hP hX hS ⊢
            rw [show (m_ofJudge g ((n1 : Nat) : Int) 1) = (g 3 ((n1 : Nat) : Int) 3) from rfl]
            have s375 := Wf.j3 hWf (k := ((n1 : Nat) : Int)) (by omega) (by omega)
            refine lv_aload_n hx hb dL_isSo_155 rfl (lv_at hl 16 rfl) ?_
            refine lv_iload hx hb dL_isSo_156 (lv_at hl 6 rfl) ?_
            refine lv_iconst (v := iI 1) hx hb dL_isSo_158 (by decide) ?_
            refine va_calli (va_runV (As := [.int (iI ((n : Nat) : Int)), .int (iI 1)]) (rest := [.int (iI (g 3 ((n1 : Nat) : Int) 3)), .int (iI (m_cnt (fun j => m_fair g j (((n : Nat) : Int))) n1))]) ⟨hx, hb, hml, hown, hw⟩ (c_ofBook l D a cH cB cJ cI ha g vq H.size ((n : Nat) : Int) 1 hWf (by omega) (by omega)) (cwV 2 hw (gA_V kw_206 kw_207 kw_208 kw_2 kw_209) rfl rfl rfl (by decide +kernel) ⟨Nat.le_of_ble_eq_true rfl, Nat.le_of_ble_eq_true rfl⟩) (pS_v (ci := 4) (q0 := 0) rfl pw_0 hP hK hE) rfl rfl hl.1 rfl (lv_room (Nat.le_of_ble_eq_true rfl)) dL_isSo_159 ⟨Nat.le_of_ble_eq_true rfl, Nat.le_of_ble_eq_true rfl⟩) hS (fun q h1 h2 => ro_A h1 h2) (fun q h => ro_F hS hA q h) (fun r u t H1 locs ht hvm hw9 hB9 hz1 hk1 hS => ?_)
            have hw9 : r = (iI (m_ofBook g ((n : Nat) : Int) 1)) := hw9
            subst hw9
            have hP := ro_P hP hk1
            have hX := ro_P hX hk1
            generalize H1 = H at hP hX hS ⊢
            rw [show (m_ofBook g ((n : Nat) : Int) 1) = (g 2 ((n : Nat) : Int) 1) from rfl]
            have s376 := Wf.b1 hWf (k := ((n : Nat) : Int)) (by omega) (by omega)
            refine lv_ishr hx hb dL_isSo_162 ?_
            refine lv_iconst (v := iI 1) hx hb dL_isSo_163 (by decide) ?_
            refine lv_iand hx hb dL_isSo_164 ?_
            rw [shr_has (S := (g 3 ((n1 : Nat) : Int) 3)) (n := (g 2 ((n : Nat) : Int) 1)) (by omega) (by omega) (by omega)]
            refine n_b_ne hx hb (tgt := 172) dL_isSo_165 (by decide) (fun h377 => ?_) (fun h377 => ?_)
            · skip
              refine lv_iconst (v := iI 0) hx hb dL_isSo_172 (by decide) ?_
              refine n_add hx hb dL_isSo_173 ?_
              refine lv_istore (lv' := [(15, .int (iI ((m_cnt (fun j => m_fair g j (((n : Nat) : Int))) n1) + 0))), (9, .int (iI ((m_sm (fun b => m_sm (fun j => max 0 (g 6 j b)) (g 0 0 5).toNat) n + m_sm (fun j => max 0 (g 6 j ((n : Nat) : Int))) n1) + (max 0 (g 6 ((n1 : Nat) : Int) ((n : Nat) : Int)))))), (16, .int (iI ((m_sm (fun j => m_ib (decide (0 ≤ g 6 j ((n : Nat) : Int)))) n1) + 1))), (18, .int (iI (g 6 ((n1 : Nat) : Int) ((n : Nat) : Int)))), (17, .int (iI ((n1 : Nat) : Int))), (14, .int (iI (m_standing g ((n : Nat) : Int)))), (13, .int (iI ((n : Nat) : Int))), (12, .ref q9), (11, .int (iI x11)), (10, .int (iI x10)), (8, .int (iI (m_sm (fun b => m_sm (fun j => m_ib (decide (0 ≤ g 6 j b))) (g 0 0 5).toNat) n))), (7, .int (iI (m_sm (fun b => g 2 b 10) n))), (6, .int (iI (m_sm (fun b => g 2 b 9) n))), (5, .int (iI (m_cnt (m_ent g) n))), (4, .int (iI (g 0 0 4))), (3, .int (iI (g 0 0 9))), (0, .ref (a 0)), (1, .int (iI (g 0 0 3))), (2, .int (iI (g 0 0 5)))]) hx hb dL_isSo_174 hl (by decide) rfl (fun ls hl => ?_)
              refine n_inc (lv' := [(17, .int (iI (((n1 : Nat) : Int) + 1))), (15, .int (iI ((m_cnt (fun j => m_fair g j (((n : Nat) : Int))) n1) + 0))), (9, .int (iI ((m_sm (fun b => m_sm (fun j => max 0 (g 6 j b)) (g 0 0 5).toNat) n + m_sm (fun j => max 0 (g 6 j ((n : Nat) : Int))) n1) + (max 0 (g 6 ((n1 : Nat) : Int) ((n : Nat) : Int)))))), (16, .int (iI ((m_sm (fun j => m_ib (decide (0 ≤ g 6 j ((n : Nat) : Int)))) n1) + 1))), (18, .int (iI (g 6 ((n1 : Nat) : Int) ((n : Nat) : Int)))), (14, .int (iI (m_standing g ((n : Nat) : Int)))), (13, .int (iI ((n : Nat) : Int))), (12, .ref q9), (11, .int (iI x11)), (10, .int (iI x10)), (8, .int (iI (m_sm (fun b => m_sm (fun j => m_ib (decide (0 ≤ g 6 j b))) (g 0 0 5).toNat) n))), (7, .int (iI (m_sm (fun b => g 2 b 10) n))), (6, .int (iI (m_sm (fun b => g 2 b 9) n))), (5, .int (iI (m_cnt (m_ent g) n))), (4, .int (iI (g 0 0 4))), (3, .int (iI (g 0 0 9))), (0, .ref (a 0)), (1, .int (iI (g 0 0 3))), (2, .int (iI (g 0 0 5)))]) hx hb dL_isSo_176 hl (k := 4) rfl (by decide) rfl (fun ls hl => ?_)
              refine lv_goto (tgt := 68) hx hb dL_isSo_179 (by decide) ?_
              have hl : lv_has ls 19 [(17, .int (iI (((n1 : Nat) : Int) + 1))), (16, .int (iI ((m_sm (fun j => m_ib (decide (0 ≤ g 6 j ((n : Nat) : Int)))) n1) + 1))), (15, .int (iI ((m_cnt (fun j => m_fair g j (((n : Nat) : Int))) n1) + 0))), (14, .int (iI (m_standing g ((n : Nat) : Int)))), (13, .int (iI ((n : Nat) : Int))), (12, .ref q9), (11, .int (iI x11)), (10, .int (iI x10)), (9, .int (iI ((m_sm (fun b => m_sm (fun j => max 0 (g 6 j b)) (g 0 0 5).toNat) n + m_sm (fun j => max 0 (g 6 j ((n : Nat) : Int))) n1) + (max 0 (g 6 ((n1 : Nat) : Int) ((n : Nat) : Int)))))), (8, .int (iI (m_sm (fun b => m_sm (fun j => m_ib (decide (0 ≤ g 6 j b))) (g 0 0 5).toNat) n))), (7, .int (iI (m_sm (fun b => g 2 b 10) n))), (6, .int (iI (m_sm (fun b => g 2 b 9) n))), (5, .int (iI (m_cnt (m_ent g) n))), (4, .int (iI (g 0 0 4))), (3, .int (iI (g 0 0 9))), (0, .ref (a 0)), (1, .int (iI (g 0 0 3))), (2, .int (iI (g 0 0 5)))] := lv_sub hl [0, 3, 1, 5, 6, 7, 8, 9, 2, 10, 11, 12, 13, 14, 15, 16, 17, 18] rfl
              have e378 : (((n1 : Nat) : Int) + 1) = (((n1 + 1) : Nat) : Int) := by rfl
              have e379 : ((m_sm (fun j => m_ib (decide (0 ≤ g 6 j ((n : Nat) : Int)))) n1) + 1) = (m_sm (fun j => m_ib (decide (0 ≤ g 6 j ((n : Nat) : Int)))) (n1 + 1)) := by rw [sm_s, hd]; rfl
              have e380 : ((m_cnt (fun j => m_fair g j (((n : Nat) : Int))) n1) + 0) = (m_cnt (fun j => m_fair g j (((n : Nat) : Int))) (n1 + 1)) := by rw [cnt_s, hfr]; first | rfl | (simp [m_ib, h108, Int.not_le.mpr h108, h358, Int.not_le.mpr h358, hmk, h369, Int.not_lt.mpr h369, h370, Int.not_lt.mpr h370, h371, Int.not_lt.mpr h371, h372, beq_false_of_ne h372, h373, Int.not_lt.mpr h373, h374, Int.not_lt.mpr h374, h377]; done) | simp [m_ib, h108, Int.not_le.mpr h108, h358, Int.not_le.mpr h358, hmk, h369, Int.not_lt.mpr h369, h370, Int.not_lt.mpr h370, h371, Int.not_lt.mpr h371, h372, beq_false_of_ne h372, h373, Int.not_lt.mpr h373, h374, Int.not_lt.mpr h374, h377]
              have e381 : ((m_sm (fun b => m_sm (fun j => max 0 (g 6 j b)) (g 0 0 5).toNat) n + m_sm (fun j => max 0 (g 6 j ((n : Nat) : Int))) n1) + (max 0 (g 6 ((n1 : Nat) : Int) ((n : Nat) : Int)))) = (m_sm (fun b => m_sm (fun j => max 0 (g 6 j b)) (g 0 0 5).toNat) n + m_sm (fun j => max 0 (g 6 j ((n : Nat) : Int))) (n1 + 1)) := by rw [sm_s, Int.add_assoc]
              have hl : lv_has ls 19 [(17, .int (iI (((n1 + 1) : Nat) : Int))), (16, .int (iI (m_sm (fun j => m_ib (decide (0 ≤ g 6 j ((n : Nat) : Int)))) (n1 + 1)))), (15, .int (iI (m_cnt (fun j => m_fair g j (((n : Nat) : Int))) (n1 + 1)))), (14, .int (iI (m_standing g ((n : Nat) : Int)))), (13, .int (iI ((n : Nat) : Int))), (12, .ref q9), (11, .int (iI x11)), (10, .int (iI x10)), (9, .int (iI (m_sm (fun b => m_sm (fun j => max 0 (g 6 j b)) (g 0 0 5).toNat) n + m_sm (fun j => max 0 (g 6 j ((n : Nat) : Int))) (n1 + 1)))), (8, .int (iI (m_sm (fun b => m_sm (fun j => m_ib (decide (0 ≤ g 6 j b))) (g 0 0 5).toNat) n))), (7, .int (iI (m_sm (fun b => g 2 b 10) n))), (6, .int (iI (m_sm (fun b => g 2 b 9) n))), (5, .int (iI (m_cnt (m_ent g) n))), (4, .int (iI (g 0 0 4))), (3, .int (iI (g 0 0 9))), (0, .ref (a 0)), (1, .int (iI (g 0 0 3))), (2, .int (iI (g 0 0 5)))] := lv_cast hl (by rw [e378, e379, e380, e381])
              exact ih68 (n1 + 1) fq1 H locs ls (by omega) hxf1 hX hP hS hl
            · skip
              refine lv_iconst (v := iI 1) hx hb dL_isSo_168 (by decide) ?_
              refine lv_goto (tgt := 173) hx hb dL_isSo_169 (by decide) ?_
              refine n_add hx hb dL_isSo_173 ?_
              refine lv_istore (lv' := [(15, .int (iI ((m_cnt (fun j => m_fair g j (((n : Nat) : Int))) n1) + 1))), (9, .int (iI ((m_sm (fun b => m_sm (fun j => max 0 (g 6 j b)) (g 0 0 5).toNat) n + m_sm (fun j => max 0 (g 6 j ((n : Nat) : Int))) n1) + (max 0 (g 6 ((n1 : Nat) : Int) ((n : Nat) : Int)))))), (16, .int (iI ((m_sm (fun j => m_ib (decide (0 ≤ g 6 j ((n : Nat) : Int)))) n1) + 1))), (18, .int (iI (g 6 ((n1 : Nat) : Int) ((n : Nat) : Int)))), (17, .int (iI ((n1 : Nat) : Int))), (14, .int (iI (m_standing g ((n : Nat) : Int)))), (13, .int (iI ((n : Nat) : Int))), (12, .ref q9), (11, .int (iI x11)), (10, .int (iI x10)), (8, .int (iI (m_sm (fun b => m_sm (fun j => m_ib (decide (0 ≤ g 6 j b))) (g 0 0 5).toNat) n))), (7, .int (iI (m_sm (fun b => g 2 b 10) n))), (6, .int (iI (m_sm (fun b => g 2 b 9) n))), (5, .int (iI (m_cnt (m_ent g) n))), (4, .int (iI (g 0 0 4))), (3, .int (iI (g 0 0 9))), (0, .ref (a 0)), (1, .int (iI (g 0 0 3))), (2, .int (iI (g 0 0 5)))]) hx hb dL_isSo_174 hl (by decide) rfl (fun ls hl => ?_)
              refine n_inc (lv' := [(17, .int (iI (((n1 : Nat) : Int) + 1))), (15, .int (iI ((m_cnt (fun j => m_fair g j (((n : Nat) : Int))) n1) + 1))), (9, .int (iI ((m_sm (fun b => m_sm (fun j => max 0 (g 6 j b)) (g 0 0 5).toNat) n + m_sm (fun j => max 0 (g 6 j ((n : Nat) : Int))) n1) + (max 0 (g 6 ((n1 : Nat) : Int) ((n : Nat) : Int)))))), (16, .int (iI ((m_sm (fun j => m_ib (decide (0 ≤ g 6 j ((n : Nat) : Int)))) n1) + 1))), (18, .int (iI (g 6 ((n1 : Nat) : Int) ((n : Nat) : Int)))), (14, .int (iI (m_standing g ((n : Nat) : Int)))), (13, .int (iI ((n : Nat) : Int))), (12, .ref q9), (11, .int (iI x11)), (10, .int (iI x10)), (8, .int (iI (m_sm (fun b => m_sm (fun j => m_ib (decide (0 ≤ g 6 j b))) (g 0 0 5).toNat) n))), (7, .int (iI (m_sm (fun b => g 2 b 10) n))), (6, .int (iI (m_sm (fun b => g 2 b 9) n))), (5, .int (iI (m_cnt (m_ent g) n))), (4, .int (iI (g 0 0 4))), (3, .int (iI (g 0 0 9))), (0, .ref (a 0)), (1, .int (iI (g 0 0 3))), (2, .int (iI (g 0 0 5)))]) hx hb dL_isSo_176 hl (k := 4) rfl (by decide) rfl (fun ls hl => ?_)
              refine lv_goto (tgt := 68) hx hb dL_isSo_179 (by decide) ?_
              have hl : lv_has ls 19 [(17, .int (iI (((n1 : Nat) : Int) + 1))), (16, .int (iI ((m_sm (fun j => m_ib (decide (0 ≤ g 6 j ((n : Nat) : Int)))) n1) + 1))), (15, .int (iI ((m_cnt (fun j => m_fair g j (((n : Nat) : Int))) n1) + 1))), (14, .int (iI (m_standing g ((n : Nat) : Int)))), (13, .int (iI ((n : Nat) : Int))), (12, .ref q9), (11, .int (iI x11)), (10, .int (iI x10)), (9, .int (iI ((m_sm (fun b => m_sm (fun j => max 0 (g 6 j b)) (g 0 0 5).toNat) n + m_sm (fun j => max 0 (g 6 j ((n : Nat) : Int))) n1) + (max 0 (g 6 ((n1 : Nat) : Int) ((n : Nat) : Int)))))), (8, .int (iI (m_sm (fun b => m_sm (fun j => m_ib (decide (0 ≤ g 6 j b))) (g 0 0 5).toNat) n))), (7, .int (iI (m_sm (fun b => g 2 b 10) n))), (6, .int (iI (m_sm (fun b => g 2 b 9) n))), (5, .int (iI (m_cnt (m_ent g) n))), (4, .int (iI (g 0 0 4))), (3, .int (iI (g 0 0 9))), (0, .ref (a 0)), (1, .int (iI (g 0 0 3))), (2, .int (iI (g 0 0 5)))] := lv_sub hl [0, 3, 1, 5, 6, 7, 8, 9, 2, 10, 11, 12, 13, 14, 15, 16, 17, 18] rfl
              have e382 : (((n1 : Nat) : Int) + 1) = (((n1 + 1) : Nat) : Int) := by rfl
              have e383 : ((m_sm (fun j => m_ib (decide (0 ≤ g 6 j ((n : Nat) : Int)))) n1) + 1) = (m_sm (fun j => m_ib (decide (0 ≤ g 6 j ((n : Nat) : Int)))) (n1 + 1)) := by rw [sm_s, hd]; rfl
              have e384 : ((m_cnt (fun j => m_fair g j (((n : Nat) : Int))) n1) + 1) = (m_cnt (fun j => m_fair g j (((n : Nat) : Int))) (n1 + 1)) := by rw [cnt_s, hfr]; first | rfl | (simp [m_ib, h108, Int.not_le.mpr h108, h358, Int.not_le.mpr h358, hmk, h369, Int.not_lt.mpr h369, h370, Int.not_lt.mpr h370, h371, Int.not_lt.mpr h371, h372, beq_false_of_ne h372, h373, Int.not_lt.mpr h373, h374, Int.not_lt.mpr h374, h377]; done) | simp [m_ib, h108, Int.not_le.mpr h108, h358, Int.not_le.mpr h358, hmk, h369, Int.not_lt.mpr h369, h370, Int.not_lt.mpr h370, h371, Int.not_lt.mpr h371, h372, beq_false_of_ne h372, h373, Int.not_lt.mpr h373, h374, Int.not_lt.mpr h374, h377]
              have e385 : ((m_sm (fun b => m_sm (fun j => max 0 (g 6 j b)) (g 0 0 5).toNat) n + m_sm (fun j => max 0 (g 6 j ((n : Nat) : Int))) n1) + (max 0 (g 6 ((n1 : Nat) : Int) ((n : Nat) : Int)))) = (m_sm (fun b => m_sm (fun j => max 0 (g 6 j b)) (g 0 0 5).toNat) n + m_sm (fun j => max 0 (g 6 j ((n : Nat) : Int))) (n1 + 1)) := by rw [sm_s, Int.add_assoc]
              have hl : lv_has ls 19 [(17, .int (iI (((n1 + 1) : Nat) : Int))), (16, .int (iI (m_sm (fun j => m_ib (decide (0 ≤ g 6 j ((n : Nat) : Int)))) (n1 + 1)))), (15, .int (iI (m_cnt (fun j => m_fair g j (((n : Nat) : Int))) (n1 + 1)))), (14, .int (iI (m_standing g ((n : Nat) : Int)))), (13, .int (iI ((n : Nat) : Int))), (12, .ref q9), (11, .int (iI x11)), (10, .int (iI x10)), (9, .int (iI (m_sm (fun b => m_sm (fun j => max 0 (g 6 j b)) (g 0 0 5).toNat) n + m_sm (fun j => max 0 (g 6 j ((n : Nat) : Int))) (n1 + 1)))), (8, .int (iI (m_sm (fun b => m_sm (fun j => m_ib (decide (0 ≤ g 6 j b))) (g 0 0 5).toNat) n))), (7, .int (iI (m_sm (fun b => g 2 b 10) n))), (6, .int (iI (m_sm (fun b => g 2 b 9) n))), (5, .int (iI (m_cnt (m_ent g) n))), (4, .int (iI (g 0 0 4))), (3, .int (iI (g 0 0 9))), (0, .ref (a 0)), (1, .int (iI (g 0 0 3))), (2, .int (iI (g 0 0 5)))] := lv_cast hl (by rw [e382, e383, e384, e385])
              exact ih68 (n1 + 1) fq1 H locs ls (by omega) hxf1 hX hP hS hl
      have hl : lv_has ls 19 [(17, .int (iI 0)), (16, .int (iI 0)), (15, .int (iI 0)), (14, .int (iI (m_standing g ((n : Nat) : Int)))), (13, .int (iI ((n : Nat) : Int))), (12, .ref q9), (11, .int (iI x11)), (10, .int (iI x10)), (9, .int (iI (m_sm (fun b => m_sm (fun j => max 0 (g 6 j b)) (g 0 0 5).toNat) n))), (8, .int (iI (m_sm (fun b => m_sm (fun j => m_ib (decide (0 ≤ g 6 j b))) (g 0 0 5).toNat) n))), (7, .int (iI (m_sm (fun b => g 2 b 10) n))), (6, .int (iI (m_sm (fun b => g 2 b 9) n))), (5, .int (iI (m_cnt (m_ent g) n))), (4, .int (iI (g 0 0 4))), (3, .int (iI (g 0 0 9))), (0, .ref (a 0)), (1, .int (iI (g 0 0 3))), (2, .int (iI (g 0 0 5)))] := lv_sub hl [0, 1, 2, 3, 4, 5, 6, 7, 8, 9, 10, 11, 12, 13, 14, 15, 16, 17] rfl
      have e386 : (m_sm (fun b => m_sm (fun j => max 0 (g 6 j b)) (g 0 0 5).toNat) n) = (m_sm (fun b => m_sm (fun j => max 0 (g 6 j b)) (g 0 0 5).toNat) n + m_sm (fun j => max 0 (g 6 j ((n : Nat) : Int))) 0) := by simp [m_sm]
      have hl : lv_has ls 19 [(17, .int (iI ((0 : Nat) : Int))), (16, .int (iI (m_sm (fun j => m_ib (decide (0 ≤ g 6 j ((n : Nat) : Int)))) 0))), (15, .int (iI (m_cnt (fun j => m_fair g j (((n : Nat) : Int))) 0))), (14, .int (iI (m_standing g ((n : Nat) : Int)))), (13, .int (iI ((n : Nat) : Int))), (12, .ref q9), (11, .int (iI x11)), (10, .int (iI x10)), (9, .int (iI (m_sm (fun b => m_sm (fun j => max 0 (g 6 j b)) (g 0 0 5).toNat) n))), (8, .int (iI (m_sm (fun b => m_sm (fun j => m_ib (decide (0 ≤ g 6 j b))) (g 0 0 5).toNat) n))), (7, .int (iI (m_sm (fun b => g 2 b 10) n))), (6, .int (iI (m_sm (fun b => g 2 b 9) n))), (5, .int (iI (m_cnt (m_ent g) n))), (4, .int (iI (g 0 0 4))), (3, .int (iI (g 0 0 9))), (0, .ref (a 0)), (1, .int (iI (g 0 0 3))), (2, .int (iI (g 0 0 5)))] := hl
      have hl : lv_has ls 19 [(17, .int (iI ((0 : Nat) : Int))), (16, .int (iI (m_sm (fun j => m_ib (decide (0 ≤ g 6 j ((n : Nat) : Int)))) 0))), (15, .int (iI (m_cnt (fun j => m_fair g j (((n : Nat) : Int))) 0))), (14, .int (iI (m_standing g ((n : Nat) : Int)))), (13, .int (iI ((n : Nat) : Int))), (12, .ref q9), (11, .int (iI x11)), (10, .int (iI x10)), (9, .int (iI (m_sm (fun b => m_sm (fun j => max 0 (g 6 j b)) (g 0 0 5).toNat) n + m_sm (fun j => max 0 (g 6 j ((n : Nat) : Int))) 0))), (8, .int (iI (m_sm (fun b => m_sm (fun j => m_ib (decide (0 ≤ g 6 j b))) (g 0 0 5).toNat) n))), (7, .int (iI (m_sm (fun b => g 2 b 10) n))), (6, .int (iI (m_sm (fun b => g 2 b 9) n))), (5, .int (iI (m_cnt (m_ent g) n))), (4, .int (iI (g 0 0 4))), (3, .int (iI (g 0 0 9))), (0, .ref (a 0)), (1, .int (iI (g 0 0 3))), (2, .int (iI (g 0 0 5)))] := lv_cast hl (congrArg (fun z => ([(17, .int (iI ((0 : Nat) : Int))), (16, .int (iI (m_sm (fun j => m_ib (decide (0 ≤ g 6 j ((n : Nat) : Int)))) 0))), (15, .int (iI (m_cnt (fun j => m_fair g j (((n : Nat) : Int))) 0))), (14, .int (iI (m_standing g ((n : Nat) : Int)))), (13, .int (iI ((n : Nat) : Int))), (12, .ref q9), (11, .int (iI x11)), (10, .int (iI x10)), (9, .int (iI z)), (8, .int (iI (m_sm (fun b => m_sm (fun j => m_ib (decide (0 ≤ g 6 j b))) (g 0 0 5).toNat) n))), (7, .int (iI (m_sm (fun b => g 2 b 10) n))), (6, .int (iI (m_sm (fun b => g 2 b 9) n))), (5, .int (iI (m_cnt (m_ent g) n))), (4, .int (iI (g 0 0 4))), (3, .int (iI (g 0 0 9))), (0, .ref (a 0)), (1, .int (iI (g 0 0 3))), (2, .int (iI (g 0 0 5)))] : List (Nat × Value))) e386)
      exact loop68 ((g 0 0 5).toNat) 0 fq H locs ls (by omega) hxf hX hP hS hl
  have hl : lv_has ls 19 [(13, .int (iI 0)), (12, .ref q9), (11, .int (iI 0)), (10, .int (iI 0)), (9, .int (iI 0)), (8, .int (iI 0)), (7, .int (iI 0)), (6, .int (iI 0)), (5, .int (iI 0)), (4, .int (iI (g 0 0 4))), (3, .int (iI (g 0 0 9))), (0, .ref (a 0)), (1, .int (iI (g 0 0 3))), (2, .int (iI (g 0 0 5)))] := lv_sub hl [0, 1, 2, 3, 4, 5, 6, 7, 8, 9, 10, 11, 12, 13] rfl
  have hl : lv_has ls 19 [(13, .int (iI ((0 : Nat) : Int))), (12, .ref q9), (11, .int (iI 0)), (10, .int (iI 0)), (9, .int (iI (m_sm (fun b => m_sm (fun j => max 0 (g 6 j b)) (g 0 0 5).toNat) 0))), (8, .int (iI (m_sm (fun b => m_sm (fun j => m_ib (decide (0 ≤ g 6 j b))) (g 0 0 5).toNat) 0))), (7, .int (iI (m_sm (fun b => g 2 b 10) 0))), (6, .int (iI (m_sm (fun b => g 2 b 9) 0))), (5, .int (iI (m_cnt (m_ent g) 0))), (4, .int (iI (g 0 0 4))), (3, .int (iI (g 0 0 9))), (0, .ref (a 0)), (1, .int (iI (g 0 0 3))), (2, .int (iI (g 0 0 5)))] := hl
  exact loop42 ((g 0 0 4).toNat) 0 0 0 vt (fun _ => 0) H locs ls (by omega) rfl rfl (by omega) (fun _ _ _ => rfl) hX hP hS hl
