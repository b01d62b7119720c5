section BEL
def m_bel (x : Int32) (n : Int) : Int := ((x &&& 2147483647).toInt).tmod n
def m_cell (L : Nat) (xs : Nat → Int32) (i : Int) : Int32 := if i < L then xs i.toNat else 790386105 * (iI i + iI 3)
theorem and_b (x : Int32) : 0 ≤ (x &&& 2147483647).toInt ∧ (x &&& 2147483647).toInt ≤ 2147483647 := by
  have hm : (x &&& 2147483647).toBitVec.msb = false := by
    rw [Int32.toBitVec_and, BitVec.msb_and, show (2147483647 : Int32).toBitVec.msb = false from by decide, Bool.and_false]
  have h := (BitVec.msb_eq_false_iff_two_mul_lt).mp hm
  rw [← Int32.toInt_toBitVec, BitVec.toInt_eq_toNat_of_msb hm]
  omega
theorem bel_b (x : Int32) {n : Int} (h : 1 ≤ n) : 0 ≤ m_bel x n ∧ m_bel x n < n := by
  have a := and_b x
  exact ⟨Int.tmod_nonneg _ a.1, Int.tmod_lt_of_pos _ (by omega)⟩
def pX (b L : Nat) (xs : Nat → Int32) (sz : Nat) (U : State) : Prop := U.heap.size = sz ∧ b < sz ∧ va_X b L xs U U.heap
theorem pX_bl {av : List Value} {b L : Nat} {xs : Nat → Int32} {sz : Nat} : FrameBlind (va_Pc av (pX b L xs sz)) :=
  fun x U gg mk q => ⟨q.1, q.2.1, q.2.2.1, va_X.moved (u := U) (U := U.calling gg mk x) (Vm.Alike.refl U.vm) q.2.2.2⟩
theorem pX_s {b L : Nat} {xs : Nat → Int32} {s : State} {H : Heap} {As : List Value} (hX : va_X b L xs s H) (hbl : b < H.size) : PreS s H (va_Pc As (pX b L xs H.size)) As := ⟨pX_bl, fun U hU hW => ⟨rfl, by rw [hU], hbl, by rw [hU]; exact va_X.moved hW.alike hX⟩⟩
end BEL
set_option maxHeartbeats 4000000 in
set_option maxRecDepth 100000 in
theorem c_below (l : Launch) (D : va_G) (a : Nat → Nat) (cH cB cJ cI : ClassId) (ha : pj a) (g : m_St) (vt : Nat → Int32) (sz : Nat) (xx : Int32) (nn : Int) (hn : 1 ≤ nn ∧ nn ≤ 1000) : Met l yL_below (wc yL_below cL_below 2 (some .int)) ({ frames := 0, cells := 0, slots := 0, locals := 0 }) (va_Pc [.int xx, .int (iI nn)] (pS D a cH cB cJ cI sz g vt)) (va_Qi (fun (r : Int32) (_ : Unit) => r = iI (m_bel xx nn)) (fun _ _ => True) (fun q => sz ≤ q)) 0 0 (fun q => sz ≤ q) := by
  refine Met.ofW (cc := cL_below) (maxL := 2) (ret := (some .int)) (by decide +kernel) rfl ?_
  intro p e s m args below meth c s₁ B9 hml hv
  obtain ⟨rfl, hsz, hP, hK, hE⟩ := hv
  have hx := B9.exec
  have hb := B9.bytes
  have hr := B9.returns
  have hts := atoms_spec (ws := (wc yL_below cL_below 2 (some .int))) B9.pre
  have hw : ∀ w ∈ wsL_law0, w.before [.int xx, .int (iI nn)].toArray s = true := fun w h => hts w (List.mem_cons_of_mem _ h)
  have hown : s.vm.findClass RL = some m.cls := findClass_of_methodNamed B9.named
  subst hsz
  have hS : va_S (fun q => s.heap.size ≤ q) s.heap s.heap [] := va_S.rf
  have hA : ∀ q : Nat, s.heap.size ≤ q → (fun q : Nat => s.heap.size ≤ q) q := fun _ h => h
  have hl := lv_entry ([.int xx, .int (iI nn)]) (n := 2) (Nat.le_of_ble_eq_true rfl)
  rw [lg_entry_eq]
  generalize (lg_sl ([.int xx, .int (iI nn)]) ++ List.replicate (2 - (lg_sl ([.int xx, .int (iI nn)])).length) Slot.unset).toArray = ls at hl ⊢
  have hl : lv_has ls 2 [(0, .int xx), (1, .int (iI nn))] := hl
  suffices h9 : ∀ (H : Heap) (locs : List Loc), va_P D vwCl (pw a cH cB cJ cI g vt) H → va_S (fun q => s.heap.size ≤ q) s.heap H locs → W p l e (headSpec (wc yL_below cL_below 2 (some .int)) ({ frames := 0, cells := 0, slots := 0, locals := 0 })).room s m [.int xx, .int (iI nn)].toArray below meth c H locs 0 0 (MQ below (va_Qi (fun (r : Int32) (_ : Unit) => r = iI (m_bel xx nn)) (fun _ _ => True) (fun q => s.heap.size ≤ q)) [.int xx, .int (iI nn)].toArray s 0 0 (fun q => s.heap.size ≤ q)) (F0 m 0 ls []) from h9 s.heap [] hP hS
  clear hP hS
  intro H locs hP hS
  refine lv_iload_n hx hb dL_below_0 rfl (lv_at hl 0 rfl) ?_
  refine lv_ldc (v := 2147483647) hx hb hown (hw _ kw_67) dL_below_1 ?_
  refine lv_iand hx hb dL_below_3 ?_
  rw [show (xx &&& (2147483647 : Int32)) = iI (xx &&& 2147483647).toInt from (Int32.ofInt_toInt _).symm]
  have hab := and_b xx
  refine lv_iload_n hx hb dL_below_4 rfl (lv_at hl 1 rfl) ?_
  refine n_rem hx hb (by unfold RI; omega) (by unfold RI; omega) (by omega) dL_below_5 ?_
  exact W.iret (v := (iI (((xx &&& 2147483647).toInt).tmod nn))) hx hb hr (fun t ht hW9 => ⟨⟨(iI (((xx &&& 2147483647).toInt).tmod nn)), (), rfl, (congrArg iI (by rfl)), trivial⟩, hS.F ht⟩) hS.2.2 dL_below_6
set_option maxHeartbeats 4000000 in
theorem c_cell (l : Launch) (b L : Nat) (xs : Nat → Int32) (hL : L ≤ 260) (sz : Nat) (ii : Int) (hi : 0 ≤ ii ∧ ii ≤ 1000) : Met l yL_cell (wc yL_cell cL_cell 2 (some .int)) ({ frames := 0, cells := 0, slots := 0, locals := 0 }) (va_Pc [.ref b, .int (iI ii)] (pX b L xs sz)) (va_Qi (fun (r : Int32) (_ : Unit) => r = m_cell L xs ii) (fun _ _ => True) (fun q => sz ≤ q)) 0 0 (fun q => sz ≤ q) := by
  refine Met.ofW (cc := cL_cell) (maxL := 2) (ret := (some .int)) (by decide +kernel) rfl ?_
  intro p e s m args below meth c s₁ B9 hml hv
  obtain ⟨rfl, hsz, hbl, hX⟩ := hv
  have hx := B9.exec
  have hb := B9.bytes
  have hr := B9.returns
  have hts := atoms_spec (ws := (wc yL_cell cL_cell 2 (some .int))) B9.pre
  have hw : ∀ w ∈ wsL_law0, w.before [.ref b, .int (iI ii)].toArray s = true := fun w h => hts w (List.mem_cons_of_mem _ h)
  have hown : s.vm.findClass RL = some m.cls := findClass_of_methodNamed B9.named
  subst hsz
  have hS : va_S (fun q => s.heap.size ≤ q) s.heap s.heap [] := va_S.rf
  have hbA : ¬ (fun q : Nat => s.heap.size ≤ q) b := Nat.not_le.mpr hbl
  have hl := lv_entry ([.ref b, .int (iI ii)]) (n := 2) (Nat.le_of_ble_eq_true rfl)
  rw [lg_entry_eq]
  generalize (lg_sl ([.ref b, .int (iI ii)]) ++ List.replicate (2 - (lg_sl ([.ref b, .int (iI ii)])).length) Slot.unset).toArray = ls at hl ⊢
  have hl : lv_has ls 2 [(0, .ref b), (1, .int (iI ii))] := hl
  refine lv_iload_n hx hb dL_cell_0 rfl (lv_at hl 1 rfl) ?_
  refine lv_aload_n hx hb dL_cell_1 rfl (lv_at hl 0 rfl) ?_
  refine va_slen hx hb hX hbl hbA hS dL_cell_2 ?_
  rw [show Int32.ofNat L = iI (L : Int) from by unfold iI; rw [Int32.ofInt_eq_ofNat]]
  refine n_icmp_ge hx hb (by unfold RI; omega) (by unfold RI; omega) (tgt := 12) dL_cell_3 (by decide) (fun h1 => ?_) (fun h1 => ?_)
  · refine lv_ldc (v := 790386105) hx hb hown (hw _ kw_63) dL_cell_12 ?_
    refine lv_iload_n hx hb dL_cell_14 rfl (lv_at hl 1 rfl) ?_
    refine lv_iconst (v := iI 3) hx hb dL_cell_15 (by decide) ?_
    refine lv_iadd hx hb dL_cell_16 ?_
    refine lv_imul hx hb dL_cell_17 ?_
    exact W.iret (v := 790386105 * (iI ii + iI 3)) hx hb hr (fun t ht hW9 => ⟨⟨_, (), rfl, (by unfold m_cell; rw [if_neg (by omega)]), trivial⟩, hS.F ht⟩) hS.2.2 dL_cell_18
  · refine lv_aload_n hx hb dL_cell_6 rfl (lv_at hl 0 rfl) ?_
    refine lv_iload_n hx hb dL_cell_7 rfl (lv_at hl 1 rfl) ?_
    have z := iI_in (n := L) (k := ii) hi.1 h1 (by omega)
    refine va_sld hx hb hX hbl hbA hS z.1 dL_cell_8 ?_
    rw [z.2]
    refine lv_goto (tgt := 18) hx hb dL_cell_9 (by decide) ?_
    exact W.iret (v := xs ii.toNat) hx hb hr (fun t ht hW9 => ⟨⟨_, (), rfl, (by unfold m_cell; rw [if_pos h1]), trivial⟩, hS.F ht⟩) hS.2.2 dL_cell_18
