set_option maxHeartbeats 4000000 in
set_option maxRecDepth 100000 in
theorem k_within_t (l : Launch) (D : va_G) (eT : Nat) (v : Int32) (lo : Int32) (hi : Int32) (sz : Nat) (h1 : lo ≤ v) (h2 : v ≤ hi) : Met l yX4_isWithin wsX4_isWithin ({ frames := 0, cells := 0, slots := 0, locals := 0 }) (va_Pc [.int v, .int lo, .int hi] (pr D eT sz [] [])) (va_Qi (fun (r : Int32) (_ : Unit) => r = 1) (fun _ _ => True) (fun q => sz ≤ q)) 0 0 (fun q => sz ≤ q) := by
  refine Met.ofW (cc := cX4_isWithin) (maxL := 3) (ret := (some .boolean)) (by decide +kernel) rfl ?_
  intro p e s m args below meth c s₁ B hml hv
  obtain ⟨rfl, hsz, hP, hK, hE⟩ := hv
  have hx := B.exec
  have hb := B.bytes
  have hr := B.returns
  have hts := atoms_spec (ws := wsX4_isWithin) B.pre
  have hown : s.vm.findClass RX4 = some m.cls := findClass_of_methodNamed B.named
  have hlocks := B.notSynchronized
  subst hsz
  have hA : ∀ q : Nat, s.heap.size ≤ q → (fun q : Nat => s.heap.size ≤ q) q := fun _ h => h
  have hS : va_S (fun q : Nat => s.heap.size ≤ q) s.heap s.heap [] := va_S.rf
  have hP : va_P D vwCl [] s.heap := hP
  have hl := lv_entry ([.int v, .int lo, .int hi]) (n := 3) (Nat.le_of_ble_eq_true rfl)
  rw [lg_entry_eq]
  generalize (lg_sl ([.int v, .int lo, .int hi]) ++ List.replicate (3 - (lg_sl ([.int v, .int lo, .int hi])).length) Slot.unset).toArray = ls at hl ⊢
  have hl : lv_has ls 3 [(0, .int v), (1, .int lo), (2, .int hi)] := hl
  refine lv_iload_n hx hb dX4_isWithin_0 rfl (lv_at hl 0 rfl) ?_
  refine lv_iload_n hx hb dX4_isWithin_1 rfl (lv_at hl 1 rfl) ?_
  refine lv_icmp_lt (tgt := 14) hx hb dX4_isWithin_2 (by decide) (fun h => absurd h (i_le h1)) (fun hc => ?_)
  refine lv_iload_n hx hb dX4_isWithin_5 rfl (lv_at hl 0 rfl) ?_
  refine lv_iload_n hx hb dX4_isWithin_6 rfl (lv_at hl 2 rfl) ?_
  refine lv_icmp_gt (tgt := 14) hx hb dX4_isWithin_7 (by decide) (fun h => absurd h (i_le h2)) (fun hc => ?_)
  refine lv_iconst (v := 1) hx hb dX4_isWithin_10 (by decide) ?_
  refine lv_goto (tgt := 15) hx hb dX4_isWithin_11 (by decide) ?_
  exact W.zret (v := 1) (ty := .boolean) hx hb hr (by decide +kernel) (fun t ht hW => ⟨⟨1, (), rfl, rfl, trivial⟩, hS.F ht⟩) hS.2.2 dX4_isWithin_15
set_option maxHeartbeats 4000000 in
set_option maxRecDepth 100000 in
theorem k_within_f (l : Launch) (D : va_G) (eT : Nat) (v : Int32) (lo : Int32) (hi : Int32) (sz : Nat) (hn : ¬ (lo ≤ v ∧ v ≤ hi)) : Met l yX4_isWithin wsX4_isWithin ({ frames := 0, cells := 0, slots := 0, locals := 0 }) (va_Pc [.int v, .int lo, .int hi] (pr D eT sz [] [])) (va_Qi (fun (r : Int32) (_ : Unit) => r = 0) (fun _ _ => True) (fun q => sz ≤ q)) 0 0 (fun q => sz ≤ q) := by
  refine Met.ofW (cc := cX4_isWithin) (maxL := 3) (ret := (some .boolean)) (by decide +kernel) rfl ?_
  intro p e s m args below meth c s₁ B hml hv
  obtain ⟨rfl, hsz, hP, hK, hE⟩ := hv
  have hx := B.exec
  have hb := B.bytes
  have hr := B.returns
  have hts := atoms_spec (ws := wsX4_isWithin) B.pre
  have hown : s.vm.findClass RX4 = some m.cls := findClass_of_methodNamed B.named
  have hlocks := B.notSynchronized
  subst hsz
  have hA : ∀ q : Nat, s.heap.size ≤ q → (fun q : Nat => s.heap.size ≤ q) q := fun _ h => h
  have hS : va_S (fun q : Nat => s.heap.size ≤ q) s.heap s.heap [] := va_S.rf
  have hP : va_P D vwCl [] s.heap := hP
  have hl := lv_entry ([.int v, .int lo, .int hi]) (n := 3) (Nat.le_of_ble_eq_true rfl)
  rw [lg_entry_eq]
  generalize (lg_sl ([.int v, .int lo, .int hi]) ++ List.replicate (3 - (lg_sl ([.int v, .int lo, .int hi])).length) Slot.unset).toArray = ls at hl ⊢
  have hl : lv_has ls 3 [(0, .int v), (1, .int lo), (2, .int hi)] := hl
  refine lv_iload_n hx hb dX4_isWithin_0 rfl (lv_at hl 0 rfl) ?_
  refine lv_iload_n hx hb dX4_isWithin_1 rfl (lv_at hl 1 rfl) ?_
  refine lv_icmp_lt (tgt := 14) hx hb dX4_isWithin_2 (by decide) (fun h1 => ?_) (fun h1 => ?_)
  · skip
    refine lv_iconst (v := 0) hx hb dX4_isWithin_14 (by decide) ?_
    exact W.zret (v := 0) (ty := .boolean) hx hb hr (by decide +kernel) (fun t ht hW => ⟨⟨0, (), rfl, rfl, trivial⟩, hS.F ht⟩) hS.2.2 dX4_isWithin_15
  · skip
    refine lv_iload_n hx hb dX4_isWithin_5 rfl (lv_at hl 0 rfl) ?_
    refine lv_iload_n hx hb dX4_isWithin_6 rfl (lv_at hl 2 rfl) ?_
    refine lv_icmp_gt (tgt := 14) hx hb dX4_isWithin_7 (by decide) (fun hc => ?_) (fun h => absurd ⟨i_nlt h1, i_nlt h⟩ hn)
    refine lv_iconst (v := 0) hx hb dX4_isWithin_14 (by decide) ?_
    exact W.zret (v := 0) (ty := .boolean) hx hb hr (by decide +kernel) (fun t ht hW => ⟨⟨0, (), rfl, rfl, trivial⟩, hS.F ht⟩) hS.2.2 dX4_isWithin_15
set_option maxHeartbeats 4000000 in
set_option maxRecDepth 100000 in
theorem k_isHouse (l : Launch) (D : va_G) (eT : Nat) (h0 : Nat) (aH : Nat) (aB : Nat) (aJ : Nat) (rN : Nat) (rX : Nat) (aV : Nat) (v : Int32) (sz : Nat) : Met l yX4_isHouse wsX4_isHouse ({ frames := 0, cells := 0, slots := 0, locals := 0 }) (va_Pc [.ref h0, .int v] (pr D eT sz [(h0, .inr (7, [.ref aH, .ref aB, .ref aJ, .int 0, .int 0, .int 0, .ref rN, .ref rX, .int 0, .int 0, .int 0, .int 0, .int 0, .int 0, .int (-1), .int (-1), .int 0, .int 0, .ref aV]))] [])) (va_Qi (fun (r : Int32) (_ : Unit) => r = 0) (fun _ _ => True) (fun q => sz ≤ q)) 0 0 (fun q => sz ≤ q) := by
  refine Met.ofW (cc := cX4_isHouse) (maxL := 2) (ret := (some .boolean)) (by decide +kernel) rfl ?_
  intro p e s m args below meth c s₁ B hml hv
  obtain ⟨rfl, hsz, hP, hK, hE⟩ := hv
  have hx := B.exec
  have hb := B.bytes
  have hr := B.returns
  have hts := atoms_spec (ws := wsX4_isHouse) B.pre
  have hown : s.vm.findClass RX4 = some m.cls := findClass_of_methodNamed B.named
  have hlocks := B.notSynchronized
  subst hsz
  have hA : ∀ q : Nat, s.heap.size ≤ q → (fun q : Nat => s.heap.size ≤ q) q := fun _ h => h
  have hS : va_S (fun q : Nat => s.heap.size ≤ q) s.heap s.heap [] := va_S.rf
  have hP : va_P D vwCl [(h0, .inr (7, [.ref aH, .ref aB, .ref aJ, .int 0, .int 0, .int 0, .ref rN, .ref rX, .int 0, .int 0, .int 0, .int 0, .int 0, .int 0, .int (-1), .int (-1), .int 0, .int 0, .ref aV]))] s.heap := hP
  have hl := lv_entry ([.ref h0, .int v]) (n := 2) (Nat.le_of_ble_eq_true rfl)
  rw [lg_entry_eq]
  generalize (lg_sl ([.ref h0, .int v]) ++ List.replicate (2 - (lg_sl ([.ref h0, .int v])).length) Slot.unset).toArray = ls at hl ⊢
  have hl : lv_has ls 2 [(0, .ref h0), (1, .int v)] := hl
  refine lv_iload_n hx hb dX4_isHouse_0 rfl (lv_at hl 1 rfl) ?_
  refine lv_if_lt (tgt := 16) hx hb dX4_isHouse_1 (by decide) (fun hc => ?_) (fun hc => ?_)
  · skip
    refine lv_iconst (v := 0) hx hb dX4_isHouse_16 (by decide) ?_
    exact W.zret (v := 0) (ty := .boolean) hx hb hr (by decide +kernel) (fun t ht hW => ⟨⟨0, (), rfl, rfl, trivial⟩, hS.F ht⟩) hS.2.2 dX4_isHouse_17
  · skip
    refine lv_iload_n hx hb dX4_isHouse_4 rfl (lv_at hl 1 rfl) ?_
    refine lv_aload_n hx hb dX4_isHouse_5 rfl (lv_at hl 0 rfl) ?_
    refine va_get (D := D) (ci := 7) (v := .int 0) (C := RX4) (T := TX4) (N := 19) hx hb hts (by decide +kernel) hown hK hP 0 rfl rfl 3 (by decide) (hts (.fieldLink RX4 54 "PrizeHouse" "houseCount" "I") (by decide +kernel)) (fun _ h9 => h9) rfl dX4_isHouse_6 ?_
    refine lv_icmp_ge (tgt := 16) hx hb dX4_isHouse_9 (by decide) (fun hc => ?_) (fun h => absurd (i_nlt hc) h)
    refine lv_iconst (v := 0) hx hb dX4_isHouse_16 (by decide) ?_
    exact W.zret (v := 0) (ty := .boolean) hx hb hr (by decide +kernel) (fun t ht hW => ⟨⟨0, (), rfl, rfl, trivial⟩, hS.F ht⟩) hS.2.2 dX4_isHouse_17
set_option maxHeartbeats 4000000 in
set_option maxRecDepth 100000 in
theorem k_isBook (l : Launch) (D : va_G) (eT : Nat) (h0 : Nat) (aH : Nat) (aB : Nat) (aJ : Nat) (rN : Nat) (rX : Nat) (aV : Nat) (v : Int32) (sz : Nat) : Met l yX4_isBook wsX4_isBook ({ frames := 0, cells := 0, slots := 0, locals := 0 }) (va_Pc [.ref h0, .int v] (pr D eT sz [(h0, .inr (7, [.ref aH, .ref aB, .ref aJ, .int 0, .int 0, .int 0, .ref rN, .ref rX, .int 0, .int 0, .int 0, .int 0, .int 0, .int 0, .int (-1), .int (-1), .int 0, .int 0, .ref aV]))] [])) (va_Qi (fun (r : Int32) (_ : Unit) => r = 0) (fun _ _ => True) (fun q => sz ≤ q)) 0 0 (fun q => sz ≤ q) := by
  refine Met.ofW (cc := cX4_isBook) (maxL := 2) (ret := (some .boolean)) (by decide +kernel) rfl ?_
  intro p e s m args below meth c s₁ B hml hv
  obtain ⟨rfl, hsz, hP, hK, hE⟩ := hv
  have hx := B.exec
  have hb := B.bytes
  have hr := B.returns
  have hts := atoms_spec (ws := wsX4_isBook) B.pre
  have hown : s.vm.findClass RX4 = some m.cls := findClass_of_methodNamed B.named
  have hlocks := B.notSynchronized
  subst hsz
  have hA : ∀ q : Nat, s.heap.size ≤ q → (fun q : Nat => s.heap.size ≤ q) q := fun _ h => h
  have hS : va_S (fun q : Nat => s.heap.size ≤ q) s.heap s.heap [] := va_S.rf
  have hP : va_P D vwCl [(h0, .inr (7, [.ref aH, .ref aB, .ref aJ, .int 0, .int 0, .int 0, .ref rN, .ref rX, .int 0, .int 0, .int 0, .int 0, .int 0, .int 0, .int (-1), .int (-1), .int 0, .int 0, .ref aV]))] s.heap := hP
  have hl := lv_entry ([.ref h0, .int v]) (n := 2) (Nat.le_of_ble_eq_true rfl)
  rw [lg_entry_eq]
  generalize (lg_sl ([.ref h0, .int v]) ++ List.replicate (2 - (lg_sl ([.ref h0, .int v])).length) Slot.unset).toArray = ls at hl ⊢
  have hl : lv_has ls 2 [(0, .ref h0), (1, .int v)] := hl
  refine lv_iload_n hx hb dX4_isBook_0 rfl (lv_at hl 1 rfl) ?_
  refine lv_if_lt (tgt := 16) hx hb dX4_isBook_1 (by decide) (fun hc => ?_) (fun hc => ?_)
  · skip
    refine lv_iconst (v := 0) hx hb dX4_isBook_16 (by decide) ?_
    exact W.zret (v := 0) (ty := .boolean) hx hb hr (by decide +kernel) (fun t ht hW => ⟨⟨0, (), rfl, rfl, trivial⟩, hS.F ht⟩) hS.2.2 dX4_isBook_17
  · skip
    refine lv_iload_n hx hb dX4_isBook_4 rfl (lv_at hl 1 rfl) ?_
    refine lv_aload_n hx hb dX4_isBook_5 rfl (lv_at hl 0 rfl) ?_
    refine va_get (D := D) (ci := 7) (v := .int 0) (C := RX4) (T := TX4) (N := 19) hx hb hts (by decide +kernel) hown hK hP 0 rfl rfl 4 (by decide) (hts (.fieldLink RX4 85 "PrizeHouse" "bookCount" "I") (by decide +kernel)) (fun _ h9 => h9) rfl dX4_isBook_6 ?_
    refine lv_icmp_ge (tgt := 16) hx hb dX4_isBook_9 (by decide) (fun hc => ?_) (fun h => absurd (i_nlt hc) h)
    refine lv_iconst (v := 0) hx hb dX4_isBook_16 (by decide) ?_
    exact W.zret (v := 0) (ty := .boolean) hx hb hr (by decide +kernel) (fun t ht hW => ⟨⟨0, (), rfl, rfl, trivial⟩, hS.F ht⟩) hS.2.2 dX4_isBook_17
set_option maxHeartbeats 4000000 in
set_option maxRecDepth 100000 in
theorem k_isJudge (l : Launch) (D : va_G) (eT : Nat) (h0 : Nat) (aH : Nat) (aB : Nat) (aJ : Nat) (rN : Nat) (rX : Nat) (aV : Nat) (v : Int32) (sz : Nat) : Met l yX4_isJudge wsX4_isJudge ({ frames := 0, cells := 0, slots := 0, locals := 0 }) (va_Pc [.ref h0, .int v] (pr D eT sz [(h0, .inr (7, [.ref aH, .ref aB, .ref aJ, .int 0, .int 0, .int 0, .ref rN, .ref rX, .int 0, .int 0, .int 0, .int 0, .int 0, .int 0, .int (-1), .int (-1), .int 0, .int 0, .ref aV]))] [])) (va_Qi (fun (r : Int32) (_ : Unit) => r = 0) (fun _ _ => True) (fun q => sz ≤ q)) 0 0 (fun q => sz ≤ q) := by
  refine Met.ofW (cc := cX4_isJudge) (maxL := 2) (ret := (some .boolean)) (by decide +kernel) rfl ?_
  intro p e s m args below meth c s₁ B hml hv
  obtain ⟨rfl, hsz, hP, hK, hE⟩ := hv
  have hx := B.exec
  have hb := B.bytes
  have hr := B.returns
  have hts := atoms_spec (ws := wsX4_isJudge) B.pre
  have hown : s.vm.findClass RX4 = some m.cls := findClass_of_methodNamed B.named
  have hlocks := B.notSynchronized
  subst hsz
  have hA : ∀ q : Nat, s.heap.size ≤ q → (fun q : Nat => s.heap.size ≤ q) q := fun _ h => h
  have hS : va_S (fun q : Nat => s.heap.size ≤ q) s.heap s.heap [] := va_S.rf
  have hP : va_P D vwCl [(h0, .inr (7, [.ref aH, .ref aB, .ref aJ, .int 0, .int 0, .int 0, .ref rN, .ref rX, .int 0, .int 0, .int 0, .int 0, .int 0, .int 0, .int (-1), .int (-1), .int 0, .int 0, .ref aV]))] s.heap := hP
  have hl := lv_entry ([.ref h0, .int v]) (n := 2) (Nat.le_of_ble_eq_true rfl)
  rw [lg_entry_eq]
  generalize (lg_sl ([.ref h0, .int v]) ++ List.replicate (2 - (lg_sl ([.ref h0, .int v])).length) Slot.unset).toArray = ls at hl ⊢
  have hl : lv_has ls 2 [(0, .ref h0), (1, .int v)] := hl
  refine lv_iload_n hx hb dX4_isJudge_0 rfl (lv_at hl 1 rfl) ?_
  refine lv_if_lt (tgt := 16) hx hb dX4_isJudge_1 (by decide) (fun hc => ?_) (fun hc => ?_)
  · skip
    refine lv_iconst (v := 0) hx hb dX4_isJudge_16 (by decide) ?_
    exact W.zret (v := 0) (ty := .boolean) hx hb hr (by decide +kernel) (fun t ht hW => ⟨⟨0, (), rfl, rfl, trivial⟩, hS.F ht⟩) hS.2.2 dX4_isJudge_17
  · skip
    refine lv_iload_n hx hb dX4_isJudge_4 rfl (lv_at hl 1 rfl) ?_
    refine lv_aload_n hx hb dX4_isJudge_5 rfl (lv_at hl 0 rfl) ?_
    refine va_get (D := D) (ci := 7) (v := .int 0) (C := RX4) (T := TX4) (N := 19) hx hb hts (by decide +kernel) hown hK hP 0 rfl rfl 5 (by decide) (hts (.fieldLink RX4 102 "PrizeHouse" "judgeCount" "I") (by decide +kernel)) (fun _ h9 => h9) rfl dX4_isJudge_6 ?_
    refine lv_icmp_ge (tgt := 16) hx hb dX4_isJudge_9 (by decide) (fun hc => ?_) (fun h => absurd (i_nlt hc) h)
    refine lv_iconst (v := 0) hx hb dX4_isJudge_16 (by decide) ?_
    exact W.zret (v := 0) (ty := .boolean) hx hb hr (by decide +kernel) (fun t ht hW => ⟨⟨0, (), rfl, rfl, trivial⟩, hS.F ht⟩) hS.2.2 dX4_isJudge_17
set_option maxHeartbeats 4000000 in
set_option maxRecDepth 100000 in
theorem t_book (l : Launch) (hl0 : l.stackTraces = false) (D : va_G) (eT : Nat) (h0 : Nat) (aH : Nat) (aB : Nat) (aJ : Nat) (rN : Nat) (rX : Nat) (aV : Nat) (p0 : Int32) (p1 : Int32) (p2 : Int32) (p3 : Int32) (p4 : Int32) (p5 : Int32) (sz : Nat) : vx_Met l yX4_book wsX4_book ({ frames := 6, cells := 1, slots := 6, locals := 82 }) (va_Pc [.ref h0, .int p0, .int p1, .int p2, .int p3, .int p4, .int p5] (pr D eT sz [(h0, .inr (7, [.ref aH, .ref aB, .ref aJ, .int 0, .int 0, .int 0, .ref rN, .ref rX, .int 0, .int 0, .int 0, .int 0, .int 0, .int 0, .int (-1), .int (-1), .int 0, .int 0, .ref aV]))] [])) (va_Qi (fun (_ : Int32) (_ : Unit) => False) (fun _ _ => True) (fun q => sz ≤ q)) (xr eIOB sz) 1 6 (fun q => sz ≤ q) := by
  refine vx_ofW (cc := cX4_book) (maxL := 7) (ret := (some .int)) (by decide +kernel) rfl ?_
  intro p e s m args below meth c s₁ B hml hno hv
  obtain ⟨rfl, hsz, hP, hK, hE⟩ := hv
  have hx := B.exec
  have hb := B.bytes
  have hr := B.returns
  have hts := atoms_spec (ws := wsX4_book) B.pre
  have hown : s.vm.findClass RX4 = some m.cls := findClass_of_methodNamed B.named
  have hlocks := B.notSynchronized
  subst hsz
  have hA : ∀ q : Nat, s.heap.size ≤ q → (fun q : Nat => s.heap.size ≤ q) q := fun _ h => h
  have hS : va_S (fun q : Nat => s.heap.size ≤ q) s.heap s.heap [] := va_S.rf
  have hP : va_P D vwCl [(h0, .inr (7, [.ref aH, .ref aB, .ref aJ, .int 0, .int 0, .int 0, .ref rN, .ref rX, .int 0, .int 0, .int 0, .int 0, .int 0, .int 0, .int (-1), .int (-1), .int 0, .int 0, .ref aV]))] s.heap := hP
  have hl := lv_entry ([.ref h0, .int p0, .int p1, .int p2, .int p3, .int p4, .int p5]) (n := 7) (Nat.le_of_ble_eq_true rfl)
  rw [lg_entry_eq]
  generalize (lg_sl ([.ref h0, .int p0, .int p1, .int p2, .int p3, .int p4, .int p5]) ++ List.replicate (7 - (lg_sl ([.ref h0, .int p0, .int p1, .int p2, .int p3, .int p4, .int p5])).length) Slot.unset).toArray = ls at hl ⊢
  have hl : lv_has ls 7 [(0, .ref h0), (1, .int p0), (2, .int p1), (3, .int p2), (4, .int p3), (5, .int p4), (6, .int p5)] := hl
  refine lv_aload_n hx hb dX4_book_0 rfl (lv_at hl 0 rfl) ?_
  refine lv_iload_n hx hb dX4_book_1 rfl (lv_at hl 1 rfl) ?_
  have hPc := hP.sub (ws' := [(h0, .inr (7, [.ref aH, .ref aB, .ref aJ, .int 0, .int 0, .int 0, .ref rN, .ref rX, .int 0, .int 0, .int 0, .int 0, .int 0, .int 0, .int (-1), .int (-1), .int 0, .int 0, .ref aV]))]) [0] rfl
  have hKc := hK.sub (tys' := []) [] rfl
  refine va_calli (va_runV (As := [.int p0]) (rest := []) ⟨hx, hb, hml, hown, hts⟩ (k_isHouse l D eT h0 aH aB aJ rN rX aV p0 s.heap.size ) (cwV 1 hts gX4_book_X4_isHouse rfl rfl rfl (by decide +kernel) ⟨Nat.le_of_ble_eq_true rfl, Nat.le_of_ble_eq_true rfl⟩) (pr_v (ci := 7) (q0 := 0) rfl rfl hPc hKc hE hS hA) rfl rfl hl.1 rfl (lv_room (Nat.le_of_ble_eq_true rfl)) dX4_book_2 ⟨Nat.le_of_ble_eq_true rfl, Nat.le_of_ble_eq_true rfl⟩) hS (fun q h1 h2 => ro_A h1 h2) (fun q h => ro_F hS hA q h) (fun r u t H1 locs ht hvm hw hB hz1 hk1 hS => ?_)
  have hw : r = 0 := hw
  rw [hw]
  have hP := ro_P hP hk1
  generalize H1 = H at hP hS ⊢
  refine lv_if_ne (tgt := 18) hx hb dX4_book_5 (by decide) (fun h => absurd (by decide) h) (fun _ => ?_)
  obtain ⟨sa_1, hsa_1⟩ := hE.str 30 rfl
  exact vx_throwS (A := fun q => s.heap.size ≤ q) hx hb hl0 hown fit_IOB fit_RE (hts (.classLink RX4 68 eIOB) (by decide +kernel)) (hts (.initialized eIOB) (by decide +kernel)) hsa_1 (hat_IOB (fun w h => hts w (List.mem_cons_of_mem _ (List.mem_append_left _ (List.mem_append_left _ (List.mem_append_right _ h))))) hE.1 hE.2.2.1) good_IOB hE.2.2.2.1 hE.2.2.2.2.1 hS (hl.1.trans hml.symm) dX4_book_8 dX4_book_11 dX4_book_12 dX4_book_14 dX4_book_17 (fun x hx9 => (hno x hx9).elim) (Nat.le_of_ble_eq_true rfl) (Nat.le_of_ble_eq_true rfl) (Nat.le_of_ble_eq_true rfl) (Nat.le_of_ble_eq_true rfl) hlocks (fun t _ h1 h2 => xr_in hS h1 h2) hS.2.2 (Nat.le_of_ble_eq_true rfl) (Nat.le_of_ble_eq_true rfl)
set_option maxHeartbeats 4000000 in
set_option maxRecDepth 100000 in
theorem t_conflict (l : Launch) (hl0 : l.stackTraces = false) (D : va_G) (eT : Nat) (h0 : Nat) (aH : Nat) (aB : Nat) (aJ : Nat) (rN : Nat) (rX : Nat) (aV : Nat) (p0 : Int32) (p1 : Int32) (sz : Nat) : vx_Met l yX4_conflict wsX4_conflict ({ frames := 6, cells := 1, slots := 6, locals := 82 }) (va_Pc [.ref h0, .int p0, .int p1] (pr D eT sz [(h0, .inr (7, [.ref aH, .ref aB, .ref aJ, .int 0, .int 0, .int 0, .ref rN, .ref rX, .int 0, .int 0, .int 0, .int 0, .int 0, .int 0, .int (-1), .int (-1), .int 0, .int 0, .ref aV]))] [])) (va_Qi (fun (_ : Int32) (_ : Unit) => False) (fun _ _ => True) (fun q => sz ≤ q)) (xr eIOB sz) 1 6 (fun q => sz ≤ q) := by
  refine vx_ofW (cc := cX4_conflict) (maxL := 3) (ret := (some .int)) (by decide +kernel) rfl ?_
  intro p e s m args below meth c s₁ B hml hno hv
  obtain ⟨rfl, hsz, hP, hK, hE⟩ := hv
  have hx := B.exec
  have hb := B.bytes
  have hr := B.returns
  have hts := atoms_spec (ws := wsX4_conflict) B.pre
  have hown : s.vm.findClass RX4 = some m.cls := findClass_of_methodNamed B.named
  have hlocks := B.notSynchronized
  subst hsz
  have hA : ∀ q : Nat, s.heap.size ≤ q → (fun q : Nat => s.heap.size ≤ q) q := fun _ h => h
  have hS : va_S (fun q : Nat => s.heap.size ≤ q) s.heap s.heap [] := va_S.rf
  have hP : va_P D vwCl [(h0, .inr (7, [.ref aH, .ref aB, .ref aJ, .int 0, .int 0, .int 0, .ref rN, .ref rX, .int 0, .int 0, .int 0, .int 0, .int 0, .int 0, .int (-1), .int (-1), .int 0, .int 0, .ref aV]))] s.heap := hP
  have hl := lv_entry ([.ref h0, .int p0, .int p1]) (n := 3) (Nat.le_of_ble_eq_true rfl)
  rw [lg_entry_eq]
  generalize (lg_sl ([.ref h0, .int p0, .int p1]) ++ List.replicate (3 - (lg_sl ([.ref h0, .int p0, .int p1])).length) Slot.unset).toArray = ls at hl ⊢
  have hl : lv_has ls 3 [(0, .ref h0), (1, .int p0), (2, .int p1)] := hl
  refine lv_aload_n hx hb dX4_conflict_0 rfl (lv_at hl 0 rfl) ?_
  refine lv_iload_n hx hb dX4_conflict_1 rfl (lv_at hl 1 rfl) ?_
  have hPc := hP.sub (ws' := [(h0, .inr (7, [.ref aH, .ref aB, .ref aJ, .int 0, .int 0, .int 0, .ref rN, .ref rX, .int 0, .int 0, .int 0, .int 0, .int 0, .int 0, .int (-1), .int (-1), .int 0, .int 0, .ref aV]))]) [0] rfl
  have hKc := hK.sub (tys' := []) [] rfl
  refine va_calli (va_runV (As := [.int p0]) (rest := []) ⟨hx, hb, hml, hown, hts⟩ (k_isJudge l D eT h0 aH aB aJ rN rX aV p0 s.heap.size ) (cwV 1 hts gX4_conflict_X4_isJudge rfl rfl rfl (by decide +kernel) ⟨Nat.le_of_ble_eq_true rfl, Nat.le_of_ble_eq_true rfl⟩) (pr_v (ci := 7) (q0 := 0) rfl rfl hPc hKc hE hS hA) rfl rfl hl.1 rfl (lv_room (Nat.le_of_ble_eq_true rfl)) dX4_conflict_2 ⟨Nat.le_of_ble_eq_true rfl, Nat.le_of_ble_eq_true rfl⟩) hS (fun q h1 h2 => ro_A h1 h2) (fun q h => ro_F hS hA q h) (fun r u t H1 locs ht hvm hw hB hz1 hk1 hS => ?_)
  have hw : r = 0 := hw
  rw [hw]
  have hP := ro_P hP hk1
  generalize H1 = H at hP hS ⊢
  refine lv_if_ne (tgt := 18) hx hb dX4_conflict_5 (by decide) (fun h => absurd (by decide) h) (fun _ => ?_)
  obtain ⟨sa_1, hsa_1⟩ := hE.str 2 rfl
  exact vx_throwS (A := fun q => s.heap.size ≤ q) hx hb hl0 hown fit_IOB fit_RE (hts (.classLink RX4 68 eIOB) (by decide +kernel)) (hts (.initialized eIOB) (by decide +kernel)) hsa_1 (hat_IOB (fun w h => hts w (List.mem_cons_of_mem _ (List.mem_append_left _ (List.mem_append_right _ h)))) hE.1 hE.2.2.1) good_IOB hE.2.2.2.1 hE.2.2.2.2.1 hS (hl.1.trans hml.symm) dX4_conflict_8 dX4_conflict_11 dX4_conflict_12 dX4_conflict_14 dX4_conflict_17 (fun x hx9 => (hno x hx9).elim) (Nat.le_of_ble_eq_true rfl) (Nat.le_of_ble_eq_true rfl) (Nat.le_of_ble_eq_true rfl) (Nat.le_of_ble_eq_true rfl) hlocks (fun t _ h1 h2 => xr_in hS h1 h2) hS.2.2 (Nat.le_of_ble_eq_true rfl) (Nat.le_of_ble_eq_true rfl)
set_option maxHeartbeats 4000000 in
set_option maxRecDepth 100000 in
theorem t_enter (l : Launch) (hl0 : l.stackTraces = false) (D : va_G) (eT : Nat) (h0 : Nat) (aH : Nat) (aB : Nat) (aJ : Nat) (rN : Nat) (rX : Nat) (aV : Nat) (p0 : Int32) (sz : Nat) : vx_Met l yX4_enter wsX4_enter ({ frames := 6, cells := 1, slots := 6, locals := 82 }) (va_Pc [.ref h0, .int p0] (pr D eT sz [(h0, .inr (7, [.ref aH, .ref aB, .ref aJ, .int 0, .int 0, .int 0, .ref rN, .ref rX, .int 0, .int 0, .int 0, .int 0, .int 0, .int 0, .int (-1), .int (-1), .int 0, .int 0, .ref aV]))] [])) (va_Qi (fun (_ : Int32) (_ : Unit) => False) (fun _ _ => True) (fun q => sz ≤ q)) (xr eIOB sz) 1 6 (fun q => sz ≤ q) := by
  refine vx_ofW (cc := cX4_enter) (maxL := 3) (ret := (some .int)) (by decide +kernel) rfl ?_
  intro p e s m args below meth c s₁ B hml hno hv
  obtain ⟨rfl, hsz, hP, hK, hE⟩ := hv
  have hx := B.exec
  have hb := B.bytes
  have hr := B.returns
  have hts := atoms_spec (ws := wsX4_enter) B.pre
  have hown : s.vm.findClass RX4 = some m.cls := findClass_of_methodNamed B.named
  have hlocks := B.notSynchronized
  subst hsz
  have hA : ∀ q : Nat, s.heap.size ≤ q → (fun q : Nat => s.heap.size ≤ q) q := fun _ h => h
  have hS : va_S (fun q : Nat => s.heap.size ≤ q) s.heap s.heap [] := va_S.rf
  have hP : va_P D vwCl [(h0, .inr (7, [.ref aH, .ref aB, .ref aJ, .int 0, .int 0, .int 0, .ref rN, .ref rX, .int 0, .int 0, .int 0, .int 0, .int 0, .int 0, .int (-1), .int (-1), .int 0, .int 0, .ref aV]))] s.heap := hP
  have hl := lv_entry ([.ref h0, .int p0]) (n := 3) (Nat.le_of_ble_eq_true rfl)
  rw [lg_entry_eq]
  generalize (lg_sl ([.ref h0, .int p0]) ++ List.replicate (3 - (lg_sl ([.ref h0, .int p0])).length) Slot.unset).toArray = ls at hl ⊢
  have hl : lv_has ls 3 [(0, .ref h0), (1, .int p0)] := hl
  refine lv_aload_n hx hb dX4_enter_0 rfl (lv_at hl 0 rfl) ?_
  refine lv_iload_n hx hb dX4_enter_1 rfl (lv_at hl 1 rfl) ?_
  have hPc := hP.sub (ws' := [(h0, .inr (7, [.ref aH, .ref aB, .ref aJ, .int 0, .int 0, .int 0, .ref rN, .ref rX, .int 0, .int 0, .int 0, .int 0, .int 0, .int 0, .int (-1), .int (-1), .int 0, .int 0, .ref aV]))]) [0] rfl
  have hKc := hK.sub (tys' := []) [] rfl
  refine va_calli (va_runV (As := [.int p0]) (rest := []) ⟨hx, hb, hml, hown, hts⟩ (k_isBook l D eT h0 aH aB aJ rN rX aV p0 s.heap.size ) (cwV 1 hts gX4_enter_X4_isBook rfl rfl rfl (by decide +kernel) ⟨Nat.le_of_ble_eq_true rfl, Nat.le_of_ble_eq_true rfl⟩) (pr_v (ci := 7) (q0 := 0) rfl rfl hPc hKc hE hS hA) rfl rfl hl.1 rfl (lv_room (Nat.le_of_ble_eq_true rfl)) dX4_enter_2 ⟨Nat.le_of_ble_eq_true rfl, Nat.le_of_ble_eq_true rfl⟩) hS (fun q h1 h2 => ro_A h1 h2) (fun q h => ro_F hS hA q h) (fun r u t H1 locs ht hvm hw hB hz1 hk1 hS => ?_)
  have hw : r = 0 := hw
  rw [hw]
  have hP := ro_P hP hk1
  generalize H1 = H at hP hS ⊢
  refine lv_if_ne (tgt := 18) hx hb dX4_enter_5 (by decide) (fun h => absurd (by decide) h) (fun _ => ?_)
  obtain ⟨sa_1, hsa_1⟩ := hE.str 5 rfl
  exact vx_throwS (A := fun q => s.heap.size ≤ q) hx hb hl0 hown fit_IOB fit_RE (hts (.classLink RX4 68 eIOB) (by decide +kernel)) (hts (.initialized eIOB) (by decide +kernel)) hsa_1 (hat_IOB (fun w h => hts w (List.mem_cons_of_mem _ (List.mem_append_left _ (List.mem_append_right _ h)))) hE.1 hE.2.2.1) good_IOB hE.2.2.2.1 hE.2.2.2.2.1 hS (hl.1.trans hml.symm) dX4_enter_8 dX4_enter_11 dX4_enter_12 dX4_enter_14 dX4_enter_17 (fun x hx9 => (hno x hx9).elim) (Nat.le_of_ble_eq_true rfl) (Nat.le_of_ble_eq_true rfl) (Nat.le_of_ble_eq_true rfl) (Nat.le_of_ble_eq_true rfl) hlocks (fun t _ h1 h2 => xr_in hS h1 h2) hS.2.2 (Nat.le_of_ble_eq_true rfl) (Nat.le_of_ble_eq_true rfl)
set_option maxHeartbeats 4000000 in
set_option maxRecDepth 100000 in
theorem t_callIn (l : Launch) (hl0 : l.stackTraces = false) (D : va_G) (eT : Nat) (h0 : Nat) (aH : Nat) (aB : Nat) (aJ : Nat) (rN : Nat) (rX : Nat) (aV : Nat) (p0 : Int32) (p1 : Int32) (sz : Nat) : vx_Met l yX4_callIn wsX4_callIn ({ frames := 6, cells := 1, slots := 6, locals := 82 }) (va_Pc [.ref h0, .int p0, .int p1] (pr D eT sz [(h0, .inr (7, [.ref aH, .ref aB, .ref aJ, .int 0, .int 0, .int 0, .ref rN, .ref rX, .int 0, .int 0, .int 0, .int 0, .int 0, .int 0, .int (-1), .int (-1), .int 0, .int 0, .ref aV]))] [])) (va_Qi (fun (_ : Int32) (_ : Unit) => False) (fun _ _ => True) (fun q => sz ≤ q)) (xr eIOB sz) 1 6 (fun q => sz ≤ q) := by
  refine vx_ofW (cc := cX4_callIn) (maxL := 3) (ret := (some .int)) (by decide +kernel) rfl ?_
  intro p e s m args below meth c s₁ B hml hno hv
  obtain ⟨rfl, hsz, hP, hK, hE⟩ := hv
  have hx := B.exec
  have hb := B.bytes
  have hr := B.returns
  have hts := atoms_spec (ws := wsX4_callIn) B.pre
  have hown : s.vm.findClass RX4 = some m.cls := findClass_of_methodNamed B.named
  have hlocks := B.notSynchronized
  subst hsz
  have hA : ∀ q : Nat, s.heap.size ≤ q → (fun q : Nat => s.heap.size ≤ q) q := fun _ h => h
  have hS : va_S (fun q : Nat => s.heap.size ≤ q) s.heap s.heap [] := va_S.rf
  have hP : va_P D vwCl [(h0, .inr (7, [.ref aH, .ref aB, .ref aJ, .int 0, .int 0, .int 0, .ref rN, .ref rX, .int 0, .int 0, .int 0, .int 0, .int 0, .int 0, .int (-1), .int (-1), .int 0, .int 0, .ref aV]))] s.heap := hP
  have hl := lv_entry ([.ref h0, .int p0, .int p1]) (n := 3) (Nat.le_of_ble_eq_true rfl)
  rw [lg_entry_eq]
  generalize (lg_sl ([.ref h0, .int p0, .int p1]) ++ List.replicate (3 - (lg_sl ([.ref h0, .int p0, .int p1])).length) Slot.unset).toArray = ls at hl ⊢
  have hl : lv_has ls 3 [(0, .ref h0), (1, .int p0), (2, .int p1)] := hl
  refine lv_aload_n hx hb dX4_callIn_0 rfl (lv_at hl 0 rfl) ?_
  refine lv_iload_n hx hb dX4_callIn_1 rfl (lv_at hl 1 rfl) ?_
  have hPc := hP.sub (ws' := [(h0, .inr (7, [.ref aH, .ref aB, .ref aJ, .int 0, .int 0, .int 0, .ref rN, .ref rX, .int 0, .int 0, .int 0, .int 0, .int 0, .int 0, .int (-1), .int (-1), .int 0, .int 0, .ref aV]))]) [0] rfl
  have hKc := hK.sub (tys' := []) [] rfl
  refine va_calli (va_runV (As := [.int p0]) (rest := []) ⟨hx, hb, hml, hown, hts⟩ (k_isJudge l D eT h0 aH aB aJ rN rX aV p0 s.heap.size ) (cwV 1 hts gX4_callIn_X4_isJudge rfl rfl rfl (by decide +kernel) ⟨Nat.le_of_ble_eq_true rfl, Nat.le_of_ble_eq_true rfl⟩) (pr_v (ci := 7) (q0 := 0) rfl rfl hPc hKc hE hS hA) rfl rfl hl.1 rfl (lv_room (Nat.le_of_ble_eq_true rfl)) dX4_callIn_2 ⟨Nat.le_of_ble_eq_true rfl, Nat.le_of_ble_eq_true rfl⟩) hS (fun q h1 h2 => ro_A h1 h2) (fun q h => ro_F hS hA q h) (fun r u t H1 locs ht hvm hw hB hz1 hk1 hS => ?_)
  have hw : r = 0 := hw
  rw [hw]
  have hP := ro_P hP hk1
  generalize H1 = H at hP hS ⊢
  refine lv_if_eq (tgt := 16) hx hb dX4_callIn_5 (by decide) (fun _ => ?_) (fun h => absurd (by decide) h)
  obtain ⟨sa_1, hsa_1⟩ := hE.str 7 rfl
  exact vx_throwS (A := fun q => s.heap.size ≤ q) hx hb hl0 hown fit_IOB fit_RE (hts (.classLink RX4 68 eIOB) (by decide +kernel)) (hts (.initialized eIOB) (by decide +kernel)) hsa_1 (hat_IOB (fun w h => hts w (List.mem_cons_of_mem _ (List.mem_append_left _ (List.mem_append_right _ h)))) hE.1 hE.2.2.1) good_IOB hE.2.2.2.1 hE.2.2.2.2.1 hS (hl.1.trans hml.symm) dX4_callIn_16 dX4_callIn_19 dX4_callIn_20 dX4_callIn_22 dX4_callIn_25 (fun x hx9 => (hno x hx9).elim) (Nat.le_of_ble_eq_true rfl) (Nat.le_of_ble_eq_true rfl) (Nat.le_of_ble_eq_true rfl) (Nat.le_of_ble_eq_true rfl) hlocks (fun t _ h1 h2 => xr_in hS h1 h2) hS.2.2 (Nat.le_of_ble_eq_true rfl) (Nat.le_of_ble_eq_true rfl)
set_option maxHeartbeats 4000000 in
set_option maxRecDepth 100000 in
theorem t_print (l : Launch) (hl0 : l.stackTraces = false) (D : va_G) (eT : Nat) (h0 : Nat) (aH : Nat) (aB : Nat) (aJ : Nat) (rN : Nat) (rX : Nat) (aV : Nat) (p0 : Int32) (p1 : Int32) (sz : Nat) : vx_Met l yX4_print wsX4_print ({ frames := 6, cells := 1, slots := 6, locals := 82 }) (va_Pc [.ref h0, .int p0, .int p1] (pr D eT sz [(h0, .inr (7, [.ref aH, .ref aB, .ref aJ, .int 0, .int 0, .int 0, .ref rN, .ref rX, .int 0, .int 0, .int 0, .int 0, .int 0, .int 0, .int (-1), .int (-1), .int 0, .int 0, .ref aV]))] [])) (va_Qi (fun (_ : Int32) (_ : Unit) => False) (fun _ _ => True) (fun q => sz ≤ q)) (xr eIOB sz) 1 6 (fun q => sz ≤ q) := by
  refine vx_ofW (cc := cX4_print) (maxL := 3) (ret := (some .int)) (by decide +kernel) rfl ?_
  intro p e s m args below meth c s₁ B hml hno hv
  obtain ⟨rfl, hsz, hP, hK, hE⟩ := hv
  have hx := B.exec
  have hb := B.bytes
  have hr := B.returns
  have hts := atoms_spec (ws := wsX4_print) B.pre
  have hown : s.vm.findClass RX4 = some m.cls := findClass_of_methodNamed B.named
  have hlocks := B.notSynchronized
  subst hsz
  have hA : ∀ q : Nat, s.heap.size ≤ q → (fun q : Nat => s.heap.size ≤ q) q := fun _ h => h
  have hS : va_S (fun q : Nat => s.heap.size ≤ q) s.heap s.heap [] := va_S.rf
  have hP : va_P D vwCl [(h0, .inr (7, [.ref aH, .ref aB, .ref aJ, .int 0, .int 0, .int 0, .ref rN, .ref rX, .int 0, .int 0, .int 0, .int 0, .int 0, .int 0, .int (-1), .int (-1), .int 0, .int 0, .ref aV]))] s.heap := hP
  have hl := lv_entry ([.ref h0, .int p0, .int p1]) (n := 3) (Nat.le_of_ble_eq_true rfl)
  rw [lg_entry_eq]
  generalize (lg_sl ([.ref h0, .int p0, .int p1]) ++ List.replicate (3 - (lg_sl ([.ref h0, .int p0, .int p1])).length) Slot.unset).toArray = ls at hl ⊢
  have hl : lv_has ls 3 [(0, .ref h0), (1, .int p0), (2, .int p1)] := hl
  refine lv_aload_n hx hb dX4_print_0 rfl (lv_at hl 0 rfl) ?_
  refine lv_iload_n hx hb dX4_print_1 rfl (lv_at hl 1 rfl) ?_
  have hPc := hP.sub (ws' := [(h0, .inr (7, [.ref aH, .ref aB, .ref aJ, .int 0, .int 0, .int 0, .ref rN, .ref rX, .int 0, .int 0, .int 0, .int 0, .int 0, .int 0, .int (-1), .int (-1), .int 0, .int 0, .ref aV]))]) [0] rfl
  have hKc := hK.sub (tys' := []) [] rfl
  refine va_calli (va_runV (As := [.int p0]) (rest := []) ⟨hx, hb, hml, hown, hts⟩ (k_isBook l D eT h0 aH aB aJ rN rX aV p0 s.heap.size ) (cwV 1 hts gX4_print_X4_isBook rfl rfl rfl (by decide +kernel) ⟨Nat.le_of_ble_eq_true rfl, Nat.le_of_ble_eq_true rfl⟩) (pr_v (ci := 7) (q0 := 0) rfl rfl hPc hKc hE hS hA) rfl rfl hl.1 rfl (lv_room (Nat.le_of_ble_eq_true rfl)) dX4_print_2 ⟨Nat.le_of_ble_eq_true rfl, Nat.le_of_ble_eq_true rfl⟩) hS (fun q h1 h2 => ro_A h1 h2) (fun q h => ro_F hS hA q h) (fun r u t H1 locs ht hvm hw hB hz1 hk1 hS => ?_)
  have hw : r = 0 := hw
  rw [hw]
  have hP := ro_P hP hk1
  generalize H1 = H at hP hS ⊢
  refine lv_if_ne (tgt := 18) hx hb dX4_print_5 (by decide) (fun h => absurd (by decide) h) (fun _ => ?_)
  obtain ⟨sa_1, hsa_1⟩ := hE.str 5 rfl
  exact vx_throwS (A := fun q => s.heap.size ≤ q) hx hb hl0 hown fit_IOB fit_RE (hts (.classLink RX4 68 eIOB) (by decide +kernel)) (hts (.initialized eIOB) (by decide +kernel)) hsa_1 (hat_IOB (fun w h => hts w (List.mem_cons_of_mem _ (List.mem_append_left _ (List.mem_append_right _ h)))) hE.1 hE.2.2.1) good_IOB hE.2.2.2.1 hE.2.2.2.2.1 hS (hl.1.trans hml.symm) dX4_print_8 dX4_print_11 dX4_print_12 dX4_print_14 dX4_print_17 (fun x hx9 => (hno x hx9).elim) (Nat.le_of_ble_eq_true rfl) (Nat.le_of_ble_eq_true rfl) (Nat.le_of_ble_eq_true rfl) (Nat.le_of_ble_eq_true rfl) hlocks (fun t _ h1 h2 => xr_in hS h1 h2) hS.2.2 (Nat.le_of_ble_eq_true rfl) (Nat.le_of_ble_eq_true rfl)
set_option maxHeartbeats 4000000 in
set_option maxRecDepth 100000 in
theorem t_points (l : Launch) (hl0 : l.stackTraces = false) (D : va_G) (eT : Nat) (h0 : Nat) (aH : Nat) (aB : Nat) (aJ : Nat) (rN : Nat) (rX : Nat) (aV : Nat) (p0 : Int32) (p1 : Int32) (p2 : Int32) (sz : Nat) : vx_Met l yX4_points wsX4_points ({ frames := 6, cells := 1, slots := 6, locals := 82 }) (va_Pc [.ref h0, .int p0, .int p1, .int p2] (pr D eT sz [(h0, .inr (7, [.ref aH, .ref aB, .ref aJ, .int 0, .int 0, .int 0, .ref rN, .ref rX, .int 0, .int 0, .int 0, .int 0, .int 0, .int 0, .int (-1), .int (-1), .int 0, .int 0, .ref aV]))] [])) (va_Qi (fun (_ : Int32) (_ : Unit) => False) (fun _ _ => True) (fun q => sz ≤ q)) (xr eIOB sz) 1 6 (fun q => sz ≤ q) := by
  refine vx_ofW (cc := cX4_points) (maxL := 5) (ret := (some .int)) (by decide +kernel) rfl ?_
  intro p e s m args below meth c s₁ B hml hno hv
  obtain ⟨rfl, hsz, hP, hK, hE⟩ := hv
  have hx := B.exec
  have hb := B.bytes
  have hr := B.returns
  have hts := atoms_spec (ws := wsX4_points) B.pre
  have hown : s.vm.findClass RX4 = some m.cls := findClass_of_methodNamed B.named
  have hlocks := B.notSynchronized
  subst hsz
  have hA : ∀ q : Nat, s.heap.size ≤ q → (fun q : Nat => s.heap.size ≤ q) q := fun _ h => h
  have hS : va_S (fun q : Nat => s.heap.size ≤ q) s.heap s.heap [] := va_S.rf
  have hP : va_P D vwCl [(h0, .inr (7, [.ref aH, .ref aB, .ref aJ, .int 0, .int 0, .int 0, .ref rN, .ref rX, .int 0, .int 0, .int 0, .int 0, .int 0, .int 0, .int (-1), .int (-1), .int 0, .int 0, .ref aV]))] s.heap := hP
  have hl := lv_entry ([.ref h0, .int p0, .int p1, .int p2]) (n := 5) (Nat.le_of_ble_eq_true rfl)
  rw [lg_entry_eq]
  generalize (lg_sl ([.ref h0, .int p0, .int p1, .int p2]) ++ List.replicate (5 - (lg_sl ([.ref h0, .int p0, .int p1, .int p2])).length) Slot.unset).toArray = ls at hl ⊢
  have hl : lv_has ls 5 [(0, .ref h0), (1, .int p0), (2, .int p1), (3, .int p2)] := hl
  refine lv_aload_n hx hb dX4_points_0 rfl (lv_at hl 0 rfl) ?_
  refine lv_iload_n hx hb dX4_points_1 rfl (lv_at hl 1 rfl) ?_
  have hPc := hP.sub (ws' := [(h0, .inr (7, [.ref aH, .ref aB, .ref aJ, .int 0, .int 0, .int 0, .ref rN, .ref rX, .int 0, .int 0, .int 0, .int 0, .int 0, .int 0, .int (-1), .int (-1), .int 0, .int 0, .ref aV]))]) [0] rfl
  have hKc := hK.sub (tys' := []) [] rfl
  refine va_calli (va_runV (As := [.int p0]) (rest := []) ⟨hx, hb, hml, hown, hts⟩ (k_isJudge l D eT h0 aH aB aJ rN rX aV p0 s.heap.size ) (cwV 1 hts gX4_points_X4_isJudge rfl rfl rfl (by decide +kernel) ⟨Nat.le_of_ble_eq_true rfl, Nat.le_of_ble_eq_true rfl⟩) (pr_v (ci := 7) (q0 := 0) rfl rfl hPc hKc hE hS hA) rfl rfl hl.1 rfl (lv_room (Nat.le_of_ble_eq_true rfl)) dX4_points_2 ⟨Nat.le_of_ble_eq_true rfl, Nat.le_of_ble_eq_true rfl⟩) hS (fun q h1 h2 => ro_A h1 h2) (fun q h => ro_F hS hA q h) (fun r u t H1 locs ht hvm hw hB hz1 hk1 hS => ?_)
  have hw : r = 0 := hw
  rw [hw]
  have hP := ro_P hP hk1
  generalize H1 = H at hP hS ⊢
  refine lv_if_eq (tgt := 35) hx hb dX4_points_5 (by decide) (fun _ => ?_) (fun h => absurd (by decide) h)
  obtain ⟨sa_1, hsa_1⟩ := hE.str 14 rfl
  exact vx_throwS (A := fun q => s.heap.size ≤ q) hx hb hl0 hown fit_IOB fit_RE (hts (.classLink RX4 68 eIOB) (by decide +kernel)) (hts (.initialized eIOB) (by decide +kernel)) hsa_1 (hat_IOB (fun w h => hts w (List.mem_cons_of_mem _ (List.mem_append_left _ (List.mem_append_left _ (List.mem_append_right _ h))))) hE.1 hE.2.2.1) good_IOB hE.2.2.2.1 hE.2.2.2.2.1 hS (hl.1.trans hml.symm) dX4_points_35 dX4_points_38 dX4_points_39 dX4_points_41 dX4_points_44 (fun x hx9 => (hno x hx9).elim) (Nat.le_of_ble_eq_true rfl) (Nat.le_of_ble_eq_true rfl) (Nat.le_of_ble_eq_true rfl) (Nat.le_of_ble_eq_true rfl) hlocks (fun t _ h1 h2 => xr_in hS h1 h2) hS.2.2 (Nat.le_of_ble_eq_true rfl) (Nat.le_of_ble_eq_true rfl)
set_option maxHeartbeats 4000000 in
set_option maxRecDepth 100000 in
theorem t_vote (l : Launch) (hl0 : l.stackTraces = false) (D : va_G) (eT : Nat) (h0 : Nat) (aH : Nat) (aB : Nat) (aJ : Nat) (rN : Nat) (rX : Nat) (aV : Nat) (p0 : Int32) (p1 : Int32) (sz : Nat) : vx_Met l yX4_vote wsX4_vote ({ frames := 6, cells := 1, slots := 6, locals := 82 }) (va_Pc [.ref h0, .int p0, .int p1] (pr D eT sz [(h0, .inr (7, [.ref aH, .ref aB, .ref aJ, .int 0, .int 0, .int 0, .ref rN, .ref rX, .int 0, .int 0, .int 0, .int 0, .int 0, .int 0, .int (-1), .int (-1), .int 0, .int 0, .ref aV]))] [])) (va_Qi (fun (_ : Int32) (_ : Unit) => False) (fun _ _ => True) (fun q => sz ≤ q)) (xr eIOB sz) 1 6 (fun q => sz ≤ q) := by
  refine vx_ofW (cc := cX4_vote) (maxL := 3) (ret := (some .int)) (by decide +kernel) rfl ?_
  intro p e s m args below meth c s₁ B hml hno hv
  obtain ⟨rfl, hsz, hP, hK, hE⟩ := hv
  have hx := B.exec
  have hb := B.bytes
  have hr := B.returns
  have hts := atoms_spec (ws := wsX4_vote) B.pre
  have hown : s.vm.findClass RX4 = some m.cls := findClass_of_methodNamed B.named
  have hlocks := B.notSynchronized
  subst hsz
  have hA : ∀ q : Nat, s.heap.size ≤ q → (fun q : Nat => s.heap.size ≤ q) q := fun _ h => h
  have hS : va_S (fun q : Nat => s.heap.size ≤ q) s.heap s.heap [] := va_S.rf
  have hP : va_P D vwCl [(h0, .inr (7, [.ref aH, .ref aB, .ref aJ, .int 0, .int 0, .int 0, .ref rN, .ref rX, .int 0, .int 0, .int 0, .int 0, .int 0, .int 0, .int (-1), .int (-1), .int 0, .int 0, .ref aV]))] s.heap := hP
  have hl := lv_entry ([.ref h0, .int p0, .int p1]) (n := 3) (Nat.le_of_ble_eq_true rfl)
  rw [lg_entry_eq]
  generalize (lg_sl ([.ref h0, .int p0, .int p1]) ++ List.replicate (3 - (lg_sl ([.ref h0, .int p0, .int p1])).length) Slot.unset).toArray = ls at hl ⊢
  have hl : lv_has ls 3 [(0, .ref h0), (1, .int p0), (2, .int p1)] := hl
  refine lv_aload_n hx hb dX4_vote_0 rfl (lv_at hl 0 rfl) ?_
  refine lv_iload_n hx hb dX4_vote_1 rfl (lv_at hl 1 rfl) ?_
  have hPc := hP.sub (ws' := [(h0, .inr (7, [.ref aH, .ref aB, .ref aJ, .int 0, .int 0, .int 0, .ref rN, .ref rX, .int 0, .int 0, .int 0, .int 0, .int 0, .int 0, .int (-1), .int (-1), .int 0, .int 0, .ref aV]))]) [0] rfl
  have hKc := hK.sub (tys' := []) [] rfl
  refine va_calli (va_runV (As := [.int p0]) (rest := []) ⟨hx, hb, hml, hown, hts⟩ (k_isJudge l D eT h0 aH aB aJ rN rX aV p0 s.heap.size ) (cwV 1 hts gX4_vote_X4_isJudge rfl rfl rfl (by decide +kernel) ⟨Nat.le_of_ble_eq_true rfl, Nat.le_of_ble_eq_true rfl⟩) (pr_v (ci := 7) (q0 := 0) rfl rfl hPc hKc hE hS hA) rfl rfl hl.1 rfl (lv_room (Nat.le_of_ble_eq_true rfl)) dX4_vote_2 ⟨Nat.le_of_ble_eq_true rfl, Nat.le_of_ble_eq_true rfl⟩) hS (fun q h1 h2 => ro_A h1 h2) (fun q h => ro_F hS hA q h) (fun r u t H1 locs ht hvm hw hB hz1 hk1 hS => ?_)
  have hw : r = 0 := hw
  rw [hw]
  have hP := ro_P hP hk1
  generalize H1 = H at hP hS ⊢
  refine lv_if_ne (tgt := 18) hx hb dX4_vote_5 (by decide) (fun h => absurd (by decide) h) (fun _ => ?_)
  obtain ⟨sa_1, hsa_1⟩ := hE.str 2 rfl
  exact vx_throwS (A := fun q => s.heap.size ≤ q) hx hb hl0 hown fit_IOB fit_RE (hts (.classLink RX4 68 eIOB) (by decide +kernel)) (hts (.initialized eIOB) (by decide +kernel)) hsa_1 (hat_IOB (fun w h => hts w (List.mem_cons_of_mem _ (List.mem_append_left _ (List.mem_append_left _ (List.mem_append_right _ h))))) hE.1 hE.2.2.1) good_IOB hE.2.2.2.1 hE.2.2.2.2.1 hS (hl.1.trans hml.symm) dX4_vote_8 dX4_vote_11 dX4_vote_12 dX4_vote_14 dX4_vote_17 (fun x hx9 => (hno x hx9).elim) (Nat.le_of_ble_eq_true rfl) (Nat.le_of_ble_eq_true rfl) (Nat.le_of_ble_eq_true rfl) (Nat.le_of_ble_eq_true rfl) hlocks (fun t _ h1 h2 => xr_in hS h1 h2) hS.2.2 (Nat.le_of_ble_eq_true rfl) (Nat.le_of_ble_eq_true rfl)
set_option maxHeartbeats 4000000 in
set_option maxRecDepth 100000 in
theorem t_ofHouse (l : Launch) (hl0 : l.stackTraces = false) (D : va_G) (eT : Nat) (h0 : Nat) (aH : Nat) (aB : Nat) (aJ : Nat) (rN : Nat) (rX : Nat) (aV : Nat) (p0 : Int32) (p1 : Int32) (sz : Nat) : vx_Met l yX4_ofHouse wsX4_ofHouse ({ frames := 6, cells := 1, slots := 6, locals := 82 }) (va_Pc [.ref h0, .int p0, .int p1] (pr D eT sz [(h0, .inr (7, [.ref aH, .ref aB, .ref aJ, .int 0, .int 0, .int 0, .ref rN, .ref rX, .int 0, .int 0, .int 0, .int 0, .int 0, .int 0, .int (-1), .int (-1), .int 0, .int 0, .ref aV]))] [])) (va_Qi (fun (_ : Int32) (_ : Unit) => False) (fun _ _ => True) (fun q => sz ≤ q)) (xr eIOB sz) 1 6 (fun q => sz ≤ q) := by
  refine vx_ofW (cc := cX4_ofHouse) (maxL := 3) (ret := (some .int)) (by decide +kernel) rfl ?_
  intro p e s m args below meth c s₁ B hml hno hv
  obtain ⟨rfl, hsz, hP, hK, hE⟩ := hv
  have hx := B.exec
  have hb := B.bytes
  have hr := B.returns
  have hts := atoms_spec (ws := wsX4_ofHouse) B.pre
  have hown : s.vm.findClass RX4 = some m.cls := findClass_of_methodNamed B.named
  have hlocks := B.notSynchronized
  subst hsz
  have hA : ∀ q : Nat, s.heap.size ≤ q → (fun q : Nat => s.heap.size ≤ q) q := fun _ h => h
  have hS : va_S (fun q : Nat => s.heap.size ≤ q) s.heap s.heap [] := va_S.rf
  have hP : va_P D vwCl [(h0, .inr (7, [.ref aH, .ref aB, .ref aJ, .int 0, .int 0, .int 0, .ref rN, .ref rX, .int 0, .int 0, .int 0, .int 0, .int 0, .int 0, .int (-1), .int (-1), .int 0, .int 0, .ref aV]))] s.heap := hP
  have hl := lv_entry ([.ref h0, .int p0, .int p1]) (n := 3) (Nat.le_of_ble_eq_true rfl)
  rw [lg_entry_eq]
  generalize (lg_sl ([.ref h0, .int p0, .int p1]) ++ List.replicate (3 - (lg_sl ([.ref h0, .int p0, .int p1])).length) Slot.unset).toArray = ls at hl ⊢
  have hl : lv_has ls 3 [(0, .ref h0), (1, .int p0), (2, .int p1)] := hl
  refine lv_aload_n hx hb dX4_ofHouse_0 rfl (lv_at hl 0 rfl) ?_
  refine lv_iload_n hx hb dX4_ofHouse_1 rfl (lv_at hl 1 rfl) ?_
  have hPc := hP.sub (ws' := [(h0, .inr (7, [.ref aH, .ref aB, .ref aJ, .int 0, .int 0, .int 0, .ref rN, .ref rX, .int 0, .int 0, .int 0, .int 0, .int 0, .int 0, .int (-1), .int (-1), .int 0, .int 0, .ref aV]))]) [0] rfl
  have hKc := hK.sub (tys' := []) [] rfl
  refine va_calli (va_runV (As := [.int p0]) (rest := []) ⟨hx, hb, hml, hown, hts⟩ (k_isHouse l D eT h0 aH aB aJ rN rX aV p0 s.heap.size ) (cwV 1 hts gX4_ofHouse_X4_isHouse rfl rfl rfl (by decide +kernel) ⟨Nat.le_of_ble_eq_true rfl, Nat.le_of_ble_eq_true rfl⟩) (pr_v (ci := 7) (q0 := 0) rfl rfl hPc hKc hE hS hA) rfl rfl hl.1 rfl (lv_room (Nat.le_of_ble_eq_true rfl)) dX4_ofHouse_2 ⟨Nat.le_of_ble_eq_true rfl, Nat.le_of_ble_eq_true rfl⟩) hS (fun q h1 h2 => ro_A h1 h2) (fun q h => ro_F hS hA q h) (fun r u t H1 locs ht hvm hw hB hz1 hk1 hS => ?_)
  have hw : r = 0 := hw
  rw [hw]
  have hP := ro_P hP hk1
  generalize H1 = H at hP hS ⊢
  refine lv_if_ne (tgt := 18) hx hb dX4_ofHouse_5 (by decide) (fun h => absurd (by decide) h) (fun _ => ?_)
  obtain ⟨sa_1, hsa_1⟩ := hE.str 30 rfl
  exact vx_throwS (A := fun q => s.heap.size ≤ q) hx hb hl0 hown fit_IOB fit_RE (hts (.classLink RX4 68 eIOB) (by decide +kernel)) (hts (.initialized eIOB) (by decide +kernel)) hsa_1 (hat_IOB (fun w h => hts w (List.mem_cons_of_mem _ (List.mem_append_left _ (List.mem_append_right _ h)))) hE.1 hE.2.2.1) good_IOB hE.2.2.2.1 hE.2.2.2.2.1 hS (hl.1.trans hml.symm) dX4_ofHouse_8 dX4_ofHouse_11 dX4_ofHouse_12 dX4_ofHouse_14 dX4_ofHouse_17 (fun x hx9 => (hno x hx9).elim) (Nat.le_of_ble_eq_true rfl) (Nat.le_of_ble_eq_true rfl) (Nat.le_of_ble_eq_true rfl) (Nat.le_of_ble_eq_true rfl) hlocks (fun t _ h1 h2 => xr_in hS h1 h2) hS.2.2 (Nat.le_of_ble_eq_true rfl) (Nat.le_of_ble_eq_true rfl)
set_option maxHeartbeats 4000000 in
set_option maxRecDepth 100000 in
theorem t_ofBook (l : Launch) (hl0 : l.stackTraces = false) (D : va_G) (eT : Nat) (h0 : Nat) (aH : Nat) (aB : Nat) (aJ : Nat) (rN : Nat) (rX : Nat) (aV : Nat) (p0 : Int32) (p1 : Int32) (sz : Nat) : vx_Met l yX4_ofBook wsX4_ofBook ({ frames := 6, cells := 1, slots := 6, locals := 82 }) (va_Pc [.ref h0, .int p0, .int p1] (pr D eT sz [(h0, .inr (7, [.ref aH, .ref aB, .ref aJ, .int 0, .int 0, .int 0, .ref rN, .ref rX, .int 0, .int 0, .int 0, .int 0, .int 0, .int 0, .int (-1), .int (-1), .int 0, .int 0, .ref aV]))] [])) (va_Qi (fun (_ : Int32) (_ : Unit) => False) (fun _ _ => True) (fun q => sz ≤ q)) (xr eIOB sz) 1 6 (fun q => sz ≤ q) := by
  refine vx_ofW (cc := cX4_ofBook) (maxL := 3) (ret := (some .int)) (by decide +kernel) rfl ?_
  intro p e s m args below meth c s₁ B hml hno hv
  obtain ⟨rfl, hsz, hP, hK, hE⟩ := hv
  have hx := B.exec
  have hb := B.bytes
  have hr := B.returns
  have hts := atoms_spec (ws := wsX4_ofBook) B.pre
  have hown : s.vm.findClass RX4 = some m.cls := findClass_of_methodNamed B.named
  have hlocks := B.notSynchronized
  subst hsz
  have hA : ∀ q : Nat, s.heap.size ≤ q → (fun q : Nat => s.heap.size ≤ q) q := fun _ h => h
  have hS : va_S (fun q : Nat => s.heap.size ≤ q) s.heap s.heap [] := va_S.rf
  have hP : va_P D vwCl [(h0, .inr (7, [.ref aH, .ref aB, .ref aJ, .int 0, .int 0, .int 0, .ref rN, .ref rX, .int 0, .int 0, .int 0, .int 0, .int 0, .int 0, .int (-1), .int (-1), .int 0, .int 0, .ref aV]))] s.heap := hP
  have hl := lv_entry ([.ref h0, .int p0, .int p1]) (n := 3) (Nat.le_of_ble_eq_true rfl)
  rw [lg_entry_eq]
  generalize (lg_sl ([.ref h0, .int p0, .int p1]) ++ List.replicate (3 - (lg_sl ([.ref h0, .int p0, .int p1])).length) Slot.unset).toArray = ls at hl ⊢
  have hl : lv_has ls 3 [(0, .ref h0), (1, .int p0), (2, .int p1)] := hl
  refine lv_aload_n hx hb dX4_ofBook_0 rfl (lv_at hl 0 rfl) ?_
  refine lv_iload_n hx hb dX4_ofBook_1 rfl (lv_at hl 1 rfl) ?_
  have hPc := hP.sub (ws' := [(h0, .inr (7, [.ref aH, .ref aB, .ref aJ, .int 0, .int 0, .int 0, .ref rN, .ref rX, .int 0, .int 0, .int 0, .int 0, .int 0, .int 0, .int (-1), .int (-1), .int 0, .int 0, .ref aV]))]) [0] rfl
  have hKc := hK.sub (tys' := []) [] rfl
  refine va_calli (va_runV (As := [.int p0]) (rest := []) ⟨hx, hb, hml, hown, hts⟩ (k_isBook l D eT h0 aH aB aJ rN rX aV p0 s.heap.size ) (cwV 1 hts gX4_ofBook_X4_isBook rfl rfl rfl (by decide +kernel) ⟨Nat.le_of_ble_eq_true rfl, Nat.le_of_ble_eq_true rfl⟩) (pr_v (ci := 7) (q0 := 0) rfl rfl hPc hKc hE hS hA) rfl rfl hl.1 rfl (lv_room (Nat.le_of_ble_eq_true rfl)) dX4_ofBook_2 ⟨Nat.le_of_ble_eq_true rfl, Nat.le_of_ble_eq_true rfl⟩) hS (fun q h1 h2 => ro_A h1 h2) (fun q h => ro_F hS hA q h) (fun r u t H1 locs ht hvm hw hB hz1 hk1 hS => ?_)
  have hw : r = 0 := hw
  rw [hw]
  have hP := ro_P hP hk1
  generalize H1 = H at hP hS ⊢
  refine lv_if_ne (tgt := 18) hx hb dX4_ofBook_5 (by decide) (fun h => absurd (by decide) h) (fun _ => ?_)
  obtain ⟨sa_1, hsa_1⟩ := hE.str 5 rfl
  exact vx_throwS (A := fun q => s.heap.size ≤ q) hx hb hl0 hown fit_IOB fit_RE (hts (.classLink RX4 68 eIOB) (by decide +kernel)) (hts (.initialized eIOB) (by decide +kernel)) hsa_1 (hat_IOB (fun w h => hts w (List.mem_cons_of_mem _ (List.mem_append_left _ (List.mem_append_right _ h)))) hE.1 hE.2.2.1) good_IOB hE.2.2.2.1 hE.2.2.2.2.1 hS (hl.1.trans hml.symm) dX4_ofBook_8 dX4_ofBook_11 dX4_ofBook_12 dX4_ofBook_14 dX4_ofBook_17 (fun x hx9 => (hno x hx9).elim) (Nat.le_of_ble_eq_true rfl) (Nat.le_of_ble_eq_true rfl) (Nat.le_of_ble_eq_true rfl) (Nat.le_of_ble_eq_true rfl) hlocks (fun t _ h1 h2 => xr_in hS h1 h2) hS.2.2 (Nat.le_of_ble_eq_true rfl) (Nat.le_of_ble_eq_true rfl)
set_option maxHeartbeats 4000000 in
set_option maxRecDepth 100000 in
theorem t_ofJudge (l : Launch) (hl0 : l.stackTraces = false) (D : va_G) (eT : Nat) (h0 : Nat) (aH : Nat) (aB : Nat) (aJ : Nat) (rN : Nat) (rX : Nat) (aV : Nat) (p0 : Int32) (p1 : Int32) (sz : Nat) : vx_Met l yX4_ofJudge wsX4_ofJudge ({ frames := 6, cells := 1, slots := 6, locals := 82 }) (va_Pc [.ref h0, .int p0, .int p1] (pr D eT sz [(h0, .inr (7, [.ref aH, .ref aB, .ref aJ, .int 0, .int 0, .int 0, .ref rN, .ref rX, .int 0, .int 0, .int 0, .int 0, .int 0, .int 0, .int (-1), .int (-1), .int 0, .int 0, .ref aV]))] [])) (va_Qi (fun (_ : Int32) (_ : Unit) => False) (fun _ _ => True) (fun q => sz ≤ q)) (xr eIOB sz) 1 6 (fun q => sz ≤ q) := by
  refine vx_ofW (cc := cX4_ofJudge) (maxL := 3) (ret := (some .int)) (by decide +kernel) rfl ?_
  intro p e s m args below meth c s₁ B hml hno hv
  obtain ⟨rfl, hsz, hP, hK, hE⟩ := hv
  have hx := B.exec
  have hb := B.bytes
  have hr := B.returns
  have hts := atoms_spec (ws := wsX4_ofJudge) B.pre
  have hown : s.vm.findClass RX4 = some m.cls := findClass_of_methodNamed B.named
  have hlocks := B.notSynchronized
  subst hsz
  have hA : ∀ q : Nat, s.heap.size ≤ q → (fun q : Nat => s.heap.size ≤ q) q := fun _ h => h
  have hS : va_S (fun q : Nat => s.heap.size ≤ q) s.heap s.heap [] := va_S.rf
  have hP : va_P D vwCl [(h0, .inr (7, [.ref aH, .ref aB, .ref aJ, .int 0, .int 0, .int 0, .ref rN, .ref rX, .int 0, .int 0, .int 0, .int 0, .int 0, .int 0, .int (-1), .int (-1), .int 0, .int 0, .ref aV]))] s.heap := hP
  have hl := lv_entry ([.ref h0, .int p0, .int p1]) (n := 3) (Nat.le_of_ble_eq_true rfl)
  rw [lg_entry_eq]
  generalize (lg_sl ([.ref h0, .int p0, .int p1]) ++ List.replicate (3 - (lg_sl ([.ref h0, .int p0, .int p1])).length) Slot.unset).toArray = ls at hl ⊢
  have hl : lv_has ls 3 [(0, .ref h0), (1, .int p0), (2, .int p1)] := hl
  refine lv_aload_n hx hb dX4_ofJudge_0 rfl (lv_at hl 0 rfl) ?_
  refine lv_iload_n hx hb dX4_ofJudge_1 rfl (lv_at hl 1 rfl) ?_
  have hPc := hP.sub (ws' := [(h0, .inr (7, [.ref aH, .ref aB, .ref aJ, .int 0, .int 0, .int 0, .ref rN, .ref rX, .int 0, .int 0, .int 0, .int 0, .int 0, .int 0, .int (-1), .int (-1), .int 0, .int 0, .ref aV]))]) [0] rfl
  have hKc := hK.sub (tys' := []) [] rfl
  refine va_calli (va_runV (As := [.int p0]) (rest := []) ⟨hx, hb, hml, hown, hts⟩ (k_isJudge l D eT h0 aH aB aJ rN rX aV p0 s.heap.size ) (cwV 1 hts gX4_ofJudge_X4_isJudge rfl rfl rfl (by decide +kernel) ⟨Nat.le_of_ble_eq_true rfl, Nat.le_of_ble_eq_true rfl⟩) (pr_v (ci := 7) (q0 := 0) rfl rfl hPc hKc hE hS hA) rfl rfl hl.1 rfl (lv_room (Nat.le_of_ble_eq_true rfl)) dX4_ofJudge_2 ⟨Nat.le_of_ble_eq_true rfl, Nat.le_of_ble_eq_true rfl⟩) hS (fun q h1 h2 => ro_A h1 h2) (fun q h => ro_F hS hA q h) (fun r u t H1 locs ht hvm hw hB hz1 hk1 hS => ?_)
  have hw : r = 0 := hw
  rw [hw]
  have hP := ro_P hP hk1
  generalize H1 = H at hP hS ⊢
  refine lv_if_ne (tgt := 18) hx hb dX4_ofJudge_5 (by decide) (fun h => absurd (by decide) h) (fun _ => ?_)
  obtain ⟨sa_1, hsa_1⟩ := hE.str 2 rfl
  exact vx_throwS (A := fun q => s.heap.size ≤ q) hx hb hl0 hown fit_IOB fit_RE (hts (.classLink RX4 68 eIOB) (by decide +kernel)) (hts (.initialized eIOB) (by decide +kernel)) hsa_1 (hat_IOB (fun w h => hts w (List.mem_cons_of_mem _ (List.mem_append_left _ (List.mem_append_right _ h)))) hE.1 hE.2.2.1) good_IOB hE.2.2.2.1 hE.2.2.2.2.1 hS (hl.1.trans hml.symm) dX4_ofJudge_8 dX4_ofJudge_11 dX4_ofJudge_12 dX4_ofJudge_14 dX4_ofJudge_17 (fun x hx9 => (hno x hx9).elim) (Nat.le_of_ble_eq_true rfl) (Nat.le_of_ble_eq_true rfl) (Nat.le_of_ble_eq_true rfl) (Nat.le_of_ble_eq_true rfl) hlocks (fun t _ h1 h2 => xr_in hS h1 h2) hS.2.2 (Nat.le_of_ble_eq_true rfl) (Nat.le_of_ble_eq_true rfl)
set_option maxHeartbeats 4000000 in
set_option maxRecDepth 100000 in
theorem t_mark (l : Launch) (hl0 : l.stackTraces = false) (D : va_G) (eT : Nat) (h0 : Nat) (aH : Nat) (aB : Nat) (aJ : Nat) (rN : Nat) (rX : Nat) (aV : Nat) (p0 : Int32) (p1 : Int32) (sz : Nat) : vx_Met l yX4_mark wsX4_mark ({ frames := 6, cells := 1, slots := 6, locals := 82 }) (va_Pc [.ref h0, .int p0, .int p1] (pr D eT sz [(h0, .inr (7, [.ref aH, .ref aB, .ref aJ, .int 0, .int 0, .int 0, .ref rN, .ref rX, .int 0, .int 0, .int 0, .int 0, .int 0, .int 0, .int (-1), .int (-1), .int 0, .int 0, .ref aV]))] [])) (va_Qi (fun (_ : Int32) (_ : Unit) => False) (fun _ _ => True) (fun q => sz ≤ q)) (xr eIOB sz) 1 6 (fun q => sz ≤ q) := by
  refine vx_ofW (cc := cX4_mark) (maxL := 3) (ret := (some .int)) (by decide +kernel) rfl ?_
  intro p e s m args below meth c s₁ B hml hno hv
  obtain ⟨rfl, hsz, hP, hK, hE⟩ := hv
  have hx := B.exec
  have hb := B.bytes
  have hr := B.returns
  have hts := atoms_spec (ws := wsX4_mark) B.pre
  have hown : s.vm.findClass RX4 = some m.cls := findClass_of_methodNamed B.named
  have hlocks := B.notSynchronized
  subst hsz
  have hA : ∀ q : Nat, s.heap.size ≤ q → (fun q : Nat => s.heap.size ≤ q) q := fun _ h => h
  have hS : va_S (fun q : Nat => s.heap.size ≤ q) s.heap s.heap [] := va_S.rf
  have hP : va_P D vwCl [(h0, .inr (7, [.ref aH, .ref aB, .ref aJ, .int 0, .int 0, .int 0, .ref rN, .ref rX, .int 0, .int 0, .int 0, .int 0, .int 0, .int 0, .int (-1), .int (-1), .int 0, .int 0, .ref aV]))] s.heap := hP
  have hl := lv_entry ([.ref h0, .int p0, .int p1]) (n := 3) (Nat.le_of_ble_eq_true rfl)
  rw [lg_entry_eq]
  generalize (lg_sl ([.ref h0, .int p0, .int p1]) ++ List.replicate (3 - (lg_sl ([.ref h0, .int p0, .int p1])).length) Slot.unset).toArray = ls at hl ⊢
  have hl : lv_has ls 3 [(0, .ref h0), (1, .int p0), (2, .int p1)] := hl
  refine lv_aload_n hx hb dX4_mark_0 rfl (lv_at hl 0 rfl) ?_
  refine lv_iload_n hx hb dX4_mark_1 rfl (lv_at hl 1 rfl) ?_
  have hPc := hP.sub (ws' := [(h0, .inr (7, [.ref aH, .ref aB, .ref aJ, .int 0, .int 0, .int 0, .ref rN, .ref rX, .int 0, .int 0, .int 0, .int 0, .int 0, .int 0, .int (-1), .int (-1), .int 0, .int 0, .ref aV]))]) [0] rfl
  have hKc := hK.sub (tys' := []) [] rfl
  refine va_calli (va_runV (As := [.int p0]) (rest := []) ⟨hx, hb, hml, hown, hts⟩ (k_isJudge l D eT h0 aH aB aJ rN rX aV p0 s.heap.size ) (cwV 1 hts gX4_mark_X4_isJudge rfl rfl rfl (by decide +kernel) ⟨Nat.le_of_ble_eq_true rfl, Nat.le_of_ble_eq_true rfl⟩) (pr_v (ci := 7) (q0 := 0) rfl rfl hPc hKc hE hS hA) rfl rfl hl.1 rfl (lv_room (Nat.le_of_ble_eq_true rfl)) dX4_mark_2 ⟨Nat.le_of_ble_eq_true rfl, Nat.le_of_ble_eq_true rfl⟩) hS (fun q h1 h2 => ro_A h1 h2) (fun q h => ro_F hS hA q h) (fun r u t H1 locs ht hvm hw hB hz1 hk1 hS => ?_)
  have hw : r = 0 := hw
  rw [hw]
  have hP := ro_P hP hk1
  generalize H1 = H at hP hS ⊢
  refine lv_if_eq (tgt := 16) hx hb dX4_mark_5 (by decide) (fun _ => ?_) (fun h => absurd (by decide) h)
  obtain ⟨sa_1, hsa_1⟩ := hE.str 7 rfl
  exact vx_throwS (A := fun q => s.heap.size ≤ q) hx hb hl0 hown fit_IOB fit_RE (hts (.classLink RX4 68 eIOB) (by decide +kernel)) (hts (.initialized eIOB) (by decide +kernel)) hsa_1 (hat_IOB (fun w h => hts w (List.mem_cons_of_mem _ (List.mem_append_right _ h))) hE.1 hE.2.2.1) good_IOB hE.2.2.2.1 hE.2.2.2.2.1 hS (hl.1.trans hml.symm) dX4_mark_16 dX4_mark_19 dX4_mark_20 dX4_mark_22 dX4_mark_25 (fun x hx9 => (hno x hx9).elim) (Nat.le_of_ble_eq_true rfl) (Nat.le_of_ble_eq_true rfl) (Nat.le_of_ble_eq_true rfl) (Nat.le_of_ble_eq_true rfl) hlocks (fun t _ h1 h2 => xr_in hS h1 h2) hS.2.2 (Nat.le_of_ble_eq_true rfl) (Nat.le_of_ble_eq_true rfl)
set_option maxHeartbeats 4000000 in
set_option maxRecDepth 100000 in
theorem t_spoiled (l : Launch) (hl0 : l.stackTraces = false) (D : va_G) (eT : Nat) (h0 : Nat) (aH : Nat) (aB : Nat) (aJ : Nat) (rN : Nat) (rX : Nat) (aV : Nat) (p0 : Int32) (sz : Nat) : vx_Met l yX4_spoiled wsX4_spoiled ({ frames := 6, cells := 1, slots := 6, locals := 82 }) (va_Pc [.ref h0, .int p0] (pr D eT sz [(h0, .inr (7, [.ref aH, .ref aB, .ref aJ, .int 0, .int 0, .int 0, .ref rN, .ref rX, .int 0, .int 0, .int 0, .int 0, .int 0, .int 0, .int (-1), .int (-1), .int 0, .int 0, .ref aV]))] [])) (va_Qi (fun (_ : Int32) (_ : Unit) => False) (fun _ _ => True) (fun q => sz ≤ q)) (xr eIOB sz) 1 6 (fun q => sz ≤ q) := by
  refine vx_ofW (cc := cX4_spoiled) (maxL := 2) (ret := (some .int)) (by decide +kernel) rfl ?_
  intro p e s m args below meth c s₁ B hml hno hv
  obtain ⟨rfl, hsz, hP, hK, hE⟩ := hv
  have hx := B.exec
  have hb := B.bytes
  have hr := B.returns
  have hts := atoms_spec (ws := wsX4_spoiled) B.pre
  have hown : s.vm.findClass RX4 = some m.cls := findClass_of_methodNamed B.named
  have hlocks := B.notSynchronized
  subst hsz
  have hA : ∀ q : Nat, s.heap.size ≤ q → (fun q : Nat => s.heap.size ≤ q) q := fun _ h => h
  have hS : va_S (fun q : Nat => s.heap.size ≤ q) s.heap s.heap [] := va_S.rf
  have hP : va_P D vwCl [(h0, .inr (7, [.ref aH, .ref aB, .ref aJ, .int 0, .int 0, .int 0, .ref rN, .ref rX, .int 0, .int 0, .int 0, .int 0, .int 0, .int 0, .int (-1), .int (-1), .int 0, .int 0, .ref aV]))] s.heap := hP
  have hl := lv_entry ([.ref h0, .int p0]) (n := 2) (Nat.le_of_ble_eq_true rfl)
  rw [lg_entry_eq]
  generalize (lg_sl ([.ref h0, .int p0]) ++ List.replicate (2 - (lg_sl ([.ref h0, .int p0])).length) Slot.unset).toArray = ls at hl ⊢
  have hl : lv_has ls 2 [(0, .ref h0), (1, .int p0)] := hl
  refine lv_aload_n hx hb dX4_spoiled_0 rfl (lv_at hl 0 rfl) ?_
  refine lv_iload_n hx hb dX4_spoiled_1 rfl (lv_at hl 1 rfl) ?_
  have hPc := hP.sub (ws' := [(h0, .inr (7, [.ref aH, .ref aB, .ref aJ, .int 0, .int 0, .int 0, .ref rN, .ref rX, .int 0, .int 0, .int 0, .int 0, .int 0, .int 0, .int (-1), .int (-1), .int 0, .int 0, .ref aV]))]) [0] rfl
  have hKc := hK.sub (tys' := []) [] rfl
  refine va_calli (va_runV (As := [.int p0]) (rest := []) ⟨hx, hb, hml, hown, hts⟩ (k_isBook l D eT h0 aH aB aJ rN rX aV p0 s.heap.size ) (cwV 1 hts gX4_spoiled_X4_isBook rfl rfl rfl (by decide +kernel) ⟨Nat.le_of_ble_eq_true rfl, Nat.le_of_ble_eq_true rfl⟩) (pr_v (ci := 7) (q0 := 0) rfl rfl hPc hKc hE hS hA) rfl rfl hl.1 rfl (lv_room (Nat.le_of_ble_eq_true rfl)) dX4_spoiled_2 ⟨Nat.le_of_ble_eq_true rfl, Nat.le_of_ble_eq_true rfl⟩) hS (fun q h1 h2 => ro_A h1 h2) (fun q h => ro_F hS hA q h) (fun r u t H1 locs ht hvm hw hB hz1 hk1 hS => ?_)
  have hw : r = 0 := hw
  rw [hw]
  have hP := ro_P hP hk1
  generalize H1 = H at hP hS ⊢
  refine lv_if_ne (tgt := 18) hx hb dX4_spoiled_5 (by decide) (fun h => absurd (by decide) h) (fun _ => ?_)
  obtain ⟨sa_1, hsa_1⟩ := hE.str 5 rfl
  exact vx_throwS (A := fun q => s.heap.size ≤ q) hx hb hl0 hown fit_IOB fit_RE (hts (.classLink RX4 68 eIOB) (by decide +kernel)) (hts (.initialized eIOB) (by decide +kernel)) hsa_1 (hat_IOB (fun w h => hts w (List.mem_cons_of_mem _ (List.mem_append_right _ h))) hE.1 hE.2.2.1) good_IOB hE.2.2.2.1 hE.2.2.2.2.1 hS (hl.1.trans hml.symm) dX4_spoiled_8 dX4_spoiled_11 dX4_spoiled_12 dX4_spoiled_14 dX4_spoiled_17 (fun x hx9 => (hno x hx9).elim) (Nat.le_of_ble_eq_true rfl) (Nat.le_of_ble_eq_true rfl) (Nat.le_of_ble_eq_true rfl) (Nat.le_of_ble_eq_true rfl) hlocks (fun t _ h1 h2 => xr_in hS h1 h2) hS.2.2 (Nat.le_of_ble_eq_true rfl) (Nat.le_of_ble_eq_true rfl)
set_option maxHeartbeats 4000000 in
set_option maxRecDepth 100000 in
theorem t_read (l : Launch) (hl0 : l.stackTraces = false) (D : va_G) (eT : Nat) (h0 : Nat) (aH : Nat) (aB : Nat) (aJ : Nat) (rN : Nat) (rX : Nat) (aV : Nat) (sz : Nat) : vx_Met l yX4_read wsX4_read ({ frames := 6, cells := 1, slots := 6, locals := 82 }) (va_Pc [.ref h0] (pr D eT sz [(h0, .inr (7, [.ref aH, .ref aB, .ref aJ, .int 0, .int 0, .int 0, .ref rN, .ref rX, .int 0, .int 0, .int 0, .int 0, .int 0, .int 0, .int (-1), .int (-1), .int 0, .int 0, .ref aV]))] [])) (va_Qi (fun (_ : Int32) (_ : Unit) => False) (fun _ _ => True) (fun q => sz ≤ q)) (xr eISE sz) 1 6 (fun q => sz ≤ q) := by
  refine vx_ofW (cc := cX4_read) (maxL := 3) (ret := (some .int)) (by decide +kernel) rfl ?_
  intro p e s m args below meth c s₁ B hml hno hv
  obtain ⟨rfl, hsz, hP, hK, hE⟩ := hv
  have hx := B.exec
  have hb := B.bytes
  have hr := B.returns
  have hts := atoms_spec (ws := wsX4_read) B.pre
  have hown : s.vm.findClass RX4 = some m.cls := findClass_of_methodNamed B.named
  have hlocks := B.notSynchronized
  subst hsz
  have hA : ∀ q : Nat, s.heap.size ≤ q → (fun q : Nat => s.heap.size ≤ q) q := fun _ h => h
  have hS : va_S (fun q : Nat => s.heap.size ≤ q) s.heap s.heap [] := va_S.rf
  have hP : va_P D vwCl [(h0, .inr (7, [.ref aH, .ref aB, .ref aJ, .int 0, .int 0, .int 0, .ref rN, .ref rX, .int 0, .int 0, .int 0, .int 0, .int 0, .int 0, .int (-1), .int (-1), .int 0, .int 0, .ref aV]))] s.heap := hP
  have hl := lv_entry ([.ref h0]) (n := 3) (Nat.le_of_ble_eq_true rfl)
  rw [lg_entry_eq]
  generalize (lg_sl ([.ref h0]) ++ List.replicate (3 - (lg_sl ([.ref h0])).length) Slot.unset).toArray = ls at hl ⊢
  have hl : lv_has ls 3 [(0, .ref h0)] := hl
  refine lv_aload_n hx hb dX4_read_0 rfl (lv_at hl 0 rfl) ?_
  refine va_get (D := D) (ci := 7) (v := .int 0) (C := RX4) (T := TX4) (N := 19) hx hb hts (by decide +kernel) hown hK hP 0 rfl rfl 9 (by decide) (hts (.fieldLink RX4 37 "PrizeHouse" "phase" "I") (by decide +kernel)) (fun _ h9 => h9) rfl dX4_read_1 ?_
  refine lv_if_ne (tgt := 23) hx hb dX4_read_4 (by decide) (fun h => absurd (by decide) h) (fun _ => ?_)
  refine lv_aload_n hx hb dX4_read_7 rfl (lv_at hl 0 rfl) ?_
  refine va_get (D := D) (ci := 7) (v := .int 0) (C := RX4) (T := TX4) (N := 19) hx hb hts (by decide +kernel) hown hK hP 0 rfl rfl 5 (by decide) (hts (.fieldLink RX4 102 "PrizeHouse" "judgeCount" "I") (by decide +kernel)) (fun _ h9 => h9) rfl dX4_read_8 ?_
  refine lv_iconst (v := 3) hx hb dX4_read_11 (by decide) ?_
  refine lv_icmp_lt (tgt := 23) hx hb dX4_read_12 (by decide) (fun _ => ?_) (fun h => absurd (by decide) h)
  obtain ⟨sa_1, hsa_1⟩ := hE.str 8 rfl
  exact vx_throwS (A := fun q => s.heap.size ≤ q) hx hb hl0 hown fit_ISE fit_RE (hts (.classLink RX4 57 eISE) (by decide +kernel)) (hts (.initialized eISE) (by decide +kernel)) hsa_1 (hat_ISE (fun w h => hts w (List.mem_cons_of_mem _ (List.mem_append_right _ h))) hE.1 hE.2.2.1) good_ISE hE.2.2.2.1 hE.2.2.2.2.1 hS (hl.1.trans hml.symm) dX4_read_23 dX4_read_26 dX4_read_27 dX4_read_29 dX4_read_32 (fun x hx9 => (hno x hx9).elim) (Nat.le_of_ble_eq_true rfl) (Nat.le_of_ble_eq_true rfl) (Nat.le_of_ble_eq_true rfl) (Nat.le_of_ble_eq_true rfl) hlocks (fun t _ h1 h2 => xr_in hS h1 h2) hS.2.2 (Nat.le_of_ble_eq_true rfl) (Nat.le_of_ble_eq_true rfl)
set_option maxHeartbeats 4000000 in
set_option maxRecDepth 100000 in
theorem t_end (l : Launch) (hl0 : l.stackTraces = false) (D : va_G) (eT : Nat) (h0 : Nat) (aH : Nat) (aB : Nat) (aJ : Nat) (rN : Nat) (rX : Nat) (aV : Nat) (sz : Nat) : vx_Met l yX4_end wsX4_end ({ frames := 6, cells := 1, slots := 6, locals := 82 }) (va_Pc [.ref h0] (pr D eT sz [(h0, .inr (7, [.ref aH, .ref aB, .ref aJ, .int 0, .int 0, .int 0, .ref rN, .ref rX, .int 0, .int 0, .int 0, .int 0, .int 0, .int 0, .int (-1), .int (-1), .int 0, .int 0, .ref aV]))] [])) (va_Qi (fun (_ : Int32) (_ : Unit) => False) (fun _ _ => True) (fun q => sz ≤ q)) (xr eISE sz) 1 6 (fun q => sz ≤ q) := by
  refine vx_ofW (cc := cX4_end) (maxL := 1) (ret := (some .int)) (by decide +kernel) rfl ?_
  intro p e s m args below meth c s₁ B hml hno hv
  obtain ⟨rfl, hsz, hP, hK, hE⟩ := hv
  have hx := B.exec
  have hb := B.bytes
  have hr := B.returns
  have hts := atoms_spec (ws := wsX4_end) B.pre
  have hown : s.vm.findClass RX4 = some m.cls := findClass_of_methodNamed B.named
  have hlocks := B.notSynchronized
  subst hsz
  have hA : ∀ q : Nat, s.heap.size ≤ q → (fun q : Nat => s.heap.size ≤ q) q := fun _ h => h
  have hS : va_S (fun q : Nat => s.heap.size ≤ q) s.heap s.heap [] := va_S.rf
  have hP : va_P D vwCl [(h0, .inr (7, [.ref aH, .ref aB, .ref aJ, .int 0, .int 0, .int 0, .ref rN, .ref rX, .int 0, .int 0, .int 0, .int 0, .int 0, .int 0, .int (-1), .int (-1), .int 0, .int 0, .ref aV]))] s.heap := hP
  have hl := lv_entry ([.ref h0]) (n := 1) (Nat.le_of_ble_eq_true rfl)
  rw [lg_entry_eq]
  generalize (lg_sl ([.ref h0]) ++ List.replicate (1 - (lg_sl ([.ref h0])).length) Slot.unset).toArray = ls at hl ⊢
  have hl : lv_has ls 1 [(0, .ref h0)] := hl
  refine lv_aload_n hx hb dX4_end_0 rfl (lv_at hl 0 rfl) ?_
  refine va_get (D := D) (ci := 7) (v := .int 0) (C := RX4) (T := TX4) (N := 19) hx hb hts (by decide +kernel) hown hK hP 0 rfl rfl 9 (by decide) (hts (.fieldLink RX4 37 "PrizeHouse" "phase" "I") (by decide +kernel)) (fun _ h9 => h9) rfl dX4_end_1 ?_
  refine lv_iconst (v := 3) hx hb dX4_end_4 (by decide) ?_
  refine lv_icmp_eq (tgt := 19) hx hb dX4_end_5 (by decide) (fun h => absurd h (by decide)) (fun _ => ?_)
  obtain ⟨sa_1, hsa_1⟩ := hE.str 21 rfl
  exact vx_throwSW (A := fun q => s.heap.size ≤ q) hx hb hl0 hown fit_ISE fit_RE (hts (.classLink RX4 57 eISE) (by decide +kernel)) (hts (.initialized eISE) (by decide +kernel)) hsa_1 (hat_ISE (fun w h => hts w (List.mem_cons_of_mem _ (List.mem_append_right _ h))) hE.1 hE.2.2.1) good_ISE hE.2.2.2.1 hE.2.2.2.2.1 hS (hl.1.trans hml.symm) dX4_end_8 dX4_end_11 dX4_end_12 dX4_end_15 dX4_end_18 (fun x hx9 => (hno x hx9).elim) (Nat.le_of_ble_eq_true rfl) (Nat.le_of_ble_eq_true rfl) (Nat.le_of_ble_eq_true rfl) (Nat.le_of_ble_eq_true rfl) hlocks (fun t _ h1 h2 => xr_in hS h1 h2) hS.2.2 (Nat.le_of_ble_eq_true rfl) (Nat.le_of_ble_eq_true rfl)
set_option maxHeartbeats 4000000 in
set_option maxRecDepth 100000 in
theorem t_strip (l : Launch) (hl0 : l.stackTraces = false) (D : va_G) (eT : Nat) (h0 : Nat) (aH : Nat) (aB : Nat) (aJ : Nat) (rN : Nat) (rX : Nat) (aV : Nat) (sz : Nat) : vx_Met l yX4_strip wsX4_strip ({ frames := 6, cells := 1, slots := 6, locals := 82 }) (va_Pc [.ref h0] (pr D eT sz [(h0, .inr (7, [.ref aH, .ref aB, .ref aJ, .int 0, .int 0, .int 0, .ref rN, .ref rX, .int 0, .int 0, .int 0, .int 0, .int 0, .int 0, .int (-1), .int (-1), .int 0, .int 0, .ref aV]))] [])) (va_Qi (fun (_ : Int32) (_ : Unit) => False) (fun _ _ => True) (fun q => sz ≤ q)) (xr eISE sz) 1 6 (fun q => sz ≤ q) := by
  refine vx_ofW (cc := cX4_strip) (maxL := 1) (ret := (some .int)) (by decide +kernel) rfl ?_
  intro p e s m args below meth c s₁ B hml hno hv
  obtain ⟨rfl, hsz, hP, hK, hE⟩ := hv
  have hx := B.exec
  have hb := B.bytes
  have hr := B.returns
  have hts := atoms_spec (ws := wsX4_strip) B.pre
  have hown : s.vm.findClass RX4 = some m.cls := findClass_of_methodNamed B.named
  have hlocks := B.notSynchronized
  subst hsz
  have hA : ∀ q : Nat, s.heap.size ≤ q → (fun q : Nat => s.heap.size ≤ q) q := fun _ h => h
  have hS : va_S (fun q : Nat => s.heap.size ≤ q) s.heap s.heap [] := va_S.rf
  have hP : va_P D vwCl [(h0, .inr (7, [.ref aH, .ref aB, .ref aJ, .int 0, .int 0, .int 0, .ref rN, .ref rX, .int 0, .int 0, .int 0, .int 0, .int 0, .int 0, .int (-1), .int (-1), .int 0, .int 0, .ref aV]))] s.heap := hP
  have hl := lv_entry ([.ref h0]) (n := 1) (Nat.le_of_ble_eq_true rfl)
  rw [lg_entry_eq]
  generalize (lg_sl ([.ref h0]) ++ List.replicate (1 - (lg_sl ([.ref h0])).length) Slot.unset).toArray = ls at hl ⊢
  have hl : lv_has ls 1 [(0, .ref h0)] := hl
  refine lv_aload_n hx hb dX4_strip_0 rfl (lv_at hl 0 rfl) ?_
  refine va_get (D := D) (ci := 7) (v := .int 0) (C := RX4) (T := TX4) (N := 19) hx hb hts (by decide +kernel) hown hK hP 0 rfl rfl 9 (by decide) (hts (.fieldLink RX4 37 "PrizeHouse" "phase" "I") (by decide +kernel)) (fun _ h9 => h9) rfl dX4_strip_1 ?_
  refine lv_iconst (v := 4) hx hb dX4_strip_4 (by decide) ?_
  refine lv_icmp_ne (tgt := 16) hx hb dX4_strip_5 (by decide) (fun _ => ?_) (fun h => absurd h (by decide))
  obtain ⟨sa_1, hsa_1⟩ := hE.str 22 rfl
  exact vx_throwSW (A := fun q => s.heap.size ≤ q) hx hb hl0 hown fit_ISE fit_RE (hts (.classLink RX4 57 eISE) (by decide +kernel)) (hts (.initialized eISE) (by decide +kernel)) hsa_1 (hat_ISE (fun w h => hts w (List.mem_cons_of_mem _ (List.mem_append_right _ h))) hE.1 hE.2.2.1) good_ISE hE.2.2.2.1 hE.2.2.2.2.1 hS (hl.1.trans hml.symm) dX4_strip_16 dX4_strip_19 dX4_strip_20 dX4_strip_23 dX4_strip_26 (fun x hx9 => (hno x hx9).elim) (Nat.le_of_ble_eq_true rfl) (Nat.le_of_ble_eq_true rfl) (Nat.le_of_ble_eq_true rfl) (Nat.le_of_ble_eq_true rfl) hlocks (fun t _ h1 h2 => xr_in hS h1 h2) hS.2.2 (Nat.le_of_ble_eq_true rfl) (Nat.le_of_ble_eq_true rfl)
set_option maxHeartbeats 4000000 in
set_option maxRecDepth 100000 in
theorem t_next (l : Launch) (hl0 : l.stackTraces = false) (D : va_G) (eT : Nat) (h0 : Nat) (aH : Nat) (aB : Nat) (aJ : Nat) (rN : Nat) (rX : Nat) (aV : Nat) (sz : Nat) : vx_Met l yX4_next wsX4_next ({ frames := 6, cells := 1, slots := 6, locals := 82 }) (va_Pc [.ref h0] (pr D eT sz [(h0, .inr (7, [.ref aH, .ref aB, .ref aJ, .int 0, .int 0, .int 0, .ref rN, .ref rX, .int 0, .int 0, .int 0, .int 0, .int 0, .int 0, .int (-1), .int (-1), .int 0, .int 0, .ref aV]))] [])) (va_Qi (fun (_ : Int32) (_ : Unit) => False) (fun _ _ => True) (fun q => sz ≤ q)) (xr eISE sz) 1 6 (fun q => sz ≤ q) := by
  refine vx_ofW (cc := cX4_next) (maxL := 2) (ret := (some .int)) (by decide +kernel) rfl ?_
  intro p e s m args below meth c s₁ B hml hno hv
  obtain ⟨rfl, hsz, hP, hK, hE⟩ := hv
  have hx := B.exec
  have hb := B.bytes
  have hr := B.returns
  have hts := atoms_spec (ws := wsX4_next) B.pre
  have hown : s.vm.findClass RX4 = some m.cls := findClass_of_methodNamed B.named
  have hlocks := B.notSynchronized
  subst hsz
  have hA : ∀ q : Nat, s.heap.size ≤ q → (fun q : Nat => s.heap.size ≤ q) q := fun _ h => h
  have hS : va_S (fun q : Nat => s.heap.size ≤ q) s.heap s.heap [] := va_S.rf
  have hP : va_P D vwCl [(h0, .inr (7, [.ref aH, .ref aB, .ref aJ, .int 0, .int 0, .int 0, .ref rN, .ref rX, .int 0, .int 0, .int 0, .int 0, .int 0, .int 0, .int (-1), .int (-1), .int 0, .int 0, .ref aV]))] s.heap := hP
  have hl := lv_entry ([.ref h0]) (n := 2) (Nat.le_of_ble_eq_true rfl)
  rw [lg_entry_eq]
  generalize (lg_sl ([.ref h0]) ++ List.replicate (2 - (lg_sl ([.ref h0])).length) Slot.unset).toArray = ls at hl ⊢
  have hl : lv_has ls 2 [(0, .ref h0)] := hl
  refine lv_aload_n hx hb dX4_next_0 rfl (lv_at hl 0 rfl) ?_
  refine va_get (D := D) (ci := 7) (v := .int 0) (C := RX4) (T := TX4) (N := 19) hx hb hts (by decide +kernel) hown hK hP 0 rfl rfl 9 (by decide) (hts (.fieldLink RX4 37 "PrizeHouse" "phase" "I") (by decide +kernel)) (fun _ h9 => h9) rfl dX4_next_1 ?_
  refine lv_iconst (v := 4) hx hb dX4_next_4 (by decide) ?_
  refine lv_icmp_ne (tgt := 17) hx hb dX4_next_5 (by decide) (fun _ => ?_) (fun h => absurd h (by decide))
  obtain ⟨sa_1, hsa_1⟩ := hE.str 23 rfl
  exact vx_throwSW (A := fun q => s.heap.size ≤ q) hx hb hl0 hown fit_ISE fit_RE (hts (.classLink RX4 57 eISE) (by decide +kernel)) (hts (.initialized eISE) (by decide +kernel)) hsa_1 (hat_ISE (fun w h => hts w (List.mem_cons_of_mem _ (List.mem_append_right _ h))) hE.1 hE.2.2.1) good_ISE hE.2.2.2.1 hE.2.2.2.2.1 hS (hl.1.trans hml.symm) dX4_next_17 dX4_next_20 dX4_next_21 dX4_next_24 dX4_next_27 (fun x hx9 => (hno x hx9).elim) (Nat.le_of_ble_eq_true rfl) (Nat.le_of_ble_eq_true rfl) (Nat.le_of_ble_eq_true rfl) (Nat.le_of_ble_eq_true rfl) hlocks (fun t _ h1 h2 => xr_in hS h1 h2) hS.2.2 (Nat.le_of_ble_eq_true rfl) (Nat.le_of_ble_eq_true rfl)
set_option maxHeartbeats 4000000 in
set_option maxRecDepth 100000 in
theorem t_longList_f (l : Launch) (hl0 : l.stackTraces = false) (D : va_G) (eT : Nat) (h0 : Nat) (aH : Nat) (aB : Nat) (aJ : Nat) (rN : Nat) (rX : Nat) (aV : Nat) (p0 : Int32) (sz : Nat) (hn : ¬ (3 ≤ p0 ∧ p0 ≤ 8)) : vx_Met l yX4_longList wsX4_longList ({ frames := 6, cells := 1, slots := 6, locals := 82 }) (va_Pc [.ref h0, .int p0] (pr D eT sz [(h0, .inr (7, [.ref aH, .ref aB, .ref aJ, .int 0, .int 0, .int 0, .ref rN, .ref rX, .int 0, .int 0, .int 0, .int 0, .int 0, .int 0, .int (-1), .int (-1), .int 0, .int 0, .ref aV]))] [])) (va_Qi (fun (_ : Int32) (_ : Unit) => False) (fun _ _ => True) (fun q => sz ≤ q)) (xr eIAE sz) 1 6 (fun q => sz ≤ q) := by
  refine vx_ofW (cc := cX4_longList) (maxL := 2) (ret := (some .int)) (by decide +kernel) rfl ?_
  intro p e s m args below meth c s₁ B hml hno hv
  obtain ⟨rfl, hsz, hP, hK, hE⟩ := hv
  have hx := B.exec
  have hb := B.bytes
  have hr := B.returns
  have hts := atoms_spec (ws := wsX4_longList) B.pre
  have hown : s.vm.findClass RX4 = some m.cls := findClass_of_methodNamed B.named
  have hlocks := B.notSynchronized
  subst hsz
  have hA : ∀ q : Nat, s.heap.size ≤ q → (fun q : Nat => s.heap.size ≤ q) q := fun _ h => h
  have hS : va_S (fun q : Nat => s.heap.size ≤ q) s.heap s.heap [] := va_S.rf
  have hP : va_P D vwCl [(h0, .inr (7, [.ref aH, .ref aB, .ref aJ, .int 0, .int 0, .int 0, .ref rN, .ref rX, .int 0, .int 0, .int 0, .int 0, .int 0, .int 0, .int (-1), .int (-1), .int 0, .int 0, .ref aV]))] s.heap := hP
  have hl := lv_entry ([.ref h0, .int p0]) (n := 2) (Nat.le_of_ble_eq_true rfl)
  rw [lg_entry_eq]
  generalize (lg_sl ([.ref h0, .int p0]) ++ List.replicate (2 - (lg_sl ([.ref h0, .int p0])).length) Slot.unset).toArray = ls at hl ⊢
  have hl : lv_has ls 2 [(0, .ref h0), (1, .int p0)] := hl
  refine lv_iload_n hx hb dX4_longList_0 rfl (lv_at hl 1 rfl) ?_
  refine lv_iconst (v := 3) hx hb dX4_longList_1 (by decide) ?_
  refine lv_bipush (v := 8) hx hb dX4_longList_2 (by decide) ?_
  have hPc := hP.sub (ws' := []) [] rfl
  have hKc := hK.sub (tys' := []) [] rfl
  refine va_calli (va_runS (As := [.int p0, .int 3, .int 8]) (rest := []) ⟨hx, hb, hml, hown, hts⟩ (k_within_f l D eT p0 3 8 s.heap.size hn) (va_cwS 3 hts gX4_longList_X4_isWithin rfl rfl rfl (by decide +kernel) ⟨Nat.le_of_ble_eq_true rfl, Nat.le_of_ble_eq_true rfl⟩) (pr_s hPc hKc hE hS hA) rfl rfl hl.1 rfl (lv_room (Nat.le_of_ble_eq_true rfl)) dX4_longList_4 ⟨Nat.le_of_ble_eq_true rfl, Nat.le_of_ble_eq_true rfl⟩) hS (fun q h1 h2 => ro_A h1 h2) (fun q h => ro_F hS hA q h) (fun r u t H1 locs ht hvm hw hB hz1 hk1 hS => ?_)
  have hw : r = 0 := hw
  rw [hw]
  have hP := ro_P hP hk1
  generalize H1 = H at hP hS ⊢
  refine lv_if_ne (tgt := 20) hx hb dX4_longList_7 (by decide) (fun h => absurd (by decide) h) (fun _ => ?_)
  obtain ⟨sa_1, hsa_1⟩ := hE.str 12 rfl
  exact vx_throwS (A := fun q => s.heap.size ≤ q) hx hb hl0 hown fit_IAE fit_RE (hts (.classLink RX4 80 eIAE) (by decide +kernel)) (hts (.initialized eIAE) (by decide +kernel)) hsa_1 (hat_IAE (fun w h => hts w (List.mem_cons_of_mem _ (List.mem_append_left _ (List.mem_append_right _ h)))) hE.1 hE.2.2.1) good_IAE hE.2.2.2.1 hE.2.2.2.2.1 hS (hl.1.trans hml.symm) dX4_longList_10 dX4_longList_13 dX4_longList_14 dX4_longList_16 dX4_longList_19 (fun x hx9 => (hno x hx9).elim) (Nat.le_of_ble_eq_true rfl) (Nat.le_of_ble_eq_true rfl) (Nat.le_of_ble_eq_true rfl) (Nat.le_of_ble_eq_true rfl) hlocks (fun t _ h1 h2 => xr_in hS h1 h2) hS.2.2 (Nat.le_of_ble_eq_true rfl) (Nat.le_of_ble_eq_true rfl)
set_option maxHeartbeats 4000000 in
set_option maxRecDepth 100000 in
theorem t_shortList_f (l : Launch) (hl0 : l.stackTraces = false) (D : va_G) (eT : Nat) (h0 : Nat) (aH : Nat) (aB : Nat) (aJ : Nat) (rN : Nat) (rX : Nat) (aV : Nat) (p0 : Int32) (sz : Nat) (hn : ¬ (2 ≤ p0 ∧ p0 ≤ 5)) : vx_Met l yX4_shortList wsX4_shortList ({ frames := 6, cells := 1, slots := 6, locals := 82 }) (va_Pc [.ref h0, .int p0] (pr D eT sz [(h0, .inr (7, [.ref aH, .ref aB, .ref aJ, .int 0, .int 0, .int 0, .ref rN, .ref rX, .int 0, .int 0, .int 0, .int 0, .int 0, .int 0, .int (-1), .int (-1), .int 0, .int 0, .ref aV]))] [])) (va_Qi (fun (_ : Int32) (_ : Unit) => False) (fun _ _ => True) (fun q => sz ≤ q)) (xr eIAE sz) 1 6 (fun q => sz ≤ q) := by
  refine vx_ofW (cc := cX4_shortList) (maxL := 2) (ret := (some .int)) (by decide +kernel) rfl ?_
  intro p e s m args below meth c s₁ B hml hno hv
  obtain ⟨rfl, hsz, hP, hK, hE⟩ := hv
  have hx := B.exec
  have hb := B.bytes
  have hr := B.returns
  have hts := atoms_spec (ws := wsX4_shortList) B.pre
  have hown : s.vm.findClass RX4 = some m.cls := findClass_of_methodNamed B.named
  have hlocks := B.notSynchronized
  subst hsz
  have hA : ∀ q : Nat, s.heap.size ≤ q → (fun q : Nat => s.heap.size ≤ q) q := fun _ h => h
  have hS : va_S (fun q : Nat => s.heap.size ≤ q) s.heap s.heap [] := va_S.rf
  have hP : va_P D vwCl [(h0, .inr (7, [.ref aH, .ref aB, .ref aJ, .int 0, .int 0, .int 0, .ref rN, .ref rX, .int 0, .int 0, .int 0, .int 0, .int 0, .int 0, .int (-1), .int (-1), .int 0, .int 0, .ref aV]))] s.heap := hP
  have hl := lv_entry ([.ref h0, .int p0]) (n := 2) (Nat.le_of_ble_eq_true rfl)
  rw [lg_entry_eq]
  generalize (lg_sl ([.ref h0, .int p0]) ++ List.replicate (2 - (lg_sl ([.ref h0, .int p0])).length) Slot.unset).toArray = ls at hl ⊢
  have hl : lv_has ls 2 [(0, .ref h0), (1, .int p0)] := hl
  refine lv_iload_n hx hb dX4_shortList_0 rfl (lv_at hl 1 rfl) ?_
  refine lv_iconst (v := 2) hx hb dX4_shortList_1 (by decide) ?_
  refine lv_iconst (v := 5) hx hb dX4_shortList_2 (by decide) ?_
  have hPc := hP.sub (ws' := []) [] rfl
  have hKc := hK.sub (tys' := []) [] rfl
  refine va_calli (va_runS (As := [.int p0, .int 2, .int 5]) (rest := []) ⟨hx, hb, hml, hown, hts⟩ (k_within_f l D eT p0 2 5 s.heap.size hn) (va_cwS 3 hts gX4_shortList_X4_isWithin rfl rfl rfl (by decide +kernel) ⟨Nat.le_of_ble_eq_true rfl, Nat.le_of_ble_eq_true rfl⟩) (pr_s hPc hKc hE hS hA) rfl rfl hl.1 rfl (lv_room (Nat.le_of_ble_eq_true rfl)) dX4_shortList_3 ⟨Nat.le_of_ble_eq_true rfl, Nat.le_of_ble_eq_true rfl⟩) hS (fun q h1 h2 => ro_A h1 h2) (fun q h => ro_F hS hA q h) (fun r u t H1 locs ht hvm hw hB hz1 hk1 hS => ?_)
  have hw : r = 0 := hw
  rw [hw]
  have hP := ro_P hP hk1
  generalize H1 = H at hP hS ⊢
  refine lv_if_ne (tgt := 19) hx hb dX4_shortList_6 (by decide) (fun h => absurd (by decide) h) (fun _ => ?_)
  obtain ⟨sa_1, hsa_1⟩ := hE.str 17 rfl
  exact vx_throwS (A := fun q => s.heap.size ≤ q) hx hb hl0 hown fit_IAE fit_RE (hts (.classLink RX4 80 eIAE) (by decide +kernel)) (hts (.initialized eIAE) (by decide +kernel)) hsa_1 (hat_IAE (fun w h => hts w (List.mem_cons_of_mem _ (List.mem_append_left _ (List.mem_append_right _ h)))) hE.1 hE.2.2.1) good_IAE hE.2.2.2.1 hE.2.2.2.2.1 hS (hl.1.trans hml.symm) dX4_shortList_9 dX4_shortList_12 dX4_shortList_13 dX4_shortList_15 dX4_shortList_18 (fun x hx9 => (hno x hx9).elim) (Nat.le_of_ble_eq_true rfl) (Nat.le_of_ble_eq_true rfl) (Nat.le_of_ble_eq_true rfl) (Nat.le_of_ble_eq_true rfl) hlocks (fun t _ h1 h2 => xr_in hS h1 h2) hS.2.2 (Nat.le_of_ble_eq_true rfl) (Nat.le_of_ble_eq_true rfl)
set_option maxHeartbeats 4000000 in
set_option maxRecDepth 100000 in
theorem t_pass_f (l : Launch) (hl0 : l.stackTraces = false) (D : va_G) (eT : Nat) (h0 : Nat) (aH : Nat) (aB : Nat) (aJ : Nat) (rN : Nat) (rX : Nat) (aV : Nat) (p0 : Int32) (sz : Nat) (hn : ¬ (1 ≤ p0 ∧ p0 ≤ 60)) : vx_Met l yX4_pass wsX4_pass ({ frames := 6, cells := 1, slots := 6, locals := 82 }) (va_Pc [.ref h0, .int p0] (pr D eT sz [(h0, .inr (7, [.ref aH, .ref aB, .ref aJ, .int 0, .int 0, .int 0, .ref rN, .ref rX, .int 0, .int 0, .int 0, .int 0, .int 0, .int 0, .int (-1), .int (-1), .int 0, .int 0, .ref aV]))] [])) (va_Qi (fun (_ : Int32) (_ : Unit) => False) (fun _ _ => True) (fun q => sz ≤ q)) (xr eIAE sz) 1 6 (fun q => sz ≤ q) := by
  refine vx_ofW (cc := cX4_pass) (maxL := 4) (ret := (some .int)) (by decide +kernel) rfl ?_
  intro p e s m args below meth c s₁ B hml hno hv
  obtain ⟨rfl, hsz, hP, hK, hE⟩ := hv
  have hx := B.exec
  have hb := B.bytes
  have hr := B.returns
  have hts := atoms_spec (ws := wsX4_pass) B.pre
  have hown : s.vm.findClass RX4 = some m.cls := findClass_of_methodNamed B.named
  have hlocks := B.notSynchronized
  subst hsz
  have hA : ∀ q : Nat, s.heap.size ≤ q → (fun q : Nat => s.heap.size ≤ q) q := fun _ h => h
  have hS : va_S (fun q : Nat => s.heap.size ≤ q) s.heap s.heap [] := va_S.rf
  have hP : va_P D vwCl [(h0, .inr (7, [.ref aH, .ref aB, .ref aJ, .int 0, .int 0, .int 0, .ref rN, .ref rX, .int 0, .int 0, .int 0, .int 0, .int 0, .int 0, .int (-1), .int (-1), .int 0, .int 0, .ref aV]))] s.heap := hP
  have hl := lv_entry ([.ref h0, .int p0]) (n := 4) (Nat.le_of_ble_eq_true rfl)
  rw [lg_entry_eq]
  generalize (lg_sl ([.ref h0, .int p0]) ++ List.replicate (4 - (lg_sl ([.ref h0, .int p0])).length) Slot.unset).toArray = ls at hl ⊢
  have hl : lv_has ls 4 [(0, .ref h0), (1, .int p0)] := hl
  refine lv_iload_n hx hb dX4_pass_0 rfl (lv_at hl 1 rfl) ?_
  refine lv_iconst (v := 1) hx hb dX4_pass_1 (by decide) ?_
  refine lv_bipush (v := 60) hx hb dX4_pass_2 (by decide) ?_
  have hPc := hP.sub (ws' := []) [] rfl
  have hKc := hK.sub (tys' := []) [] rfl
  refine va_calli (va_runS (As := [.int p0, .int 1, .int 60]) (rest := []) ⟨hx, hb, hml, hown, hts⟩ (k_within_f l D eT p0 1 60 s.heap.size hn) (va_cwS 3 hts gX4_pass_X4_isWithin rfl rfl rfl (by decide +kernel) ⟨Nat.le_of_ble_eq_true rfl, Nat.le_of_ble_eq_true rfl⟩) (pr_s hPc hKc hE hS hA) rfl rfl hl.1 rfl (lv_room (Nat.le_of_ble_eq_true rfl)) dX4_pass_4 ⟨Nat.le_of_ble_eq_true rfl, Nat.le_of_ble_eq_true rfl⟩) hS (fun q h1 h2 => ro_A h1 h2) (fun q h => ro_F hS hA q h) (fun r u t H1 locs ht hvm hw hB hz1 hk1 hS => ?_)
  have hw : r = 0 := hw
  rw [hw]
  have hP := ro_P hP hk1
  generalize H1 = H at hP hS ⊢
  refine lv_if_ne (tgt := 20) hx hb dX4_pass_7 (by decide) (fun h => absurd (by decide) h) (fun _ => ?_)
  obtain ⟨sa_1, hsa_1⟩ := hE.str 10 rfl
  exact vx_throwS (A := fun q => s.heap.size ≤ q) hx hb hl0 hown fit_IAE fit_RE (hts (.classLink RX4 80 eIAE) (by decide +kernel)) (hts (.initialized eIAE) (by decide +kernel)) hsa_1 (hat_IAE (fun w h => hts w (List.mem_cons_of_mem _ (List.mem_append_left _ (List.mem_append_right _ h)))) hE.1 hE.2.2.1) good_IAE hE.2.2.2.1 hE.2.2.2.2.1 hS (hl.1.trans hml.symm) dX4_pass_10 dX4_pass_13 dX4_pass_14 dX4_pass_16 dX4_pass_19 (fun x hx9 => (hno x hx9).elim) (Nat.le_of_ble_eq_true rfl) (Nat.le_of_ble_eq_true rfl) (Nat.le_of_ble_eq_true rfl) (Nat.le_of_ble_eq_true rfl) hlocks (fun t _ h1 h2 => xr_in hS h1 h2) hS.2.2 (Nat.le_of_ble_eq_true rfl) (Nat.le_of_ble_eq_true rfl)
set_option maxHeartbeats 4000000 in
set_option maxRecDepth 100000 in
theorem t_wins_f (l : Launch) (hl0 : l.stackTraces = false) (D : va_G) (eT : Nat) (h0 : Nat) (aH : Nat) (aB : Nat) (aJ : Nat) (rN : Nat) (rX : Nat) (aV : Nat) (p0 : Int32) (sz : Nat) (hn : ¬ (0 ≤ p0 ∧ p0 ≤ 31)) : vx_Met l yX4_wins wsX4_wins ({ frames := 6, cells := 1, slots := 6, locals := 82 }) (va_Pc [.ref h0, .int p0] (pr D eT sz [(h0, .inr (7, [.ref aH, .ref aB, .ref aJ, .int 0, .int 0, .int 0, .ref rN, .ref rX, .int 0, .int 0, .int 0, .int 0, .int 0, .int 0, .int (-1), .int (-1), .int 0, .int 0, .ref aV]))] [])) (va_Qi (fun (_ : Int32) (_ : Unit) => False) (fun _ _ => True) (fun q => sz ≤ q)) (xr eIAE sz) 1 6 (fun q => sz ≤ q) := by
  refine vx_ofW (cc := cX4_wins) (maxL := 2) (ret := (some .int)) (by decide +kernel) rfl ?_
  intro p e s m args below meth c s₁ B hml hno hv
  obtain ⟨rfl, hsz, hP, hK, hE⟩ := hv
  have hx := B.exec
  have hb := B.bytes
  have hr := B.returns
  have hts := atoms_spec (ws := wsX4_wins) B.pre
  have hown : s.vm.findClass RX4 = some m.cls := findClass_of_methodNamed B.named
  have hlocks := B.notSynchronized
  subst hsz
  have hA : ∀ q : Nat, s.heap.size ≤ q → (fun q : Nat => s.heap.size ≤ q) q := fun _ h => h
  have hS : va_S (fun q : Nat => s.heap.size ≤ q) s.heap s.heap [] := va_S.rf
  have hP : va_P D vwCl [(h0, .inr (7, [.ref aH, .ref aB, .ref aJ, .int 0, .int 0, .int 0, .ref rN, .ref rX, .int 0, .int 0, .int 0, .int 0, .int 0, .int 0, .int (-1), .int (-1), .int 0, .int 0, .ref aV]))] s.heap := hP
  have hl := lv_entry ([.ref h0, .int p0]) (n := 2) (Nat.le_of_ble_eq_true rfl)
  rw [lg_entry_eq]
  generalize (lg_sl ([.ref h0, .int p0]) ++ List.replicate (2 - (lg_sl ([.ref h0, .int p0])).length) Slot.unset).toArray = ls at hl ⊢
  have hl : lv_has ls 2 [(0, .ref h0), (1, .int p0)] := hl
  refine lv_iload_n hx hb dX4_wins_0 rfl (lv_at hl 1 rfl) ?_
  refine lv_iconst (v := 0) hx hb dX4_wins_1 (by decide) ?_
  refine lv_bipush (v := 31) hx hb dX4_wins_2 (by decide) ?_
  have hPc := hP.sub (ws' := []) [] rfl
  have hKc := hK.sub (tys' := []) [] rfl
  refine va_calli (va_runS (As := [.int p0, .int 0, .int 31]) (rest := []) ⟨hx, hb, hml, hown, hts⟩ (k_within_f l D eT p0 0 31 s.heap.size hn) (va_cwS 3 hts gX4_wins_X4_isWithin rfl rfl rfl (by decide +kernel) ⟨Nat.le_of_ble_eq_true rfl, Nat.le_of_ble_eq_true rfl⟩) (pr_s hPc hKc hE hS hA) rfl rfl hl.1 rfl (lv_room (Nat.le_of_ble_eq_true rfl)) dX4_wins_4 ⟨Nat.le_of_ble_eq_true rfl, Nat.le_of_ble_eq_true rfl⟩) hS (fun q h1 h2 => ro_A h1 h2) (fun q h => ro_F hS hA q h) (fun r u t H1 locs ht hvm hw hB hz1 hk1 hS => ?_)
  have hw : r = 0 := hw
  rw [hw]
  have hP := ro_P hP hk1
  generalize H1 = H at hP hS ⊢
  refine lv_if_ne (tgt := 21) hx hb dX4_wins_7 (by decide) (fun h => absurd (by decide) h) (fun _ => ?_)
  obtain ⟨sa_1, hsa_1⟩ := hE.str 28 rfl
  exact vx_throwSW (A := fun q => s.heap.size ≤ q) hx hb hl0 hown fit_IAE fit_RE (hts (.classLink RX4 80 eIAE) (by decide +kernel)) (hts (.initialized eIAE) (by decide +kernel)) hsa_1 (hat_IAE (fun w h => hts w (List.mem_cons_of_mem _ (List.mem_append_right _ h))) hE.1 hE.2.2.1) good_IAE hE.2.2.2.1 hE.2.2.2.2.1 hS (hl.1.trans hml.symm) dX4_wins_10 dX4_wins_13 dX4_wins_14 dX4_wins_17 dX4_wins_20 (fun x hx9 => (hno x hx9).elim) (Nat.le_of_ble_eq_true rfl) (Nat.le_of_ble_eq_true rfl) (Nat.le_of_ble_eq_true rfl) (Nat.le_of_ble_eq_true rfl) hlocks (fun t _ h1 h2 => xr_in hS h1 h2) hS.2.2 (Nat.le_of_ble_eq_true rfl) (Nat.le_of_ble_eq_true rfl)
set_option maxHeartbeats 4000000 in
set_option maxRecDepth 100000 in
theorem t_wouldMiss_f (l : Launch) (hl0 : l.stackTraces = false) (D : va_G) (eT : Nat) (h0 : Nat) (aH : Nat) (aB : Nat) (aJ : Nat) (rN : Nat) (rX : Nat) (aV : Nat) (p0 : Int32) (sz : Nat) (hn : ¬ (1 ≤ p0 ∧ p0 ≤ 60)) : vx_Met l yX4_wouldMiss wsX4_wouldMiss ({ frames := 6, cells := 1, slots := 6, locals := 82 }) (va_Pc [.ref h0, .int p0] (pr D eT sz [(h0, .inr (7, [.ref aH, .ref aB, .ref aJ, .int 0, .int 0, .int 0, .ref rN, .ref rX, .int 0, .int 0, .int 0, .int 0, .int 0, .int 0, .int (-1), .int (-1), .int 0, .int 0, .ref aV]))] [])) (va_Qi (fun (_ : Int32) (_ : Unit) => False) (fun _ _ => True) (fun q => sz ≤ q)) (xr eIAE sz) 1 6 (fun q => sz ≤ q) := by
  refine vx_ofW (cc := cX4_wouldMiss) (maxL := 4) (ret := (some .int)) (by decide +kernel) rfl ?_
  intro p e s m args below meth c s₁ B hml hno hv
  obtain ⟨rfl, hsz, hP, hK, hE⟩ := hv
  have hx := B.exec
  have hb := B.bytes
  have hr := B.returns
  have hts := atoms_spec (ws := wsX4_wouldMiss) B.pre
  have hown : s.vm.findClass RX4 = some m.cls := findClass_of_methodNamed B.named
  have hlocks := B.notSynchronized
  subst hsz
  have hA : ∀ q : Nat, s.heap.size ≤ q → (fun q : Nat => s.heap.size ≤ q) q := fun _ h => h
  have hS : va_S (fun q : Nat => s.heap.size ≤ q) s.heap s.heap [] := va_S.rf
  have hP : va_P D vwCl [(h0, .inr (7, [.ref aH, .ref aB, .ref aJ, .int 0, .int 0, .int 0, .ref rN, .ref rX, .int 0, .int 0, .int 0, .int 0, .int 0, .int 0, .int (-1), .int (-1), .int 0, .int 0, .ref aV]))] s.heap := hP
  have hl := lv_entry ([.ref h0, .int p0]) (n := 4) (Nat.le_of_ble_eq_true rfl)
  rw [lg_entry_eq]
  generalize (lg_sl ([.ref h0, .int p0]) ++ List.replicate (4 - (lg_sl ([.ref h0, .int p0])).length) Slot.unset).toArray = ls at hl ⊢
  have hl : lv_has ls 4 [(0, .ref h0), (1, .int p0)] := hl
  refine lv_iload_n hx hb dX4_wouldMiss_0 rfl (lv_at hl 1 rfl) ?_
  refine lv_iconst (v := 1) hx hb dX4_wouldMiss_1 (by decide) ?_
  refine lv_bipush (v := 60) hx hb dX4_wouldMiss_2 (by decide) ?_
  have hPc := hP.sub (ws' := []) [] rfl
  have hKc := hK.sub (tys' := []) [] rfl
  refine va_calli (va_runS (As := [.int p0, .int 1, .int 60]) (rest := []) ⟨hx, hb, hml, hown, hts⟩ (k_within_f l D eT p0 1 60 s.heap.size hn) (va_cwS 3 hts gX4_wouldMiss_X4_isWithin rfl rfl rfl (by decide +kernel) ⟨Nat.le_of_ble_eq_true rfl, Nat.le_of_ble_eq_true rfl⟩) (pr_s hPc hKc hE hS hA) rfl rfl hl.1 rfl (lv_room (Nat.le_of_ble_eq_true rfl)) dX4_wouldMiss_4 ⟨Nat.le_of_ble_eq_true rfl, Nat.le_of_ble_eq_true rfl⟩) hS (fun q h1 h2 => ro_A h1 h2) (fun q h => ro_F hS hA q h) (fun r u t H1 locs ht hvm hw hB hz1 hk1 hS => ?_)
  have hw : r = 0 := hw
  rw [hw]
  have hP := ro_P hP hk1
  generalize H1 = H at hP hS ⊢
  refine lv_if_ne (tgt := 20) hx hb dX4_wouldMiss_7 (by decide) (fun h => absurd (by decide) h) (fun _ => ?_)
  obtain ⟨sa_1, hsa_1⟩ := hE.str 10 rfl
  exact vx_throwS (A := fun q => s.heap.size ≤ q) hx hb hl0 hown fit_IAE fit_RE (hts (.classLink RX4 80 eIAE) (by decide +kernel)) (hts (.initialized eIAE) (by decide +kernel)) hsa_1 (hat_IAE (fun w h => hts w (List.mem_cons_of_mem _ (List.mem_append_right _ h))) hE.1 hE.2.2.1) good_IAE hE.2.2.2.1 hE.2.2.2.2.1 hS (hl.1.trans hml.symm) dX4_wouldMiss_10 dX4_wouldMiss_13 dX4_wouldMiss_14 dX4_wouldMiss_16 dX4_wouldMiss_19 (fun x hx9 => (hno x hx9).elim) (Nat.le_of_ble_eq_true rfl) (Nat.le_of_ble_eq_true rfl) (Nat.le_of_ble_eq_true rfl) (Nat.le_of_ble_eq_true rfl) hlocks (fun t _ h1 h2 => xr_in hS h1 h2) hS.2.2 (Nat.le_of_ble_eq_true rfl) (Nat.le_of_ble_eq_true rfl)
set_option maxHeartbeats 4000000 in
set_option maxRecDepth 100000 in
theorem t_longList_t (l : Launch) (hl0 : l.stackTraces = false) (D : va_G) (eT : Nat) (h0 : Nat) (aH : Nat) (aB : Nat) (aJ : Nat) (rN : Nat) (rX : Nat) (aV : Nat) (p0 : Int32) (sz : Nat) (h1 : 3 ≤ p0) (h2 : p0 ≤ 8) : vx_Met l yX4_longList wsX4_longList ({ frames := 6, cells := 1, slots := 6, locals := 82 }) (va_Pc [.ref h0, .int p0] (pr D eT sz [(h0, .inr (7, [.ref aH, .ref aB, .ref aJ, .int 0, .int 0, .int 0, .ref rN, .ref rX, .int 0, .int 0, .int 0, .int 0, .int 0, .int 0, .int (-1), .int (-1), .int 0, .int 0, .ref aV]))] [])) (va_Qi (fun (_ : Int32) (_ : Unit) => False) (fun _ _ => True) (fun q => sz ≤ q)) (xr eISE sz) 1 6 (fun q => sz ≤ q) := by
  refine vx_ofW (cc := cX4_longList) (maxL := 2) (ret := (some .int)) (by decide +kernel) rfl ?_
  intro p e s m args below meth c s₁ B hml hno hv
  obtain ⟨rfl, hsz, hP, hK, hE⟩ := hv
  have hx := B.exec
  have hb := B.bytes
  have hr := B.returns
  have hts := atoms_spec (ws := wsX4_longList) B.pre
  have hown : s.vm.findClass RX4 = some m.cls := findClass_of_methodNamed B.named
  have hlocks := B.notSynchronized
  subst hsz
  have hA : ∀ q : Nat, s.heap.size ≤ q → (fun q : Nat => s.heap.size ≤ q) q := fun _ h => h
  have hS : va_S (fun q : Nat => s.heap.size ≤ q) s.heap s.heap [] := va_S.rf
  have hP : va_P D vwCl [(h0, .inr (7, [.ref aH, .ref aB, .ref aJ, .int 0, .int 0, .int 0, .ref rN, .ref rX, .int 0, .int 0, .int 0, .int 0, .int 0, .int 0, .int (-1), .int (-1), .int 0, .int 0, .ref aV]))] s.heap := hP
  have hl := lv_entry ([.ref h0, .int p0]) (n := 2) (Nat.le_of_ble_eq_true rfl)
  rw [lg_entry_eq]
  generalize (lg_sl ([.ref h0, .int p0]) ++ List.replicate (2 - (lg_sl ([.ref h0, .int p0])).length) Slot.unset).toArray = ls at hl ⊢
  have hl : lv_has ls 2 [(0, .ref h0), (1, .int p0)] := hl
  refine lv_iload_n hx hb dX4_longList_0 rfl (lv_at hl 1 rfl) ?_
  refine lv_iconst (v := 3) hx hb dX4_longList_1 (by decide) ?_
  refine lv_bipush (v := 8) hx hb dX4_longList_2 (by decide) ?_
  have hPc := hP.sub (ws' := []) [] rfl
  have hKc := hK.sub (tys' := []) [] rfl
  refine va_calli (va_runS (As := [.int p0, .int 3, .int 8]) (rest := []) ⟨hx, hb, hml, hown, hts⟩ (k_within_t l D eT p0 3 8 s.heap.size h1 h2) (va_cwS 3 hts gX4_longList_X4_isWithin rfl rfl rfl (by decide +kernel) ⟨Nat.le_of_ble_eq_true rfl, Nat.le_of_ble_eq_true rfl⟩) (pr_s hPc hKc hE hS hA) rfl rfl hl.1 rfl (lv_room (Nat.le_of_ble_eq_true rfl)) dX4_longList_4 ⟨Nat.le_of_ble_eq_true rfl, Nat.le_of_ble_eq_true rfl⟩) hS (fun q h1 h2 => ro_A h1 h2) (fun q h => ro_F hS hA q h) (fun r u t H1 locs ht hvm hw hB hz1 hk1 hS => ?_)
  have hw : r = 1 := hw
  rw [hw]
  have hP := ro_P hP hk1
  generalize H1 = H at hP hS ⊢
  refine lv_if_ne (tgt := 20) hx hb dX4_longList_7 (by decide) (fun _ => ?_) (fun h => absurd h (by decide))
  refine lv_aload_n hx hb dX4_longList_20 rfl (lv_at hl 0 rfl) ?_
  refine va_get (D := D) (ci := 7) (v := .int 0) (C := RX4) (T := TX4) (N := 19) hx hb hts (by decide +kernel) hown hK hP 0 rfl rfl 9 (by decide) (hts (.fieldLink RX4 37 "PrizeHouse" "phase" "I") (by decide +kernel)) (fun _ h9 => h9) rfl dX4_longList_21 ?_
  refine lv_iconst (v := 1) hx hb dX4_longList_24 (by decide) ?_
  refine lv_icmp_ne (tgt := 35) hx hb dX4_longList_25 (by decide) (fun _ => ?_) (fun h => absurd h (by decide))
  obtain ⟨sa_1, hsa_1⟩ := hE.str 13 rfl
  exact vx_throwS (A := fun q => s.heap.size ≤ q) hx hb hl0 hown fit_ISE fit_RE (hts (.classLink RX4 57 eISE) (by decide +kernel)) (hts (.initialized eISE) (by decide +kernel)) hsa_1 (hat_ISE (fun w h => hts w (List.mem_cons_of_mem _ (List.mem_append_right _ h))) hE.1 hE.2.2.1) good_ISE hE.2.2.2.1 hE.2.2.2.2.1 hS (hl.1.trans hml.symm) dX4_longList_35 dX4_longList_38 dX4_longList_39 dX4_longList_41 dX4_longList_44 (fun x hx9 => (hno x hx9).elim) (Nat.le_of_ble_eq_true rfl) (Nat.le_of_ble_eq_true rfl) (Nat.le_of_ble_eq_true rfl) (Nat.le_of_ble_eq_true rfl) hlocks (fun t _ h1 h2 => xr_in hS h1 h2) hS.2.2 (Nat.le_of_ble_eq_true rfl) (Nat.le_of_ble_eq_true rfl)
set_option maxHeartbeats 4000000 in
set_option maxRecDepth 100000 in
theorem t_shortList_t (l : Launch) (hl0 : l.stackTraces = false) (D : va_G) (eT : Nat) (h0 : Nat) (aH : Nat) (aB : Nat) (aJ : Nat) (rN : Nat) (rX : Nat) (aV : Nat) (p0 : Int32) (sz : Nat) (h1 : 2 ≤ p0) (h2 : p0 ≤ 5) : vx_Met l yX4_shortList wsX4_shortList ({ frames := 6, cells := 1, slots := 6, locals := 82 }) (va_Pc [.ref h0, .int p0] (pr D eT sz [(h0, .inr (7, [.ref aH, .ref aB, .ref aJ, .int 0, .int 0, .int 0, .ref rN, .ref rX, .int 0, .int 0, .int 0, .int 0, .int 0, .int 0, .int (-1), .int (-1), .int 0, .int 0, .ref aV]))] [])) (va_Qi (fun (_ : Int32) (_ : Unit) => False) (fun _ _ => True) (fun q => sz ≤ q)) (xr eISE sz) 1 6 (fun q => sz ≤ q) := by
  refine vx_ofW (cc := cX4_shortList) (maxL := 2) (ret := (some .int)) (by decide +kernel) rfl ?_
  intro p e s m args below meth c s₁ B hml hno hv
  obtain ⟨rfl, hsz, hP, hK, hE⟩ := hv
  have hx := B.exec
  have hb := B.bytes
  have hr := B.returns
  have hts := atoms_spec (ws := wsX4_shortList) B.pre
  have hown : s.vm.findClass RX4 = some m.cls := findClass_of_methodNamed B.named
  have hlocks := B.notSynchronized
  subst hsz
  have hA : ∀ q : Nat, s.heap.size ≤ q → (fun q : Nat => s.heap.size ≤ q) q := fun _ h => h
  have hS : va_S (fun q : Nat => s.heap.size ≤ q) s.heap s.heap [] := va_S.rf
  have hP : va_P D vwCl [(h0, .inr (7, [.ref aH, .ref aB, .ref aJ, .int 0, .int 0, .int 0, .ref rN, .ref rX, .int 0, .int 0, .int 0, .int 0, .int 0, .int 0, .int (-1), .int (-1), .int 0, .int 0, .ref aV]))] s.heap := hP
  have hl := lv_entry ([.ref h0, .int p0]) (n := 2) (Nat.le_of_ble_eq_true rfl)
  rw [lg_entry_eq]
  generalize (lg_sl ([.ref h0, .int p0]) ++ List.replicate (2 - (lg_sl ([.ref h0, .int p0])).length) Slot.unset).toArray = ls at hl ⊢
  have hl : lv_has ls 2 [(0, .ref h0), (1, .int p0)] := hl
  refine lv_iload_n hx hb dX4_shortList_0 rfl (lv_at hl 1 rfl) ?_
  refine lv_iconst (v := 2) hx hb dX4_shortList_1 (by decide) ?_
  refine lv_iconst (v := 5) hx hb dX4_shortList_2 (by decide) ?_
  have hPc := hP.sub (ws' := []) [] rfl
  have hKc := hK.sub (tys' := []) [] rfl
  refine va_calli (va_runS (As := [.int p0, .int 2, .int 5]) (rest := []) ⟨hx, hb, hml, hown, hts⟩ (k_within_t l D eT p0 2 5 s.heap.size h1 h2) (va_cwS 3 hts gX4_shortList_X4_isWithin rfl rfl rfl (by decide +kernel) ⟨Nat.le_of_ble_eq_true rfl, Nat.le_of_ble_eq_true rfl⟩) (pr_s hPc hKc hE hS hA) rfl rfl hl.1 rfl (lv_room (Nat.le_of_ble_eq_true rfl)) dX4_shortList_3 ⟨Nat.le_of_ble_eq_true rfl, Nat.le_of_ble_eq_true rfl⟩) hS (fun q h1 h2 => ro_A h1 h2) (fun q h => ro_F hS hA q h) (fun r u t H1 locs ht hvm hw hB hz1 hk1 hS => ?_)
  have hw : r = 1 := hw
  rw [hw]
  have hP := ro_P hP hk1
  generalize H1 = H at hP hS ⊢
  refine lv_if_ne (tgt := 19) hx hb dX4_shortList_6 (by decide) (fun _ => ?_) (fun h => absurd h (by decide))
  refine lv_aload_n hx hb dX4_shortList_19 rfl (lv_at hl 0 rfl) ?_
  refine va_get (D := D) (ci := 7) (v := .int 0) (C := RX4) (T := TX4) (N := 19) hx hb hts (by decide +kernel) hown hK hP 0 rfl rfl 9 (by decide) (hts (.fieldLink RX4 37 "PrizeHouse" "phase" "I") (by decide +kernel)) (fun _ h9 => h9) rfl dX4_shortList_20 ?_
  refine lv_iconst (v := 2) hx hb dX4_shortList_23 (by decide) ?_
  refine lv_icmp_eq (tgt := 37) hx hb dX4_shortList_24 (by decide) (fun h => absurd h (by decide)) (fun _ => ?_)
  obtain ⟨sa_1, hsa_1⟩ := hE.str 18 rfl
  exact vx_throwS (A := fun q => s.heap.size ≤ q) hx hb hl0 hown fit_ISE fit_RE (hts (.classLink RX4 57 eISE) (by decide +kernel)) (hts (.initialized eISE) (by decide +kernel)) hsa_1 (hat_ISE (fun w h => hts w (List.mem_cons_of_mem _ (List.mem_append_right _ h))) hE.1 hE.2.2.1) good_ISE hE.2.2.2.1 hE.2.2.2.2.1 hS (hl.1.trans hml.symm) dX4_shortList_27 dX4_shortList_30 dX4_shortList_31 dX4_shortList_33 dX4_shortList_36 (fun x hx9 => (hno x hx9).elim) (Nat.le_of_ble_eq_true rfl) (Nat.le_of_ble_eq_true rfl) (Nat.le_of_ble_eq_true rfl) (Nat.le_of_ble_eq_true rfl) hlocks (fun t _ h1 h2 => xr_in hS h1 h2) hS.2.2 (Nat.le_of_ble_eq_true rfl) (Nat.le_of_ble_eq_true rfl)
set_option maxHeartbeats 4000000 in
set_option maxRecDepth 100000 in
theorem k_enteredCount (l : Launch) (D : va_G) (eT : Nat) (h0 : Nat) (aH : Nat) (aB : Nat) (aJ : Nat) (rN : Nat) (rX : Nat) (aV : Nat) (sz : Nat) : Met l yX4_enteredCount wsX4_enteredCount ({ frames := 0, cells := 0, slots := 0, locals := 0 }) (va_Pc [.ref h0] (pr D eT sz [(h0, .inr (7, [.ref aH, .ref aB, .ref aJ, .int 0, .int 0, .int 0, .ref rN, .ref rX, .int 0, .int 0, .int 0, .int 0, .int 0, .int 0, .int (-1), .int (-1), .int 0, .int 0, .ref aV]))] [])) (va_Qi (fun (r : Int32) (_ : Unit) => r = 0) (fun _ _ => True) (fun q => sz ≤ q)) 0 0 (fun q => sz ≤ q) := by
  refine Met.ofW (cc := cX4_enteredCount) (maxL := 3) (ret := (some .int)) (by decide +kernel) rfl ?_
  intro p e s m args below meth c s₁ B hml hv
  obtain ⟨rfl, hsz, hP, hK, hE⟩ := hv
  have hx := B.exec
  have hb := B.bytes
  have hr := B.returns
  have hts := atoms_spec (ws := wsX4_enteredCount) B.pre
  have hown : s.vm.findClass RX4 = some m.cls := findClass_of_methodNamed B.named
  have hlocks := B.notSynchronized
  subst hsz
  have hA : ∀ q : Nat, s.heap.size ≤ q → (fun q : Nat => s.heap.size ≤ q) q := fun _ h => h
  have hS : va_S (fun q : Nat => s.heap.size ≤ q) s.heap s.heap [] := va_S.rf
  have hP : va_P D vwCl [(h0, .inr (7, [.ref aH, .ref aB, .ref aJ, .int 0, .int 0, .int 0, .ref rN, .ref rX, .int 0, .int 0, .int 0, .int 0, .int 0, .int 0, .int (-1), .int (-1), .int 0, .int 0, .ref aV]))] s.heap := hP
  have hl := lv_entry ([.ref h0]) (n := 3) (Nat.le_of_ble_eq_true rfl)
  rw [lg_entry_eq]
  generalize (lg_sl ([.ref h0]) ++ List.replicate (3 - (lg_sl ([.ref h0])).length) Slot.unset).toArray = ls at hl ⊢
  have hl : lv_has ls 3 [(0, .ref h0)] := hl
  refine lv_iconst (v := 0) hx hb dX4_enteredCount_0 (by decide) ?_
  refine lv_istore_n (lv' := [(1, .int 0), (0, .ref h0)]) hx hb dX4_enteredCount_1 rfl hl (by decide) rfl (fun ls hl => ?_)
  refine lv_iconst (v := 0) hx hb dX4_enteredCount_2 (by decide) ?_
  refine lv_istore_n (lv' := [(2, .int 0), (1, .int 0), (0, .ref h0)]) hx hb dX4_enteredCount_3 rfl hl (by decide) rfl (fun ls hl => ?_)
  refine lv_iload_n hx hb dX4_enteredCount_4 rfl (lv_at hl 0 rfl) ?_
  refine lv_aload_n hx hb dX4_enteredCount_5 rfl (lv_at hl 2 rfl) ?_
  refine va_get (D := D) (ci := 7) (v := .int 0) (C := RX4) (T := TX4) (N := 19) hx hb hts (by decide +kernel) hown hK hP 0 rfl rfl 4 (by decide) (hts (.fieldLink RX4 85 "PrizeHouse" "bookCount" "I") (by decide +kernel)) (fun _ h9 => h9) rfl dX4_enteredCount_6 ?_
  refine lv_icmp_ge (tgt := 29) hx hb dX4_enteredCount_9 (by decide) (fun _ => ?_) (fun h => absurd (by decide) h)
  refine lv_iload_n hx hb dX4_enteredCount_29 rfl (lv_at hl 1 rfl) ?_
  exact W.iret (v := 0) hx hb hr (fun t ht hW => ⟨⟨0, (), rfl, rfl, trivial⟩, hS.F ht⟩) hS.2.2 dX4_enteredCount_30
set_option maxHeartbeats 4000000 in
set_option maxRecDepth 100000 in
theorem k_soldEver (l : Launch) (D : va_G) (eT : Nat) (h0 : Nat) (aH : Nat) (aB : Nat) (aJ : Nat) (rN : Nat) (rX : Nat) (aV : Nat) (sz : Nat) : Met l yX4_soldEver wsX4_soldEver ({ frames := 0, cells := 0, slots := 0, locals := 0 }) (va_Pc [.ref h0] (pr D eT sz [(h0, .inr (7, [.ref aH, .ref aB, .ref aJ, .int 0, .int 0, .int 0, .ref rN, .ref rX, .int 0, .int 0, .int 0, .int 0, .int 0, .int 0, .int (-1), .int (-1), .int 0, .int 0, .ref aV]))] [])) (va_Qi (fun (r : Int32) (_ : Unit) => r = 0) (fun _ _ => True) (fun q => sz ≤ q)) 0 0 (fun q => sz ≤ q) := by
  refine Met.ofW (cc := cX4_soldEver) (maxL := 3) (ret := (some .int)) (by decide +kernel) rfl ?_
  intro p e s m args below meth c s₁ B hml hv
  obtain ⟨rfl, hsz, hP, hK, hE⟩ := hv
  have hx := B.exec
  have hb := B.bytes
  have hr := B.returns
  have hts := atoms_spec (ws := wsX4_soldEver) B.pre
  have hown : s.vm.findClass RX4 = some m.cls := findClass_of_methodNamed B.named
  have hlocks := B.notSynchronized
  subst hsz
  have hA : ∀ q : Nat, s.heap.size ≤ q → (fun q : Nat => s.heap.size ≤ q) q := fun _ h => h
  have hS : va_S (fun q : Nat => s.heap.size ≤ q) s.heap s.heap [] := va_S.rf
  have hP : va_P D vwCl [(h0, .inr (7, [.ref aH, .ref aB, .ref aJ, .int 0, .int 0, .int 0, .ref rN, .ref rX, .int 0, .int 0, .int 0, .int 0, .int 0, .int 0, .int (-1), .int (-1), .int 0, .int 0, .ref aV]))] s.heap := hP
  have hl := lv_entry ([.ref h0]) (n := 3) (Nat.le_of_ble_eq_true rfl)
  rw [lg_entry_eq]
  generalize (lg_sl ([.ref h0]) ++ List.replicate (3 - (lg_sl ([.ref h0])).length) Slot.unset).toArray = ls at hl ⊢
  have hl : lv_has ls 3 [(0, .ref h0)] := hl
  refine lv_iconst (v := 0) hx hb dX4_soldEver_0 (by decide) ?_
  refine lv_istore_n (lv' := [(1, .int 0), (0, .ref h0)]) hx hb dX4_soldEver_1 rfl hl (by decide) rfl (fun ls hl => ?_)
  refine lv_iconst (v := 0) hx hb dX4_soldEver_2 (by decide) ?_
  refine lv_istore_n (lv' := [(2, .int 0), (1, .int 0), (0, .ref h0)]) hx hb dX4_soldEver_3 rfl hl (by decide) rfl (fun ls hl => ?_)
  refine lv_iload_n hx hb dX4_soldEver_4 rfl (lv_at hl 0 rfl) ?_
  refine lv_aload_n hx hb dX4_soldEver_5 rfl (lv_at hl 2 rfl) ?_
  refine va_get (D := D) (ci := 7) (v := .int 0) (C := RX4) (T := TX4) (N := 19) hx hb hts (by decide +kernel) hown hK hP 0 rfl rfl 4 (by decide) (hts (.fieldLink RX4 85 "PrizeHouse" "bookCount" "I") (by decide +kernel)) (fun _ h9 => h9) rfl dX4_soldEver_6 ?_
  refine lv_icmp_ge (tgt := 30) hx hb dX4_soldEver_9 (by decide) (fun _ => ?_) (fun h => absurd (by decide) h)
  refine lv_iload_n hx hb dX4_soldEver_30 rfl (lv_at hl 1 rfl) ?_
  exact W.iret (v := 0) hx hb hr (fun t ht hW => ⟨⟨0, (), rfl, rfl, trivial⟩, hS.F ht⟩) hS.2.2 dX4_soldEver_31
set_option maxHeartbeats 4000000 in
set_option maxRecDepth 100000 in
theorem k_missedEver (l : Launch) (D : va_G) (eT : Nat) (h0 : Nat) (aH : Nat) (aB : Nat) (aJ : Nat) (rN : Nat) (rX : Nat) (aV : Nat) (sz : Nat) : Met l yX4_missedEver wsX4_missedEver ({ frames := 0, cells := 0, slots := 0, locals := 0 }) (va_Pc [.ref h0] (pr D eT sz [(h0, .inr (7, [.ref aH, .ref aB, .ref aJ, .int 0, .int 0, .int 0, .ref rN, .ref rX, .int 0, .int 0, .int 0, .int 0, .int 0, .int 0, .int (-1), .int (-1), .int 0, .int 0, .ref aV]))] [])) (va_Qi (fun (r : Int32) (_ : Unit) => r = 0) (fun _ _ => True) (fun q => sz ≤ q)) 0 0 (fun q => sz ≤ q) := by
  refine Met.ofW (cc := cX4_missedEver) (maxL := 3) (ret := (some .int)) (by decide +kernel) rfl ?_
  intro p e s m args below meth c s₁ B hml hv
  obtain ⟨rfl, hsz, hP, hK, hE⟩ := hv
  have hx := B.exec
  have hb := B.bytes
  have hr := B.returns
  have hts := atoms_spec (ws := wsX4_missedEver) B.pre
  have hown : s.vm.findClass RX4 = some m.cls := findClass_of_methodNamed B.named
  have hlocks := B.notSynchronized
  subst hsz
  have hA : ∀ q : Nat, s.heap.size ≤ q → (fun q : Nat => s.heap.size ≤ q) q := fun _ h => h
  have hS : va_S (fun q : Nat => s.heap.size ≤ q) s.heap s.heap [] := va_S.rf
  have hP : va_P D vwCl [(h0, .inr (7, [.ref aH, .ref aB, .ref aJ, .int 0, .int 0, .int 0, .ref rN, .ref rX, .int 0, .int 0, .int 0, .int 0, .int 0, .int 0, .int (-1), .int (-1), .int 0, .int 0, .ref aV]))] s.heap := hP
  have hl := lv_entry ([.ref h0]) (n := 3) (Nat.le_of_ble_eq_true rfl)
  rw [lg_entry_eq]
  generalize (lg_sl ([.ref h0]) ++ List.replicate (3 - (lg_sl ([.ref h0])).length) Slot.unset).toArray = ls at hl ⊢
  have hl : lv_has ls 3 [(0, .ref h0)] := hl
  refine lv_iconst (v := 0) hx hb dX4_missedEver_0 (by decide) ?_
  refine lv_istore_n (lv' := [(1, .int 0), (0, .ref h0)]) hx hb dX4_missedEver_1 rfl hl (by decide) rfl (fun ls hl => ?_)
  refine lv_iconst (v := 0) hx hb dX4_missedEver_2 (by decide) ?_
  refine lv_istore_n (lv' := [(2, .int 0), (1, .int 0), (0, .ref h0)]) hx hb dX4_missedEver_3 rfl hl (by decide) rfl (fun ls hl => ?_)
  refine lv_iload_n hx hb dX4_missedEver_4 rfl (lv_at hl 0 rfl) ?_
  refine lv_aload_n hx hb dX4_missedEver_5 rfl (lv_at hl 2 rfl) ?_
  refine va_get (D := D) (ci := 7) (v := .int 0) (C := RX4) (T := TX4) (N := 19) hx hb hts (by decide +kernel) hown hK hP 0 rfl rfl 4 (by decide) (hts (.fieldLink RX4 85 "PrizeHouse" "bookCount" "I") (by decide +kernel)) (fun _ h9 => h9) rfl dX4_missedEver_6 ?_
  refine lv_icmp_ge (tgt := 30) hx hb dX4_missedEver_9 (by decide) (fun _ => ?_) (fun h => absurd (by decide) h)
  refine lv_iload_n hx hb dX4_missedEver_30 rfl (lv_at hl 1 rfl) ?_
  exact W.iret (v := 0) hx hb hr (fun t ht hW => ⟨⟨0, (), rfl, rfl, trivial⟩, hS.F ht⟩) hS.2.2 dX4_missedEver_31
set_option maxHeartbeats 4000000 in
set_option maxRecDepth 100000 in
theorem k_bitCount0 (l : Launch) (D : va_G) (eT : Nat) (sz : Nat) : Met l yJ6_bitCount_0f7a4 wsJ6_bitCount_0f7a4 ({ frames := 0, cells := 0, slots := 0, locals := 0 }) (va_Pc [.int 0] (pr D eT sz [] [])) (va_Qi (fun (r : Int32) (_ : Unit) => r = 0) (fun _ _ => True) (fun q => sz ≤ q)) 0 0 (fun q => sz ≤ q) := by
  refine Met.ofW (cc := cJ6_bitCount_0f7a4) (maxL := 1) (ret := (some .int)) (by decide +kernel) rfl ?_
  intro p e s m args below meth c s₁ B hml hv
  obtain ⟨rfl, hsz, hP, hK, hE⟩ := hv
  have hx := B.exec
  have hb := B.bytes
  have hr := B.returns
  have hts := atoms_spec (ws := wsJ6_bitCount_0f7a4) B.pre
  have hown : s.vm.findClass RJ6 = some m.cls := findClass_of_methodNamed B.named
  have hlocks := B.notSynchronized
  subst hsz
  have hA : ∀ q : Nat, s.heap.size ≤ q → (fun q : Nat => s.heap.size ≤ q) q := fun _ h => h
  have hS : va_S (fun q : Nat => s.heap.size ≤ q) s.heap s.heap [] := va_S.rf
  have hP : va_P D vwCl [] s.heap := hP
  have hl := lv_entry ([.int 0]) (n := 1) (Nat.le_of_ble_eq_true rfl)
  rw [lg_entry_eq]
  generalize (lg_sl ([.int 0]) ++ List.replicate (1 - (lg_sl ([.int 0])).length) Slot.unset).toArray = ls at hl ⊢
  have hl : lv_has ls 1 [(0, .int 0)] := hl
  refine lv_iload_n hx hb dJ6_bitCount_0f7a4_0 rfl (lv_at hl 0 rfl) ?_
  refine lv_iload_n hx hb dJ6_bitCount_0f7a4_1 rfl (lv_at hl 0 rfl) ?_
  refine lv_iconst (v := 1) hx hb dJ6_bitCount_0f7a4_2 (by decide) ?_
  refine lv_iushr (v := 0) hx hb dJ6_bitCount_0f7a4_3 (by decide +kernel) ?_
  refine lv_ldcw (v := 1431655765) hx hb hown (hts (.constant RJ6 265 (1431655765)) (by decide +kernel)) dJ6_bitCount_0f7a4_4 ?_
  refine lv_iand hx hb dJ6_bitCount_0f7a4_7 ?_
  refine lv_topi (fun z_1 ez_1 => ?_)
  have ez_1 : z_1 = 0 := ez_1.trans (by decide +kernel)
  rw [ez_1]
  refine lv_isub hx hb dJ6_bitCount_0f7a4_8 ?_
  refine lv_topi (fun z_2 ez_2 => ?_)
  have ez_2 : z_2 = 0 := ez_2.trans (by decide +kernel)
  rw [ez_2]
  refine lv_istore_n (lv' := [(0, .int 0)]) hx hb dJ6_bitCount_0f7a4_9 rfl hl (by decide) rfl (fun ls hl => ?_)
  refine lv_iload_n hx hb dJ6_bitCount_0f7a4_10 rfl (lv_at hl 0 rfl) ?_
  refine lv_ldcw (v := 858993459) hx hb hown (hts (.constant RJ6 266 (858993459)) (by decide +kernel)) dJ6_bitCount_0f7a4_11 ?_
  refine lv_iand hx hb dJ6_bitCount_0f7a4_14 ?_
  refine lv_topi (fun z_3 ez_3 => ?_)
  have ez_3 : z_3 = 0 := ez_3.trans (by decide +kernel)
  rw [ez_3]
  refine lv_iload_n hx hb dJ6_bitCount_0f7a4_15 rfl (lv_at hl 0 rfl) ?_
  refine lv_iconst (v := 2) hx hb dJ6_bitCount_0f7a4_16 (by decide) ?_
  refine lv_iushr (v := 0) hx hb dJ6_bitCount_0f7a4_17 (by decide +kernel) ?_
  refine lv_ldcw (v := 858993459) hx hb hown (hts (.constant RJ6 266 (858993459)) (by decide +kernel)) dJ6_bitCount_0f7a4_18 ?_
  refine lv_iand hx hb dJ6_bitCount_0f7a4_21 ?_
  refine lv_topi (fun z_4 ez_4 => ?_)
  have ez_4 : z_4 = 0 := ez_4.trans (by decide +kernel)
  rw [ez_4]
  refine lv_iadd hx hb dJ6_bitCount_0f7a4_22 ?_
  refine lv_topi (fun z_5 ez_5 => ?_)
  have ez_5 : z_5 = 0 := ez_5.trans (by decide +kernel)
  rw [ez_5]
  refine lv_istore_n (lv' := [(0, .int 0)]) hx hb dJ6_bitCount_0f7a4_23 rfl hl (by decide) rfl (fun ls hl => ?_)
  refine lv_iload_n hx hb dJ6_bitCount_0f7a4_24 rfl (lv_at hl 0 rfl) ?_
  refine lv_iload_n hx hb dJ6_bitCount_0f7a4_25 rfl (lv_at hl 0 rfl) ?_
  refine lv_iconst (v := 4) hx hb dJ6_bitCount_0f7a4_26 (by decide) ?_
  refine lv_iushr (v := 0) hx hb dJ6_bitCount_0f7a4_27 (by decide +kernel) ?_
  refine lv_iadd hx hb dJ6_bitCount_0f7a4_28 ?_
  refine lv_topi (fun z_6 ez_6 => ?_)
  have ez_6 : z_6 = 0 := ez_6.trans (by decide +kernel)
  rw [ez_6]
  refine lv_ldcw (v := 252645135) hx hb hown (hts (.constant RJ6 267 (252645135)) (by decide +kernel)) dJ6_bitCount_0f7a4_29 ?_
  refine lv_iand hx hb dJ6_bitCount_0f7a4_32 ?_
  refine lv_topi (fun z_7 ez_7 => ?_)
  have ez_7 : z_7 = 0 := ez_7.trans (by decide +kernel)
  rw [ez_7]
  refine lv_istore_n (lv' := [(0, .int 0)]) hx hb dJ6_bitCount_0f7a4_33 rfl hl (by decide) rfl (fun ls hl => ?_)
  refine lv_iload_n hx hb dJ6_bitCount_0f7a4_34 rfl (lv_at hl 0 rfl) ?_
  refine lv_iload_n hx hb dJ6_bitCount_0f7a4_35 rfl (lv_at hl 0 rfl) ?_
  refine lv_bipush (v := 8) hx hb dJ6_bitCount_0f7a4_36 (by decide) ?_
  refine lv_iushr (v := 0) hx hb dJ6_bitCount_0f7a4_38 (by decide +kernel) ?_
  refine lv_iadd hx hb dJ6_bitCount_0f7a4_39 ?_
  refine lv_topi (fun z_8 ez_8 => ?_)
  have ez_8 : z_8 = 0 := ez_8.trans (by decide +kernel)
  rw [ez_8]
  refine lv_istore_n (lv' := [(0, .int 0)]) hx hb dJ6_bitCount_0f7a4_40 rfl hl (by decide) rfl (fun ls hl => ?_)
  refine lv_iload_n hx hb dJ6_bitCount_0f7a4_41 rfl (lv_at hl 0 rfl) ?_
  refine lv_iload_n hx hb dJ6_bitCount_0f7a4_42 rfl (lv_at hl 0 rfl) ?_
  refine lv_bipush (v := 16) hx hb dJ6_bitCount_0f7a4_43 (by decide) ?_
  refine lv_iushr (v := 0) hx hb dJ6_bitCount_0f7a4_45 (by decide +kernel) ?_
  refine lv_iadd hx hb dJ6_bitCount_0f7a4_46 ?_
  refine lv_topi (fun z_9 ez_9 => ?_)
  have ez_9 : z_9 = 0 := ez_9.trans (by decide +kernel)
  rw [ez_9]
  refine lv_istore_n (lv' := [(0, .int 0)]) hx hb dJ6_bitCount_0f7a4_47 rfl hl (by decide) rfl (fun ls hl => ?_)
  refine lv_iload_n hx hb dJ6_bitCount_0f7a4_48 rfl (lv_at hl 0 rfl) ?_
  refine lv_bipush (v := 63) hx hb dJ6_bitCount_0f7a4_49 (by decide) ?_
  refine lv_iand hx hb dJ6_bitCount_0f7a4_51 ?_
  refine lv_topi (fun z_10 ez_10 => ?_)
  have ez_10 : z_10 = 0 := ez_10.trans (by decide +kernel)
  rw [ez_10]
  exact W.iret (v := 0) hx hb hr (fun t ht hW => ⟨⟨0, (), rfl, rfl, trivial⟩, hS.F ht⟩) hS.2.2 dJ6_bitCount_0f7a4_52
set_option maxHeartbeats 4000000 in
set_option maxRecDepth 100000 in
theorem k_readForDay (l : Launch) (D : va_G) (eT : Nat) (h0 : Nat) (aH : Nat) (aB : Nat) (aJ : Nat) (rN : Nat) (rX : Nat) (aV : Nat) (sz : Nat) : Met l yX4_readForDay wsX4_readForDay ({ frames := 0, cells := 0, slots := 0, locals := 0 }) (va_Pc [.ref h0] (pr D eT sz [(h0, .inr (7, [.ref aH, .ref aB, .ref aJ, .int 0, .int 0, .int 0, .ref rN, .ref rX, .int 0, .int 0, .int 0, .int 0, .int 0, .int 0, .int (-1), .int (-1), .int 0, .int 0, .ref aV]))] [])) (va_Qi (fun (r : Int32) (_ : Unit) => r = 0) (fun _ _ => True) (fun q => sz ≤ q)) 0 0 (fun q => sz ≤ q) := by
  refine Met.ofW (cc := cX4_readForDay) (maxL := 3) (ret := (some .int)) (by decide +kernel) rfl ?_
  intro p e s m args below meth c s₁ B hml hv
  obtain ⟨rfl, hsz, hP, hK, hE⟩ := hv
  have hx := B.exec
  have hb := B.bytes
  have hr := B.returns
  have hts := atoms_spec (ws := wsX4_readForDay) B.pre
  have hown : s.vm.findClass RX4 = some m.cls := findClass_of_methodNamed B.named
  have hlocks := B.notSynchronized
  subst hsz
  have hA : ∀ q : Nat, s.heap.size ≤ q → (fun q : Nat => s.heap.size ≤ q) q := fun _ h => h
  have hS : va_S (fun q : Nat => s.heap.size ≤ q) s.heap s.heap [] := va_S.rf
  have hP : va_P D vwCl [(h0, .inr (7, [.ref aH, .ref aB, .ref aJ, .int 0, .int 0, .int 0, .ref rN, .ref rX, .int 0, .int 0, .int 0, .int 0, .int 0, .int 0, .int (-1), .int (-1), .int 0, .int 0, .ref aV]))] s.heap := hP
  have hl := lv_entry ([.ref h0]) (n := 3) (Nat.le_of_ble_eq_true rfl)
  rw [lg_entry_eq]
  generalize (lg_sl ([.ref h0]) ++ List.replicate (3 - (lg_sl ([.ref h0])).length) Slot.unset).toArray = ls at hl ⊢
  have hl : lv_has ls 3 [(0, .ref h0)] := hl
  refine lv_iconst (v := 0) hx hb dX4_readForDay_0 (by decide) ?_
  refine lv_istore_n (lv' := [(1, .int 0), (0, .ref h0)]) hx hb dX4_readForDay_1 rfl hl (by decide) rfl (fun ls hl => ?_)
  refine lv_aload_n hx hb dX4_readForDay_2 rfl (lv_at hl 1 rfl) ?_
  refine va_get (D := D) (ci := 7) (v := .int 0) (C := RX4) (T := TX4) (N := 19) hx hb hts (by decide +kernel) hown hK hP 0 rfl rfl 9 (by decide) (hts (.fieldLink RX4 37 "PrizeHouse" "phase" "I") (by decide +kernel)) (fun _ h9 => h9) rfl dX4_readForDay_3 ?_
  refine lv_iconst (v := 1) hx hb dX4_readForDay_6 (by decide) ?_
  refine lv_icmp_ne (tgt := 42) hx hb dX4_readForDay_7 (by decide) (fun _ => ?_) (fun h => absurd h (by decide))
  refine lv_iload_n hx hb dX4_readForDay_42 rfl (lv_at hl 0 rfl) ?_
  exact W.iret (v := 0) hx hb hr (fun t ht hW => ⟨⟨0, (), rfl, rfl, trivial⟩, hS.F ht⟩) hS.2.2 dX4_readForDay_43
set_option maxHeartbeats 4000000 in
set_option maxRecDepth 100000 in
theorem k_sellFor (l : Launch) (D : va_G) (eT : Nat) (h0 : Nat) (aH : Nat) (aB : Nat) (aJ : Nat) (rN : Nat) (rX : Nat) (aV : Nat) (p0 : Int32) (sz : Nat) : Met l yX4_sellFor wsX4_sellFor ({ frames := 0, cells := 0, slots := 0, locals := 0 }) (va_Pc [.ref h0, .int p0] (pr D eT sz [(h0, .inr (7, [.ref aH, .ref aB, .ref aJ, .int 0, .int 0, .int 0, .ref rN, .ref rX, .int 0, .int 0, .int 0, .int 0, .int 0, .int 0, .int (-1), .int (-1), .int 0, .int 0, .ref aV]))] [])) (va_Qv (fun (_ : Unit) => True) (fun _ _ => True) (fun q => sz ≤ q)) 0 0 (fun q => sz ≤ q) := by
  refine Met.ofW (cc := cX4_sellFor) (maxL := 4) (ret := none) (by decide +kernel) rfl ?_
  intro p e s m args below meth c s₁ B hml hv
  obtain ⟨rfl, hsz, hP, hK, hE⟩ := hv
  have hx := B.exec
  have hb := B.bytes
  have hr := B.returns
  have hts := atoms_spec (ws := wsX4_sellFor) B.pre
  have hown : s.vm.findClass RX4 = some m.cls := findClass_of_methodNamed B.named
  have hlocks := B.notSynchronized
  subst hsz
  have hA : ∀ q : Nat, s.heap.size ≤ q → (fun q : Nat => s.heap.size ≤ q) q := fun _ h => h
  have hS : va_S (fun q : Nat => s.heap.size ≤ q) s.heap s.heap [] := va_S.rf
  have hP : va_P D vwCl [(h0, .inr (7, [.ref aH, .ref aB, .ref aJ, .int 0, .int 0, .int 0, .ref rN, .ref rX, .int 0, .int 0, .int 0, .int 0, .int 0, .int 0, .int (-1), .int (-1), .int 0, .int 0, .ref aV]))] s.heap := hP
  have hl := lv_entry ([.ref h0, .int p0]) (n := 4) (Nat.le_of_ble_eq_true rfl)
  rw [lg_entry_eq]
  generalize (lg_sl ([.ref h0, .int p0]) ++ List.replicate (4 - (lg_sl ([.ref h0, .int p0])).length) Slot.unset).toArray = ls at hl ⊢
  have hl : lv_has ls 4 [(0, .ref h0), (1, .int p0)] := hl
  refine lv_iconst (v := 0) hx hb dX4_sellFor_0 (by decide) ?_
  refine lv_istore_n (lv' := [(2, .int 0), (0, .ref h0), (1, .int p0)]) hx hb dX4_sellFor_1 rfl hl (by decide) rfl (fun ls hl => ?_)
  refine lv_iload_n hx hb dX4_sellFor_2 rfl (lv_at hl 0 rfl) ?_
  refine lv_aload_n hx hb dX4_sellFor_3 rfl (lv_at hl 1 rfl) ?_
  refine va_get (D := D) (ci := 7) (v := .int 0) (C := RX4) (T := TX4) (N := 19) hx hb hts (by decide +kernel) hown hK hP 0 rfl rfl 4 (by decide) (hts (.fieldLink RX4 85 "PrizeHouse" "bookCount" "I") (by decide +kernel)) (fun _ h9 => h9) rfl dX4_sellFor_4 ?_
  refine lv_icmp_ge (tgt := 56) hx hb dX4_sellFor_7 (by decide) (fun _ => ?_) (fun h => absurd (by decide) h)
  exact W.vret hx hb hr (fun t ht hW => ⟨⟨(), rfl, trivial, trivial⟩, hS.F ht⟩) hS.2.2 dX4_sellFor_56
set_option maxHeartbeats 4000000 in
set_option maxRecDepth 100000 in
theorem k_winnerWithout (l : Launch) (D : va_G) (eT : Nat) (h0 : Nat) (aH : Nat) (aB : Nat) (aJ : Nat) (rN : Nat) (rX : Nat) (aV : Nat) (p0 : Int32) (sz : Nat) : Met l yX4_winnerWithout wsX4_winnerWithout ({ frames := 0, cells := 0, slots := 0, locals := 0 }) (va_Pc [.ref h0, .int 0, .int p0] (pr D eT sz [(h0, .inr (7, [.ref aH, .ref aB, .ref aJ, .int 0, .int 0, .int 0, .ref rN, .ref rX, .int 0, .int 0, .int 0, .int 0, .int 0, .int 0, .int (-1), .int (-1), .int 0, .int 0, .ref aV]))] [])) (va_Qi (fun (r : Int32) (_ : Unit) => r = (-1)) (fun _ _ => True) (fun q => sz ≤ q)) 0 0 (fun q => sz ≤ q) := by
  refine Met.ofW (cc := cX4_winnerWithout) (maxL := 8) (ret := (some .int)) (by decide +kernel) rfl ?_
  intro p e s m args below meth c s₁ B hml hv
  obtain ⟨rfl, hsz, hP, hK, hE⟩ := hv
  have hx := B.exec
  have hb := B.bytes
  have hr := B.returns
  have hts := atoms_spec (ws := wsX4_winnerWithout) B.pre
  have hown : s.vm.findClass RX4 = some m.cls := findClass_of_methodNamed B.named
  have hlocks := B.notSynchronized
  subst hsz
  have hA : ∀ q : Nat, s.heap.size ≤ q → (fun q : Nat => s.heap.size ≤ q) q := fun _ h => h
  have hS : va_S (fun q : Nat => s.heap.size ≤ q) s.heap s.heap [] := va_S.rf
  have hP : va_P D vwCl [(h0, .inr (7, [.ref aH, .ref aB, .ref aJ, .int 0, .int 0, .int 0, .ref rN, .ref rX, .int 0, .int 0, .int 0, .int 0, .int 0, .int 0, .int (-1), .int (-1), .int 0, .int 0, .ref aV]))] s.heap := hP
  have hl := lv_entry ([.ref h0, .int 0, .int p0]) (n := 8) (Nat.le_of_ble_eq_true rfl)
  rw [lg_entry_eq]
  generalize (lg_sl ([.ref h0, .int 0, .int p0]) ++ List.replicate (8 - (lg_sl ([.ref h0, .int 0, .int p0])).length) Slot.unset).toArray = ls at hl ⊢
  have hl : lv_has ls 8 [(0, .ref h0), (1, .int 0), (2, .int p0)] := hl
  refine lv_aload_n hx hb dX4_winnerWithout_0 rfl (lv_at hl 0 rfl) ?_
  refine va_get (D := D) (ci := 7) (v := .int 0) (C := RX4) (T := TX4) (N := 19) hx hb hts (by decide +kernel) hown hK hP 0 rfl rfl 13 (by decide) (hts (.fieldLink RX4 246 "PrizeHouse" "shortSet" "I") (by decide +kernel)) (fun _ h9 => h9) rfl dX4_winnerWithout_1 ?_
  refine lv_aload_n hx hb dX4_winnerWithout_4 rfl (lv_at hl 0 rfl) ?_
  refine va_get (D := D) (ci := 7) (v := .int 0) (C := RX4) (T := TX4) (N := 19) hx hb hts (by decide +kernel) hown hK hP 0 rfl rfl 17 (by decide) (hts (.fieldLink RX4 273 "PrizeHouse" "strippedSet" "I") (by decide +kernel)) (fun _ h9 => h9) rfl dX4_winnerWithout_5 ?_
  refine lv_iconst (v := (-1)) hx hb dX4_winnerWithout_8 (by decide) ?_
  refine lv_ixor hx hb dX4_winnerWithout_9 ?_
  refine lv_topi (fun z_1 ez_1 => ?_)
  have ez_1 : z_1 = (-1) := ez_1.trans (by decide +kernel)
  rw [ez_1]
  refine lv_iand hx hb dX4_winnerWithout_10 ?_
  refine lv_topi (fun z_2 ez_2 => ?_)
  have ez_2 : z_2 = 0 := ez_2.trans (by decide +kernel)
  rw [ez_2]
  refine lv_iload_n hx hb dX4_winnerWithout_11 rfl (lv_at hl 1 rfl) ?_
  refine lv_iconst (v := (-1)) hx hb dX4_winnerWithout_12 (by decide) ?_
  refine lv_ixor hx hb dX4_winnerWithout_13 ?_
  refine lv_topi (fun z_3 ez_3 => ?_)
  have ez_3 : z_3 = (-1) := ez_3.trans (by decide +kernel)
  rw [ez_3]
  refine lv_iand hx hb dX4_winnerWithout_14 ?_
  refine lv_topi (fun z_4 ez_4 => ?_)
  have ez_4 : z_4 = 0 := ez_4.trans (by decide +kernel)
  rw [ez_4]
  refine lv_istore_n (lv' := [(3, .int 0), (0, .ref h0), (1, .int 0), (2, .int p0)]) hx hb dX4_winnerWithout_15 rfl hl (by decide) rfl (fun ls hl => ?_)
  refine lv_iconst (v := (-1)) hx hb dX4_winnerWithout_16 (by decide) ?_
  refine lv_istore (lv' := [(4, .int (-1)), (3, .int 0), (0, .ref h0), (1, .int 0), (2, .int p0)]) hx hb dX4_winnerWithout_17 hl (by decide) rfl (fun ls hl => ?_)
  refine lv_iconst (v := 0) hx hb dX4_winnerWithout_19 (by decide) ?_
  refine lv_istore (lv' := [(5, .int 0), (4, .int (-1)), (3, .int 0), (0, .ref h0), (1, .int 0), (2, .int p0)]) hx hb dX4_winnerWithout_20 hl (by decide) rfl (fun ls hl => ?_)
  refine lv_iload hx hb dX4_winnerWithout_22 (lv_at hl 0 rfl) ?_
  refine lv_bipush (v := 16) hx hb dX4_winnerWithout_24 (by decide) ?_
  refine lv_icmp_ge (tgt := 82) hx hb dX4_winnerWithout_26 (by decide) (fun h => absurd h (by decide)) (fun _ => ?_)
  refine lv_iload_n hx hb dX4_winnerWithout_29 rfl (lv_at hl 2 rfl) ?_
  refine lv_if_eq (tgt := 82) hx hb dX4_winnerWithout_30 (by decide) (fun _ => ?_) (fun h => absurd (by decide) h)
  refine lv_iload hx hb dX4_winnerWithout_82 (lv_at hl 1 rfl) ?_
  exact W.iret (v := (-1)) hx hb hr (fun t ht hW => ⟨⟨(-1), (), rfl, rfl, trivial⟩, hS.F ht⟩) hS.2.2 dX4_winnerWithout_84
set_option maxHeartbeats 4000000 in
set_option maxRecDepth 100000 in
theorem k_wins (l : Launch) (D : va_G) (eT : Nat) (h0 : Nat) (aH : Nat) (aB : Nat) (aJ : Nat) (rN : Nat) (rX : Nat) (aV : Nat) (p0 : Int32) (sz : Nat) (h1 : 0 ≤ p0) (h2 : p0 ≤ 31) : Met l yX4_wins wsX4_wins ({ frames := 1, cells := 0, slots := 0, locals := 27 }) (va_Pc [.ref h0, .int p0] (pr D eT sz [(h0, .inr (7, [.ref aH, .ref aB, .ref aJ, .int 0, .int 0, .int 0, .ref rN, .ref rX, .int 0, .int 0, .int 0, .int 0, .int 0, .int 0, .int (-1), .int (-1), .int 0, .int 0, .ref aV]))] [])) (va_Qi (fun (r : Int32) (_ : Unit) => r = (-1)) (fun _ _ => True) (fun q => sz ≤ q)) 0 0 (fun q => sz ≤ q) := by
  refine Met.ofW (cc := cX4_wins) (maxL := 2) (ret := (some .int)) (by decide +kernel) rfl ?_
  intro p e s m args below meth c s₁ B hml hv
  obtain ⟨rfl, hsz, hP, hK, hE⟩ := hv
  have hx := B.exec
  have hb := B.bytes
  have hr := B.returns
  have hts := atoms_spec (ws := wsX4_wins) B.pre
  have hown : s.vm.findClass RX4 = some m.cls := findClass_of_methodNamed B.named
  have hlocks := B.notSynchronized
  subst hsz
  have hA : ∀ q : Nat, s.heap.size ≤ q → (fun q : Nat => s.heap.size ≤ q) q := fun _ h => h
  have hS : va_S (fun q : Nat => s.heap.size ≤ q) s.heap s.heap [] := va_S.rf
  have hP : va_P D vwCl [(h0, .inr (7, [.ref aH, .ref aB, .ref aJ, .int 0, .int 0, .int 0, .ref rN, .ref rX, .int 0, .int 0, .int 0, .int 0, .int 0, .int 0, .int (-1), .int (-1), .int 0, .int 0, .ref aV]))] s.heap := hP
  have hl := lv_entry ([.ref h0, .int p0]) (n := 2) (Nat.le_of_ble_eq_true rfl)
  rw [lg_entry_eq]
  generalize (lg_sl ([.ref h0, .int p0]) ++ List.replicate (2 - (lg_sl ([.ref h0, .int p0])).length) Slot.unset).toArray = ls at hl ⊢
  have hl : lv_has ls 2 [(0, .ref h0), (1, .int p0)] := hl
  refine lv_iload_n hx hb dX4_wins_0 rfl (lv_at hl 1 rfl) ?_
  refine lv_iconst (v := 0) hx hb dX4_wins_1 (by decide) ?_
  refine lv_bipush (v := 31) hx hb dX4_wins_2 (by decide) ?_
  have hPc := hP.sub (ws' := []) [] rfl
  have hKc := hK.sub (tys' := []) [] rfl
  refine va_calli (va_runS (As := [.int p0, .int 0, .int 31]) (rest := []) ⟨hx, hb, hml, hown, hts⟩ (k_within_t l D eT p0 0 31 s.heap.size h1 h2) (va_cwS 3 hts gX4_wins_X4_isWithin rfl rfl rfl (by decide +kernel) ⟨Nat.le_of_ble_eq_true rfl, Nat.le_of_ble_eq_true rfl⟩) (pr_s hPc hKc hE hS hA) rfl rfl hl.1 rfl (lv_room (Nat.le_of_ble_eq_true rfl)) dX4_wins_4 ⟨Nat.le_of_ble_eq_true rfl, Nat.le_of_ble_eq_true rfl⟩) hS (fun q h1 h2 => ro_A h1 h2) (fun q h => ro_F hS hA q h) (fun r u t H1 locs ht hvm hw hB hz1 hk1 hS => ?_)
  have hw : r = 1 := hw
  rw [hw]
  have hP := ro_P hP hk1
  generalize H1 = H at hP hS ⊢
  refine lv_if_ne (tgt := 21) hx hb dX4_wins_7 (by decide) (fun _ => ?_) (fun h => absurd h (by decide))
  refine lv_aload_n hx hb dX4_wins_21 rfl (lv_at hl 0 rfl) ?_
  refine lv_iconst (v := 0) hx hb dX4_wins_22 (by decide) ?_
  refine lv_iload_n hx hb dX4_wins_23 rfl (lv_at hl 1 rfl) ?_
  have hPc := hP.sub (ws' := [(h0, .inr (7, [.ref aH, .ref aB, .ref aJ, .int 0, .int 0, .int 0, .ref rN, .ref rX, .int 0, .int 0, .int 0, .int 0, .int 0, .int 0, .int (-1), .int (-1), .int 0, .int 0, .ref aV]))]) [0] rfl
  have hKc := hK.sub (tys' := []) [] rfl
  refine va_calli (va_runV (As := [.int 0, .int p0]) (rest := []) ⟨hx, hb, hml, hown, hts⟩ (k_winnerWithout l D eT h0 aH aB aJ rN rX aV p0 H.size ) (cwV 2 hts gX4_wins_X4_winnerWithout rfl rfl rfl (by decide +kernel) ⟨Nat.le_of_ble_eq_true rfl, Nat.le_of_ble_eq_true rfl⟩) (pr_v (ci := 7) (q0 := 0) rfl rfl hPc hKc hE hS hA) rfl rfl hl.1 rfl (lv_room (Nat.le_of_ble_eq_true rfl)) dX4_wins_24 ⟨Nat.le_of_ble_eq_true rfl, Nat.le_of_ble_eq_true rfl⟩) hS (fun q h1 h2 => ro_A h1 h2) (fun q h => ro_F hS hA q h) (fun r u t H1 locs ht hvm hw hB hz1 hk1 hS => ?_)
  have hw : r = (-1) := hw
  rw [hw]
  have hP := ro_P hP hk1
  generalize H1 = H at hP hS ⊢
  exact W.iret (v := (-1)) hx hb hr (fun t ht hW => ⟨⟨(-1), (), rfl, rfl, trivial⟩, hS.F ht⟩) hS.2.2 dX4_wins_27
set_option maxHeartbeats 4000000 in
set_option maxRecDepth 100000 in
theorem k_beatsAll (l : Launch) (D : va_G) (eT : Nat) (h0 : Nat) (aH : Nat) (aB : Nat) (aJ : Nat) (rN : Nat) (rX : Nat) (aV : Nat) (sz : Nat) : Met l yX4_beatsAll wsX4_beatsAll ({ frames := 0, cells := 0, slots := 0, locals := 0 }) (va_Pc [.ref h0] (pr D eT sz [(h0, .inr (7, [.ref aH, .ref aB, .ref aJ, .int 0, .int 0, .int 0, .ref rN, .ref rX, .int 0, .int 0, .int 0, .int 0, .int 0, .int 0, .int (-1), .int (-1), .int 0, .int 0, .ref aV]))] [])) (va_Qi (fun (r : Int32) (_ : Unit) => r = (-1)) (fun _ _ => True) (fun q => sz ≤ q)) 0 0 (fun q => sz ≤ q) := by
  refine Met.ofW (cc := cX4_beatsAll) (maxL := 2) (ret := (some .int)) (by decide +kernel) rfl ?_
  intro p e s m args below meth c s₁ B hml hv
  obtain ⟨rfl, hsz, hP, hK, hE⟩ := hv
  have hx := B.exec
  have hb := B.bytes
  have hr := B.returns
  have hts := atoms_spec (ws := wsX4_beatsAll) B.pre
  have hown : s.vm.findClass RX4 = some m.cls := findClass_of_methodNamed B.named
  have hlocks := B.notSynchronized
  subst hsz
  have hA : ∀ q : Nat, s.heap.size ≤ q → (fun q : Nat => s.heap.size ≤ q) q := fun _ h => h
  have hS : va_S (fun q : Nat => s.heap.size ≤ q) s.heap s.heap [] := va_S.rf
  have hP : va_P D vwCl [(h0, .inr (7, [.ref aH, .ref aB, .ref aJ, .int 0, .int 0, .int 0, .ref rN, .ref rX, .int 0, .int 0, .int 0, .int 0, .int 0, .int 0, .int (-1), .int (-1), .int 0, .int 0, .ref aV]))] s.heap := hP
  have hl := lv_entry ([.ref h0]) (n := 2) (Nat.le_of_ble_eq_true rfl)
  rw [lg_entry_eq]
  generalize (lg_sl ([.ref h0]) ++ List.replicate (2 - (lg_sl ([.ref h0])).length) Slot.unset).toArray = ls at hl ⊢
  have hl : lv_has ls 2 [(0, .ref h0)] := hl
  refine lv_iconst (v := 0) hx hb dX4_beatsAll_0 (by decide) ?_
  refine lv_istore_n (lv' := [(1, .int 0), (0, .ref h0)]) hx hb dX4_beatsAll_1 rfl hl (by decide) rfl (fun ls hl => ?_)
  refine lv_iload_n hx hb dX4_beatsAll_2 rfl (lv_at hl 0 rfl) ?_
  refine lv_aload_n hx hb dX4_beatsAll_3 rfl (lv_at hl 1 rfl) ?_
  refine va_get (D := D) (ci := 7) (v := .int 0) (C := RX4) (T := TX4) (N := 19) hx hb hts (by decide +kernel) hown hK hP 0 rfl rfl 4 (by decide) (hts (.fieldLink RX4 85 "PrizeHouse" "bookCount" "I") (by decide +kernel)) (fun _ h9 => h9) rfl dX4_beatsAll_4 ?_
  refine lv_icmp_ge (tgt := 37) hx hb dX4_beatsAll_7 (by decide) (fun _ => ?_) (fun h => absurd (by decide) h)
  refine lv_iconst (v := (-1)) hx hb dX4_beatsAll_37 (by decide) ?_
  exact W.iret (v := (-1)) hx hb hr (fun t ht hW => ⟨⟨(-1), (), rfl, rfl, trivial⟩, hS.F ht⟩) hS.2.2 dX4_beatsAll_38
set_option maxHeartbeats 4000000 in
set_option maxRecDepth 100000 in
theorem k_readIn (l : Launch) (D : va_G) (eT : Nat) (h0 : Nat) (aH : Nat) (aB : Nat) (aJ : Nat) (rN : Nat) (rX : Nat) (aV : Nat) (sz : Nat) : Met l yX4_readIn wsX4_readIn ({ frames := 0, cells := 0, slots := 0, locals := 0 }) (va_Pc [.ref h0] (pr D eT sz [(h0, .inr (7, [.ref aH, .ref aB, .ref aJ, .int 0, .int 0, .int 0, .ref rN, .ref rX, .int 0, .int 0, .int 0, .int 0, .int 0, .int 0, .int (-1), .int (-1), .int 0, .int 0, .ref aV]))] [])) (va_Qi (fun (r : Int32) (_ : Unit) => r = (-1)) (fun _ _ => True) (fun q => sz ≤ q)) 0 0 (fun q => sz ≤ q) := by
  refine Met.ofW (cc := cX4_readIn) (maxL := 3) (ret := (some .int)) (by decide +kernel) rfl ?_
  intro p e s m args below meth c s₁ B hml hv
  obtain ⟨rfl, hsz, hP, hK, hE⟩ := hv
  have hx := B.exec
  have hb := B.bytes
  have hr := B.returns
  have hts := atoms_spec (ws := wsX4_readIn) B.pre
  have hown : s.vm.findClass RX4 = some m.cls := findClass_of_methodNamed B.named
  have hlocks := B.notSynchronized
  subst hsz
  have hA : ∀ q : Nat, s.heap.size ≤ q → (fun q : Nat => s.heap.size ≤ q) q := fun _ h => h
  have hS : va_S (fun q : Nat => s.heap.size ≤ q) s.heap s.heap [] := va_S.rf
  have hP : va_P D vwCl [(h0, .inr (7, [.ref aH, .ref aB, .ref aJ, .int 0, .int 0, .int 0, .ref rN, .ref rX, .int 0, .int 0, .int 0, .int 0, .int 0, .int 0, .int (-1), .int (-1), .int 0, .int 0, .ref aV]))] s.heap := hP
  have hl := lv_entry ([.ref h0]) (n := 3) (Nat.le_of_ble_eq_true rfl)
  rw [lg_entry_eq]
  generalize (lg_sl ([.ref h0]) ++ List.replicate (3 - (lg_sl ([.ref h0])).length) Slot.unset).toArray = ls at hl ⊢
  have hl : lv_has ls 3 [(0, .ref h0)] := hl
  refine lv_aload_n hx hb dX4_readIn_0 rfl (lv_at hl 0 rfl) ?_
  refine va_get (D := D) (ci := 7) (v := .int 0) (C := RX4) (T := TX4) (N := 19) hx hb hts (by decide +kernel) hown hK hP 0 rfl rfl 9 (by decide) (hts (.fieldLink RX4 37 "PrizeHouse" "phase" "I") (by decide +kernel)) (fun _ h9 => h9) rfl dX4_readIn_1 ?_
  refine lv_iconst (v := 1) hx hb dX4_readIn_4 (by decide) ?_
  refine lv_icmp_eq (tgt := 10) hx hb dX4_readIn_5 (by decide) (fun h => absurd h (by decide)) (fun _ => ?_)
  refine lv_iconst (v := (-1)) hx hb dX4_readIn_8 (by decide) ?_
  exact W.iret (v := (-1)) hx hb hr (fun t ht hW => ⟨⟨(-1), (), rfl, rfl, trivial⟩, hS.F ht⟩) hS.2.2 dX4_readIn_9
set_option maxHeartbeats 4000000 in
set_option maxRecDepth 100000 in
theorem k_wouldMiss (l : Launch) (D : va_G) (eT : Nat) (h0 : Nat) (aH : Nat) (aB : Nat) (aJ : Nat) (rN : Nat) (rX : Nat) (aV : Nat) (p0 : Int32) (sz : Nat) (h1 : 1 ≤ p0) (h2 : p0 ≤ 60) : Met l yX4_wouldMiss wsX4_wouldMiss ({ frames := 1, cells := 0, slots := 0, locals := 22 }) (va_Pc [.ref h0, .int p0] (pr D eT sz [(h0, .inr (7, [.ref aH, .ref aB, .ref aJ, .int 0, .int 0, .int 0, .ref rN, .ref rX, .int 0, .int 0, .int 0, .int 0, .int 0, .int 0, .int (-1), .int (-1), .int 0, .int 0, .ref aV]))] [])) (va_Qi (fun (r : Int32) (_ : Unit) => r = 0) (fun _ _ => True) (fun q => sz ≤ q)) 0 0 (fun q => sz ≤ q) := by
  refine Met.ofW (cc := cX4_wouldMiss) (maxL := 4) (ret := (some .int)) (by decide +kernel) rfl ?_
  intro p e s m args below meth c s₁ B hml hv
  obtain ⟨rfl, hsz, hP, hK, hE⟩ := hv
  have hx := B.exec
  have hb := B.bytes
  have hr := B.returns
  have hts := atoms_spec (ws := wsX4_wouldMiss) B.pre
  have hown : s.vm.findClass RX4 = some m.cls := findClass_of_methodNamed B.named
  have hlocks := B.notSynchronized
  subst hsz
  have hA : ∀ q : Nat, s.heap.size ≤ q → (fun q : Nat => s.heap.size ≤ q) q := fun _ h => h
  have hS : va_S (fun q : Nat => s.heap.size ≤ q) s.heap s.heap [] := va_S.rf
  have hP : va_P D vwCl [(h0, .inr (7, [.ref aH, .ref aB, .ref aJ, .int 0, .int 0, .int 0, .ref rN, .ref rX, .int 0, .int 0, .int 0, .int 0, .int 0, .int 0, .int (-1), .int (-1), .int 0, .int 0, .ref aV]))] s.heap := hP
  have hl := lv_entry ([.ref h0, .int p0]) (n := 4) (Nat.le_of_ble_eq_true rfl)
  rw [lg_entry_eq]
  generalize (lg_sl ([.ref h0, .int p0]) ++ List.replicate (4 - (lg_sl ([.ref h0, .int p0])).length) Slot.unset).toArray = ls at hl ⊢
  have hl : lv_has ls 4 [(0, .ref h0), (1, .int p0)] := hl
  refine lv_iload_n hx hb dX4_wouldMiss_0 rfl (lv_at hl 1 rfl) ?_
  refine lv_iconst (v := 1) hx hb dX4_wouldMiss_1 (by decide) ?_
  refine lv_bipush (v := 60) hx hb dX4_wouldMiss_2 (by decide) ?_
  have hPc := hP.sub (ws' := []) [] rfl
  have hKc := hK.sub (tys' := []) [] rfl
  refine va_calli (va_runS (As := [.int p0, .int 1, .int 60]) (rest := []) ⟨hx, hb, hml, hown, hts⟩ (k_within_t l D eT p0 1 60 s.heap.size h1 h2) (va_cwS 3 hts gX4_wouldMiss_X4_isWithin rfl rfl rfl (by decide +kernel) ⟨Nat.le_of_ble_eq_true rfl, Nat.le_of_ble_eq_true rfl⟩) (pr_s hPc hKc hE hS hA) rfl rfl hl.1 rfl (lv_room (Nat.le_of_ble_eq_true rfl)) dX4_wouldMiss_4 ⟨Nat.le_of_ble_eq_true rfl, Nat.le_of_ble_eq_true rfl⟩) hS (fun q h1 h2 => ro_A h1 h2) (fun q h => ro_F hS hA q h) (fun r u t H1 locs ht hvm hw hB hz1 hk1 hS => ?_)
  have hw : r = 1 := hw
  rw [hw]
  have hP := ro_P hP hk1
  generalize H1 = H at hP hS ⊢
  refine lv_if_ne (tgt := 20) hx hb dX4_wouldMiss_7 (by decide) (fun _ => ?_) (fun h => absurd h (by decide))
  refine lv_iconst (v := 0) hx hb dX4_wouldMiss_20 (by decide) ?_
  refine lv_istore_n (lv' := [(2, .int 0), (0, .ref h0), (1, .int p0)]) hx hb dX4_wouldMiss_21 rfl hl (by decide) rfl (fun ls hl => ?_)
  refine lv_iconst (v := 0) hx hb dX4_wouldMiss_22 (by decide) ?_
  refine lv_istore_n (lv' := [(3, .int 0), (2, .int 0), (0, .ref h0), (1, .int p0)]) hx hb dX4_wouldMiss_23 rfl hl (by decide) rfl (fun ls hl => ?_)
  refine lv_iload_n hx hb dX4_wouldMiss_24 rfl (lv_at hl 0 rfl) ?_
  refine lv_aload_n hx hb dX4_wouldMiss_25 rfl (lv_at hl 2 rfl) ?_
  refine va_get (D := D) (ci := 7) (v := .int 0) (C := RX4) (T := TX4) (N := 19) hx hb hts (by decide +kernel) hown hK hP 0 rfl rfl 4 (by decide) (hts (.fieldLink RX4 85 "PrizeHouse" "bookCount" "I") (by decide +kernel)) (fun _ h9 => h9) rfl dX4_wouldMiss_26 ?_
  refine lv_icmp_ge (tgt := 62) hx hb dX4_wouldMiss_29 (by decide) (fun _ => ?_) (fun h => absurd (by decide) h)
  refine lv_iload_n hx hb dX4_wouldMiss_62 rfl (lv_at hl 1 rfl) ?_
  exact W.iret (v := 0) hx hb hr (fun t ht hW => ⟨⟨0, (), rfl, rfl, trivial⟩, hS.F ht⟩) hS.2.2 dX4_wouldMiss_63
set_option maxHeartbeats 4000000 in
set_option maxRecDepth 100000 in
theorem k_meanMark (l : Launch) (D : va_G) (eT : Nat) (h0 : Nat) (aH : Nat) (aB : Nat) (aJ : Nat) (rN : Nat) (rX : Nat) (aV : Nat) (sz : Nat) : Met l yX4_meanMark wsX4_meanMark ({ frames := 0, cells := 0, slots := 0, locals := 0 }) (va_Pc [.ref h0] (pr D eT sz [(h0, .inr (7, [.ref aH, .ref aB, .ref aJ, .int 0, .int 0, .int 0, .ref rN, .ref rX, .int 0, .int 0, .int 0, .int 0, .int 0, .int 0, .int (-1), .int (-1), .int 0, .int 0, .ref aV]))] [])) (va_Qd (fun (r : UInt64) (_ : Unit) => r = FP.dconst0) (fun _ _ => True) (fun q => sz ≤ q)) 0 0 (fun q => sz ≤ q) := by
  refine Met.ofW (cc := cX4_meanMark) (maxL := 4) (ret := (some .double)) (by decide +kernel) rfl ?_
  intro p e s m args below meth c s₁ B hml hv
  obtain ⟨rfl, hsz, hP, hK, hE⟩ := hv
  have hx := B.exec
  have hb := B.bytes
  have hr := B.returns
  have hts := atoms_spec (ws := wsX4_meanMark) B.pre
  have hown : s.vm.findClass RX4 = some m.cls := findClass_of_methodNamed B.named
  have hlocks := B.notSynchronized
  subst hsz
  have hA : ∀ q : Nat, s.heap.size ≤ q → (fun q : Nat => s.heap.size ≤ q) q := fun _ h => h
  have hS : va_S (fun q : Nat => s.heap.size ≤ q) s.heap s.heap [] := va_S.rf
  have hP : va_P D vwCl [(h0, .inr (7, [.ref aH, .ref aB, .ref aJ, .int 0, .int 0, .int 0, .ref rN, .ref rX, .int 0, .int 0, .int 0, .int 0, .int 0, .int 0, .int (-1), .int (-1), .int 0, .int 0, .ref aV]))] s.heap := hP
  have hl := lv_entry ([.ref h0]) (n := 4) (Nat.le_of_ble_eq_true rfl)
  rw [lg_entry_eq]
  generalize (lg_sl ([.ref h0]) ++ List.replicate (4 - (lg_sl ([.ref h0])).length) Slot.unset).toArray = ls at hl ⊢
  have hl : lv_has ls 4 [(0, .ref h0)] := hl
  refine lv_iconst (v := 0) hx hb dX4_meanMark_0 (by decide) ?_
  refine lv_istore_n (lv' := [(1, .int 0), (0, .ref h0)]) hx hb dX4_meanMark_1 rfl hl (by decide) rfl (fun ls hl => ?_)
  refine lv_iconst (v := 0) hx hb dX4_meanMark_2 (by decide) ?_
  refine lv_istore_n (lv' := [(2, .int 0), (1, .int 0), (0, .ref h0)]) hx hb dX4_meanMark_3 rfl hl (by decide) rfl (fun ls hl => ?_)
  refine lv_iconst (v := 0) hx hb dX4_meanMark_4 (by decide) ?_
  refine lv_istore_n (lv' := [(3, .int 0), (2, .int 0), (1, .int 0), (0, .ref h0)]) hx hb dX4_meanMark_5 rfl hl (by decide) rfl (fun ls hl => ?_)
  refine lv_iload_n hx hb dX4_meanMark_6 rfl (lv_at hl 0 rfl) ?_
  refine lv_aload_n hx hb dX4_meanMark_7 rfl (lv_at hl 3 rfl) ?_
  refine va_get (D := D) (ci := 7) (v := .int 0) (C := RX4) (T := TX4) (N := 19) hx hb hts (by decide +kernel) hown hK hP 0 rfl rfl 5 (by decide) (hts (.fieldLink RX4 102 "PrizeHouse" "judgeCount" "I") (by decide +kernel)) (fun _ h9 => h9) rfl dX4_meanMark_8 ?_
  refine lv_icmp_ge (tgt := 44) hx hb dX4_meanMark_11 (by decide) (fun _ => ?_) (fun h => absurd (by decide) h)
  refine lv_iload_n hx hb dX4_meanMark_44 rfl (lv_at hl 1 rfl) ?_
  refine lv_if_ne (tgt := 52) hx hb dX4_meanMark_45 (by decide) (fun h => absurd (by decide) h) (fun _ => ?_)
  refine lv_dconst0 hx hb dX4_meanMark_48 ?_
  refine lv_goto (tgt := 57) hx hb dX4_meanMark_49 (by decide) ?_
  exact W.dret (v := FP.dconst0) hx hb hr (fun t ht hW => ⟨⟨FP.dconst0, (), rfl, rfl, trivial⟩, hS.F ht⟩) hS.2.2 dX4_meanMark_57
set_option maxHeartbeats 4000000 in
set_option maxRecDepth 100000 in
theorem k_many_0 (l : Launch) (D : va_G) (eT : Nat) (h0 : Nat) (aH : Nat) (aB : Nat) (aJ : Nat) (rN : Nat) (rX : Nat) (aV : Nat) (sz : Nat) : Met l yX4_many wsX4_many ({ frames := 0, cells := 0, slots := 0, locals := 0 }) (va_Pc [.ref h0, .int 0] (pr D eT sz [(h0, .inr (7, [.ref aH, .ref aB, .ref aJ, .int 0, .int 0, .int 0, .ref rN, .ref rX, .int 0, .int 0, .int 0, .int 0, .int 0, .int 0, .int (-1), .int (-1), .int 0, .int 0, .ref aV])), (rN, .inr (6, [.int 7, .int 100, .int 800, .int 10]))] [])) (va_Qi (fun (r : Int32) (_ : Unit) => r = 0) (fun _ _ => True) (fun q => sz ≤ q)) 0 0 (fun q => sz ≤ q) := by
  refine Met.ofW (cc := cX4_many) (maxL := 2) (ret := (some .int)) (by decide +kernel) rfl ?_
  intro p e s m args below meth c s₁ B hml hv
  obtain ⟨rfl, hsz, hP, hK, hE⟩ := hv
  have hx := B.exec
  have hb := B.bytes
  have hr := B.returns
  have hts := atoms_spec (ws := wsX4_many) B.pre
  have hown : s.vm.findClass RX4 = some m.cls := findClass_of_methodNamed B.named
  have hlocks := B.notSynchronized
  subst hsz
  have hA : ∀ q : Nat, s.heap.size ≤ q → (fun q : Nat => s.heap.size ≤ q) q := fun _ h => h
  have hS : va_S (fun q : Nat => s.heap.size ≤ q) s.heap s.heap [] := va_S.rf
  have hP : va_P D vwCl [(h0, .inr (7, [.ref aH, .ref aB, .ref aJ, .int 0, .int 0, .int 0, .ref rN, .ref rX, .int 0, .int 0, .int 0, .int 0, .int 0, .int 0, .int (-1), .int (-1), .int 0, .int 0, .ref aV])), (rN, .inr (6, [.int 7, .int 100, .int 800, .int 10]))] s.heap := hP
  have hl := lv_entry ([.ref h0, .int 0]) (n := 2) (Nat.le_of_ble_eq_true rfl)
  rw [lg_entry_eq]
  generalize (lg_sl ([.ref h0, .int 0]) ++ List.replicate (2 - (lg_sl ([.ref h0, .int 0])).length) Slot.unset).toArray = ls at hl ⊢
  have hl : lv_has ls 2 [(0, .ref h0), (1, .int 0)] := hl
  refine lv_iload_n hx hb dX4_many_0 rfl (lv_at hl 1 rfl) ?_
  refine lv_tableIn (off := 75) (tgt := 76) hx hb dX4_many_1 (by decide) (by decide) (by decide +kernel) (by decide) ?_
  refine lv_aload_n hx hb dX4_many_76 rfl (lv_at hl 0 rfl) ?_
  refine va_get (D := D) (ci := 7) (v := .int 0) (C := RX4) (T := TX4) (N := 19) hx hb hts (by decide +kernel) hown hK hP 0 rfl rfl 8 (by decide) (hts (.fieldLink RX4 94 "PrizeHouse" "year" "I") (by decide +kernel)) (fun _ h9 => h9) rfl dX4_many_77 ?_
  exact W.iret (v := 0) hx hb hr (fun t ht hW => ⟨⟨0, (), rfl, rfl, trivial⟩, hS.F ht⟩) hS.2.2 dX4_many_80
set_option maxHeartbeats 4000000 in
set_option maxRecDepth 100000 in
theorem k_many_1 (l : Launch) (D : va_G) (eT : Nat) (h0 : Nat) (aH : Nat) (aB : Nat) (aJ : Nat) (rN : Nat) (rX : Nat) (aV : Nat) (sz : Nat) : Met l yX4_many wsX4_many ({ frames := 0, cells := 0, slots := 0, locals := 0 }) (va_Pc [.ref h0, .int 1] (pr D eT sz [(h0, .inr (7, [.ref aH, .ref aB, .ref aJ, .int 0, .int 0, .int 0, .ref rN, .ref rX, .int 0, .int 0, .int 0, .int 0, .int 0, .int 0, .int (-1), .int (-1), .int 0, .int 0, .ref aV])), (rN, .inr (6, [.int 7, .int 100, .int 800, .int 10]))] [])) (va_Qi (fun (r : Int32) (_ : Unit) => r = 0) (fun _ _ => True) (fun q => sz ≤ q)) 0 0 (fun q => sz ≤ q) := by
  refine Met.ofW (cc := cX4_many) (maxL := 2) (ret := (some .int)) (by decide +kernel) rfl ?_
  intro p e s m args below meth c s₁ B hml hv
  obtain ⟨rfl, hsz, hP, hK, hE⟩ := hv
  have hx := B.exec
  have hb := B.bytes
  have hr := B.returns
  have hts := atoms_spec (ws := wsX4_many) B.pre
  have hown : s.vm.findClass RX4 = some m.cls := findClass_of_methodNamed B.named
  have hlocks := B.notSynchronized
  subst hsz
  have hA : ∀ q : Nat, s.heap.size ≤ q → (fun q : Nat => s.heap.size ≤ q) q := fun _ h => h
  have hS : va_S (fun q : Nat => s.heap.size ≤ q) s.heap s.heap [] := va_S.rf
  have hP : va_P D vwCl [(h0, .inr (7, [.ref aH, .ref aB, .ref aJ, .int 0, .int 0, .int 0, .ref rN, .ref rX, .int 0, .int 0, .int 0, .int 0, .int 0, .int 0, .int (-1), .int (-1), .int 0, .int 0, .ref aV])), (rN, .inr (6, [.int 7, .int 100, .int 800, .int 10]))] s.heap := hP
  have hl := lv_entry ([.ref h0, .int 1]) (n := 2) (Nat.le_of_ble_eq_true rfl)
  rw [lg_entry_eq]
  generalize (lg_sl ([.ref h0, .int 1]) ++ List.replicate (2 - (lg_sl ([.ref h0, .int 1])).length) Slot.unset).toArray = ls at hl ⊢
  have hl : lv_has ls 2 [(0, .ref h0), (1, .int 1)] := hl
  refine lv_iload_n hx hb dX4_many_0 rfl (lv_at hl 1 rfl) ?_
  refine lv_tableIn (off := 80) (tgt := 81) hx hb dX4_many_1 (by decide) (by decide) (by decide +kernel) (by decide) ?_
  refine lv_aload_n hx hb dX4_many_81 rfl (lv_at hl 0 rfl) ?_
  refine va_get (D := D) (ci := 7) (v := .int 0) (C := RX4) (T := TX4) (N := 19) hx hb hts (by decide +kernel) hown hK hP 0 rfl rfl 9 (by decide) (hts (.fieldLink RX4 37 "PrizeHouse" "phase" "I") (by decide +kernel)) (fun _ h9 => h9) rfl dX4_many_82 ?_
  exact W.iret (v := 0) hx hb hr (fun t ht hW => ⟨⟨0, (), rfl, rfl, trivial⟩, hS.F ht⟩) hS.2.2 dX4_many_85
set_option maxHeartbeats 4000000 in
set_option maxRecDepth 100000 in
theorem k_many_2 (l : Launch) (D : va_G) (eT : Nat) (h0 : Nat) (aH : Nat) (aB : Nat) (aJ : Nat) (rN : Nat) (rX : Nat) (aV : Nat) (sz : Nat) : Met l yX4_many wsX4_many ({ frames := 0, cells := 0, slots := 0, locals := 0 }) (va_Pc [.ref h0, .int 2] (pr D eT sz [(h0, .inr (7, [.ref aH, .ref aB, .ref aJ, .int 0, .int 0, .int 0, .ref rN, .ref rX, .int 0, .int 0, .int 0, .int 0, .int 0, .int 0, .int (-1), .int (-1), .int 0, .int 0, .ref aV])), (rN, .inr (6, [.int 7, .int 100, .int 800, .int 10]))] [])) (va_Qi (fun (r : Int32) (_ : Unit) => r = 0) (fun _ _ => True) (fun q => sz ≤ q)) 0 0 (fun q => sz ≤ q) := by
  refine Met.ofW (cc := cX4_many) (maxL := 2) (ret := (some .int)) (by decide +kernel) rfl ?_
  intro p e s m args below meth c s₁ B hml hv
  obtain ⟨rfl, hsz, hP, hK, hE⟩ := hv
  have hx := B.exec
  have hb := B.bytes
  have hr := B.returns
  have hts := atoms_spec (ws := wsX4_many) B.pre
  have hown : s.vm.findClass RX4 = some m.cls := findClass_of_methodNamed B.named
  have hlocks := B.notSynchronized
  subst hsz
  have hA : ∀ q : Nat, s.heap.size ≤ q → (fun q : Nat => s.heap.size ≤ q) q := fun _ h => h
  have hS : va_S (fun q : Nat => s.heap.size ≤ q) s.heap s.heap [] := va_S.rf
  have hP : va_P D vwCl [(h0, .inr (7, [.ref aH, .ref aB, .ref aJ, .int 0, .int 0, .int 0, .ref rN, .ref rX, .int 0, .int 0, .int 0, .int 0, .int 0, .int 0, .int (-1), .int (-1), .int 0, .int 0, .ref aV])), (rN, .inr (6, [.int 7, .int 100, .int 800, .int 10]))] s.heap := hP
  have hl := lv_entry ([.ref h0, .int 2]) (n := 2) (Nat.le_of_ble_eq_true rfl)
  rw [lg_entry_eq]
  generalize (lg_sl ([.ref h0, .int 2]) ++ List.replicate (2 - (lg_sl ([.ref h0, .int 2])).length) Slot.unset).toArray = ls at hl ⊢
  have hl : lv_has ls 2 [(0, .ref h0), (1, .int 2)] := hl
  refine lv_iload_n hx hb dX4_many_0 rfl (lv_at hl 1 rfl) ?_
  refine lv_tableIn (off := 85) (tgt := 86) hx hb dX4_many_1 (by decide) (by decide) (by decide +kernel) (by decide) ?_
  refine lv_aload_n hx hb dX4_many_86 rfl (lv_at hl 0 rfl) ?_
  refine va_get (D := D) (ci := 7) (v := .int 0) (C := RX4) (T := TX4) (N := 19) hx hb hts (by decide +kernel) hown hK hP 0 rfl rfl 10 (by decide) (hts (.fieldLink RX4 197 "PrizeHouse" "day" "I") (by decide +kernel)) (fun _ h9 => h9) rfl dX4_many_87 ?_
  exact W.iret (v := 0) hx hb hr (fun t ht hW => ⟨⟨0, (), rfl, rfl, trivial⟩, hS.F ht⟩) hS.2.2 dX4_many_90
set_option maxHeartbeats 4000000 in
set_option maxRecDepth 100000 in
theorem k_many_3 (l : Launch) (D : va_G) (eT : Nat) (h0 : Nat) (aH : Nat) (aB : Nat) (aJ : Nat) (rN : Nat) (rX : Nat) (aV : Nat) (sz : Nat) : Met l yX4_many wsX4_many ({ frames := 0, cells := 0, slots := 0, locals := 0 }) (va_Pc [.ref h0, .int 3] (pr D eT sz [(h0, .inr (7, [.ref aH, .ref aB, .ref aJ, .int 0, .int 0, .int 0, .ref rN, .ref rX, .int 0, .int 0, .int 0, .int 0, .int 0, .int 0, .int (-1), .int (-1), .int 0, .int 0, .ref aV])), (rN, .inr (6, [.int 7, .int 100, .int 800, .int 10]))] [])) (va_Qi (fun (r : Int32) (_ : Unit) => r = 0) (fun _ _ => True) (fun q => sz ≤ q)) 0 0 (fun q => sz ≤ q) := by
  refine Met.ofW (cc := cX4_many) (maxL := 2) (ret := (some .int)) (by decide +kernel) rfl ?_
  intro p e s m args below meth c s₁ B hml hv
  obtain ⟨rfl, hsz, hP, hK, hE⟩ := hv
  have hx := B.exec
  have hb := B.bytes
  have hr := B.returns
  have hts := atoms_spec (ws := wsX4_many) B.pre
  have hown : s.vm.findClass RX4 = some m.cls := findClass_of_methodNamed B.named
  have hlocks := B.notSynchronized
  subst hsz
  have hA : ∀ q : Nat, s.heap.size ≤ q → (fun q : Nat => s.heap.size ≤ q) q := fun _ h => h
  have hS : va_S (fun q : Nat => s.heap.size ≤ q) s.heap s.heap [] := va_S.rf
  have hP : va_P D vwCl [(h0, .inr (7, [.ref aH, .ref aB, .ref aJ, .int 0, .int 0, .int 0, .ref rN, .ref rX, .int 0, .int 0, .int 0, .int 0, .int 0, .int 0, .int (-1), .int (-1), .int 0, .int 0, .ref aV])), (rN, .inr (6, [.int 7, .int 100, .int 800, .int 10]))] s.heap := hP
  have hl := lv_entry ([.ref h0, .int 3]) (n := 2) (Nat.le_of_ble_eq_true rfl)
  rw [lg_entry_eq]
  generalize (lg_sl ([.ref h0, .int 3]) ++ List.replicate (2 - (lg_sl ([.ref h0, .int 3])).length) Slot.unset).toArray = ls at hl ⊢
  have hl : lv_has ls 2 [(0, .ref h0), (1, .int 3)] := hl
  refine lv_iload_n hx hb dX4_many_0 rfl (lv_at hl 1 rfl) ?_
  refine lv_tableIn (off := 90) (tgt := 91) hx hb dX4_many_1 (by decide) (by decide) (by decide +kernel) (by decide) ?_
  refine lv_aload_n hx hb dX4_many_91 rfl (lv_at hl 0 rfl) ?_
  refine va_get (D := D) (ci := 7) (v := .int 0) (C := RX4) (T := TX4) (N := 19) hx hb hts (by decide +kernel) hown hK hP 0 rfl rfl 3 (by decide) (hts (.fieldLink RX4 54 "PrizeHouse" "houseCount" "I") (by decide +kernel)) (fun _ h9 => h9) rfl dX4_many_92 ?_
  exact W.iret (v := 0) hx hb hr (fun t ht hW => ⟨⟨0, (), rfl, rfl, trivial⟩, hS.F ht⟩) hS.2.2 dX4_many_95
set_option maxHeartbeats 4000000 in
set_option maxRecDepth 100000 in
theorem k_many_4 (l : Launch) (D : va_G) (eT : Nat) (h0 : Nat) (aH : Nat) (aB : Nat) (aJ : Nat) (rN : Nat) (rX : Nat) (aV : Nat) (sz : Nat) : Met l yX4_many wsX4_many ({ frames := 0, cells := 0, slots := 0, locals := 0 }) (va_Pc [.ref h0, .int 4] (pr D eT sz [(h0, .inr (7, [.ref aH, .ref aB, .ref aJ, .int 0, .int 0, .int 0, .ref rN, .ref rX, .int 0, .int 0, .int 0, .int 0, .int 0, .int 0, .int (-1), .int (-1), .int 0, .int 0, .ref aV])), (rN, .inr (6, [.int 7, .int 100, .int 800, .int 10]))] [])) (va_Qi (fun (r : Int32) (_ : Unit) => r = 0) (fun _ _ => True) (fun q => sz ≤ q)) 0 0 (fun q => sz ≤ q) := by
  refine Met.ofW (cc := cX4_many) (maxL := 2) (ret := (some .int)) (by decide +kernel) rfl ?_
  intro p e s m args below meth c s₁ B hml hv
  obtain ⟨rfl, hsz, hP, hK, hE⟩ := hv
  have hx := B.exec
  have hb := B.bytes
  have hr := B.returns
  have hts := atoms_spec (ws := wsX4_many) B.pre
  have hown : s.vm.findClass RX4 = some m.cls := findClass_of_methodNamed B.named
  have hlocks := B.notSynchronized
  subst hsz
  have hA : ∀ q : Nat, s.heap.size ≤ q → (fun q : Nat => s.heap.size ≤ q) q := fun _ h => h
  have hS : va_S (fun q : Nat => s.heap.size ≤ q) s.heap s.heap [] := va_S.rf
  have hP : va_P D vwCl [(h0, .inr (7, [.ref aH, .ref aB, .ref aJ, .int 0, .int 0, .int 0, .ref rN, .ref rX, .int 0, .int 0, .int 0, .int 0, .int 0, .int 0, .int (-1), .int (-1), .int 0, .int 0, .ref aV])), (rN, .inr (6, [.int 7, .int 100, .int 800, .int 10]))] s.heap := hP
  have hl := lv_entry ([.ref h0, .int 4]) (n := 2) (Nat.le_of_ble_eq_true rfl)
  rw [lg_entry_eq]
  generalize (lg_sl ([.ref h0, .int 4]) ++ List.replicate (2 - (lg_sl ([.ref h0, .int 4])).length) Slot.unset).toArray = ls at hl ⊢
  have hl : lv_has ls 2 [(0, .ref h0), (1, .int 4)] := hl
  refine lv_iload_n hx hb dX4_many_0 rfl (lv_at hl 1 rfl) ?_
  refine lv_tableIn (off := 95) (tgt := 96) hx hb dX4_many_1 (by decide) (by decide) (by decide +kernel) (by decide) ?_
  refine lv_aload_n hx hb dX4_many_96 rfl (lv_at hl 0 rfl) ?_
  refine va_get (D := D) (ci := 7) (v := .int 0) (C := RX4) (T := TX4) (N := 19) hx hb hts (by decide +kernel) hown hK hP 0 rfl rfl 4 (by decide) (hts (.fieldLink RX4 85 "PrizeHouse" "bookCount" "I") (by decide +kernel)) (fun _ h9 => h9) rfl dX4_many_97 ?_
  exact W.iret (v := 0) hx hb hr (fun t ht hW => ⟨⟨0, (), rfl, rfl, trivial⟩, hS.F ht⟩) hS.2.2 dX4_many_100
set_option maxHeartbeats 4000000 in
set_option maxRecDepth 100000 in
theorem k_many_5 (l : Launch) (D : va_G) (eT : Nat) (h0 : Nat) (aH : Nat) (aB : Nat) (aJ : Nat) (rN : Nat) (rX : Nat) (aV : Nat) (sz : Nat) : Met l yX4_many wsX4_many ({ frames := 0, cells := 0, slots := 0, locals := 0 }) (va_Pc [.ref h0, .int 5] (pr D eT sz [(h0, .inr (7, [.ref aH, .ref aB, .ref aJ, .int 0, .int 0, .int 0, .ref rN, .ref rX, .int 0, .int 0, .int 0, .int 0, .int 0, .int 0, .int (-1), .int (-1), .int 0, .int 0, .ref aV])), (rN, .inr (6, [.int 7, .int 100, .int 800, .int 10]))] [])) (va_Qi (fun (r : Int32) (_ : Unit) => r = 0) (fun _ _ => True) (fun q => sz ≤ q)) 0 0 (fun q => sz ≤ q) := by
  refine Met.ofW (cc := cX4_many) (maxL := 2) (ret := (some .int)) (by decide +kernel) rfl ?_
  intro p e s m args below meth c s₁ B hml hv
  obtain ⟨rfl, hsz, hP, hK, hE⟩ := hv
  have hx := B.exec
  have hb := B.bytes
  have hr := B.returns
  have hts := atoms_spec (ws := wsX4_many) B.pre
  have hown : s.vm.findClass RX4 = some m.cls := findClass_of_methodNamed B.named
  have hlocks := B.notSynchronized
  subst hsz
  have hA : ∀ q : Nat, s.heap.size ≤ q → (fun q : Nat => s.heap.size ≤ q) q := fun _ h => h
  have hS : va_S (fun q : Nat => s.heap.size ≤ q) s.heap s.heap [] := va_S.rf
  have hP : va_P D vwCl [(h0, .inr (7, [.ref aH, .ref aB, .ref aJ, .int 0, .int 0, .int 0, .ref rN, .ref rX, .int 0, .int 0, .int 0, .int 0, .int 0, .int 0, .int (-1), .int (-1), .int 0, .int 0, .ref aV])), (rN, .inr (6, [.int 7, .int 100, .int 800, .int 10]))] s.heap := hP
  have hl := lv_entry ([.ref h0, .int 5]) (n := 2) (Nat.le_of_ble_eq_true rfl)
  rw [lg_entry_eq]
  generalize (lg_sl ([.ref h0, .int 5]) ++ List.replicate (2 - (lg_sl ([.ref h0, .int 5])).length) Slot.unset).toArray = ls at hl ⊢
  have hl : lv_has ls 2 [(0, .ref h0), (1, .int 5)] := hl
  refine lv_iload_n hx hb dX4_many_0 rfl (lv_at hl 1 rfl) ?_
  refine lv_tableIn (off := 100) (tgt := 101) hx hb dX4_many_1 (by decide) (by decide) (by decide +kernel) (by decide) ?_
  refine lv_aload_n hx hb dX4_many_101 rfl (lv_at hl 0 rfl) ?_
  refine va_get (D := D) (ci := 7) (v := .int 0) (C := RX4) (T := TX4) (N := 19) hx hb hts (by decide +kernel) hown hK hP 0 rfl rfl 5 (by decide) (hts (.fieldLink RX4 102 "PrizeHouse" "judgeCount" "I") (by decide +kernel)) (fun _ h9 => h9) rfl dX4_many_102 ?_
  exact W.iret (v := 0) hx hb hr (fun t ht hW => ⟨⟨0, (), rfl, rfl, trivial⟩, hS.F ht⟩) hS.2.2 dX4_many_105
set_option maxHeartbeats 4000000 in
set_option maxRecDepth 100000 in
theorem k_many_6 (l : Launch) (D : va_G) (eT : Nat) (h0 : Nat) (aH : Nat) (aB : Nat) (aJ : Nat) (rN : Nat) (rX : Nat) (aV : Nat) (sz : Nat) : Met l yX4_many wsX4_many ({ frames := 1, cells := 0, slots := 0, locals := 22 }) (va_Pc [.ref h0, .int 6] (pr D eT sz [(h0, .inr (7, [.ref aH, .ref aB, .ref aJ, .int 0, .int 0, .int 0, .ref rN, .ref rX, .int 0, .int 0, .int 0, .int 0, .int 0, .int 0, .int (-1), .int (-1), .int 0, .int 0, .ref aV])), (rN, .inr (6, [.int 7, .int 100, .int 800, .int 10]))] [])) (va_Qi (fun (r : Int32) (_ : Unit) => r = 0) (fun _ _ => True) (fun q => sz ≤ q)) 0 0 (fun q => sz ≤ q) := by
  refine Met.ofW (cc := cX4_many) (maxL := 2) (ret := (some .int)) (by decide +kernel) rfl ?_
  intro p e s m args below meth c s₁ B hml hv
  obtain ⟨rfl, hsz, hP, hK, hE⟩ := hv
  have hx := B.exec
  have hb := B.bytes
  have hr := B.returns
  have hts := atoms_spec (ws := wsX4_many) B.pre
  have hown : s.vm.findClass RX4 = some m.cls := findClass_of_methodNamed B.named
  have hlocks := B.notSynchronized
  subst hsz
  have hA : ∀ q : Nat, s.heap.size ≤ q → (fun q : Nat => s.heap.size ≤ q) q := fun _ h => h
  have hS : va_S (fun q : Nat => s.heap.size ≤ q) s.heap s.heap [] := va_S.rf
  have hP : va_P D vwCl [(h0, .inr (7, [.ref aH, .ref aB, .ref aJ, .int 0, .int 0, .int 0, .ref rN, .ref rX, .int 0, .int 0, .int 0, .int 0, .int 0, .int 0, .int (-1), .int (-1), .int 0, .int 0, .ref aV])), (rN, .inr (6, [.int 7, .int 100, .int 800, .int 10]))] s.heap := hP
  have hl := lv_entry ([.ref h0, .int 6]) (n := 2) (Nat.le_of_ble_eq_true rfl)
  rw [lg_entry_eq]
  generalize (lg_sl ([.ref h0, .int 6]) ++ List.replicate (2 - (lg_sl ([.ref h0, .int 6])).length) Slot.unset).toArray = ls at hl ⊢
  have hl : lv_has ls 2 [(0, .ref h0), (1, .int 6)] := hl
  refine lv_iload_n hx hb dX4_many_0 rfl (lv_at hl 1 rfl) ?_
  refine lv_tableIn (off := 105) (tgt := 106) hx hb dX4_many_1 (by decide) (by decide) (by decide +kernel) (by decide) ?_
  refine lv_aload_n hx hb dX4_many_106 rfl (lv_at hl 0 rfl) ?_
  have hPc := hP.sub (ws' := [(h0, .inr (7, [.ref aH, .ref aB, .ref aJ, .int 0, .int 0, .int 0, .ref rN, .ref rX, .int 0, .int 0, .int 0, .int 0, .int 0, .int 0, .int (-1), .int (-1), .int 0, .int 0, .ref aV]))]) [0] rfl
  have hKc := hK.sub (tys' := []) [] rfl
  refine va_calli (va_runV (As := []) (rest := []) ⟨hx, hb, hml, hown, hts⟩ (k_enteredCount l D eT h0 aH aB aJ rN rX aV s.heap.size ) (cwV 0 hts gX4_many_X4_enteredCount rfl rfl rfl (by decide +kernel) ⟨Nat.le_of_ble_eq_true rfl, Nat.le_of_ble_eq_true rfl⟩) (pr_v (ci := 7) (q0 := 0) rfl rfl hPc hKc hE hS hA) rfl rfl hl.1 rfl (lv_room (Nat.le_of_ble_eq_true rfl)) dX4_many_107 ⟨Nat.le_of_ble_eq_true rfl, Nat.le_of_ble_eq_true rfl⟩) hS (fun q h1 h2 => ro_A h1 h2) (fun q h => ro_F hS hA q h) (fun r u t H1 locs ht hvm hw hB hz1 hk1 hS => ?_)
  have hw : r = 0 := hw
  rw [hw]
  have hP := ro_P hP hk1
  generalize H1 = H at hP hS ⊢
  exact W.iret (v := 0) hx hb hr (fun t ht hW => ⟨⟨0, (), rfl, rfl, trivial⟩, hS.F ht⟩) hS.2.2 dX4_many_110
set_option maxHeartbeats 4000000 in
set_option maxRecDepth 100000 in
theorem k_many_7 (l : Launch) (D : va_G) (eT : Nat) (h0 : Nat) (aH : Nat) (aB : Nat) (aJ : Nat) (rN : Nat) (rX : Nat) (aV : Nat) (sz : Nat) : Met l yX4_many wsX4_many ({ frames := 0, cells := 0, slots := 0, locals := 0 }) (va_Pc [.ref h0, .int 7] (pr D eT sz [(h0, .inr (7, [.ref aH, .ref aB, .ref aJ, .int 0, .int 0, .int 0, .ref rN, .ref rX, .int 0, .int 0, .int 0, .int 0, .int 0, .int 0, .int (-1), .int (-1), .int 0, .int 0, .ref aV])), (rN, .inr (6, [.int 7, .int 100, .int 800, .int 10]))] [])) (va_Qi (fun (r : Int32) (_ : Unit) => r = 0) (fun _ _ => True) (fun q => sz ≤ q)) 0 0 (fun q => sz ≤ q) := by
  refine Met.ofW (cc := cX4_many) (maxL := 2) (ret := (some .int)) (by decide +kernel) rfl ?_
  intro p e s m args below meth c s₁ B hml hv
  obtain ⟨rfl, hsz, hP, hK, hE⟩ := hv
  have hx := B.exec
  have hb := B.bytes
  have hr := B.returns
  have hts := atoms_spec (ws := wsX4_many) B.pre
  have hown : s.vm.findClass RX4 = some m.cls := findClass_of_methodNamed B.named
  have hlocks := B.notSynchronized
  subst hsz
  have hA : ∀ q : Nat, s.heap.size ≤ q → (fun q : Nat => s.heap.size ≤ q) q := fun _ h => h
  have hS : va_S (fun q : Nat => s.heap.size ≤ q) s.heap s.heap [] := va_S.rf
  have hP : va_P D vwCl [(h0, .inr (7, [.ref aH, .ref aB, .ref aJ, .int 0, .int 0, .int 0, .ref rN, .ref rX, .int 0, .int 0, .int 0, .int 0, .int 0, .int 0, .int (-1), .int (-1), .int 0, .int 0, .ref aV])), (rN, .inr (6, [.int 7, .int 100, .int 800, .int 10]))] s.heap := hP
  have hl := lv_entry ([.ref h0, .int 7]) (n := 2) (Nat.le_of_ble_eq_true rfl)
  rw [lg_entry_eq]
  generalize (lg_sl ([.ref h0, .int 7]) ++ List.replicate (2 - (lg_sl ([.ref h0, .int 7])).length) Slot.unset).toArray = ls at hl ⊢
  have hl : lv_has ls 2 [(0, .ref h0), (1, .int 7)] := hl
  refine lv_iload_n hx hb dX4_many_0 rfl (lv_at hl 1 rfl) ?_
  refine lv_tableIn (off := 110) (tgt := 111) hx hb dX4_many_1 (by decide) (by decide) (by decide +kernel) (by decide) ?_
  refine lv_aload_n hx hb dX4_many_111 rfl (lv_at hl 0 rfl) ?_
  refine va_get (D := D) (ci := 7) (v := .int 0) (C := RX4) (T := TX4) (N := 19) hx hb hts (by decide +kernel) hown hK hP 0 rfl rfl 11 (by decide) (hts (.fieldLink RX4 220 "PrizeHouse" "longSet" "I") (by decide +kernel)) (fun _ h9 => h9) rfl dX4_many_112 ?_
  exact W.iret (v := 0) hx hb hr (fun t ht hW => ⟨⟨0, (), rfl, rfl, trivial⟩, hS.F ht⟩) hS.2.2 dX4_many_115
set_option maxHeartbeats 4000000 in
set_option maxRecDepth 100000 in
theorem k_many_8 (l : Launch) (D : va_G) (eT : Nat) (h0 : Nat) (aH : Nat) (aB : Nat) (aJ : Nat) (rN : Nat) (rX : Nat) (aV : Nat) (sz : Nat) : Met l yX4_many wsX4_many ({ frames := 0, cells := 0, slots := 0, locals := 0 }) (va_Pc [.ref h0, .int 8] (pr D eT sz [(h0, .inr (7, [.ref aH, .ref aB, .ref aJ, .int 0, .int 0, .int 0, .ref rN, .ref rX, .int 0, .int 0, .int 0, .int 0, .int 0, .int 0, .int (-1), .int (-1), .int 0, .int 0, .ref aV])), (rN, .inr (6, [.int 7, .int 100, .int 800, .int 10]))] [])) (va_Qi (fun (r : Int32) (_ : Unit) => r = 0) (fun _ _ => True) (fun q => sz ≤ q)) 0 0 (fun q => sz ≤ q) := by
  refine Met.ofW (cc := cX4_many) (maxL := 2) (ret := (some .int)) (by decide +kernel) rfl ?_
  intro p e s m args below meth c s₁ B hml hv
  obtain ⟨rfl, hsz, hP, hK, hE⟩ := hv
  have hx := B.exec
  have hb := B.bytes
  have hr := B.returns
  have hts := atoms_spec (ws := wsX4_many) B.pre
  have hown : s.vm.findClass RX4 = some m.cls := findClass_of_methodNamed B.named
  have hlocks := B.notSynchronized
  subst hsz
  have hA : ∀ q : Nat, s.heap.size ≤ q → (fun q : Nat => s.heap.size ≤ q) q := fun _ h => h
  have hS : va_S (fun q : Nat => s.heap.size ≤ q) s.heap s.heap [] := va_S.rf
  have hP : va_P D vwCl [(h0, .inr (7, [.ref aH, .ref aB, .ref aJ, .int 0, .int 0, .int 0, .ref rN, .ref rX, .int 0, .int 0, .int 0, .int 0, .int 0, .int 0, .int (-1), .int (-1), .int 0, .int 0, .ref aV])), (rN, .inr (6, [.int 7, .int 100, .int 800, .int 10]))] s.heap := hP
  have hl := lv_entry ([.ref h0, .int 8]) (n := 2) (Nat.le_of_ble_eq_true rfl)
  rw [lg_entry_eq]
  generalize (lg_sl ([.ref h0, .int 8]) ++ List.replicate (2 - (lg_sl ([.ref h0, .int 8])).length) Slot.unset).toArray = ls at hl ⊢
  have hl : lv_has ls 2 [(0, .ref h0), (1, .int 8)] := hl
  refine lv_iload_n hx hb dX4_many_0 rfl (lv_at hl 1 rfl) ?_
  refine lv_tableIn (off := 115) (tgt := 116) hx hb dX4_many_1 (by decide) (by decide) (by decide +kernel) (by decide) ?_
  refine lv_aload_n hx hb dX4_many_116 rfl (lv_at hl 0 rfl) ?_
  refine va_get (D := D) (ci := 7) (v := .int 0) (C := RX4) (T := TX4) (N := 19) hx hb hts (by decide +kernel) hown hK hP 0 rfl rfl 13 (by decide) (hts (.fieldLink RX4 246 "PrizeHouse" "shortSet" "I") (by decide +kernel)) (fun _ h9 => h9) rfl dX4_many_117 ?_
  exact W.iret (v := 0) hx hb hr (fun t ht hW => ⟨⟨0, (), rfl, rfl, trivial⟩, hS.F ht⟩) hS.2.2 dX4_many_120
set_option maxHeartbeats 4000000 in
set_option maxRecDepth 100000 in
theorem k_many_9 (l : Launch) (D : va_G) (eT : Nat) (h0 : Nat) (aH : Nat) (aB : Nat) (aJ : Nat) (rN : Nat) (rX : Nat) (aV : Nat) (sz : Nat) : Met l yX4_many wsX4_many ({ frames := 0, cells := 0, slots := 0, locals := 0 }) (va_Pc [.ref h0, .int 9] (pr D eT sz [(h0, .inr (7, [.ref aH, .ref aB, .ref aJ, .int 0, .int 0, .int 0, .ref rN, .ref rX, .int 0, .int 0, .int 0, .int 0, .int 0, .int 0, .int (-1), .int (-1), .int 0, .int 0, .ref aV])), (rN, .inr (6, [.int 7, .int 100, .int 800, .int 10]))] [])) (va_Qi (fun (r : Int32) (_ : Unit) => r = (-1)) (fun _ _ => True) (fun q => sz ≤ q)) 0 0 (fun q => sz ≤ q) := by
  refine Met.ofW (cc := cX4_many) (maxL := 2) (ret := (some .int)) (by decide +kernel) rfl ?_
  intro p e s m args below meth c s₁ B hml hv
  obtain ⟨rfl, hsz, hP, hK, hE⟩ := hv
  have hx := B.exec
  have hb := B.bytes
  have hr := B.returns
  have hts := atoms_spec (ws := wsX4_many) B.pre
  have hown : s.vm.findClass RX4 = some m.cls := findClass_of_methodNamed B.named
  have hlocks := B.notSynchronized
  subst hsz
  have hA : ∀ q : Nat, s.heap.size ≤ q → (fun q : Nat => s.heap.size ≤ q) q := fun _ h => h
  have hS : va_S (fun q : Nat => s.heap.size ≤ q) s.heap s.heap [] := va_S.rf
  have hP : va_P D vwCl [(h0, .inr (7, [.ref aH, .ref aB, .ref aJ, .int 0, .int 0, .int 0, .ref rN, .ref rX, .int 0, .int 0, .int 0, .int 0, .int 0, .int 0, .int (-1), .int (-1), .int 0, .int 0, .ref aV])), (rN, .inr (6, [.int 7, .int 100, .int 800, .int 10]))] s.heap := hP
  have hl := lv_entry ([.ref h0, .int 9]) (n := 2) (Nat.le_of_ble_eq_true rfl)
  rw [lg_entry_eq]
  generalize (lg_sl ([.ref h0, .int 9]) ++ List.replicate (2 - (lg_sl ([.ref h0, .int 9])).length) Slot.unset).toArray = ls at hl ⊢
  have hl : lv_has ls 2 [(0, .ref h0), (1, .int 9)] := hl
  refine lv_iload_n hx hb dX4_many_0 rfl (lv_at hl 1 rfl) ?_
  refine lv_tableIn (off := 120) (tgt := 121) hx hb dX4_many_1 (by decide) (by decide) (by decide +kernel) (by decide) ?_
  refine lv_aload_n hx hb dX4_many_121 rfl (lv_at hl 0 rfl) ?_
  refine va_get (D := D) (ci := 7) (v := .int (-1)) (C := RX4) (T := TX4) (N := 19) hx hb hts (by decide +kernel) hown hK hP 0 rfl rfl 14 (by decide) (hts (.fieldLink RX4 41 "PrizeHouse" "winner" "I") (by decide +kernel)) (fun _ h9 => h9) rfl dX4_many_122 ?_
  exact W.iret (v := (-1)) hx hb hr (fun t ht hW => ⟨⟨(-1), (), rfl, rfl, trivial⟩, hS.F ht⟩) hS.2.2 dX4_many_125
set_option maxHeartbeats 4000000 in
set_option maxRecDepth 100000 in
theorem k_many_10 (l : Launch) (D : va_G) (eT : Nat) (h0 : Nat) (aH : Nat) (aB : Nat) (aJ : Nat) (rN : Nat) (rX : Nat) (aV : Nat) (sz : Nat) : Met l yX4_many wsX4_many ({ frames := 0, cells := 0, slots := 0, locals := 0 }) (va_Pc [.ref h0, .int 10] (pr D eT sz [(h0, .inr (7, [.ref aH, .ref aB, .ref aJ, .int 0, .int 0, .int 0, .ref rN, .ref rX, .int 0, .int 0, .int 0, .int 0, .int 0, .int 0, .int (-1), .int (-1), .int 0, .int 0, .ref aV])), (rN, .inr (6, [.int 7, .int 100, .int 800, .int 10]))] [])) (va_Qi (fun (r : Int32) (_ : Unit) => r = (-1)) (fun _ _ => True) (fun q => sz ≤ q)) 0 0 (fun q => sz ≤ q) := by
  refine Met.ofW (cc := cX4_many) (maxL := 2) (ret := (some .int)) (by decide +kernel) rfl ?_
  intro p e s m args below meth c s₁ B hml hv
  obtain ⟨rfl, hsz, hP, hK, hE⟩ := hv
  have hx := B.exec
  have hb := B.bytes
  have hr := B.returns
  have hts := atoms_spec (ws := wsX4_many) B.pre
  have hown : s.vm.findClass RX4 = some m.cls := findClass_of_methodNamed B.named
  have hlocks := B.notSynchronized
  subst hsz
  have hA : ∀ q : Nat, s.heap.size ≤ q → (fun q : Nat => s.heap.size ≤ q) q := fun _ h => h
  have hS : va_S (fun q : Nat => s.heap.size ≤ q) s.heap s.heap [] := va_S.rf
  have hP : va_P D vwCl [(h0, .inr (7, [.ref aH, .ref aB, .ref aJ, .int 0, .int 0, .int 0, .ref rN, .ref rX, .int 0, .int 0, .int 0, .int 0, .int 0, .int 0, .int (-1), .int (-1), .int 0, .int 0, .ref aV])), (rN, .inr (6, [.int 7, .int 100, .int 800, .int 10]))] s.heap := hP
  have hl := lv_entry ([.ref h0, .int 10]) (n := 2) (Nat.le_of_ble_eq_true rfl)
  rw [lg_entry_eq]
  generalize (lg_sl ([.ref h0, .int 10]) ++ List.replicate (2 - (lg_sl ([.ref h0, .int 10])).length) Slot.unset).toArray = ls at hl ⊢
  have hl : lv_has ls 2 [(0, .ref h0), (1, .int 10)] := hl
  refine lv_iload_n hx hb dX4_many_0 rfl (lv_at hl 1 rfl) ?_
  refine lv_tableIn (off := 125) (tgt := 126) hx hb dX4_many_1 (by decide) (by decide) (by decide +kernel) (by decide) ?_
  refine lv_aload_n hx hb dX4_many_126 rfl (lv_at hl 0 rfl) ?_
  refine va_get (D := D) (ci := 7) (v := .int (-1)) (C := RX4) (T := TX4) (N := 19) hx hb hts (by decide +kernel) hown hK hP 0 rfl rfl 15 (by decide) (hts (.fieldLink RX4 44 "PrizeHouse" "formerWinner" "I") (by decide +kernel)) (fun _ h9 => h9) rfl dX4_many_127 ?_
  exact W.iret (v := (-1)) hx hb hr (fun t ht hW => ⟨⟨(-1), (), rfl, rfl, trivial⟩, hS.F ht⟩) hS.2.2 dX4_many_130
set_option maxHeartbeats 4000000 in
set_option maxRecDepth 100000 in
theorem k_many_11 (l : Launch) (D : va_G) (eT : Nat) (h0 : Nat) (aH : Nat) (aB : Nat) (aJ : Nat) (rN : Nat) (rX : Nat) (aV : Nat) (sz : Nat) : Met l yX4_many wsX4_many ({ frames := 1, cells := 0, slots := 0, locals := 20 }) (va_Pc [.ref h0, .int 11] (pr D eT sz [(h0, .inr (7, [.ref aH, .ref aB, .ref aJ, .int 0, .int 0, .int 0, .ref rN, .ref rX, .int 0, .int 0, .int 0, .int 0, .int 0, .int 0, .int (-1), .int (-1), .int 0, .int 0, .ref aV])), (rN, .inr (6, [.int 7, .int 100, .int 800, .int 10]))] [])) (va_Qi (fun (r : Int32) (_ : Unit) => r = 0) (fun _ _ => True) (fun q => sz ≤ q)) 0 0 (fun q => sz ≤ q) := by
  refine Met.ofW (cc := cX4_many) (maxL := 2) (ret := (some .int)) (by decide +kernel) rfl ?_
  intro p e s m args below meth c s₁ B hml hv
  obtain ⟨rfl, hsz, hP, hK, hE⟩ := hv
  have hx := B.exec
  have hb := B.bytes
  have hr := B.returns
  have hts := atoms_spec (ws := wsX4_many) B.pre
  have hown : s.vm.findClass RX4 = some m.cls := findClass_of_methodNamed B.named
  have hlocks := B.notSynchronized
  subst hsz
  have hA : ∀ q : Nat, s.heap.size ≤ q → (fun q : Nat => s.heap.size ≤ q) q := fun _ h => h
  have hS : va_S (fun q : Nat => s.heap.size ≤ q) s.heap s.heap [] := va_S.rf
  have hP : va_P D vwCl [(h0, .inr (7, [.ref aH, .ref aB, .ref aJ, .int 0, .int 0, .int 0, .ref rN, .ref rX, .int 0, .int 0, .int 0, .int 0, .int 0, .int 0, .int (-1), .int (-1), .int 0, .int 0, .ref aV])), (rN, .inr (6, [.int 7, .int 100, .int 800, .int 10]))] s.heap := hP
  have hl := lv_entry ([.ref h0, .int 11]) (n := 2) (Nat.le_of_ble_eq_true rfl)
  rw [lg_entry_eq]
  generalize (lg_sl ([.ref h0, .int 11]) ++ List.replicate (2 - (lg_sl ([.ref h0, .int 11])).length) Slot.unset).toArray = ls at hl ⊢
  have hl : lv_has ls 2 [(0, .ref h0), (1, .int 11)] := hl
  refine lv_iload_n hx hb dX4_many_0 rfl (lv_at hl 1 rfl) ?_
  refine lv_tableIn (off := 130) (tgt := 131) hx hb dX4_many_1 (by decide) (by decide) (by decide +kernel) (by decide) ?_
  refine lv_aload_n hx hb dX4_many_131 rfl (lv_at hl 0 rfl) ?_
  refine va_get (D := D) (ci := 7) (v := .int 0) (C := RX4) (T := TX4) (N := 19) hx hb hts (by decide +kernel) hown hK hP 0 rfl rfl 17 (by decide) (hts (.fieldLink RX4 273 "PrizeHouse" "strippedSet" "I") (by decide +kernel)) (fun _ h9 => h9) rfl dX4_many_132 ?_
  have hPc := hP.sub (ws' := []) [] rfl
  have hKc := hK.sub (tys' := []) [] rfl
  refine va_calli (va_runS (As := [.int 0]) (rest := []) ⟨hx, hb, hml, hown, hts⟩ (k_bitCount0 l D eT s.heap.size ) (va_cwS 1 hts gX4_many_J6_bitCount_0f7a4 rfl rfl rfl (by decide +kernel) ⟨Nat.le_of_ble_eq_true rfl, Nat.le_of_ble_eq_true rfl⟩) (pr_s hPc hKc hE hS hA) rfl rfl hl.1 rfl (lv_room (Nat.le_of_ble_eq_true rfl)) dX4_many_135 ⟨Nat.le_of_ble_eq_true rfl, Nat.le_of_ble_eq_true rfl⟩) hS (fun q h1 h2 => ro_A h1 h2) (fun q h => ro_F hS hA q h) (fun r u t H1 locs ht hvm hw hB hz1 hk1 hS => ?_)
  have hw : r = 0 := hw
  rw [hw]
  have hP := ro_P hP hk1
  generalize H1 = H at hP hS ⊢
  exact W.iret (v := 0) hx hb hr (fun t ht hW => ⟨⟨0, (), rfl, rfl, trivial⟩, hS.F ht⟩) hS.2.2 dX4_many_138
set_option maxHeartbeats 4000000 in
set_option maxRecDepth 100000 in
theorem k_many_12 (l : Launch) (D : va_G) (eT : Nat) (h0 : Nat) (aH : Nat) (aB : Nat) (aJ : Nat) (rN : Nat) (rX : Nat) (aV : Nat) (sz : Nat) : Met l yX4_many wsX4_many ({ frames := 1, cells := 0, slots := 0, locals := 22 }) (va_Pc [.ref h0, .int 12] (pr D eT sz [(h0, .inr (7, [.ref aH, .ref aB, .ref aJ, .int 0, .int 0, .int 0, .ref rN, .ref rX, .int 0, .int 0, .int 0, .int 0, .int 0, .int 0, .int (-1), .int (-1), .int 0, .int 0, .ref aV])), (rN, .inr (6, [.int 7, .int 100, .int 800, .int 10]))] [])) (va_Qi (fun (r : Int32) (_ : Unit) => r = 0) (fun _ _ => True) (fun q => sz ≤ q)) 0 0 (fun q => sz ≤ q) := by
  refine Met.ofW (cc := cX4_many) (maxL := 2) (ret := (some .int)) (by decide +kernel) rfl ?_
  intro p e s m args below meth c s₁ B hml hv
  obtain ⟨rfl, hsz, hP, hK, hE⟩ := hv
  have hx := B.exec
  have hb := B.bytes
  have hr := B.returns
  have hts := atoms_spec (ws := wsX4_many) B.pre
  have hown : s.vm.findClass RX4 = some m.cls := findClass_of_methodNamed B.named
  have hlocks := B.notSynchronized
  subst hsz
  have hA : ∀ q : Nat, s.heap.size ≤ q → (fun q : Nat => s.heap.size ≤ q) q := fun _ h => h
  have hS : va_S (fun q : Nat => s.heap.size ≤ q) s.heap s.heap [] := va_S.rf
  have hP : va_P D vwCl [(h0, .inr (7, [.ref aH, .ref aB, .ref aJ, .int 0, .int 0, .int 0, .ref rN, .ref rX, .int 0, .int 0, .int 0, .int 0, .int 0, .int 0, .int (-1), .int (-1), .int 0, .int 0, .ref aV])), (rN, .inr (6, [.int 7, .int 100, .int 800, .int 10]))] s.heap := hP
  have hl := lv_entry ([.ref h0, .int 12]) (n := 2) (Nat.le_of_ble_eq_true rfl)
  rw [lg_entry_eq]
  generalize (lg_sl ([.ref h0, .int 12]) ++ List.replicate (2 - (lg_sl ([.ref h0, .int 12])).length) Slot.unset).toArray = ls at hl ⊢
  have hl : lv_has ls 2 [(0, .ref h0), (1, .int 12)] := hl
  refine lv_iload_n hx hb dX4_many_0 rfl (lv_at hl 1 rfl) ?_
  refine lv_tableIn (off := 138) (tgt := 139) hx hb dX4_many_1 (by decide) (by decide) (by decide +kernel) (by decide) ?_
  refine lv_aload_n hx hb dX4_many_139 rfl (lv_at hl 0 rfl) ?_
  have hPc := hP.sub (ws' := [(h0, .inr (7, [.ref aH, .ref aB, .ref aJ, .int 0, .int 0, .int 0, .ref rN, .ref rX, .int 0, .int 0, .int 0, .int 0, .int 0, .int 0, .int (-1), .int (-1), .int 0, .int 0, .ref aV]))]) [0] rfl
  have hKc := hK.sub (tys' := []) [] rfl
  refine va_calli (va_runV (As := []) (rest := []) ⟨hx, hb, hml, hown, hts⟩ (k_soldEver l D eT h0 aH aB aJ rN rX aV s.heap.size ) (cwV 0 hts gX4_many_X4_soldEver rfl rfl rfl (by decide +kernel) ⟨Nat.le_of_ble_eq_true rfl, Nat.le_of_ble_eq_true rfl⟩) (pr_v (ci := 7) (q0 := 0) rfl rfl hPc hKc hE hS hA) rfl rfl hl.1 rfl (lv_room (Nat.le_of_ble_eq_true rfl)) dX4_many_140 ⟨Nat.le_of_ble_eq_true rfl, Nat.le_of_ble_eq_true rfl⟩) hS (fun q h1 h2 => ro_A h1 h2) (fun q h => ro_F hS hA q h) (fun r u t H1 locs ht hvm hw hB hz1 hk1 hS => ?_)
  have hw : r = 0 := hw
  rw [hw]
  have hP := ro_P hP hk1
  generalize H1 = H at hP hS ⊢
  exact W.iret (v := 0) hx hb hr (fun t ht hW => ⟨⟨0, (), rfl, rfl, trivial⟩, hS.F ht⟩) hS.2.2 dX4_many_143
set_option maxHeartbeats 4000000 in
set_option maxRecDepth 100000 in
theorem k_many_13 (l : Launch) (D : va_G) (eT : Nat) (h0 : Nat) (aH : Nat) (aB : Nat) (aJ : Nat) (rN : Nat) (rX : Nat) (aV : Nat) (sz : Nat) : Met l yX4_many wsX4_many ({ frames := 1, cells := 0, slots := 0, locals := 22 }) (va_Pc [.ref h0, .int 13] (pr D eT sz [(h0, .inr (7, [.ref aH, .ref aB, .ref aJ, .int 0, .int 0, .int 0, .ref rN, .ref rX, .int 0, .int 0, .int 0, .int 0, .int 0, .int 0, .int (-1), .int (-1), .int 0, .int 0, .ref aV])), (rN, .inr (6, [.int 7, .int 100, .int 800, .int 10]))] [])) (va_Qi (fun (r : Int32) (_ : Unit) => r = 0) (fun _ _ => True) (fun q => sz ≤ q)) 0 0 (fun q => sz ≤ q) := by
  refine Met.ofW (cc := cX4_many) (maxL := 2) (ret := (some .int)) (by decide +kernel) rfl ?_
  intro p e s m args below meth c s₁ B hml hv
  obtain ⟨rfl, hsz, hP, hK, hE⟩ := hv
  have hx := B.exec
  have hb := B.bytes
  have hr := B.returns
  have hts := atoms_spec (ws := wsX4_many) B.pre
  have hown : s.vm.findClass RX4 = some m.cls := findClass_of_methodNamed B.named
  have hlocks := B.notSynchronized
  subst hsz
  have hA : ∀ q : Nat, s.heap.size ≤ q → (fun q : Nat => s.heap.size ≤ q) q := fun _ h => h
  have hS : va_S (fun q : Nat => s.heap.size ≤ q) s.heap s.heap [] := va_S.rf
  have hP : va_P D vwCl [(h0, .inr (7, [.ref aH, .ref aB, .ref aJ, .int 0, .int 0, .int 0, .ref rN, .ref rX, .int 0, .int 0, .int 0, .int 0, .int 0, .int 0, .int (-1), .int (-1), .int 0, .int 0, .ref aV])), (rN, .inr (6, [.int 7, .int 100, .int 800, .int 10]))] s.heap := hP
  have hl := lv_entry ([.ref h0, .int 13]) (n := 2) (Nat.le_of_ble_eq_true rfl)
  rw [lg_entry_eq]
  generalize (lg_sl ([.ref h0, .int 13]) ++ List.replicate (2 - (lg_sl ([.ref h0, .int 13])).length) Slot.unset).toArray = ls at hl ⊢
  have hl : lv_has ls 2 [(0, .ref h0), (1, .int 13)] := hl
  refine lv_iload_n hx hb dX4_many_0 rfl (lv_at hl 1 rfl) ?_
  refine lv_tableIn (off := 143) (tgt := 144) hx hb dX4_many_1 (by decide) (by decide) (by decide +kernel) (by decide) ?_
  refine lv_aload_n hx hb dX4_many_144 rfl (lv_at hl 0 rfl) ?_
  have hPc := hP.sub (ws' := [(h0, .inr (7, [.ref aH, .ref aB, .ref aJ, .int 0, .int 0, .int 0, .ref rN, .ref rX, .int 0, .int 0, .int 0, .int 0, .int 0, .int 0, .int (-1), .int (-1), .int 0, .int 0, .ref aV]))]) [0] rfl
  have hKc := hK.sub (tys' := []) [] rfl
  refine va_calli (va_runV (As := []) (rest := []) ⟨hx, hb, hml, hown, hts⟩ (k_missedEver l D eT h0 aH aB aJ rN rX aV s.heap.size ) (cwV 0 hts gX4_many_X4_missedEver rfl rfl rfl (by decide +kernel) ⟨Nat.le_of_ble_eq_true rfl, Nat.le_of_ble_eq_true rfl⟩) (pr_v (ci := 7) (q0 := 0) rfl rfl hPc hKc hE hS hA) rfl rfl hl.1 rfl (lv_room (Nat.le_of_ble_eq_true rfl)) dX4_many_145 ⟨Nat.le_of_ble_eq_true rfl, Nat.le_of_ble_eq_true rfl⟩) hS (fun q h1 h2 => ro_A h1 h2) (fun q h => ro_F hS hA q h) (fun r u t H1 locs ht hvm hw hB hz1 hk1 hS => ?_)
  have hw : r = 0 := hw
  rw [hw]
  have hP := ro_P hP hk1
  generalize H1 = H at hP hS ⊢
  exact W.iret (v := 0) hx hb hr (fun t ht hW => ⟨⟨0, (), rfl, rfl, trivial⟩, hS.F ht⟩) hS.2.2 dX4_many_148
set_option maxHeartbeats 4000000 in
set_option maxRecDepth 100000 in
theorem k_many_14 (l : Launch) (D : va_G) (eT : Nat) (h0 : Nat) (aH : Nat) (aB : Nat) (aJ : Nat) (rN : Nat) (rX : Nat) (aV : Nat) (sz : Nat) : Met l yX4_many wsX4_many ({ frames := 0, cells := 0, slots := 0, locals := 0 }) (va_Pc [.ref h0, .int 14] (pr D eT sz [(h0, .inr (7, [.ref aH, .ref aB, .ref aJ, .int 0, .int 0, .int 0, .ref rN, .ref rX, .int 0, .int 0, .int 0, .int 0, .int 0, .int 0, .int (-1), .int (-1), .int 0, .int 0, .ref aV])), (rN, .inr (6, [.int 7, .int 100, .int 800, .int 10]))] [])) (va_Qi (fun (r : Int32) (_ : Unit) => r = 10) (fun _ _ => True) (fun q => sz ≤ q)) 0 0 (fun q => sz ≤ q) := by
  refine Met.ofW (cc := cX4_many) (maxL := 2) (ret := (some .int)) (by decide +kernel) rfl ?_
  intro p e s m args below meth c s₁ B hml hv
  obtain ⟨rfl, hsz, hP, hK, hE⟩ := hv
  have hx := B.exec
  have hb := B.bytes
  have hr := B.returns
  have hts := atoms_spec (ws := wsX4_many) B.pre
  have hown : s.vm.findClass RX4 = some m.cls := findClass_of_methodNamed B.named
  have hlocks := B.notSynchronized
  subst hsz
  have hA : ∀ q : Nat, s.heap.size ≤ q → (fun q : Nat => s.heap.size ≤ q) q := fun _ h => h
  have hS : va_S (fun q : Nat => s.heap.size ≤ q) s.heap s.heap [] := va_S.rf
  have hP : va_P D vwCl [(h0, .inr (7, [.ref aH, .ref aB, .ref aJ, .int 0, .int 0, .int 0, .ref rN, .ref rX, .int 0, .int 0, .int 0, .int 0, .int 0, .int 0, .int (-1), .int (-1), .int 0, .int 0, .ref aV])), (rN, .inr (6, [.int 7, .int 100, .int 800, .int 10]))] s.heap := hP
  have hl := lv_entry ([.ref h0, .int 14]) (n := 2) (Nat.le_of_ble_eq_true rfl)
  rw [lg_entry_eq]
  generalize (lg_sl ([.ref h0, .int 14]) ++ List.replicate (2 - (lg_sl ([.ref h0, .int 14])).length) Slot.unset).toArray = ls at hl ⊢
  have hl : lv_has ls 2 [(0, .ref h0), (1, .int 14)] := hl
  refine lv_iload_n hx hb dX4_many_0 rfl (lv_at hl 1 rfl) ?_
  refine lv_tableIn (off := 148) (tgt := 149) hx hb dX4_many_1 (by decide) (by decide) (by decide +kernel) (by decide) ?_
  refine lv_aload_n hx hb dX4_many_149 rfl (lv_at hl 0 rfl) ?_
  refine va_get (D := D) (ci := 7) (v := .ref rN) (C := RX4) (T := TX4) (N := 19) hx hb hts (by decide +kernel) hown hK hP 0 rfl rfl 6 (by decide) (hts (.fieldLink RX4 30 "PrizeHouse" "rulesNow" "LPrizeHouse$Rules;") (by decide +kernel)) (fun _ h9 => h9) rfl dX4_many_150 ?_
  refine va_get (D := D) (ci := 6) (v := .int 10) (C := RX3) (T := TX3) (N := 4) hx hb hts (by decide +kernel) hown hK hP 1 rfl rfl 3 (by decide) (hts (.fieldLink RX4 135 "PrizeHouse$Rules" "fee" "I") (by decide +kernel)) (fun _ h9 => h9) rfl dX4_many_153 ?_
  exact W.iret (v := 10) hx hb hr (fun t ht hW => ⟨⟨10, (), rfl, rfl, trivial⟩, hS.F ht⟩) hS.2.2 dX4_many_156
set_option maxHeartbeats 4000000 in
set_option maxRecDepth 100000 in
theorem t_many (l : Launch) (hl0 : l.stackTraces = false) (D : va_G) (eT : Nat) (h0 : Nat) (aH : Nat) (aB : Nat) (aJ : Nat) (rN : Nat) (rX : Nat) (aV : Nat) (p0 : Int32) (sz : Nat) (hn : p0.toInt < 0 ∨ 14 < p0.toInt) : vx_Met l yX4_many wsX4_many ({ frames := 6, cells := 1, slots := 6, locals := 82 }) (va_Pc [.ref h0, .int p0] (pr D eT sz [(h0, .inr (7, [.ref aH, .ref aB, .ref aJ, .int 0, .int 0, .int 0, .ref rN, .ref rX, .int 0, .int 0, .int 0, .int 0, .int 0, .int 0, .int (-1), .int (-1), .int 0, .int 0, .ref aV]))] [])) (va_Qi (fun (_ : Int32) (_ : Unit) => False) (fun _ _ => True) (fun q => sz ≤ q)) (xr eIAE sz) 1 6 (fun q => sz ≤ q) := by
  refine vx_ofW (cc := cX4_many) (maxL := 2) (ret := (some .int)) (by decide +kernel) rfl ?_
  intro p e s m args below meth c s₁ B hml hno hv
  obtain ⟨rfl, hsz, hP, hK, hE⟩ := hv
  have hx := B.exec
  have hb := B.bytes
  have hr := B.returns
  have hts := atoms_spec (ws := wsX4_many) B.pre
  have hown : s.vm.findClass RX4 = some m.cls := findClass_of_methodNamed B.named
  have hlocks := B.notSynchronized
  subst hsz
  have hA : ∀ q : Nat, s.heap.size ≤ q → (fun q : Nat => s.heap.size ≤ q) q := fun _ h => h
  have hS : va_S (fun q : Nat => s.heap.size ≤ q) s.heap s.heap [] := va_S.rf
  have hP : va_P D vwCl [(h0, .inr (7, [.ref aH, .ref aB, .ref aJ, .int 0, .int 0, .int 0, .ref rN, .ref rX, .int 0, .int 0, .int 0, .int 0, .int 0, .int 0, .int (-1), .int (-1), .int 0, .int 0, .ref aV]))] s.heap := hP
  have hl := lv_entry ([.ref h0, .int p0]) (n := 2) (Nat.le_of_ble_eq_true rfl)
  rw [lg_entry_eq]
  generalize (lg_sl ([.ref h0, .int p0]) ++ List.replicate (2 - (lg_sl ([.ref h0, .int p0])).length) Slot.unset).toArray = ls at hl ⊢
  have hl : lv_has ls 2 [(0, .ref h0), (1, .int p0)] := hl
  refine lv_iload_n hx hb dX4_many_0 rfl (lv_at hl 1 rfl) ?_
  refine lv_tableOut (tgt := 157) hx hb dX4_many_1 hn (by decide) ?_
  obtain ⟨sa_1, hsa_1⟩ := hE.str 27 rfl
  exact vx_throwSW (A := fun q => s.heap.size ≤ q) hx hb hl0 hown fit_IAE fit_RE (hts (.classLink RX4 80 eIAE) (by decide +kernel)) (hts (.initialized eIAE) (by decide +kernel)) hsa_1 (hat_IAE (fun w h => hts w (List.mem_cons_of_mem _ (List.mem_append_right _ h))) hE.1 hE.2.2.1) good_IAE hE.2.2.2.1 hE.2.2.2.2.1 hS (hl.1.trans hml.symm) dX4_many_157 dX4_many_160 dX4_many_161 dX4_many_164 dX4_many_167 (fun x hx9 => (hno x hx9).elim) (Nat.le_of_ble_eq_true rfl) (Nat.le_of_ble_eq_true rfl) (Nat.le_of_ble_eq_true rfl) (Nat.le_of_ble_eq_true rfl) hlocks (fun t _ h1 h2 => xr_in hS h1 h2) hS.2.2 (Nat.le_of_ble_eq_true rfl) (Nat.le_of_ble_eq_true rfl)
set_option maxHeartbeats 4000000 in
set_option maxRecDepth 100000 in
theorem k_digest (l : Launch) (D : va_G) (eT : Nat) (h0 : Nat) (aH : Nat) (aB : Nat) (aJ : Nat) (rN : Nat) (rX : Nat) (aV : Nat) (sz : Nat) : Met l yX4_digest wsX4_digest ({ frames := 2, cells := 0, slots := 0, locals := 48 }) (va_Pc [.ref h0] (pr D eT sz [(h0, .inr (7, [.ref aH, .ref aB, .ref aJ, .int 0, .int 0, .int 0, .ref rN, .ref rX, .int 0, .int 0, .int 0, .int 0, .int 0, .int 0, .int (-1), .int (-1), .int 0, .int 0, .ref aV])), (rN, .inr (6, [.int 7, .int 100, .int 800, .int 10]))] [])) (va_Ql (fun (r : Int64) (_ : Unit) => r = (-7699694265744296525)) (fun _ _ => True) (fun q => sz ≤ q)) 0 0 (fun q => sz ≤ q) := by
  refine Met.ofW (cc := cX4_digest) (maxL := 5) (ret := (some .long)) (by decide +kernel) rfl ?_
  intro p e s m args below meth c s₁ B hml hv
  obtain ⟨rfl, hsz, hP, hK, hE⟩ := hv
  have hx := B.exec
  have hb := B.bytes
  have hr := B.returns
  have hts := atoms_spec (ws := wsX4_digest) B.pre
  have hown : s.vm.findClass RX4 = some m.cls := findClass_of_methodNamed B.named
  have hlocks := B.notSynchronized
  subst hsz
  have hA : ∀ q : Nat, s.heap.size ≤ q → (fun q : Nat => s.heap.size ≤ q) q := fun _ h => h
  have hS : va_S (fun q : Nat => s.heap.size ≤ q) s.heap s.heap [] := va_S.rf
  have hP : va_P D vwCl [(h0, .inr (7, [.ref aH, .ref aB, .ref aJ, .int 0, .int 0, .int 0, .ref rN, .ref rX, .int 0, .int 0, .int 0, .int 0, .int 0, .int 0, .int (-1), .int (-1), .int 0, .int 0, .ref aV])), (rN, .inr (6, [.int 7, .int 100, .int 800, .int 10]))] s.heap := hP
  have hl := lv_entry ([.ref h0]) (n := 5) (Nat.le_of_ble_eq_true rfl)
  rw [lg_entry_eq]
  generalize (lg_sl ([.ref h0]) ++ List.replicate (5 - (lg_sl ([.ref h0])).length) Slot.unset).toArray = ls at hl ⊢
  have hl : lv_has ls 5 [(0, .ref h0)] := hl
  refine lv_ldc2 (v := 9117) hx hb hown (hts (.constantLong RX4 375 (9117)) (by decide +kernel)) dX4_digest_0 ?_
  refine lv_lstore_n (lv' := [(1, .long 9117), (0, .ref h0)]) hx hb dX4_digest_3 rfl hl (by decide) rfl (fun ls hl => ?_)
  refine lv_iconst (v := 0) hx hb dX4_digest_4 (by decide) ?_
  refine lv_istore_n (lv' := [(3, .int 0), (1, .long 9117), (0, .ref h0)]) hx hb dX4_digest_5 rfl hl (by decide) rfl (fun ls hl => ?_)
  refine lv_iload_n hx hb dX4_digest_6 rfl (lv_at hl 0 rfl) ?_
  refine lv_bipush (v := 14) hx hb dX4_digest_7 (by decide) ?_
  refine lv_icmp_gt (tgt := 31) hx hb dX4_digest_9 (by decide) (fun h => absurd h (by decide)) (fun _ => ?_)
  refine lv_lload_n hx hb dX4_digest_12 rfl (lv_at hl 1 rfl) ?_
  refine lv_ldc2 (v := 31) hx hb hown (hts (.constantLong RX4 377 (31)) (by decide +kernel)) dX4_digest_13 ?_
  refine lv_lmul hx hb dX4_digest_16 ?_
  refine lv_topl (fun z_1 ez_1 => ?_)
  have ez_1 : z_1 = 282627 := ez_1.trans (by decide +kernel)
  rw [ez_1]
  refine lv_aload_n hx hb dX4_digest_17 rfl (lv_at hl 2 rfl) ?_
  refine lv_iload_n hx hb dX4_digest_18 rfl (lv_at hl 0 rfl) ?_
  have hPc := hP.sub (ws' := [(h0, .inr (7, [.ref aH, .ref aB, .ref aJ, .int 0, .int 0, .int 0, .ref rN, .ref rX, .int 0, .int 0, .int 0, .int 0, .int 0, .int 0, .int (-1), .int (-1), .int 0, .int 0, .ref aV])), (rN, .inr (6, [.int 7, .int 100, .int 800, .int 10]))]) [0, 1] rfl
  have hKc := hK.sub (tys' := []) [] rfl
  refine va_calli (va_runV (As := [.int 0]) (rest := [.long 282627]) ⟨hx, hb, hml, hown, hts⟩ (k_many_0 l D eT h0 aH aB aJ rN rX aV s.heap.size ) (cwV 1 hts gX4_digest_X4_many rfl rfl rfl (by decide +kernel) ⟨Nat.le_of_ble_eq_true rfl, Nat.le_of_ble_eq_true rfl⟩) (pr_v (ci := 7) (q0 := 0) rfl rfl hPc hKc hE hS hA) rfl rfl hl.1 rfl (lv_room (Nat.le_of_ble_eq_true rfl)) dX4_digest_19 ⟨Nat.le_of_ble_eq_true rfl, Nat.le_of_ble_eq_true rfl⟩) hS (fun q h1 h2 => ro_A h1 h2) (fun q h => ro_F hS hA q h) (fun r u t H1 locs ht hvm hw hB hz1 hk1 hS => ?_)
  have hw : r = 0 := hw
  rw [hw]
  have hP := ro_P hP hk1
  generalize H1 = H at hP hS ⊢
  refine lv_i2l (v := 0) hx hb dX4_digest_22 (by decide) ?_
  refine lv_ladd hx hb dX4_digest_23 ?_
  refine lv_topl (fun z_2 ez_2 => ?_)
  have ez_2 : z_2 = 282627 := ez_2.trans (by decide +kernel)
  rw [ez_2]
  refine lv_lstore_n (lv' := [(1, .long 282627), (3, .int 0), (0, .ref h0)]) hx hb dX4_digest_24 rfl hl (by decide) rfl (fun ls hl => ?_)
  refine lv_iinc (v := 1) (lv' := [(3, .int 1), (1, .long 282627), (0, .ref h0)]) hx hb dX4_digest_25 hl (k := 1) rfl (by decide) (by decide) rfl (fun ls hl => ?_)
  refine lv_goto (tgt := 6) hx hb dX4_digest_28 (by decide) ?_
  refine lv_iload_n hx hb dX4_digest_6 rfl (lv_at hl 0 rfl) ?_
  refine lv_bipush (v := 14) hx hb dX4_digest_7 (by decide) ?_
  refine lv_icmp_gt (tgt := 31) hx hb dX4_digest_9 (by decide) (fun h => absurd h (by decide)) (fun _ => ?_)
  refine lv_lload_n hx hb dX4_digest_12 rfl (lv_at hl 1 rfl) ?_
  refine lv_ldc2 (v := 31) hx hb hown (hts (.constantLong RX4 377 (31)) (by decide +kernel)) dX4_digest_13 ?_
  refine lv_lmul hx hb dX4_digest_16 ?_
  refine lv_topl (fun z_3 ez_3 => ?_)
  have ez_3 : z_3 = 8761437 := ez_3.trans (by decide +kernel)
  rw [ez_3]
  refine lv_aload_n hx hb dX4_digest_17 rfl (lv_at hl 2 rfl) ?_
  refine lv_iload_n hx hb dX4_digest_18 rfl (lv_at hl 0 rfl) ?_
  have hPc := hP.sub (ws' := [(h0, .inr (7, [.ref aH, .ref aB, .ref aJ, .int 0, .int 0, .int 0, .ref rN, .ref rX, .int 0, .int 0, .int 0, .int 0, .int 0, .int 0, .int (-1), .int (-1), .int 0, .int 0, .ref aV])), (rN, .inr (6, [.int 7, .int 100, .int 800, .int 10]))]) [0, 1] rfl
  have hKc := hK.sub (tys' := []) [] rfl
  refine va_calli (va_runV (As := [.int 1]) (rest := [.long 8761437]) ⟨hx, hb, hml, hown, hts⟩ (k_many_1 l D eT h0 aH aB aJ rN rX aV H.size ) (cwV 1 hts gX4_digest_X4_many rfl rfl rfl (by decide +kernel) ⟨Nat.le_of_ble_eq_true rfl, Nat.le_of_ble_eq_true rfl⟩) (pr_v (ci := 7) (q0 := 0) rfl rfl hPc hKc hE hS hA) rfl rfl hl.1 rfl (lv_room (Nat.le_of_ble_eq_true rfl)) dX4_digest_19 ⟨Nat.le_of_ble_eq_true rfl, Nat.le_of_ble_eq_true rfl⟩) hS (fun q h1 h2 => ro_A h1 h2) (fun q h => ro_F hS hA q h) (fun r u t H1 locs ht hvm hw hB hz1 hk1 hS => ?_)
  have hw : r = 0 := hw
  rw [hw]
  have hP := ro_P hP hk1
  generalize H1 = H at hP hS ⊢
  refine lv_i2l (v := 0) hx hb dX4_digest_22 (by decide) ?_
  refine lv_ladd hx hb dX4_digest_23 ?_
  refine lv_topl (fun z_4 ez_4 => ?_)
  have ez_4 : z_4 = 8761437 := ez_4.trans (by decide +kernel)
  rw [ez_4]
  refine lv_lstore_n (lv' := [(1, .long 8761437), (3, .int 1), (0, .ref h0)]) hx hb dX4_digest_24 rfl hl (by decide) rfl (fun ls hl => ?_)
  refine lv_iinc (v := 2) (lv' := [(3, .int 2), (1, .long 8761437), (0, .ref h0)]) hx hb dX4_digest_25 hl (k := 1) rfl (by decide) (by decide) rfl (fun ls hl => ?_)
  refine lv_goto (tgt := 6) hx hb dX4_digest_28 (by decide) ?_
  refine lv_iload_n hx hb dX4_digest_6 rfl (lv_at hl 0 rfl) ?_
  refine lv_bipush (v := 14) hx hb dX4_digest_7 (by decide) ?_
  refine lv_icmp_gt (tgt := 31) hx hb dX4_digest_9 (by decide) (fun h => absurd h (by decide)) (fun _ => ?_)
  refine lv_lload_n hx hb dX4_digest_12 rfl (lv_at hl 1 rfl) ?_
  refine lv_ldc2 (v := 31) hx hb hown (hts (.constantLong RX4 377 (31)) (by decide +kernel)) dX4_digest_13 ?_
  refine lv_lmul hx hb dX4_digest_16 ?_
  refine lv_topl (fun z_5 ez_5 => ?_)
  have ez_5 : z_5 = 271604547 := ez_5.trans (by decide +kernel)
  rw [ez_5]
  refine lv_aload_n hx hb dX4_digest_17 rfl (lv_at hl 2 rfl) ?_
  refine lv_iload_n hx hb dX4_digest_18 rfl (lv_at hl 0 rfl) ?_
  have hPc := hP.sub (ws' := [(h0, .inr (7, [.ref aH, .ref aB, .ref aJ, .int 0, .int 0, .int 0, .ref rN, .ref rX, .int 0, .int 0, .int 0, .int 0, .int 0, .int 0, .int (-1), .int (-1), .int 0, .int 0, .ref aV])), (rN, .inr (6, [.int 7, .int 100, .int 800, .int 10]))]) [0, 1] rfl
  have hKc := hK.sub (tys' := []) [] rfl
  refine va_calli (va_runV (As := [.int 2]) (rest := [.long 271604547]) ⟨hx, hb, hml, hown, hts⟩ (k_many_2 l D eT h0 aH aB aJ rN rX aV H.size ) (cwV 1 hts gX4_digest_X4_many rfl rfl rfl (by decide +kernel) ⟨Nat.le_of_ble_eq_true rfl, Nat.le_of_ble_eq_true rfl⟩) (pr_v (ci := 7) (q0 := 0) rfl rfl hPc hKc hE hS hA) rfl rfl hl.1 rfl (lv_room (Nat.le_of_ble_eq_true rfl)) dX4_digest_19 ⟨Nat.le_of_ble_eq_true rfl, Nat.le_of_ble_eq_true rfl⟩) hS (fun q h1 h2 => ro_A h1 h2) (fun q h => ro_F hS hA q h) (fun r u t H1 locs ht hvm hw hB hz1 hk1 hS => ?_)
  have hw : r = 0 := hw
  rw [hw]
  have hP := ro_P hP hk1
  generalize H1 = H at hP hS ⊢
  refine lv_i2l (v := 0) hx hb dX4_digest_22 (by decide) ?_
  refine lv_ladd hx hb dX4_digest_23 ?_
  refine lv_topl (fun z_6 ez_6 => ?_)
  have ez_6 : z_6 = 271604547 := ez_6.trans (by decide +kernel)
  rw [ez_6]
  refine lv_lstore_n (lv' := [(1, .long 271604547), (3, .int 2), (0, .ref h0)]) hx hb dX4_digest_24 rfl hl (by decide) rfl (fun ls hl => ?_)
  refine lv_iinc (v := 3) (lv' := [(3, .int 3), (1, .long 271604547), (0, .ref h0)]) hx hb dX4_digest_25 hl (k := 1) rfl (by decide) (by decide) rfl (fun ls hl => ?_)
  refine lv_goto (tgt := 6) hx hb dX4_digest_28 (by decide) ?_
  refine lv_iload_n hx hb dX4_digest_6 rfl (lv_at hl 0 rfl) ?_
  refine lv_bipush (v := 14) hx hb dX4_digest_7 (by decide) ?_
  refine lv_icmp_gt (tgt := 31) hx hb dX4_digest_9 (by decide) (fun h => absurd h (by decide)) (fun _ => ?_)
  refine lv_lload_n hx hb dX4_digest_12 rfl (lv_at hl 1 rfl) ?_
  refine lv_ldc2 (v := 31) hx hb hown (hts (.constantLong RX4 377 (31)) (by decide +kernel)) dX4_digest_13 ?_
  refine lv_lmul hx hb dX4_digest_16 ?_
  refine lv_topl (fun z_7 ez_7 => ?_)
  have ez_7 : z_7 = 8419740957 := ez_7.trans (by decide +kernel)
  rw [ez_7]
  refine lv_aload_n hx hb dX4_digest_17 rfl (lv_at hl 2 rfl) ?_
  refine lv_iload_n hx hb dX4_digest_18 rfl (lv_at hl 0 rfl) ?_
  have hPc := hP.sub (ws' := [(h0, .inr (7, [.ref aH, .ref aB, .ref aJ, .int 0, .int 0, .int 0, .ref rN, .ref rX, .int 0, .int 0, .int 0, .int 0, .int 0, .int 0, .int (-1), .int (-1), .int 0, .int 0, .ref aV])), (rN, .inr (6, [.int 7, .int 100, .int 800, .int 10]))]) [0, 1] rfl
  have hKc := hK.sub (tys' := []) [] rfl
  refine va_calli (va_runV (As := [.int 3]) (rest := [.long 8419740957]) ⟨hx, hb, hml, hown, hts⟩ (k_many_3 l D eT h0 aH aB aJ rN rX aV H.size ) (cwV 1 hts gX4_digest_X4_many rfl rfl rfl (by decide +kernel) ⟨Nat.le_of_ble_eq_true rfl, Nat.le_of_ble_eq_true rfl⟩) (pr_v (ci := 7) (q0 := 0) rfl rfl hPc hKc hE hS hA) rfl rfl hl.1 rfl (lv_room (Nat.le_of_ble_eq_true rfl)) dX4_digest_19 ⟨Nat.le_of_ble_eq_true rfl, Nat.le_of_ble_eq_true rfl⟩) hS (fun q h1 h2 => ro_A h1 h2) (fun q h => ro_F hS hA q h) (fun r u t H1 locs ht hvm hw hB hz1 hk1 hS => ?_)
  have hw : r = 0 := hw
  rw [hw]
  have hP := ro_P hP hk1
  generalize H1 = H at hP hS ⊢
  refine lv_i2l (v := 0) hx hb dX4_digest_22 (by decide) ?_
  refine lv_ladd hx hb dX4_digest_23 ?_
  refine lv_topl (fun z_8 ez_8 => ?_)
  have ez_8 : z_8 = 8419740957 := ez_8.trans (by decide +kernel)
  rw [ez_8]
  refine lv_lstore_n (lv' := [(1, .long 8419740957), (3, .int 3), (0, .ref h0)]) hx hb dX4_digest_24 rfl hl (by decide) rfl (fun ls hl => ?_)
  refine lv_iinc (v := 4) (lv' := [(3, .int 4), (1, .long 8419740957), (0, .ref h0)]) hx hb dX4_digest_25 hl (k := 1) rfl (by decide) (by decide) rfl (fun ls hl => ?_)
  refine lv_goto (tgt := 6) hx hb dX4_digest_28 (by decide) ?_
  refine lv_iload_n hx hb dX4_digest_6 rfl (lv_at hl 0 rfl) ?_
  refine lv_bipush (v := 14) hx hb dX4_digest_7 (by decide) ?_
  refine lv_icmp_gt (tgt := 31) hx hb dX4_digest_9 (by decide) (fun h => absurd h (by decide)) (fun _ => ?_)
  refine lv_lload_n hx hb dX4_digest_12 rfl (lv_at hl 1 rfl) ?_
  refine lv_ldc2 (v := 31) hx hb hown (hts (.constantLong RX4 377 (31)) (by decide +kernel)) dX4_digest_13 ?_
  refine lv_lmul hx hb dX4_digest_16 ?_
  refine lv_topl (fun z_9 ez_9 => ?_)
  have ez_9 : z_9 = 261011969667 := ez_9.trans (by decide +kernel)
  rw [ez_9]
  refine lv_aload_n hx hb dX4_digest_17 rfl (lv_at hl 2 rfl) ?_
  refine lv_iload_n hx hb dX4_digest_18 rfl (lv_at hl 0 rfl) ?_
  have hPc := hP.sub (ws' := [(h0, .inr (7, [.ref aH, .ref aB, .ref aJ, .int 0, .int 0, .int 0, .ref rN, .ref rX, .int 0, .int 0, .int 0, .int 0, .int 0, .int 0, .int (-1), .int (-1), .int 0, .int 0, .ref aV])), (rN, .inr (6, [.int 7, .int 100, .int 800, .int 10]))]) [0, 1] rfl
  have hKc := hK.sub (tys' := []) [] rfl
  refine va_calli (va_runV (As := [.int 4]) (rest := [.long 261011969667]) ⟨hx, hb, hml, hown, hts⟩ (k_many_4 l D eT h0 aH aB aJ rN rX aV H.size ) (cwV 1 hts gX4_digest_X4_many rfl rfl rfl (by decide +kernel) ⟨Nat.le_of_ble_eq_true rfl, Nat.le_of_ble_eq_true rfl⟩) (pr_v (ci := 7) (q0 := 0) rfl rfl hPc hKc hE hS hA) rfl rfl hl.1 rfl (lv_room (Nat.le_of_ble_eq_true rfl)) dX4_digest_19 ⟨Nat.le_of_ble_eq_true rfl, Nat.le_of_ble_eq_true rfl⟩) hS (fun q h1 h2 => ro_A h1 h2) (fun q h => ro_F hS hA q h) (fun r u t H1 locs ht hvm hw hB hz1 hk1 hS => ?_)
  have hw : r = 0 := hw
  rw [hw]
  have hP := ro_P hP hk1
  generalize H1 = H at hP hS ⊢
  refine lv_i2l (v := 0) hx hb dX4_digest_22 (by decide) ?_
  refine lv_ladd hx hb dX4_digest_23 ?_
  refine lv_topl (fun z_10 ez_10 => ?_)
  have ez_10 : z_10 = 261011969667 := ez_10.trans (by decide +kernel)
  rw [ez_10]
  refine lv_lstore_n (lv' := [(1, .long 261011969667), (3, .int 4), (0, .ref h0)]) hx hb dX4_digest_24 rfl hl (by decide) rfl (fun ls hl => ?_)
  refine lv_iinc (v := 5) (lv' := [(3, .int 5), (1, .long 261011969667), (0, .ref h0)]) hx hb dX4_digest_25 hl (k := 1) rfl (by decide) (by decide) rfl (fun ls hl => ?_)
  refine lv_goto (tgt := 6) hx hb dX4_digest_28 (by decide) ?_
  refine lv_iload_n hx hb dX4_digest_6 rfl (lv_at hl 0 rfl) ?_
  refine lv_bipush (v := 14) hx hb dX4_digest_7 (by decide) ?_
  refine lv_icmp_gt (tgt := 31) hx hb dX4_digest_9 (by decide) (fun h => absurd h (by decide)) (fun _ => ?_)
  refine lv_lload_n hx hb dX4_digest_12 rfl (lv_at hl 1 rfl) ?_
  refine lv_ldc2 (v := 31) hx hb hown (hts (.constantLong RX4 377 (31)) (by decide +kernel)) dX4_digest_13 ?_
  refine lv_lmul hx hb dX4_digest_16 ?_
  refine lv_topl (fun z_11 ez_11 => ?_)
  have ez_11 : z_11 = 8091371059677 := ez_11.trans (by decide +kernel)
  rw [ez_11]
  refine lv_aload_n hx hb dX4_digest_17 rfl (lv_at hl 2 rfl) ?_
  refine lv_iload_n hx hb dX4_digest_18 rfl (lv_at hl 0 rfl) ?_
  have hPc := hP.sub (ws' := [(h0, .inr (7, [.ref aH, .ref aB, .ref aJ, .int 0, .int 0, .int 0, .ref rN, .ref rX, .int 0, .int 0, .int 0, .int 0, .int 0, .int 0, .int (-1), .int (-1), .int 0, .int 0, .ref aV])), (rN, .inr (6, [.int 7, .int 100, .int 800, .int 10]))]) [0, 1] rfl
  have hKc := hK.sub (tys' := []) [] rfl
  refine va_calli (va_runV (As := [.int 5]) (rest := [.long 8091371059677]) ⟨hx, hb, hml, hown, hts⟩ (k_many_5 l D eT h0 aH aB aJ rN rX aV H.size ) (cwV 1 hts gX4_digest_X4_many rfl rfl rfl (by decide +kernel) ⟨Nat.le_of_ble_eq_true rfl, Nat.le_of_ble_eq_true rfl⟩) (pr_v (ci := 7) (q0 := 0) rfl rfl hPc hKc hE hS hA) rfl rfl hl.1 rfl (lv_room (Nat.le_of_ble_eq_true rfl)) dX4_digest_19 ⟨Nat.le_of_ble_eq_true rfl, Nat.le_of_ble_eq_true rfl⟩) hS (fun q h1 h2 => ro_A h1 h2) (fun q h => ro_F hS hA q h) (fun r u t H1 locs ht hvm hw hB hz1 hk1 hS => ?_)
  have hw : r = 0 := hw
  rw [hw]
  have hP := ro_P hP hk1
  generalize H1 = H at hP hS ⊢
  refine lv_i2l (v := 0) hx hb dX4_digest_22 (by decide) ?_
  refine lv_ladd hx hb dX4_digest_23 ?_
  refine lv_topl (fun z_12 ez_12 => ?_)
  have ez_12 : z_12 = 8091371059677 := ez_12.trans (by decide +kernel)
  rw [ez_12]
  refine lv_lstore_n (lv' := [(1, .long 8091371059677), (3, .int 5), (0, .ref h0)]) hx hb dX4_digest_24 rfl hl (by decide) rfl (fun ls hl => ?_)
  refine lv_iinc (v := 6) (lv' := [(3, .int 6), (1, .long 8091371059677), (0, .ref h0)]) hx hb dX4_digest_25 hl (k := 1) rfl (by decide) (by decide) rfl (fun ls hl => ?_)
  refine lv_goto (tgt := 6) hx hb dX4_digest_28 (by decide) ?_
  refine lv_iload_n hx hb dX4_digest_6 rfl (lv_at hl 0 rfl) ?_
  refine lv_bipush (v := 14) hx hb dX4_digest_7 (by decide) ?_
  refine lv_icmp_gt (tgt := 31) hx hb dX4_digest_9 (by decide) (fun h => absurd h (by decide)) (fun _ => ?_)
  refine lv_lload_n hx hb dX4_digest_12 rfl (lv_at hl 1 rfl) ?_
  refine lv_ldc2 (v := 31) hx hb hown (hts (.constantLong RX4 377 (31)) (by decide +kernel)) dX4_digest_13 ?_
  refine lv_lmul hx hb dX4_digest_16 ?_
  refine lv_topl (fun z_13 ez_13 => ?_)
  have ez_13 : z_13 = 250832502849987 := ez_13.trans (by decide +kernel)
  rw [ez_13]
  refine lv_aload_n hx hb dX4_digest_17 rfl (lv_at hl 2 rfl) ?_
  refine lv_iload_n hx hb dX4_digest_18 rfl (lv_at hl 0 rfl) ?_
  have hPc := hP.sub (ws' := [(h0, .inr (7, [.ref aH, .ref aB, .ref aJ, .int 0, .int 0, .int 0, .ref rN, .ref rX, .int 0, .int 0, .int 0, .int 0, .int 0, .int 0, .int (-1), .int (-1), .int 0, .int 0, .ref aV])), (rN, .inr (6, [.int 7, .int 100, .int 800, .int 10]))]) [0, 1] rfl
  have hKc := hK.sub (tys' := []) [] rfl
  refine va_calli (va_runV (As := [.int 6]) (rest := [.long 250832502849987]) ⟨hx, hb, hml, hown, hts⟩ (k_many_6 l D eT h0 aH aB aJ rN rX aV H.size ) (cwV 1 hts gX4_digest_X4_many rfl rfl rfl (by decide +kernel) ⟨Nat.le_of_ble_eq_true rfl, Nat.le_of_ble_eq_true rfl⟩) (pr_v (ci := 7) (q0 := 0) rfl rfl hPc hKc hE hS hA) rfl rfl hl.1 rfl (lv_room (Nat.le_of_ble_eq_true rfl)) dX4_digest_19 ⟨Nat.le_of_ble_eq_true rfl, Nat.le_of_ble_eq_true rfl⟩) hS (fun q h1 h2 => ro_A h1 h2) (fun q h => ro_F hS hA q h) (fun r u t H1 locs ht hvm hw hB hz1 hk1 hS => ?_)
  have hw : r = 0 := hw
  rw [hw]
  have hP := ro_P hP hk1
  generalize H1 = H at hP hS ⊢
  refine lv_i2l (v := 0) hx hb dX4_digest_22 (by decide) ?_
  refine lv_ladd hx hb dX4_digest_23 ?_
  refine lv_topl (fun z_14 ez_14 => ?_)
  have ez_14 : z_14 = 250832502849987 := ez_14.trans (by decide +kernel)
  rw [ez_14]
  refine lv_lstore_n (lv' := [(1, .long 250832502849987), (3, .int 6), (0, .ref h0)]) hx hb dX4_digest_24 rfl hl (by decide) rfl (fun ls hl => ?_)
  refine lv_iinc (v := 7) (lv' := [(3, .int 7), (1, .long 250832502849987), (0, .ref h0)]) hx hb dX4_digest_25 hl (k := 1) rfl (by decide) (by decide) rfl (fun ls hl => ?_)
  refine lv_goto (tgt := 6) hx hb dX4_digest_28 (by decide) ?_
  refine lv_iload_n hx hb dX4_digest_6 rfl (lv_at hl 0 rfl) ?_
  refine lv_bipush (v := 14) hx hb dX4_digest_7 (by decide) ?_
  refine lv_icmp_gt (tgt := 31) hx hb dX4_digest_9 (by decide) (fun h => absurd h (by decide)) (fun _ => ?_)
  refine lv_lload_n hx hb dX4_digest_12 rfl (lv_at hl 1 rfl) ?_
  refine lv_ldc2 (v := 31) hx hb hown (hts (.constantLong RX4 377 (31)) (by decide +kernel)) dX4_digest_13 ?_
  refine lv_lmul hx hb dX4_digest_16 ?_
  refine lv_topl (fun z_15 ez_15 => ?_)
  have ez_15 : z_15 = 7775807588349597 := ez_15.trans (by decide +kernel)
  rw [ez_15]
  refine lv_aload_n hx hb dX4_digest_17 rfl (lv_at hl 2 rfl) ?_
  refine lv_iload_n hx hb dX4_digest_18 rfl (lv_at hl 0 rfl) ?_
  have hPc := hP.sub (ws' := [(h0, .inr (7, [.ref aH, .ref aB, .ref aJ, .int 0, .int 0, .int 0, .ref rN, .ref rX, .int 0, .int 0, .int 0, .int 0, .int 0, .int 0, .int (-1), .int (-1), .int 0, .int 0, .ref aV])), (rN, .inr (6, [.int 7, .int 100, .int 800, .int 10]))]) [0, 1] rfl
  have hKc := hK.sub (tys' := []) [] rfl
  refine va_calli (va_runV (As := [.int 7]) (rest := [.long 7775807588349597]) ⟨hx, hb, hml, hown, hts⟩ (k_many_7 l D eT h0 aH aB aJ rN rX aV H.size ) (cwV 1 hts gX4_digest_X4_many rfl rfl rfl (by decide +kernel) ⟨Nat.le_of_ble_eq_true rfl, Nat.le_of_ble_eq_true rfl⟩) (pr_v (ci := 7) (q0 := 0) rfl rfl hPc hKc hE hS hA) rfl rfl hl.1 rfl (lv_room (Nat.le_of_ble_eq_true rfl)) dX4_digest_19 ⟨Nat.le_of_ble_eq_true rfl, Nat.le_of_ble_eq_true rfl⟩) hS (fun q h1 h2 => ro_A h1 h2) (fun q h => ro_F hS hA q h) (fun r u t H1 locs ht hvm hw hB hz1 hk1 hS => ?_)
  have hw : r = 0 := hw
  rw [hw]
  have hP := ro_P hP hk1
  generalize H1 = H at hP hS ⊢
  refine lv_i2l (v := 0) hx hb dX4_digest_22 (by decide) ?_
  refine lv_ladd hx hb dX4_digest_23 ?_
  refine lv_topl (fun z_16 ez_16 => ?_)
  have ez_16 : z_16 = 7775807588349597 := ez_16.trans (by decide +kernel)
  rw [ez_16]
  refine lv_lstore_n (lv' := [(1, .long 7775807588349597), (3, .int 7), (0, .ref h0)]) hx hb dX4_digest_24 rfl hl (by decide) rfl (fun ls hl => ?_)
  refine lv_iinc (v := 8) (lv' := [(3, .int 8), (1, .long 7775807588349597), (0, .ref h0)]) hx hb dX4_digest_25 hl (k := 1) rfl (by decide) (by decide) rfl (fun ls hl => ?_)
  refine lv_goto (tgt := 6) hx hb dX4_digest_28 (by decide) ?_
  refine lv_iload_n hx hb dX4_digest_6 rfl (lv_at hl 0 rfl) ?_
  refine lv_bipush (v := 14) hx hb dX4_digest_7 (by decide) ?_
  refine lv_icmp_gt (tgt := 31) hx hb dX4_digest_9 (by decide) (fun h => absurd h (by decide)) (fun _ => ?_)
  refine lv_lload_n hx hb dX4_digest_12 rfl (lv_at hl 1 rfl) ?_
  refine lv_ldc2 (v := 31) hx hb hown (hts (.constantLong RX4 377 (31)) (by decide +kernel)) dX4_digest_13 ?_
  refine lv_lmul hx hb dX4_digest_16 ?_
  refine lv_topl (fun z_17 ez_17 => ?_)
  have ez_17 : z_17 = 241050035238837507 := ez_17.trans (by decide +kernel)
  rw [ez_17]
  refine lv_aload_n hx hb dX4_digest_17 rfl (lv_at hl 2 rfl) ?_
  refine lv_iload_n hx hb dX4_digest_18 rfl (lv_at hl 0 rfl) ?_
  have hPc := hP.sub (ws' := [(h0, .inr (7, [.ref aH, .ref aB, .ref aJ, .int 0, .int 0, .int 0, .ref rN, .ref rX, .int 0, .int 0, .int 0, .int 0, .int 0, .int 0, .int (-1), .int (-1), .int 0, .int 0, .ref aV])), (rN, .inr (6, [.int 7, .int 100, .int 800, .int 10]))]) [0, 1] rfl
  have hKc := hK.sub (tys' := []) [] rfl
  refine va_calli (va_runV (As := [.int 8]) (rest := [.long 241050035238837507]) ⟨hx, hb, hml, hown, hts⟩ (k_many_8 l D eT h0 aH aB aJ rN rX aV H.size ) (cwV 1 hts gX4_digest_X4_many rfl rfl rfl (by decide +kernel) ⟨Nat.le_of_ble_eq_true rfl, Nat.le_of_ble_eq_true rfl⟩) (pr_v (ci := 7) (q0 := 0) rfl rfl hPc hKc hE hS hA) rfl rfl hl.1 rfl (lv_room (Nat.le_of_ble_eq_true rfl)) dX4_digest_19 ⟨Nat.le_of_ble_eq_true rfl, Nat.le_of_ble_eq_true rfl⟩) hS (fun q h1 h2 => ro_A h1 h2) (fun q h => ro_F hS hA q h) (fun r u t H1 locs ht hvm hw hB hz1 hk1 hS => ?_)
  have hw : r = 0 := hw
  rw [hw]
  have hP := ro_P hP hk1
  generalize H1 = H at hP hS ⊢
  refine lv_i2l (v := 0) hx hb dX4_digest_22 (by decide) ?_
  refine lv_ladd hx hb dX4_digest_23 ?_
  refine lv_topl (fun z_18 ez_18 => ?_)
  have ez_18 : z_18 = 241050035238837507 := ez_18.trans (by decide +kernel)
  rw [ez_18]
  refine lv_lstore_n (lv' := [(1, .long 241050035238837507), (3, .int 8), (0, .ref h0)]) hx hb dX4_digest_24 rfl hl (by decide) rfl (fun ls hl => ?_)
  refine lv_iinc (v := 9) (lv' := [(3, .int 9), (1, .long 241050035238837507), (0, .ref h0)]) hx hb dX4_digest_25 hl (k := 1) rfl (by decide) (by decide) rfl (fun ls hl => ?_)
  refine lv_goto (tgt := 6) hx hb dX4_digest_28 (by decide) ?_
  refine lv_iload_n hx hb dX4_digest_6 rfl (lv_at hl 0 rfl) ?_
  refine lv_bipush (v := 14) hx hb dX4_digest_7 (by decide) ?_
  refine lv_icmp_gt (tgt := 31) hx hb dX4_digest_9 (by decide) (fun h => absurd h (by decide)) (fun _ => ?_)
  refine lv_lload_n hx hb dX4_digest_12 rfl (lv_at hl 1 rfl) ?_
  refine lv_ldc2 (v := 31) hx hb hown (hts (.constantLong RX4 377 (31)) (by decide +kernel)) dX4_digest_13 ?_
  refine lv_lmul hx hb dX4_digest_16 ?_
  refine lv_topl (fun z_19 ez_19 => ?_)
  have ez_19 : z_19 = 7472551092403962717 := ez_19.trans (by decide +kernel)
  rw [ez_19]
  refine lv_aload_n hx hb dX4_digest_17 rfl (lv_at hl 2 rfl) ?_
  refine lv_iload_n hx hb dX4_digest_18 rfl (lv_at hl 0 rfl) ?_
  have hPc := hP.sub (ws' := [(h0, .inr (7, [.ref aH, .ref aB, .ref aJ, .int 0, .int 0, .int 0, .ref rN, .ref rX, .int 0, .int 0, .int 0, .int 0, .int 0, .int 0, .int (-1), .int (-1), .int 0, .int 0, .ref aV])), (rN, .inr (6, [.int 7, .int 100, .int 800, .int 10]))]) [0, 1] rfl
  have hKc := hK.sub (tys' := []) [] rfl
  refine va_calli (va_runV (As := [.int 9]) (rest := [.long 7472551092403962717]) ⟨hx, hb, hml, hown, hts⟩ (k_many_9 l D eT h0 aH aB aJ rN rX aV H.size ) (cwV 1 hts gX4_digest_X4_many rfl rfl rfl (by decide +kernel) ⟨Nat.le_of_ble_eq_true rfl, Nat.le_of_ble_eq_true rfl⟩) (pr_v (ci := 7) (q0 := 0) rfl rfl hPc hKc hE hS hA) rfl rfl hl.1 rfl (lv_room (Nat.le_of_ble_eq_true rfl)) dX4_digest_19 ⟨Nat.le_of_ble_eq_true rfl, Nat.le_of_ble_eq_true rfl⟩) hS (fun q h1 h2 => ro_A h1 h2) (fun q h => ro_F hS hA q h) (fun r u t H1 locs ht hvm hw hB hz1 hk1 hS => ?_)
  have hw : r = (-1) := hw
  rw [hw]
  have hP := ro_P hP hk1
  generalize H1 = H at hP hS ⊢
  refine lv_i2l (v := (-1)) hx hb dX4_digest_22 (by decide) ?_
  refine lv_ladd hx hb dX4_digest_23 ?_
  refine lv_topl (fun z_20 ez_20 => ?_)
  have ez_20 : z_20 = 7472551092403962716 := ez_20.trans (by decide +kernel)
  rw [ez_20]
  refine lv_lstore_n (lv' := [(1, .long 7472551092403962716), (3, .int 9), (0, .ref h0)]) hx hb dX4_digest_24 rfl hl (by decide) rfl (fun ls hl => ?_)
  refine lv_iinc (v := 10) (lv' := [(3, .int 10), (1, .long 7472551092403962716), (0, .ref h0)]) hx hb dX4_digest_25 hl (k := 1) rfl (by decide) (by decide) rfl (fun ls hl => ?_)
  refine lv_goto (tgt := 6) hx hb dX4_digest_28 (by decide) ?_
  refine lv_iload_n hx hb dX4_digest_6 rfl (lv_at hl 0 rfl) ?_
  refine lv_bipush (v := 14) hx hb dX4_digest_7 (by decide) ?_
  refine lv_icmp_gt (tgt := 31) hx hb dX4_digest_9 (by decide) (fun h => absurd h (by decide)) (fun _ => ?_)
  refine lv_lload_n hx hb dX4_digest_12 rfl (lv_at hl 1 rfl) ?_
  refine lv_ldc2 (v := 31) hx hb hown (hts (.constantLong RX4 377 (31)) (by decide +kernel)) dX4_digest_13 ?_
  refine lv_lmul hx hb dX4_digest_16 ?_
  refine lv_topl (fun z_21 ez_21 => ?_)
  have ez_21 : z_21 = (-8158589093701326812) := ez_21.trans (by decide +kernel)
  rw [ez_21]
  refine lv_aload_n hx hb dX4_digest_17 rfl (lv_at hl 2 rfl) ?_
  refine lv_iload_n hx hb dX4_digest_18 rfl (lv_at hl 0 rfl) ?_
  have hPc := hP.sub (ws' := [(h0, .inr (7, [.ref aH, .ref aB, .ref aJ, .int 0, .int 0, .int 0, .ref rN, .ref rX, .int 0, .int 0, .int 0, .int 0, .int 0, .int 0, .int (-1), .int (-1), .int 0, .int 0, .ref aV])), (rN, .inr (6, [.int 7, .int 100, .int 800, .int 10]))]) [0, 1] rfl
  have hKc := hK.sub (tys' := []) [] rfl
  refine va_calli (va_runV (As := [.int 10]) (rest := [.long (-8158589093701326812)]) ⟨hx, hb, hml, hown, hts⟩ (k_many_10 l D eT h0 aH aB aJ rN rX aV H.size ) (cwV 1 hts gX4_digest_X4_many rfl rfl rfl (by decide +kernel) ⟨Nat.le_of_ble_eq_true rfl, Nat.le_of_ble_eq_true rfl⟩) (pr_v (ci := 7) (q0 := 0) rfl rfl hPc hKc hE hS hA) rfl rfl hl.1 rfl (lv_room (Nat.le_of_ble_eq_true rfl)) dX4_digest_19 ⟨Nat.le_of_ble_eq_true rfl, Nat.le_of_ble_eq_true rfl⟩) hS (fun q h1 h2 => ro_A h1 h2) (fun q h => ro_F hS hA q h) (fun r u t H1 locs ht hvm hw hB hz1 hk1 hS => ?_)
  have hw : r = (-1) := hw
  rw [hw]
  have hP := ro_P hP hk1
  generalize H1 = H at hP hS ⊢
  refine lv_i2l (v := (-1)) hx hb dX4_digest_22 (by decide) ?_
  refine lv_ladd hx hb dX4_digest_23 ?_
  refine lv_topl (fun z_22 ez_22 => ?_)
  have ez_22 : z_22 = (-8158589093701326813) := ez_22.trans (by decide +kernel)
  rw [ez_22]
  refine lv_lstore_n (lv' := [(1, .long (-8158589093701326813)), (3, .int 10), (0, .ref h0)]) hx hb dX4_digest_24 rfl hl (by decide) rfl (fun ls hl => ?_)
  refine lv_iinc (v := 11) (lv' := [(3, .int 11), (1, .long (-8158589093701326813)), (0, .ref h0)]) hx hb dX4_digest_25 hl (k := 1) rfl (by decide) (by decide) rfl (fun ls hl => ?_)
  refine lv_goto (tgt := 6) hx hb dX4_digest_28 (by decide) ?_
  refine lv_iload_n hx hb dX4_digest_6 rfl (lv_at hl 0 rfl) ?_
  refine lv_bipush (v := 14) hx hb dX4_digest_7 (by decide) ?_
  refine lv_icmp_gt (tgt := 31) hx hb dX4_digest_9 (by decide) (fun h => absurd h (by decide)) (fun _ => ?_)
  refine lv_lload_n hx hb dX4_digest_12 rfl (lv_at hl 1 rfl) ?_
  refine lv_ldc2 (v := 31) hx hb hown (hts (.constantLong RX4 377 (31)) (by decide +kernel)) dX4_digest_13 ?_
  refine lv_lmul hx hb dX4_digest_16 ?_
  refine lv_topl (fun z_23 ez_23 => ?_)
  have ez_23 : z_23 = 5338155127192591421 := ez_23.trans (by decide +kernel)
  rw [ez_23]
  refine lv_aload_n hx hb dX4_digest_17 rfl (lv_at hl 2 rfl) ?_
  refine lv_iload_n hx hb dX4_digest_18 rfl (lv_at hl 0 rfl) ?_
  have hPc := hP.sub (ws' := [(h0, .inr (7, [.ref aH, .ref aB, .ref aJ, .int 0, .int 0, .int 0, .ref rN, .ref rX, .int 0, .int 0, .int 0, .int 0, .int 0, .int 0, .int (-1), .int (-1), .int 0, .int 0, .ref aV])), (rN, .inr (6, [.int 7, .int 100, .int 800, .int 10]))]) [0, 1] rfl
  have hKc := hK.sub (tys' := []) [] rfl
  refine va_calli (va_runV (As := [.int 11]) (rest := [.long 5338155127192591421]) ⟨hx, hb, hml, hown, hts⟩ (k_many_11 l D eT h0 aH aB aJ rN rX aV H.size ) (cwV 1 hts gX4_digest_X4_many rfl rfl rfl (by decide +kernel) ⟨Nat.le_of_ble_eq_true rfl, Nat.le_of_ble_eq_true rfl⟩) (pr_v (ci := 7) (q0 := 0) rfl rfl hPc hKc hE hS hA) rfl rfl hl.1 rfl (lv_room (Nat.le_of_ble_eq_true rfl)) dX4_digest_19 ⟨Nat.le_of_ble_eq_true rfl, Nat.le_of_ble_eq_true rfl⟩) hS (fun q h1 h2 => ro_A h1 h2) (fun q h => ro_F hS hA q h) (fun r u t H1 locs ht hvm hw hB hz1 hk1 hS => ?_)
  have hw : r = 0 := hw
  rw [hw]
  have hP := ro_P hP hk1
  generalize H1 = H at hP hS ⊢
  refine lv_i2l (v := 0) hx hb dX4_digest_22 (by decide) ?_
  refine lv_ladd hx hb dX4_digest_23 ?_
  refine lv_topl (fun z_24 ez_24 => ?_)
  have ez_24 : z_24 = 5338155127192591421 := ez_24.trans (by decide +kernel)
  rw [ez_24]
  refine lv_lstore_n (lv' := [(1, .long 5338155127192591421), (3, .int 11), (0, .ref h0)]) hx hb dX4_digest_24 rfl hl (by decide) rfl (fun ls hl => ?_)
  refine lv_iinc (v := 12) (lv' := [(3, .int 12), (1, .long 5338155127192591421), (0, .ref h0)]) hx hb dX4_digest_25 hl (k := 1) rfl (by decide) (by decide) rfl (fun ls hl => ?_)
  refine lv_goto (tgt := 6) hx hb dX4_digest_28 (by decide) ?_
  refine lv_iload_n hx hb dX4_digest_6 rfl (lv_at hl 0 rfl) ?_
  refine lv_bipush (v := 14) hx hb dX4_digest_7 (by decide) ?_
  refine lv_icmp_gt (tgt := 31) hx hb dX4_digest_9 (by decide) (fun h => absurd h (by decide)) (fun _ => ?_)
  refine lv_lload_n hx hb dX4_digest_12 rfl (lv_at hl 1 rfl) ?_
  refine lv_ldc2 (v := 31) hx hb hown (hts (.constantLong RX4 377 (31)) (by decide +kernel)) dX4_digest_13 ?_
  refine lv_lmul hx hb dX4_digest_16 ?_
  refine lv_topl (fun z_25 ez_25 => ?_)
  have ez_25 : z_25 = (-537887720415630493) := ez_25.trans (by decide +kernel)
  rw [ez_25]
  refine lv_aload_n hx hb dX4_digest_17 rfl (lv_at hl 2 rfl) ?_
  refine lv_iload_n hx hb dX4_digest_18 rfl (lv_at hl 0 rfl) ?_
  have hPc := hP.sub (ws' := [(h0, .inr (7, [.ref aH, .ref aB, .ref aJ, .int 0, .int 0, .int 0, .ref rN, .ref rX, .int 0, .int 0, .int 0, .int 0, .int 0, .int 0, .int (-1), .int (-1), .int 0, .int 0, .ref aV])), (rN, .inr (6, [.int 7, .int 100, .int 800, .int 10]))]) [0, 1] rfl
  have hKc := hK.sub (tys' := []) [] rfl
  refine va_calli (va_runV (As := [.int 12]) (rest := [.long (-537887720415630493)]) ⟨hx, hb, hml, hown, hts⟩ (k_many_12 l D eT h0 aH aB aJ rN rX aV H.size ) (cwV 1 hts gX4_digest_X4_many rfl rfl rfl (by decide +kernel) ⟨Nat.le_of_ble_eq_true rfl, Nat.le_of_ble_eq_true rfl⟩) (pr_v (ci := 7) (q0 := 0) rfl rfl hPc hKc hE hS hA) rfl rfl hl.1 rfl (lv_room (Nat.le_of_ble_eq_true rfl)) dX4_digest_19 ⟨Nat.le_of_ble_eq_true rfl, Nat.le_of_ble_eq_true rfl⟩) hS (fun q h1 h2 => ro_A h1 h2) (fun q h => ro_F hS hA q h) (fun r u t H1 locs ht hvm hw hB hz1 hk1 hS => ?_)
  have hw : r = 0 := hw
  rw [hw]
  have hP := ro_P hP hk1
  generalize H1 = H at hP hS ⊢
  refine lv_i2l (v := 0) hx hb dX4_digest_22 (by decide) ?_
  refine lv_ladd hx hb dX4_digest_23 ?_
  refine lv_topl (fun z_26 ez_26 => ?_)
  have ez_26 : z_26 = (-537887720415630493) := ez_26.trans (by decide +kernel)
  rw [ez_26]
  refine lv_lstore_n (lv' := [(1, .long (-537887720415630493)), (3, .int 12), (0, .ref h0)]) hx hb dX4_digest_24 rfl hl (by decide) rfl (fun ls hl => ?_)
  refine lv_iinc (v := 13) (lv' := [(3, .int 13), (1, .long (-537887720415630493)), (0, .ref h0)]) hx hb dX4_digest_25 hl (k := 1) rfl (by decide) (by decide) rfl (fun ls hl => ?_)
  refine lv_goto (tgt := 6) hx hb dX4_digest_28 (by decide) ?_
  refine lv_iload_n hx hb dX4_digest_6 rfl (lv_at hl 0 rfl) ?_
  refine lv_bipush (v := 14) hx hb dX4_digest_7 (by decide) ?_
  refine lv_icmp_gt (tgt := 31) hx hb dX4_digest_9 (by decide) (fun h => absurd h (by decide)) (fun _ => ?_)
  refine lv_lload_n hx hb dX4_digest_12 rfl (lv_at hl 1 rfl) ?_
  refine lv_ldc2 (v := 31) hx hb hown (hts (.constantLong RX4 377 (31)) (by decide +kernel)) dX4_digest_13 ?_
  refine lv_lmul hx hb dX4_digest_16 ?_
  refine lv_topl (fun z_27 ez_27 => ?_)
  have ez_27 : z_27 = 1772224740825006333 := ez_27.trans (by decide +kernel)
  rw [ez_27]
  refine lv_aload_n hx hb dX4_digest_17 rfl (lv_at hl 2 rfl) ?_
  refine lv_iload_n hx hb dX4_digest_18 rfl (lv_at hl 0 rfl) ?_
  have hPc := hP.sub (ws' := [(h0, .inr (7, [.ref aH, .ref aB, .ref aJ, .int 0, .int 0, .int 0, .ref rN, .ref rX, .int 0, .int 0, .int 0, .int 0, .int 0, .int 0, .int (-1), .int (-1), .int 0, .int 0, .ref aV])), (rN, .inr (6, [.int 7, .int 100, .int 800, .int 10]))]) [0, 1] rfl
  have hKc := hK.sub (tys' := []) [] rfl
  refine va_calli (va_runV (As := [.int 13]) (rest := [.long 1772224740825006333]) ⟨hx, hb, hml, hown, hts⟩ (k_many_13 l D eT h0 aH aB aJ rN rX aV H.size ) (cwV 1 hts gX4_digest_X4_many rfl rfl rfl (by decide +kernel) ⟨Nat.le_of_ble_eq_true rfl, Nat.le_of_ble_eq_true rfl⟩) (pr_v (ci := 7) (q0 := 0) rfl rfl hPc hKc hE hS hA) rfl rfl hl.1 rfl (lv_room (Nat.le_of_ble_eq_true rfl)) dX4_digest_19 ⟨Nat.le_of_ble_eq_true rfl, Nat.le_of_ble_eq_true rfl⟩) hS (fun q h1 h2 => ro_A h1 h2) (fun q h => ro_F hS hA q h) (fun r u t H1 locs ht hvm hw hB hz1 hk1 hS => ?_)
  have hw : r = 0 := hw
  rw [hw]
  have hP := ro_P hP hk1
  generalize H1 = H at hP hS ⊢
  refine lv_i2l (v := 0) hx hb dX4_digest_22 (by decide) ?_
  refine lv_ladd hx hb dX4_digest_23 ?_
  refine lv_topl (fun z_28 ez_28 => ?_)
  have ez_28 : z_28 = 1772224740825006333 := ez_28.trans (by decide +kernel)
  rw [ez_28]
  refine lv_lstore_n (lv' := [(1, .long 1772224740825006333), (3, .int 13), (0, .ref h0)]) hx hb dX4_digest_24 rfl hl (by decide) rfl (fun ls hl => ?_)
  refine lv_iinc (v := 14) (lv' := [(3, .int 14), (1, .long 1772224740825006333), (0, .ref h0)]) hx hb dX4_digest_25 hl (k := 1) rfl (by decide) (by decide) rfl (fun ls hl => ?_)
  refine lv_goto (tgt := 6) hx hb dX4_digest_28 (by decide) ?_
  refine lv_iload_n hx hb dX4_digest_6 rfl (lv_at hl 0 rfl) ?_
  refine lv_bipush (v := 14) hx hb dX4_digest_7 (by decide) ?_
  refine lv_icmp_gt (tgt := 31) hx hb dX4_digest_9 (by decide) (fun h => absurd h (by decide)) (fun _ => ?_)
  refine lv_lload_n hx hb dX4_digest_12 rfl (lv_at hl 1 rfl) ?_
  refine lv_ldc2 (v := 31) hx hb hown (hts (.constantLong RX4 377 (31)) (by decide +kernel)) dX4_digest_13 ?_
  refine lv_lmul hx hb dX4_digest_16 ?_
  refine lv_topl (fun z_29 ez_29 => ?_)
  have ez_29 : z_29 = (-401265255553458525) := ez_29.trans (by decide +kernel)
  rw [ez_29]
  refine lv_aload_n hx hb dX4_digest_17 rfl (lv_at hl 2 rfl) ?_
  refine lv_iload_n hx hb dX4_digest_18 rfl (lv_at hl 0 rfl) ?_
  have hPc := hP.sub (ws' := [(h0, .inr (7, [.ref aH, .ref aB, .ref aJ, .int 0, .int 0, .int 0, .ref rN, .ref rX, .int 0, .int 0, .int 0, .int 0, .int 0, .int 0, .int (-1), .int (-1), .int 0, .int 0, .ref aV])), (rN, .inr (6, [.int 7, .int 100, .int 800, .int 10]))]) [0, 1] rfl
  have hKc := hK.sub (tys' := []) [] rfl
  refine va_calli (va_runV (As := [.int 14]) (rest := [.long (-401265255553458525)]) ⟨hx, hb, hml, hown, hts⟩ (k_many_14 l D eT h0 aH aB aJ rN rX aV H.size ) (cwV 1 hts gX4_digest_X4_many rfl rfl rfl (by decide +kernel) ⟨Nat.le_of_ble_eq_true rfl, Nat.le_of_ble_eq_true rfl⟩) (pr_v (ci := 7) (q0 := 0) rfl rfl hPc hKc hE hS hA) rfl rfl hl.1 rfl (lv_room (Nat.le_of_ble_eq_true rfl)) dX4_digest_19 ⟨Nat.le_of_ble_eq_true rfl, Nat.le_of_ble_eq_true rfl⟩) hS (fun q h1 h2 => ro_A h1 h2) (fun q h => ro_F hS hA q h) (fun r u t H1 locs ht hvm hw hB hz1 hk1 hS => ?_)
  have hw : r = 10 := hw
  rw [hw]
  have hP := ro_P hP hk1
  generalize H1 = H at hP hS ⊢
  refine lv_i2l (v := 10) hx hb dX4_digest_22 (by decide) ?_
  refine lv_ladd hx hb dX4_digest_23 ?_
  refine lv_topl (fun z_30 ez_30 => ?_)
  have ez_30 : z_30 = (-401265255553458515) := ez_30.trans (by decide +kernel)
  rw [ez_30]
  refine lv_lstore_n (lv' := [(1, .long (-401265255553458515)), (3, .int 14), (0, .ref h0)]) hx hb dX4_digest_24 rfl hl (by decide) rfl (fun ls hl => ?_)
  refine lv_iinc (v := 15) (lv' := [(3, .int 15), (1, .long (-401265255553458515)), (0, .ref h0)]) hx hb dX4_digest_25 hl (k := 1) rfl (by decide) (by decide) rfl (fun ls hl => ?_)
  refine lv_goto (tgt := 6) hx hb dX4_digest_28 (by decide) ?_
  refine lv_iload_n hx hb dX4_digest_6 rfl (lv_at hl 0 rfl) ?_
  refine lv_bipush (v := 14) hx hb dX4_digest_7 (by decide) ?_
  refine lv_icmp_gt (tgt := 31) hx hb dX4_digest_9 (by decide) (fun _ => ?_) (fun h => absurd (by decide) h)
  refine lv_iconst (v := 0) hx hb dX4_digest_31 (by decide) ?_
  refine lv_istore_n (lv' := [(3, .int 0), (1, .long (-401265255553458515)), (0, .ref h0)]) hx hb dX4_digest_32 rfl hl (by decide) rfl (fun ls hl => ?_)
  refine lv_iload_n hx hb dX4_digest_33 rfl (lv_at hl 0 rfl) ?_
  refine lv_aload_n hx hb dX4_digest_34 rfl (lv_at hl 2 rfl) ?_
  refine va_get (D := D) (ci := 7) (v := .int 0) (C := RX4) (T := TX4) (N := 19) hx hb hts (by decide +kernel) hown hK hP 0 rfl rfl 3 (by decide) (hts (.fieldLink RX4 54 "PrizeHouse" "houseCount" "I") (by decide +kernel)) (fun _ h9 => h9) rfl dX4_digest_35 ?_
  refine lv_icmp_ge (tgt := 77) hx hb dX4_digest_38 (by decide) (fun _ => ?_) (fun h => absurd (by decide) h)
  refine lv_iconst (v := 0) hx hb dX4_digest_77 (by decide) ?_
  refine lv_istore_n (lv' := [(3, .int 0), (1, .long (-401265255553458515)), (0, .ref h0)]) hx hb dX4_digest_78 rfl hl (by decide) rfl (fun ls hl => ?_)
  refine lv_iload_n hx hb dX4_digest_79 rfl (lv_at hl 0 rfl) ?_
  refine lv_aload_n hx hb dX4_digest_80 rfl (lv_at hl 2 rfl) ?_
  refine va_get (D := D) (ci := 7) (v := .int 0) (C := RX4) (T := TX4) (N := 19) hx hb hts (by decide +kernel) hown hK hP 0 rfl rfl 4 (by decide) (hts (.fieldLink RX4 85 "PrizeHouse" "bookCount" "I") (by decide +kernel)) (fun _ h9 => h9) rfl dX4_digest_81 ?_
  refine lv_icmp_ge (tgt := 137) hx hb dX4_digest_84 (by decide) (fun _ => ?_) (fun h => absurd (by decide) h)
  refine lv_iconst (v := 0) hx hb dX4_digest_137 (by decide) ?_
  refine lv_istore_n (lv' := [(3, .int 0), (1, .long (-401265255553458515)), (0, .ref h0)]) hx hb dX4_digest_138 rfl hl (by decide) rfl (fun ls hl => ?_)
  refine lv_iload_n hx hb dX4_digest_139 rfl (lv_at hl 0 rfl) ?_
  refine lv_aload_n hx hb dX4_digest_140 rfl (lv_at hl 2 rfl) ?_
  refine va_get (D := D) (ci := 7) (v := .int 0) (C := RX4) (T := TX4) (N := 19) hx hb hts (by decide +kernel) hown hK hP 0 rfl rfl 5 (by decide) (hts (.fieldLink RX4 102 "PrizeHouse" "judgeCount" "I") (by decide +kernel)) (fun _ h9 => h9) rfl dX4_digest_141 ?_
  refine lv_icmp_ge (tgt := 217) hx hb dX4_digest_144 (by decide) (fun _ => ?_) (fun h => absurd (by decide) h)
  refine lv_lload_n hx hb dX4_digest_217 rfl (lv_at hl 1 rfl) ?_
  refine lv_ldc2 (v := 31) hx hb hown (hts (.constantLong RX4 377 (31)) (by decide +kernel)) dX4_digest_218 ?_
  refine lv_lmul hx hb dX4_digest_221 ?_
  refine lv_topl (fun z_31 ez_31 => ?_)
  have ez_31 : z_31 = 6007521151552337651 := ez_31.trans (by decide +kernel)
  rw [ez_31]
  refine lv_aload_n hx hb dX4_digest_222 rfl (lv_at hl 2 rfl) ?_
  refine lv_iconst (v := 0) hx hb dX4_digest_223 (by decide) ?_
  have hPc := hP.sub (ws' := [(h0, .inr (7, [.ref aH, .ref aB, .ref aJ, .int 0, .int 0, .int 0, .ref rN, .ref rX, .int 0, .int 0, .int 0, .int 0, .int 0, .int 0, .int (-1), .int (-1), .int 0, .int 0, .ref aV]))]) [0] rfl
  have hKc := hK.sub (tys' := []) [] rfl
  refine va_calli (va_runV (As := [.int 0]) (rest := [.long 6007521151552337651]) ⟨hx, hb, hml, hown, hts⟩ (k_wins l D eT h0 aH aB aJ rN rX aV 0 H.size (by decide) (by decide)) (cwV 1 hts gX4_digest_X4_wins rfl rfl rfl (by decide +kernel) ⟨Nat.le_of_ble_eq_true rfl, Nat.le_of_ble_eq_true rfl⟩) (pr_v (ci := 7) (q0 := 0) rfl rfl hPc hKc hE hS hA) rfl rfl hl.1 rfl (lv_room (Nat.le_of_ble_eq_true rfl)) dX4_digest_224 ⟨Nat.le_of_ble_eq_true rfl, Nat.le_of_ble_eq_true rfl⟩) hS (fun q h1 h2 => ro_A h1 h2) (fun q h => ro_F hS hA q h) (fun r u t H1 locs ht hvm hw hB hz1 hk1 hS => ?_)
  have hw : r = (-1) := hw
  rw [hw]
  have hP := ro_P hP hk1
  generalize H1 = H at hP hS ⊢
  refine lv_i2l (v := (-1)) hx hb dX4_digest_227 (by decide) ?_
  refine lv_ladd hx hb dX4_digest_228 ?_
  refine lv_topl (fun z_32 ez_32 => ?_)
  have ez_32 : z_32 = 6007521151552337650 := ez_32.trans (by decide +kernel)
  rw [ez_32]
  refine lv_lstore_n (lv' := [(1, .long 6007521151552337650), (3, .int 0), (0, .ref h0)]) hx hb dX4_digest_229 rfl hl (by decide) rfl (fun ls hl => ?_)
  refine lv_lload_n hx hb dX4_digest_230 rfl (lv_at hl 0 rfl) ?_
  refine lv_ldc2 (v := 31) hx hb hown (hts (.constantLong RX4 377 (31)) (by decide +kernel)) dX4_digest_231 ?_
  refine lv_lmul hx hb dX4_digest_234 ?_
  refine lv_topl (fun z_33 ez_33 => ?_)
  have ez_33 : z_33 = 1765714961026950990 := ez_33.trans (by decide +kernel)
  rw [ez_33]
  refine lv_aload_n hx hb dX4_digest_235 rfl (lv_at hl 2 rfl) ?_
  refine lv_iconst (v := 1) hx hb dX4_digest_236 (by decide) ?_
  have hPc := hP.sub (ws' := [(h0, .inr (7, [.ref aH, .ref aB, .ref aJ, .int 0, .int 0, .int 0, .ref rN, .ref rX, .int 0, .int 0, .int 0, .int 0, .int 0, .int 0, .int (-1), .int (-1), .int 0, .int 0, .ref aV]))]) [0] rfl
  have hKc := hK.sub (tys' := []) [] rfl
  refine va_calli (va_runV (As := [.int 1]) (rest := [.long 1765714961026950990]) ⟨hx, hb, hml, hown, hts⟩ (k_wins l D eT h0 aH aB aJ rN rX aV 1 H.size (by decide) (by decide)) (cwV 1 hts gX4_digest_X4_wins rfl rfl rfl (by decide +kernel) ⟨Nat.le_of_ble_eq_true rfl, Nat.le_of_ble_eq_true rfl⟩) (pr_v (ci := 7) (q0 := 0) rfl rfl hPc hKc hE hS hA) rfl rfl hl.1 rfl (lv_room (Nat.le_of_ble_eq_true rfl)) dX4_digest_237 ⟨Nat.le_of_ble_eq_true rfl, Nat.le_of_ble_eq_true rfl⟩) hS (fun q h1 h2 => ro_A h1 h2) (fun q h => ro_F hS hA q h) (fun r u t H1 locs ht hvm hw hB hz1 hk1 hS => ?_)
  have hw : r = (-1) := hw
  rw [hw]
  have hP := ro_P hP hk1
  generalize H1 = H at hP hS ⊢
  refine lv_i2l (v := (-1)) hx hb dX4_digest_240 (by decide) ?_
  refine lv_ladd hx hb dX4_digest_241 ?_
  refine lv_topl (fun z_34 ez_34 => ?_)
  have ez_34 : z_34 = 1765714961026950989 := ez_34.trans (by decide +kernel)
  rw [ez_34]
  refine lv_lstore_n (lv' := [(1, .long 1765714961026950989), (3, .int 0), (0, .ref h0)]) hx hb dX4_digest_242 rfl hl (by decide) rfl (fun ls hl => ?_)
  refine lv_lload_n hx hb dX4_digest_243 rfl (lv_at hl 0 rfl) ?_
  refine lv_ldc2 (v := 31) hx hb hown (hts (.constantLong RX4 377 (31)) (by decide +kernel)) dX4_digest_244 ?_
  refine lv_lmul hx hb dX4_digest_247 ?_
  refine lv_topl (fun z_35 ez_35 => ?_)
  have ez_35 : z_35 = (-603068429293174189) := ez_35.trans (by decide +kernel)
  rw [ez_35]
  refine lv_aload_n hx hb dX4_digest_248 rfl (lv_at hl 2 rfl) ?_
  have hPc := hP.sub (ws' := [(h0, .inr (7, [.ref aH, .ref aB, .ref aJ, .int 0, .int 0, .int 0, .ref rN, .ref rX, .int 0, .int 0, .int 0, .int 0, .int 0, .int 0, .int (-1), .int (-1), .int 0, .int 0, .ref aV]))]) [0] rfl
  have hKc := hK.sub (tys' := []) [] rfl
  refine va_calli (va_runV (As := []) (rest := [.long (-603068429293174189)]) ⟨hx, hb, hml, hown, hts⟩ (k_beatsAll l D eT h0 aH aB aJ rN rX aV H.size ) (cwV 0 hts gX4_digest_X4_beatsAll rfl rfl rfl (by decide +kernel) ⟨Nat.le_of_ble_eq_true rfl, Nat.le_of_ble_eq_true rfl⟩) (pr_v (ci := 7) (q0 := 0) rfl rfl hPc hKc hE hS hA) rfl rfl hl.1 rfl (lv_room (Nat.le_of_ble_eq_true rfl)) dX4_digest_249 ⟨Nat.le_of_ble_eq_true rfl, Nat.le_of_ble_eq_true rfl⟩) hS (fun q h1 h2 => ro_A h1 h2) (fun q h => ro_F hS hA q h) (fun r u t H1 locs ht hvm hw hB hz1 hk1 hS => ?_)
  have hw : r = (-1) := hw
  rw [hw]
  have hP := ro_P hP hk1
  generalize H1 = H at hP hS ⊢
  refine lv_i2l (v := (-1)) hx hb dX4_digest_252 (by decide) ?_
  refine lv_ladd hx hb dX4_digest_253 ?_
  refine lv_topl (fun z_36 ez_36 => ?_)
  have ez_36 : z_36 = (-603068429293174190) := ez_36.trans (by decide +kernel)
  rw [ez_36]
  refine lv_lstore_n (lv' := [(1, .long (-603068429293174190)), (3, .int 0), (0, .ref h0)]) hx hb dX4_digest_254 rfl hl (by decide) rfl (fun ls hl => ?_)
  refine lv_lload_n hx hb dX4_digest_255 rfl (lv_at hl 0 rfl) ?_
  refine lv_ldc2 (v := 31) hx hb hown (hts (.constantLong RX4 377 (31)) (by decide +kernel)) dX4_digest_256 ?_
  refine lv_lmul hx hb dX4_digest_259 ?_
  refine lv_topl (fun z_37 ez_37 => ?_)
  have ez_37 : z_37 = (-248377234378848274) := ez_37.trans (by decide +kernel)
  rw [ez_37]
  refine lv_aload_n hx hb dX4_digest_260 rfl (lv_at hl 2 rfl) ?_
  have hPc := hP.sub (ws' := [(h0, .inr (7, [.ref aH, .ref aB, .ref aJ, .int 0, .int 0, .int 0, .ref rN, .ref rX, .int 0, .int 0, .int 0, .int 0, .int 0, .int 0, .int (-1), .int (-1), .int 0, .int 0, .ref aV]))]) [0] rfl
  have hKc := hK.sub (tys' := []) [] rfl
  refine va_calli (va_runV (As := []) (rest := [.long (-248377234378848274)]) ⟨hx, hb, hml, hown, hts⟩ (k_readIn l D eT h0 aH aB aJ rN rX aV H.size ) (cwV 0 hts gX4_digest_X4_readIn rfl rfl rfl (by decide +kernel) ⟨Nat.le_of_ble_eq_true rfl, Nat.le_of_ble_eq_true rfl⟩) (pr_v (ci := 7) (q0 := 0) rfl rfl hPc hKc hE hS hA) rfl rfl hl.1 rfl (lv_room (Nat.le_of_ble_eq_true rfl)) dX4_digest_261 ⟨Nat.le_of_ble_eq_true rfl, Nat.le_of_ble_eq_true rfl⟩) hS (fun q h1 h2 => ro_A h1 h2) (fun q h => ro_F hS hA q h) (fun r u t H1 locs ht hvm hw hB hz1 hk1 hS => ?_)
  have hw : r = (-1) := hw
  rw [hw]
  have hP := ro_P hP hk1
  generalize H1 = H at hP hS ⊢
  refine lv_i2l (v := (-1)) hx hb dX4_digest_264 (by decide) ?_
  refine lv_ladd hx hb dX4_digest_265 ?_
  refine lv_topl (fun z_38 ez_38 => ?_)
  have ez_38 : z_38 = (-248377234378848275) := ez_38.trans (by decide +kernel)
  rw [ez_38]
  refine lv_lstore_n (lv' := [(1, .long (-248377234378848275)), (3, .int 0), (0, .ref h0)]) hx hb dX4_digest_266 rfl hl (by decide) rfl (fun ls hl => ?_)
  refine lv_lload_n hx hb dX4_digest_267 rfl (lv_at hl 0 rfl) ?_
  refine lv_ldc2 (v := 31) hx hb hown (hts (.constantLong RX4 377 (31)) (by decide +kernel)) dX4_digest_268 ?_
  refine lv_lmul hx hb dX4_digest_271 ?_
  refine lv_topl (fun z_39 ez_39 => ?_)
  have ez_39 : z_39 = (-7699694265744296525) := ez_39.trans (by decide +kernel)
  rw [ez_39]
  refine lv_aload_n hx hb dX4_digest_272 rfl (lv_at hl 2 rfl) ?_
  refine lv_bipush (v := 7) hx hb dX4_digest_273 (by decide) ?_
  have hPc := hP.sub (ws' := [(h0, .inr (7, [.ref aH, .ref aB, .ref aJ, .int 0, .int 0, .int 0, .ref rN, .ref rX, .int 0, .int 0, .int 0, .int 0, .int 0, .int 0, .int (-1), .int (-1), .int 0, .int 0, .ref aV]))]) [0] rfl
  have hKc := hK.sub (tys' := []) [] rfl
  refine va_calli (va_runV (As := [.int 7]) (rest := [.long (-7699694265744296525)]) ⟨hx, hb, hml, hown, hts⟩ (k_wouldMiss l D eT h0 aH aB aJ rN rX aV 7 H.size (by decide) (by decide)) (cwV 1 hts gX4_digest_X4_wouldMiss rfl rfl rfl (by decide +kernel) ⟨Nat.le_of_ble_eq_true rfl, Nat.le_of_ble_eq_true rfl⟩) (pr_v (ci := 7) (q0 := 0) rfl rfl hPc hKc hE hS hA) rfl rfl hl.1 rfl (lv_room (Nat.le_of_ble_eq_true rfl)) dX4_digest_275 ⟨Nat.le_of_ble_eq_true rfl, Nat.le_of_ble_eq_true rfl⟩) hS (fun q h1 h2 => ro_A h1 h2) (fun q h => ro_F hS hA q h) (fun r u t H1 locs ht hvm hw hB hz1 hk1 hS => ?_)
  have hw : r = 0 := hw
  rw [hw]
  have hP := ro_P hP hk1
  generalize H1 = H at hP hS ⊢
  refine lv_i2l (v := 0) hx hb dX4_digest_278 (by decide) ?_
  refine lv_ladd hx hb dX4_digest_279 ?_
  refine lv_topl (fun z_40 ez_40 => ?_)
  have ez_40 : z_40 = (-7699694265744296525) := ez_40.trans (by decide +kernel)
  rw [ez_40]
  exact W.lret (v := (-7699694265744296525)) hx hb hr (fun t ht hW => ⟨⟨(-7699694265744296525), (), rfl, rfl, trivial⟩, hS.F ht⟩) hS.2.2 dX4_digest_280
set_option maxHeartbeats 4000000 in
set_option maxRecDepth 100000 in
theorem k_house (l : Launch) (D : va_G) (eT : Nat) (h0 : Nat) (aH : Nat) (aB : Nat) (aJ : Nat) (rN : Nat) (rX : Nat) (aV : Nat) (sz : Nat) : Met l yX4_house wsX4_house ({ frames := 0, cells := 0, slots := 0, locals := 0 }) (va_Pc [.ref h0] (pc D eT sz [(h0, .inr (7, [.ref aH, .ref aB, .ref aJ, .int 0, .int 0, .int 0, .ref rN, .ref rX, .int 0, .int 0, .int 0, .int 0, .int 0, .int 0, .int (-1), .int (-1), .int 0, .int 0, .ref aV]))] [])) (va_Qi (fun (r : Int32) (_ : Unit) => r = 0) (fun _ _ => True) (va_A [(h0, .inr (7, [.ref aH, .ref aB, .ref aJ, .int 0, .int 0, .int 0, .ref rN, .ref rX, .int 0, .int 0, .int 0, .int 0, .int 0, .int 0, .int (-1), .int (-1), .int 0, .int 0, .ref aV]))] sz)) 0 0 (va_A [(h0, .inr (7, [.ref aH, .ref aB, .ref aJ, .int 0, .int 0, .int 0, .ref rN, .ref rX, .int 0, .int 0, .int 0, .int 0, .int 0, .int 0, .int (-1), .int (-1), .int 0, .int 0, .ref aV]))] sz) := by
  refine Met.ofW (cc := cX4_house) (maxL := 1) (ret := (some .int)) (by decide +kernel) rfl ?_
  intro p e s m args below meth c s₁ B hml hv
  obtain ⟨rfl, hsz, hP, hK, hD0, hE⟩ := hv
  have hx := B.exec
  have hb := B.bytes
  have hr := B.returns
  have hts := atoms_spec (ws := wsX4_house) B.pre
  have hown : s.vm.findClass RX4 = some m.cls := findClass_of_methodNamed B.named
  have hlocks := B.notSynchronized
  subst hsz
  have hD := hD0.self (sz := s.heap.size)
  generalize hAe : va_A [(h0, .inr (7, [.ref aH, .ref aB, .ref aJ, .int 0, .int 0, .int 0, .ref rN, .ref rX, .int 0, .int 0, .int 0, .int 0, .int 0, .int 0, .int (-1), .int (-1), .int 0, .int 0, .ref aV]))] s.heap.size = A at hD hE ⊢
  have hA : ∀ q : Nat, s.heap.size ≤ q → A q := fun q h => by rw [← hAe]; exact Or.inr h
  have hS : va_S A s.heap s.heap [] := va_S.rf
  have hP : va_P D vwCl [(h0, .inr (7, [.ref aH, .ref aB, .ref aJ, .int 0, .int 0, .int 0, .ref rN, .ref rX, .int 0, .int 0, .int 0, .int 0, .int 0, .int 0, .int (-1), .int (-1), .int 0, .int 0, .ref aV]))] s.heap := hP
  have hl := lv_entry ([.ref h0]) (n := 1) (Nat.le_of_ble_eq_true rfl)
  rw [lg_entry_eq]
  generalize (lg_sl ([.ref h0]) ++ List.replicate (1 - (lg_sl ([.ref h0])).length) Slot.unset).toArray = ls at hl ⊢
  have hl : lv_has ls 1 [(0, .ref h0)] := hl
  refine lv_aload_n hx hb dX4_house_0 rfl (lv_at hl 0 rfl) ?_
  refine va_get (D := D) (ci := 7) (v := .int 0) (C := RX4) (T := TX4) (N := 19) hx hb hts (by decide +kernel) hown hK hP 0 rfl rfl 3 (by decide) (hts (.fieldLink RX4 54 "PrizeHouse" "houseCount" "I") (by decide +kernel)) (fun _ h9 => h9) rfl dX4_house_1 ?_
  refine lv_iconst (v := 5) hx hb dX4_house_4 (by decide) ?_
  refine lv_icmp_lt (tgt := 18) hx hb dX4_house_5 (by decide) (fun _ => ?_) (fun h => absurd (by decide) h)
  refine lv_aload_n hx hb dX4_house_18 rfl (lv_at hl 0 rfl) ?_
  refine lv_dup hx hb dX4_house_19 rfl ?_
  refine va_get (D := D) (ci := 7) (v := .int 0) (C := RX4) (T := TX4) (N := 19) hx hb hts (by decide +kernel) hown hK hP 0 rfl rfl 3 (by decide) (hts (.fieldLink RX4 54 "PrizeHouse" "houseCount" "I") (by decide +kernel)) (fun _ h9 => h9) rfl dX4_house_20 ?_
  refine lv_iconst (v := 1) hx hb dX4_house_23 (by decide) ?_
  refine lv_iadd hx hb dX4_house_24 ?_
  refine lv_topi (fun z_1 ez_1 => ?_)
  have ez_1 : z_1 = 1 := ez_1.trans (by decide +kernel)
  rw [ez_1]
  refine va_put (D := D) (ci := 7) (v := .int 1) (C := RX4) (T := TX4) (N := 19) hx hb hts (by decide +kernel) tyX4 tyX4_ok nmX4 hown hK hP hD hS 0 rfl rfl 3 (by decide) (hts (.fieldLink RX4 54 "PrizeHouse" "houseCount" "I") (by decide +kernel)) (fun _ h9 => h9) rfl (tyX4_ok 3 (by decide)) rfl rfl (Nat.le_of_ble_eq_true rfl) dX4_house_25 (fun H locs hP hD hS => ?_)
  have hP : va_P D vwCl [(h0, .inr (7, [.ref aH, .ref aB, .ref aJ, .int 1, .int 0, .int 0, .ref rN, .ref rX, .int 0, .int 0, .int 0, .int 0, .int 0, .int 0, .int (-1), .int (-1), .int 0, .int 0, .ref aV]))] H := hP
  have hD : va_D A [(h0, .inr (7, [.ref aH, .ref aB, .ref aJ, .int 1, .int 0, .int 0, .ref rN, .ref rX, .int 0, .int 0, .int 0, .int 0, .int 0, .int 0, .int (-1), .int (-1), .int 0, .int 0, .ref aV]))] := hD
  refine lv_aload_n hx hb dX4_house_28 rfl (lv_at hl 0 rfl) ?_
  refine va_get (D := D) (ci := 7) (v := .int 1) (C := RX4) (T := TX4) (N := 19) hx hb hts (by decide +kernel) hown hK hP 0 rfl rfl 3 (by decide) (hts (.fieldLink RX4 54 "PrizeHouse" "houseCount" "I") (by decide +kernel)) (fun _ h9 => h9) rfl dX4_house_29 ?_
  refine lv_iconst (v := 1) hx hb dX4_house_32 (by decide) ?_
  refine lv_isub hx hb dX4_house_33 ?_
  refine lv_topi (fun z_2 ez_2 => ?_)
  have ez_2 : z_2 = 0 := ez_2.trans (by decide +kernel)
  rw [ez_2]
  exact W.iret (v := 0) hx hb hr (fun t ht hW => ⟨⟨0, (), rfl, rfl, trivial⟩, hS.F ht⟩) hS.2.2 dX4_house_34
set_option maxHeartbeats 4000000 in
set_option maxRecDepth 100000 in
theorem k_describe (l : Launch) (D : va_G) (eT : Nat) (h0 : Nat) (c1 : Nat) (c2 : Nat) (c3 : Nat) (c4 : Nat) (c5 : Nat) (p0 : Int32) (p1 : Int32) (p2 : Int32) (sz : Nat) : Met l yX2_describe wsX2_describe ({ frames := 0, cells := 0, slots := 0, locals := 0 }) (va_Pc [.ref h0, .int p0, .int p1, .int p2] (pc D eT sz [(h0, .inr (5, [.int 0, .int 0, .int 0, .int 0, .int 0, .ref c1, .ref c2, .int 0, .int 0, .int 0, .int 0, .ref c3, .int 0, .ref c4, .ref c5, .int 0]))] [])) (va_Qv (fun (_ : Unit) => True) (fun _ _ => True) (va_A [(h0, .inr (5, [.int 0, .int 0, .int 0, .int 0, .int 0, .ref c1, .ref c2, .int 0, .int 0, .int 0, .int 0, .ref c3, .int 0, .ref c4, .ref c5, .int 0]))] sz)) 0 0 (va_A [(h0, .inr (5, [.int 0, .int 0, .int 0, .int 0, .int 0, .ref c1, .ref c2, .int 0, .int 0, .int 0, .int 0, .ref c3, .int 0, .ref c4, .ref c5, .int 0]))] sz) := by
  refine Met.ofW (cc := cX2_describe) (maxL := 4) (ret := none) (by decide +kernel) rfl ?_
  intro p e s m args below meth c s₁ B hml hv
  obtain ⟨rfl, hsz, hP, hK, hD0, hE⟩ := hv
  have hx := B.exec
  have hb := B.bytes
  have hr := B.returns
  have hts := atoms_spec (ws := wsX2_describe) B.pre
  have hown : s.vm.findClass RX2 = some m.cls := findClass_of_methodNamed B.named
  have hlocks := B.notSynchronized
  subst hsz
  have hD := hD0.self (sz := s.heap.size)
  generalize hAe : va_A [(h0, .inr (5, [.int 0, .int 0, .int 0, .int 0, .int 0, .ref c1, .ref c2, .int 0, .int 0, .int 0, .int 0, .ref c3, .int 0, .ref c4, .ref c5, .int 0]))] s.heap.size = A at hD hE ⊢
  have hA : ∀ q : Nat, s.heap.size ≤ q → A q := fun q h => by rw [← hAe]; exact Or.inr h
  have hS : va_S A s.heap s.heap [] := va_S.rf
  have hP : va_P D vwCl [(h0, .inr (5, [.int 0, .int 0, .int 0, .int 0, .int 0, .ref c1, .ref c2, .int 0, .int 0, .int 0, .int 0, .ref c3, .int 0, .ref c4, .ref c5, .int 0]))] s.heap := hP
  have hl := lv_entry ([.ref h0, .int p0, .int p1, .int p2]) (n := 4) (Nat.le_of_ble_eq_true rfl)
  rw [lg_entry_eq]
  generalize (lg_sl ([.ref h0, .int p0, .int p1, .int p2]) ++ List.replicate (4 - (lg_sl ([.ref h0, .int p0, .int p1, .int p2])).length) Slot.unset).toArray = ls at hl ⊢
  have hl : lv_has ls 4 [(0, .ref h0), (1, .int p0), (2, .int p1), (3, .int p2)] := hl
  refine lv_aload_n hx hb dX2_describe_0 rfl (lv_at hl 0 rfl) ?_
  refine lv_iload_n hx hb dX2_describe_1 rfl (lv_at hl 1 rfl) ?_
  refine va_put (D := D) (ci := 5) (v := .int p0) (C := RX2) (T := TX2) (N := 16) hx hb hts (by decide +kernel) tyX2 tyX2_ok nmX2 hown hK hP hD hS 0 rfl rfl 0 (by decide) (hts (.fieldLink RX2 27 "PrizeHouse$Judge" "speed" "I") (by decide +kernel)) (fun _ h9 => h9) rfl (tyX2_ok 0 (by decide)) rfl rfl (Nat.le_of_ble_eq_true rfl) dX2_describe_2 (fun H locs hP hD hS => ?_)
  have hP : va_P D vwCl [(h0, .inr (5, [.int p0, .int 0, .int 0, .int 0, .int 0, .ref c1, .ref c2, .int 0, .int 0, .int 0, .int 0, .ref c3, .int 0, .ref c4, .ref c5, .int 0]))] H := hP
  have hD : va_D A [(h0, .inr (5, [.int p0, .int 0, .int 0, .int 0, .int 0, .ref c1, .ref c2, .int 0, .int 0, .int 0, .int 0, .ref c3, .int 0, .ref c4, .ref c5, .int 0]))] := hD
  refine lv_aload_n hx hb dX2_describe_5 rfl (lv_at hl 0 rfl) ?_
  refine lv_iload_n hx hb dX2_describe_6 rfl (lv_at hl 2 rfl) ?_
  refine va_put (D := D) (ci := 5) (v := .int p1) (C := RX2) (T := TX2) (N := 16) hx hb hts (by decide +kernel) tyX2 tyX2_ok nmX2 hown hK hP hD hS 0 rfl rfl 1 (by decide) (hts (.fieldLink RX2 31 "PrizeHouse$Judge" "taste" "I") (by decide +kernel)) (fun _ h9 => h9) rfl (tyX2_ok 1 (by decide)) rfl rfl (Nat.le_of_ble_eq_true rfl) dX2_describe_7 (fun H locs hP hD hS => ?_)
  have hP : va_P D vwCl [(h0, .inr (5, [.int p0, .int p1, .int 0, .int 0, .int 0, .ref c1, .ref c2, .int 0, .int 0, .int 0, .int 0, .ref c3, .int 0, .ref c4, .ref c5, .int 0]))] H := hP
  have hD : va_D A [(h0, .inr (5, [.int p0, .int p1, .int 0, .int 0, .int 0, .ref c1, .ref c2, .int 0, .int 0, .int 0, .int 0, .ref c3, .int 0, .ref c4, .ref c5, .int 0]))] := hD
  refine lv_aload_n hx hb dX2_describe_10 rfl (lv_at hl 0 rfl) ?_
  refine lv_iload_n hx hb dX2_describe_11 rfl (lv_at hl 3 rfl) ?_
  refine va_put (D := D) (ci := 5) (v := .int p2) (C := RX2) (T := TX2) (N := 16) hx hb hts (by decide +kernel) tyX2 tyX2_ok nmX2 hown hK hP hD hS 0 rfl rfl 2 (by decide) (hts (.fieldLink RX2 34 "PrizeHouse$Judge" "lean" "I") (by decide +kernel)) (fun _ h9 => h9) rfl (tyX2_ok 2 (by decide)) rfl rfl (Nat.le_of_ble_eq_true rfl) dX2_describe_12 (fun H locs hP hD hS => ?_)
  have hP : va_P D vwCl [(h0, .inr (5, [.int p0, .int p1, .int p2, .int 0, .int 0, .ref c1, .ref c2, .int 0, .int 0, .int 0, .int 0, .ref c3, .int 0, .ref c4, .ref c5, .int 0]))] H := hP
  have hD : va_D A [(h0, .inr (5, [.int p0, .int p1, .int p2, .int 0, .int 0, .ref c1, .ref c2, .int 0, .int 0, .int 0, .int 0, .ref c3, .int 0, .ref c4, .ref c5, .int 0]))] := hD
  exact W.vret hx hb hr (fun t ht hW => ⟨⟨(), rfl, trivial, trivial⟩, hS.F ht⟩) hS.2.2 dX2_describe_15
set_option maxHeartbeats 4000000 in
set_option maxRecDepth 100000 in
theorem k_set (l : Launch) (D : va_G) (eT : Nat) (h0 : Nat) (p0 : Int32) (p1 : Int32) (p2 : Int32) (p3 : Int32) (sz : Nat) : Met l yX3_set wsX3_set ({ frames := 0, cells := 0, slots := 0, locals := 0 }) (va_Pc [.ref h0, .int p0, .int p1, .int p2, .int p3] (pc D eT sz [(h0, .inr (6, [.int 7, .int 100, .int 800, .int 10]))] [])) (va_Qv (fun (_ : Unit) => True) (fun _ _ => True) (va_A [(h0, .inr (6, [.int 7, .int 100, .int 800, .int 10]))] sz)) 0 0 (va_A [(h0, .inr (6, [.int 7, .int 100, .int 800, .int 10]))] sz) := by
  refine Met.ofW (cc := cX3_set) (maxL := 5) (ret := none) (by decide +kernel) rfl ?_
  intro p e s m args below meth c s₁ B hml hv
  obtain ⟨rfl, hsz, hP, hK, hD0, hE⟩ := hv
  have hx := B.exec
  have hb := B.bytes
  have hr := B.returns
  have hts := atoms_spec (ws := wsX3_set) B.pre
  have hown : s.vm.findClass RX3 = some m.cls := findClass_of_methodNamed B.named
  have hlocks := B.notSynchronized
  subst hsz
  have hD := hD0.self (sz := s.heap.size)
  generalize hAe : va_A [(h0, .inr (6, [.int 7, .int 100, .int 800, .int 10]))] s.heap.size = A at hD hE ⊢
  have hA : ∀ q : Nat, s.heap.size ≤ q → A q := fun q h => by rw [← hAe]; exact Or.inr h
  have hS : va_S A s.heap s.heap [] := va_S.rf
  have hP : va_P D vwCl [(h0, .inr (6, [.int 7, .int 100, .int 800, .int 10]))] s.heap := hP
  have hl := lv_entry ([.ref h0, .int p0, .int p1, .int p2, .int p3]) (n := 5) (Nat.le_of_ble_eq_true rfl)
  rw [lg_entry_eq]
  generalize (lg_sl ([.ref h0, .int p0, .int p1, .int p2, .int p3]) ++ List.replicate (5 - (lg_sl ([.ref h0, .int p0, .int p1, .int p2, .int p3])).length) Slot.unset).toArray = ls at hl ⊢
  have hl : lv_has ls 5 [(0, .ref h0), (1, .int p0), (2, .int p1), (3, .int p2), (4, .int p3)] := hl
  refine lv_aload_n hx hb dX3_set_0 rfl (lv_at hl 0 rfl) ?_
  refine lv_iload_n hx hb dX3_set_1 rfl (lv_at hl 1 rfl) ?_
  refine va_put (D := D) (ci := 6) (v := .int p0) (C := RX3) (T := TX3) (N := 4) hx hb hts (by decide +kernel) tyX3 tyX3_ok nmX3 hown hK hP hD hS 0 rfl rfl 0 (by decide) (hts (.fieldLink RX3 7 "PrizeHouse$Rules" "forms" "I") (by decide +kernel)) (fun _ h9 => h9) rfl (tyX3_ok 0 (by decide)) rfl rfl (Nat.le_of_ble_eq_true rfl) dX3_set_2 (fun H locs hP hD hS => ?_)
  have hP : va_P D vwCl [(h0, .inr (6, [.int p0, .int 100, .int 800, .int 10]))] H := hP
  have hD : va_D A [(h0, .inr (6, [.int p0, .int 100, .int 800, .int 10]))] := hD
  refine lv_aload_n hx hb dX3_set_5 rfl (lv_at hl 0 rfl) ?_
  refine lv_iload_n hx hb dX3_set_6 rfl (lv_at hl 2 rfl) ?_
  refine va_put (D := D) (ci := 6) (v := .int p1) (C := RX3) (T := TX3) (N := 4) hx hb hts (by decide +kernel) tyX3 tyX3_ok nmX3 hown hK hP hD hS 0 rfl rfl 1 (by decide) (hts (.fieldLink RX3 13 "PrizeHouse$Rules" "least" "I") (by decide +kernel)) (fun _ h9 => h9) rfl (tyX3_ok 1 (by decide)) rfl rfl (Nat.le_of_ble_eq_true rfl) dX3_set_7 (fun H locs hP hD hS => ?_)
  have hP : va_P D vwCl [(h0, .inr (6, [.int p0, .int p1, .int 800, .int 10]))] H := hP
  have hD : va_D A [(h0, .inr (6, [.int p0, .int p1, .int 800, .int 10]))] := hD
  refine lv_aload_n hx hb dX3_set_10 rfl (lv_at hl 0 rfl) ?_
  refine lv_iload_n hx hb dX3_set_11 rfl (lv_at hl 3 rfl) ?_
  refine va_put (D := D) (ci := 6) (v := .int p2) (C := RX3) (T := TX3) (N := 4) hx hb hts (by decide +kernel) tyX3 tyX3_ok nmX3 hown hK hP hD hS 0 rfl rfl 2 (by decide) (hts (.fieldLink RX3 16 "PrizeHouse$Rules" "most" "I") (by decide +kernel)) (fun _ h9 => h9) rfl (tyX3_ok 2 (by decide)) rfl rfl (Nat.le_of_ble_eq_true rfl) dX3_set_12 (fun H locs hP hD hS => ?_)
  have hP : va_P D vwCl [(h0, .inr (6, [.int p0, .int p1, .int p2, .int 10]))] H := hP
  have hD : va_D A [(h0, .inr (6, [.int p0, .int p1, .int p2, .int 10]))] := hD
  refine lv_aload_n hx hb dX3_set_15 rfl (lv_at hl 0 rfl) ?_
  refine lv_iload hx hb dX3_set_16 (lv_at hl 4 rfl) ?_
  refine va_put (D := D) (ci := 6) (v := .int p3) (C := RX3) (T := TX3) (N := 4) hx hb hts (by decide +kernel) tyX3 tyX3_ok nmX3 hown hK hP hD hS 0 rfl rfl 3 (by decide) (hts (.fieldLink RX3 19 "PrizeHouse$Rules" "fee" "I") (by decide +kernel)) (fun _ h9 => h9) rfl (tyX3_ok 3 (by decide)) rfl rfl (Nat.le_of_ble_eq_true rfl) dX3_set_18 (fun H locs hP hD hS => ?_)
  have hP : va_P D vwCl [(h0, .inr (6, [.int p0, .int p1, .int p2, .int p3]))] H := hP
  have hD : va_D A [(h0, .inr (6, [.int p0, .int p1, .int p2, .int p3]))] := hD
  exact W.vret hx hb hr (fun t ht hW => ⟨⟨(), rfl, trivial, trivial⟩, hS.F ht⟩) hS.2.2 dX3_set_21
set_option maxHeartbeats 4000000 in
set_option maxRecDepth 100000 in
theorem k_judge (l : Launch) (D : va_G) (eT : Nat) (h0 : Nat) (aH : Nat) (aB : Nat) (aJ : Nat) (rN : Nat) (rX : Nat) (aV : Nat) (j0 : Nat) (c1 : Nat) (c2 : Nat) (c3 : Nat) (c4 : Nat) (c5 : Nat) (cJ : ClassId) (fJ : Nat → Option Nat) (p0 : Int32) (p1 : Int32) (p2 : Int32) (sz : Nat) (hJ : fJ 0 = some j0) (a1 : 20 ≤ p0) (a2 : p0 ≤ 200) (b1 : 0 ≤ p1) (b2 : p1 ≤ 9) (d1 : (-10) ≤ p2) (d2 : p2 ≤ 10) : Met l yX4_judge wsX4_judge ({ frames := 1, cells := 0, slots := 0, locals := 23 }) (va_Pc [.ref h0, .int p0, .int p1, .int p2] (pc D eT sz [(h0, .inr (7, [.ref aH, .ref aB, .ref aJ, .int 0, .int 0, .int 0, .ref rN, .ref rX, .int 0, .int 0, .int 0, .int 0, .int 0, .int 0, .int (-1), .int (-1), .int 0, .int 0, .ref aV])), (aJ, .inl (cJ, 5, .inr (.inr (.inr (.inr fJ))))), (j0, .inr (5, [.int 0, .int 0, .int 0, .int 0, .int 0, .ref c1, .ref c2, .int 0, .int 0, .int 0, .int 0, .ref c3, .int 0, .ref c4, .ref c5, .int 0]))] [(cJ, .object RX2)])) (va_Qi (fun (r : Int32) (_ : Unit) => r = 0) (fun _ _ => True) (va_A [(h0, .inr (7, [.ref aH, .ref aB, .ref aJ, .int 0, .int 0, .int 0, .ref rN, .ref rX, .int 0, .int 0, .int 0, .int 0, .int 0, .int 0, .int (-1), .int (-1), .int 0, .int 0, .ref aV])), (aJ, .inl (cJ, 5, .inr (.inr (.inr (.inr fJ))))), (j0, .inr (5, [.int 0, .int 0, .int 0, .int 0, .int 0, .ref c1, .ref c2, .int 0, .int 0, .int 0, .int 0, .ref c3, .int 0, .ref c4, .ref c5, .int 0]))] sz)) 0 0 (va_A [(h0, .inr (7, [.ref aH, .ref aB, .ref aJ, .int 0, .int 0, .int 0, .ref rN, .ref rX, .int 0, .int 0, .int 0, .int 0, .int 0, .int 0, .int (-1), .int (-1), .int 0, .int 0, .ref aV])), (aJ, .inl (cJ, 5, .inr (.inr (.inr (.inr fJ))))), (j0, .inr (5, [.int 0, .int 0, .int 0, .int 0, .int 0, .ref c1, .ref c2, .int 0, .int 0, .int 0, .int 0, .ref c3, .int 0, .ref c4, .ref c5, .int 0]))] sz) := by
  refine Met.ofW (cc := cX4_judge) (maxL := 4) (ret := (some .int)) (by decide +kernel) rfl ?_
  intro p e s m args below meth c s₁ B hml hv
  obtain ⟨rfl, hsz, hP, hK, hD0, hE⟩ := hv
  have hx := B.exec
  have hb := B.bytes
  have hr := B.returns
  have hts := atoms_spec (ws := wsX4_judge) B.pre
  have hown : s.vm.findClass RX4 = some m.cls := findClass_of_methodNamed B.named
  have hlocks := B.notSynchronized
  subst hsz
  have hD := hD0.self (sz := s.heap.size)
  generalize hAe : va_A [(h0, .inr (7, [.ref aH, .ref aB, .ref aJ, .int 0, .int 0, .int 0, .ref rN, .ref rX, .int 0, .int 0, .int 0, .int 0, .int 0, .int 0, .int (-1), .int (-1), .int 0, .int 0, .ref aV])), (aJ, .inl (cJ, 5, .inr (.inr (.inr (.inr fJ))))), (j0, .inr (5, [.int 0, .int 0, .int 0, .int 0, .int 0, .ref c1, .ref c2, .int 0, .int 0, .int 0, .int 0, .ref c3, .int 0, .ref c4, .ref c5, .int 0]))] s.heap.size = A at hD hE ⊢
  have hA : ∀ q : Nat, s.heap.size ≤ q → A q := fun q h => by rw [← hAe]; exact Or.inr h
  have hS : va_S A s.heap s.heap [] := va_S.rf
  have hP : va_P D vwCl [(h0, .inr (7, [.ref aH, .ref aB, .ref aJ, .int 0, .int 0, .int 0, .ref rN, .ref rX, .int 0, .int 0, .int 0, .int 0, .int 0, .int 0, .int (-1), .int (-1), .int 0, .int 0, .ref aV])), (aJ, .inl (cJ, 5, .inr (.inr (.inr (.inr fJ))))), (j0, .inr (5, [.int 0, .int 0, .int 0, .int 0, .int 0, .ref c1, .ref c2, .int 0, .int 0, .int 0, .int 0, .ref c3, .int 0, .ref c4, .ref c5, .int 0]))] s.heap := hP
  have hl := lv_entry ([.ref h0, .int p0, .int p1, .int p2]) (n := 4) (Nat.le_of_ble_eq_true rfl)
  rw [lg_entry_eq]
  generalize (lg_sl ([.ref h0, .int p0, .int p1, .int p2]) ++ List.replicate (4 - (lg_sl ([.ref h0, .int p0, .int p1, .int p2])).length) Slot.unset).toArray = ls at hl ⊢
  have hl : lv_has ls 4 [(0, .ref h0), (1, .int p0), (2, .int p1), (3, .int p2)] := hl
  refine lv_iload_n hx hb dX4_judge_0 rfl (lv_at hl 1 rfl) ?_
  refine lv_bipush (v := 20) hx hb dX4_judge_1 (by decide) ?_
  refine lv_sipush (v := 200) hx hb dX4_judge_3 (by decide) ?_
  have hPc := hP.sub (ws' := []) [] rfl
  have hKc := hK.sub (tys' := []) [] rfl
  refine va_calli (va_runS (As := [.int p0, .int 20, .int 200]) (rest := []) ⟨hx, hb, hml, hown, hts⟩ (k_within_t l D eT p0 20 200 s.heap.size a1 a2) (va_cwS 3 hts gX4_judge_X4_isWithin rfl rfl rfl (by decide +kernel) ⟨Nat.le_of_ble_eq_true rfl, Nat.le_of_ble_eq_true rfl⟩) (pr_s hPc hKc hE hS hA) rfl rfl hl.1 rfl (lv_room (Nat.le_of_ble_eq_true rfl)) dX4_judge_6 ⟨Nat.le_of_ble_eq_true rfl, Nat.le_of_ble_eq_true rfl⟩) hS (fun q h1 h2 => ro_A h1 h2) (fun q h => ro_F hS hA q h) (fun r u t H1 locs ht hvm hw hB hz1 hk1 hS => ?_)
  have hw : r = 1 := hw
  rw [hw]
  have hP := ro_P hP hk1
  generalize H1 = H at hP hS ⊢
  refine lv_if_eq (tgt := 33) hx hb dX4_judge_9 (by decide) (fun h => absurd h (by decide)) (fun _ => ?_)
  refine lv_iload_n hx hb dX4_judge_12 rfl (lv_at hl 2 rfl) ?_
  refine lv_iconst (v := 0) hx hb dX4_judge_13 (by decide) ?_
  refine lv_bipush (v := 9) hx hb dX4_judge_14 (by decide) ?_
  have hPc := hP.sub (ws' := []) [] rfl
  have hKc := hK.sub (tys' := []) [] rfl
  refine va_calli (va_runS (As := [.int p1, .int 0, .int 9]) (rest := []) ⟨hx, hb, hml, hown, hts⟩ (k_within_t l D eT p1 0 9 H.size b1 b2) (va_cwS 3 hts gX4_judge_X4_isWithin rfl rfl rfl (by decide +kernel) ⟨Nat.le_of_ble_eq_true rfl, Nat.le_of_ble_eq_true rfl⟩) (pr_s hPc hKc hE hS hA) rfl rfl hl.1 rfl (lv_room (Nat.le_of_ble_eq_true rfl)) dX4_judge_16 ⟨Nat.le_of_ble_eq_true rfl, Nat.le_of_ble_eq_true rfl⟩) hS (fun q h1 h2 => ro_A h1 h2) (fun q h => ro_F hS hA q h) (fun r u t H1 locs ht hvm hw hB hz1 hk1 hS => ?_)
  have hw : r = 1 := hw
  rw [hw]
  have hP := ro_P hP hk1
  generalize H1 = H at hP hS ⊢
  refine lv_if_eq (tgt := 33) hx hb dX4_judge_19 (by decide) (fun h => absurd h (by decide)) (fun _ => ?_)
  refine lv_iload_n hx hb dX4_judge_22 rfl (lv_at hl 3 rfl) ?_
  refine lv_bipush (v := (-10)) hx hb dX4_judge_23 (by decide) ?_
  refine lv_bipush (v := 10) hx hb dX4_judge_25 (by decide) ?_
  have hPc := hP.sub (ws' := []) [] rfl
  have hKc := hK.sub (tys' := []) [] rfl
  refine va_calli (va_runS (As := [.int p2, .int (-10), .int 10]) (rest := []) ⟨hx, hb, hml, hown, hts⟩ (k_within_t l D eT p2 (-10) 10 H.size d1 d2) (va_cwS 3 hts gX4_judge_X4_isWithin rfl rfl rfl (by decide +kernel) ⟨Nat.le_of_ble_eq_true rfl, Nat.le_of_ble_eq_true rfl⟩) (pr_s hPc hKc hE hS hA) rfl rfl hl.1 rfl (lv_room (Nat.le_of_ble_eq_true rfl)) dX4_judge_27 ⟨Nat.le_of_ble_eq_true rfl, Nat.le_of_ble_eq_true rfl⟩) hS (fun q h1 h2 => ro_A h1 h2) (fun q h => ro_F hS hA q h) (fun r u t H1 locs ht hvm hw hB hz1 hk1 hS => ?_)
  have hw : r = 1 := hw
  rw [hw]
  have hP := ro_P hP hk1
  generalize H1 = H at hP hS ⊢
  refine lv_if_ne (tgt := 43) hx hb dX4_judge_30 (by decide) (fun _ => ?_) (fun h => absurd h (by decide))
  refine lv_aload_n hx hb dX4_judge_43 rfl (lv_at hl 0 rfl) ?_
  refine va_get (D := D) (ci := 7) (v := .int 0) (C := RX4) (T := TX4) (N := 19) hx hb hts (by decide +kernel) hown hK hP 0 rfl rfl 5 (by decide) (hts (.fieldLink RX4 102 "PrizeHouse" "judgeCount" "I") (by decide +kernel)) (fun _ h9 => h9) rfl dX4_judge_44 ?_
  refine lv_iconst (v := 5) hx hb dX4_judge_47 (by decide) ?_
  refine lv_icmp_ge (tgt := 58) hx hb dX4_judge_48 (by decide) (fun h => absurd h (by decide)) (fun _ => ?_)
  refine lv_aload_n hx hb dX4_judge_51 rfl (lv_at hl 0 rfl) ?_
  refine va_get (D := D) (ci := 7) (v := .int 0) (C := RX4) (T := TX4) (N := 19) hx hb hts (by decide +kernel) hown hK hP 0 rfl rfl 9 (by decide) (hts (.fieldLink RX4 37 "PrizeHouse" "phase" "I") (by decide +kernel)) (fun _ h9 => h9) rfl dX4_judge_52 ?_
  refine lv_if_eq (tgt := 68) hx hb dX4_judge_55 (by decide) (fun _ => ?_) (fun h => absurd (by decide) h)
  refine lv_aload_n hx hb dX4_judge_68 rfl (lv_at hl 0 rfl) ?_
  refine va_get (D := D) (ci := 7) (v := .ref aJ) (C := RX4) (T := TX4) (N := 19) hx hb hts (by decide +kernel) hown hK hP 0 rfl rfl 2 (by decide) (hts (.fieldLink RX4 23 "PrizeHouse" "judges" "[LPrizeHouse$Judge;") (by decide +kernel)) (fun _ h9 => h9) rfl dX4_judge_69 ?_
  refine lv_aload_n hx hb dX4_judge_72 rfl (lv_at hl 0 rfl) ?_
  refine va_get (D := D) (ci := 7) (v := .int 0) (C := RX4) (T := TX4) (N := 19) hx hb hts (by decide +kernel) hown hK hP 0 rfl rfl 5 (by decide) (hts (.fieldLink RX4 102 "PrizeHouse" "judgeCount" "I") (by decide +kernel)) (fun _ h9 => h9) rfl dX4_judge_73 ?_
  refine va_aldq hx hb hK hP 1 0 rfl rfl (by unfold vp_in; decide +kernel) dX4_judge_76 ?_
  refine W.eq (g2 := F0 m 77 ls [.ref j0]) (congrArg (fun z => F0 m 77 ls (va_rf z :: [])) (show fJ (Int32.toNatClampNeg 0) = some j0 from hJ)) ?_
  refine lv_iload_n hx hb dX4_judge_77 rfl (lv_at hl 1 rfl) ?_
  refine lv_iload_n hx hb dX4_judge_78 rfl (lv_at hl 2 rfl) ?_
  refine lv_iload_n hx hb dX4_judge_79 rfl (lv_at hl 3 rfl) ?_
  have hPc := hP.sub (ws' := [(j0, .inr (5, [.int 0, .int 0, .int 0, .int 0, .int 0, .ref c1, .ref c2, .int 0, .int 0, .int 0, .int 0, .ref c3, .int 0, .ref c4, .ref c5, .int 0]))]) [2] rfl
  have hKc := hK.sub (tys' := []) [] rfl
  have hDc := hD.sub (ws' := [(j0, .inr (5, [.int 0, .int 0, .int 0, .int 0, .int 0, .ref c1, .ref c2, .int 0, .int 0, .int 0, .int 0, .ref c3, .int 0, .ref c4, .ref c5, .int 0]))]) [2] (by decide) rfl
  have hFc := va_free (wc := [(j0, .inr (5, [.int 0, .int 0, .int 0, .int 0, .int 0, .ref c1, .ref c2, .int 0, .int 0, .int 0, .int 0, .ref c3, .int 0, .ref c4, .ref c5, .int 0]))]) hD hS hA [2] rfl
  refine va_callv (va_runV (As := [.int p0, .int p1, .int p2]) (rest := []) ⟨hx, hb, hml, hown, hts⟩ (k_describe l D eT j0 c1 c2 c3 c4 c5 p0 p1 p2 H.size ) (cwV 3 hts gX4_judge_X2_describe rfl rfl rfl (by decide +kernel) ⟨Nat.le_of_ble_eq_true rfl, Nat.le_of_ble_eq_true rfl⟩) (pc_v (ci := 5) (q0 := 0) rfl rfl hPc hDc hKc hE hS hFc) rfl rfl hl.1 rfl (lv_room (Nat.le_of_ble_eq_true rfl)) dX4_judge_80 ⟨Nat.le_of_ble_eq_true rfl, Nat.le_of_ble_eq_true rfl⟩) hS (fun q _ h => hFc q h) hFc (fun u t H1 locs ht hvm hw hB hz1 hk1 hS => ?_)
  have hP1 : va_P D vwCl [] H1 := fun k q h => by simp at h
  have hD1 : va_D (va_A [(j0, .inr (5, [.int 0, .int 0, .int 0, .int 0, .int 0, .ref c1, .ref c2, .int 0, .int 0, .int 0, .int 0, .ref c3, .int 0, .ref c4, .ref c5, .int 0]))] H.size) [] := ⟨fun i j p q h => by simp at h, fun k q h => by simp at h⟩
  obtain ⟨hP, hD⟩ := va_join (wr := [(h0, .inr (7, [.ref aH, .ref aB, .ref aJ, .int 0, .int 0, .int 0, .ref rN, .ref rX, .int 0, .int 0, .int 0, .int 0, .int 0, .int 0, .int (-1), .int (-1), .int 0, .int 0, .ref aV])), (aJ, .inl (cJ, 5, .inr (.inr (.inr (.inr fJ)))))]) (w1 := []) hP hD [2] [0, 1] rfl rfl (by decide) (by decide) hk1 hFc hP1 hD1
  generalize H1 = H at hP hS ⊢
  have hP : va_P D vwCl [(h0, .inr (7, [.ref aH, .ref aB, .ref aJ, .int 0, .int 0, .int 0, .ref rN, .ref rX, .int 0, .int 0, .int 0, .int 0, .int 0, .int 0, .int (-1), .int (-1), .int 0, .int 0, .ref aV])), (aJ, .inl (cJ, 5, .inr (.inr (.inr (.inr fJ)))))] H := hP
  have hD : va_D A [(h0, .inr (7, [.ref aH, .ref aB, .ref aJ, .int 0, .int 0, .int 0, .ref rN, .ref rX, .int 0, .int 0, .int 0, .int 0, .int 0, .int 0, .int (-1), .int (-1), .int 0, .int 0, .ref aV])), (aJ, .inl (cJ, 5, .inr (.inr (.inr (.inr fJ)))))] := hD
  refine lv_aload_n hx hb dX4_judge_83 rfl (lv_at hl 0 rfl) ?_
  refine lv_dup hx hb dX4_judge_84 rfl ?_
  refine va_get (D := D) (ci := 7) (v := .int 0) (C := RX4) (T := TX4) (N := 19) hx hb hts (by decide +kernel) hown hK hP 0 rfl rfl 5 (by decide) (hts (.fieldLink RX4 102 "PrizeHouse" "judgeCount" "I") (by decide +kernel)) (fun _ h9 => h9) rfl dX4_judge_85 ?_
  refine lv_iconst (v := 1) hx hb dX4_judge_88 (by decide) ?_
  refine lv_iadd hx hb dX4_judge_89 ?_
  refine lv_topi (fun z_1 ez_1 => ?_)
  have ez_1 : z_1 = 1 := ez_1.trans (by decide +kernel)
  rw [ez_1]
  refine va_put (D := D) (ci := 7) (v := .int 1) (C := RX4) (T := TX4) (N := 19) hx hb hts (by decide +kernel) tyX4 tyX4_ok nmX4 hown hK hP hD hS 0 rfl rfl 5 (by decide) (hts (.fieldLink RX4 102 "PrizeHouse" "judgeCount" "I") (by decide +kernel)) (fun _ h9 => h9) rfl (tyX4_ok 5 (by decide)) rfl rfl (Nat.le_of_ble_eq_true rfl) dX4_judge_90 (fun H locs hP hD hS => ?_)
  have hP : va_P D vwCl [(h0, .inr (7, [.ref aH, .ref aB, .ref aJ, .int 0, .int 0, .int 1, .ref rN, .ref rX, .int 0, .int 0, .int 0, .int 0, .int 0, .int 0, .int (-1), .int (-1), .int 0, .int 0, .ref aV])), (aJ, .inl (cJ, 5, .inr (.inr (.inr (.inr fJ)))))] H := hP
  have hD : va_D A [(h0, .inr (7, [.ref aH, .ref aB, .ref aJ, .int 0, .int 0, .int 1, .ref rN, .ref rX, .int 0, .int 0, .int 0, .int 0, .int 0, .int 0, .int (-1), .int (-1), .int 0, .int 0, .ref aV])), (aJ, .inl (cJ, 5, .inr (.inr (.inr (.inr fJ)))))] := hD
  refine lv_aload_n hx hb dX4_judge_93 rfl (lv_at hl 0 rfl) ?_
  refine va_get (D := D) (ci := 7) (v := .int 1) (C := RX4) (T := TX4) (N := 19) hx hb hts (by decide +kernel) hown hK hP 0 rfl rfl 5 (by decide) (hts (.fieldLink RX4 102 "PrizeHouse" "judgeCount" "I") (by decide +kernel)) (fun _ h9 => h9) rfl dX4_judge_94 ?_
  refine lv_iconst (v := 1) hx hb dX4_judge_97 (by decide) ?_
  refine lv_isub hx hb dX4_judge_98 ?_
  refine lv_topi (fun z_2 ez_2 => ?_)
  have ez_2 : z_2 = 0 := ez_2.trans (by decide +kernel)
  rw [ez_2]
  exact W.iret (v := 0) hx hb hr (fun t ht hW => ⟨⟨0, (), rfl, rfl, trivial⟩, hS.F ht⟩) hS.2.2 dX4_judge_99
set_option maxHeartbeats 4000000 in
set_option maxRecDepth 100000 in
theorem k_rules (l : Launch) (D : va_G) (eT : Nat) (h0 : Nat) (aH : Nat) (aB : Nat) (aJ : Nat) (rN : Nat) (rX : Nat) (aV : Nat) (p0 : Int32) (p1 : Int32) (p2 : Int32) (p3 : Int32) (sz : Nat) (a1 : 1 ≤ p0) (a2 : p0 ≤ 7) (b1 : 50 ≤ p1) (b2 : p1 ≤ p2) (c2 : p2 ≤ 900) (d1 : 0 ≤ p3) (d2 : p3 ≤ 50) : Met l yX4_rules wsX4_rules ({ frames := 1, cells := 0, slots := 0, locals := 24 }) (va_Pc [.ref h0, .int p0, .int p1, .int p2, .int p3] (pc D eT sz [(h0, .inr (7, [.ref aH, .ref aB, .ref aJ, .int 0, .int 0, .int 0, .ref rN, .ref rX, .int 0, .int 0, .int 0, .int 0, .int 0, .int 0, .int (-1), .int (-1), .int 0, .int 0, .ref aV])), (rN, .inr (6, [.int 7, .int 100, .int 800, .int 10])), (rX, .inr (6, [.int 7, .int 100, .int 800, .int 10]))] [])) (va_Qi (fun (r : Int32) (_ : Unit) => r = 10) (fun _ _ => True) (va_A [(h0, .inr (7, [.ref aH, .ref aB, .ref aJ, .int 0, .int 0, .int 0, .ref rN, .ref rX, .int 0, .int 0, .int 0, .int 0, .int 0, .int 0, .int (-1), .int (-1), .int 0, .int 0, .ref aV])), (rN, .inr (6, [.int 7, .int 100, .int 800, .int 10])), (rX, .inr (6, [.int 7, .int 100, .int 800, .int 10]))] sz)) 0 0 (va_A [(h0, .inr (7, [.ref aH, .ref aB, .ref aJ, .int 0, .int 0, .int 0, .ref rN, .ref rX, .int 0, .int 0, .int 0, .int 0, .int 0, .int 0, .int (-1), .int (-1), .int 0, .int 0, .ref aV])), (rN, .inr (6, [.int 7, .int 100, .int 800, .int 10])), (rX, .inr (6, [.int 7, .int 100, .int 800, .int 10]))] sz) := by
  refine Met.ofW (cc := cX4_rules) (maxL := 5) (ret := (some .int)) (by decide +kernel) rfl ?_
  intro p e s m args below meth c s₁ B hml hv
  obtain ⟨rfl, hsz, hP, hK, hD0, hE⟩ := hv
  have hx := B.exec
  have hb := B.bytes
  have hr := B.returns
  have hts := atoms_spec (ws := wsX4_rules) B.pre
  have hown : s.vm.findClass RX4 = some m.cls := findClass_of_methodNamed B.named
  have hlocks := B.notSynchronized
  subst hsz
  have hD := hD0.self (sz := s.heap.size)
  generalize hAe : va_A [(h0, .inr (7, [.ref aH, .ref aB, .ref aJ, .int 0, .int 0, .int 0, .ref rN, .ref rX, .int 0, .int 0, .int 0, .int 0, .int 0, .int 0, .int (-1), .int (-1), .int 0, .int 0, .ref aV])), (rN, .inr (6, [.int 7, .int 100, .int 800, .int 10])), (rX, .inr (6, [.int 7, .int 100, .int 800, .int 10]))] s.heap.size = A at hD hE ⊢
  have hA : ∀ q : Nat, s.heap.size ≤ q → A q := fun q h => by rw [← hAe]; exact Or.inr h
  have hS : va_S A s.heap s.heap [] := va_S.rf
  have hP : va_P D vwCl [(h0, .inr (7, [.ref aH, .ref aB, .ref aJ, .int 0, .int 0, .int 0, .ref rN, .ref rX, .int 0, .int 0, .int 0, .int 0, .int 0, .int 0, .int (-1), .int (-1), .int 0, .int 0, .ref aV])), (rN, .inr (6, [.int 7, .int 100, .int 800, .int 10])), (rX, .inr (6, [.int 7, .int 100, .int 800, .int 10]))] s.heap := hP
  have hl := lv_entry ([.ref h0, .int p0, .int p1, .int p2, .int p3]) (n := 5) (Nat.le_of_ble_eq_true rfl)
  rw [lg_entry_eq]
  generalize (lg_sl ([.ref h0, .int p0, .int p1, .int p2, .int p3]) ++ List.replicate (5 - (lg_sl ([.ref h0, .int p0, .int p1, .int p2, .int p3])).length) Slot.unset).toArray = ls at hl ⊢
  have hl : lv_has ls 5 [(0, .ref h0), (1, .int p0), (2, .int p1), (3, .int p2), (4, .int p3)] := hl
  refine lv_iload_n hx hb dX4_rules_0 rfl (lv_at hl 1 rfl) ?_
  refine lv_iconst (v := 1) hx hb dX4_rules_1 (by decide) ?_
  refine lv_bipush (v := 7) hx hb dX4_rules_2 (by decide) ?_
  have hPc := hP.sub (ws' := []) [] rfl
  have hKc := hK.sub (tys' := []) [] rfl
  refine va_calli (va_runS (As := [.int p0, .int 1, .int 7]) (rest := []) ⟨hx, hb, hml, hown, hts⟩ (k_within_t l D eT p0 1 7 s.heap.size a1 a2) (va_cwS 3 hts gX4_rules_X4_isWithin rfl rfl rfl (by decide +kernel) ⟨Nat.le_of_ble_eq_true rfl, Nat.le_of_ble_eq_true rfl⟩) (pr_s hPc hKc hE hS hA) rfl rfl hl.1 rfl (lv_room (Nat.le_of_ble_eq_true rfl)) dX4_rules_4 ⟨Nat.le_of_ble_eq_true rfl, Nat.le_of_ble_eq_true rfl⟩) hS (fun q h1 h2 => ro_A h1 h2) (fun q h => ro_F hS hA q h) (fun r u t H1 locs ht hvm hw hB hz1 hk1 hS => ?_)
  have hw : r = 1 := hw
  rw [hw]
  have hP := ro_P hP hk1
  generalize H1 = H at hP hS ⊢
  refine lv_if_eq (tgt := 38) hx hb dX4_rules_7 (by decide) (fun h => absurd h (by decide)) (fun _ => ?_)
  refine lv_iload_n hx hb dX4_rules_10 rfl (lv_at hl 2 rfl) ?_
  refine lv_bipush (v := 50) hx hb dX4_rules_11 (by decide) ?_
  refine lv_iload_n hx hb dX4_rules_13 rfl (lv_at hl 3 rfl) ?_
  have hPc := hP.sub (ws' := []) [] rfl
  have hKc := hK.sub (tys' := []) [] rfl
  refine va_calli (va_runS (As := [.int p1, .int 50, .int p2]) (rest := []) ⟨hx, hb, hml, hown, hts⟩ (k_within_t l D eT p1 50 p2 H.size b1 b2) (va_cwS 3 hts gX4_rules_X4_isWithin rfl rfl rfl (by decide +kernel) ⟨Nat.le_of_ble_eq_true rfl, Nat.le_of_ble_eq_true rfl⟩) (pr_s hPc hKc hE hS hA) rfl rfl hl.1 rfl (lv_room (Nat.le_of_ble_eq_true rfl)) dX4_rules_14 ⟨Nat.le_of_ble_eq_true rfl, Nat.le_of_ble_eq_true rfl⟩) hS (fun q h1 h2 => ro_A h1 h2) (fun q h => ro_F hS hA q h) (fun r u t H1 locs ht hvm hw hB hz1 hk1 hS => ?_)
  have hw : r = 1 := hw
  rw [hw]
  have hP := ro_P hP hk1
  generalize H1 = H at hP hS ⊢
  refine lv_if_eq (tgt := 38) hx hb dX4_rules_17 (by decide) (fun h => absurd h (by decide)) (fun _ => ?_)
  refine lv_iload_n hx hb dX4_rules_20 rfl (lv_at hl 3 rfl) ?_
  refine lv_sipush (v := 900) hx hb dX4_rules_21 (by decide) ?_
  refine lv_icmp_gt (tgt := 38) hx hb dX4_rules_24 (by decide) (fun h => absurd h (i_le c2)) (fun hc => ?_)
  refine lv_iload hx hb dX4_rules_27 (lv_at hl 4 rfl) ?_
  refine lv_iconst (v := 0) hx hb dX4_rules_29 (by decide) ?_
  refine lv_bipush (v := 50) hx hb dX4_rules_30 (by decide) ?_
  have hPc := hP.sub (ws' := []) [] rfl
  have hKc := hK.sub (tys' := []) [] rfl
  refine va_calli (va_runS (As := [.int p3, .int 0, .int 50]) (rest := []) ⟨hx, hb, hml, hown, hts⟩ (k_within_t l D eT p3 0 50 H.size d1 d2) (va_cwS 3 hts gX4_rules_X4_isWithin rfl rfl rfl (by decide +kernel) ⟨Nat.le_of_ble_eq_true rfl, Nat.le_of_ble_eq_true rfl⟩) (pr_s hPc hKc hE hS hA) rfl rfl hl.1 rfl (lv_room (Nat.le_of_ble_eq_true rfl)) dX4_rules_32 ⟨Nat.le_of_ble_eq_true rfl, Nat.le_of_ble_eq_true rfl⟩) hS (fun q h1 h2 => ro_A h1 h2) (fun q h => ro_F hS hA q h) (fun r u t H1 locs ht hvm hw hB hz1 hk1 hS => ?_)
  have hw : r = 1 := hw
  rw [hw]
  have hP := ro_P hP hk1
  generalize H1 = H at hP hS ⊢
  refine lv_if_ne (tgt := 48) hx hb dX4_rules_35 (by decide) (fun _ => ?_) (fun h => absurd h (by decide))
  refine lv_aload_n hx hb dX4_rules_48 rfl (lv_at hl 0 rfl) ?_
  refine va_get (D := D) (ci := 7) (v := .ref rX) (C := RX4) (T := TX4) (N := 19) hx hb hts (by decide +kernel) hown hK hP 0 rfl rfl 7 (by decide) (hts (.fieldLink RX4 34 "PrizeHouse" "rulesNext" "LPrizeHouse$Rules;") (by decide +kernel)) (fun _ h9 => h9) rfl dX4_rules_49 ?_
  refine lv_iload_n hx hb dX4_rules_52 rfl (lv_at hl 1 rfl) ?_
  refine lv_iload_n hx hb dX4_rules_53 rfl (lv_at hl 2 rfl) ?_
  refine lv_iload_n hx hb dX4_rules_54 rfl (lv_at hl 3 rfl) ?_
  refine lv_iload hx hb dX4_rules_55 (lv_at hl 4 rfl) ?_
  have hPc := hP.sub (ws' := [(rX, .inr (6, [.int 7, .int 100, .int 800, .int 10]))]) [2] rfl
  have hKc := hK.sub (tys' := []) [] rfl
  have hDc := hD.sub (ws' := [(rX, .inr (6, [.int 7, .int 100, .int 800, .int 10]))]) [2] (by decide) rfl
  have hFc := va_free (wc := [(rX, .inr (6, [.int 7, .int 100, .int 800, .int 10]))]) hD hS hA [2] rfl
  refine va_callv (va_runV (As := [.int p0, .int p1, .int p2, .int p3]) (rest := []) ⟨hx, hb, hml, hown, hts⟩ (k_set l D eT rX p0 p1 p2 p3 H.size ) (cwV 4 hts gX4_rules_X3_set rfl rfl rfl (by decide +kernel) ⟨Nat.le_of_ble_eq_true rfl, Nat.le_of_ble_eq_true rfl⟩) (pc_v (ci := 6) (q0 := 0) rfl rfl hPc hDc hKc hE hS hFc) rfl rfl hl.1 rfl (lv_room (Nat.le_of_ble_eq_true rfl)) dX4_rules_57 ⟨Nat.le_of_ble_eq_true rfl, Nat.le_of_ble_eq_true rfl⟩) hS (fun q _ h => hFc q h) hFc (fun u t H1 locs ht hvm hw hB hz1 hk1 hS => ?_)
  have hP1 : va_P D vwCl [] H1 := fun k q h => by simp at h
  have hD1 : va_D (va_A [(rX, .inr (6, [.int 7, .int 100, .int 800, .int 10]))] H.size) [] := ⟨fun i j p q h => by simp at h, fun k q h => by simp at h⟩
  obtain ⟨hP, hD⟩ := va_join (wr := [(h0, .inr (7, [.ref aH, .ref aB, .ref aJ, .int 0, .int 0, .int 0, .ref rN, .ref rX, .int 0, .int 0, .int 0, .int 0, .int 0, .int 0, .int (-1), .int (-1), .int 0, .int 0, .ref aV])), (rN, .inr (6, [.int 7, .int 100, .int 800, .int 10]))]) (w1 := []) hP hD [2] [0, 1] rfl rfl (by decide) (by decide) hk1 hFc hP1 hD1
  generalize H1 = H at hP hS ⊢
  have hP : va_P D vwCl [(h0, .inr (7, [.ref aH, .ref aB, .ref aJ, .int 0, .int 0, .int 0, .ref rN, .ref rX, .int 0, .int 0, .int 0, .int 0, .int 0, .int 0, .int (-1), .int (-1), .int 0, .int 0, .ref aV])), (rN, .inr (6, [.int 7, .int 100, .int 800, .int 10]))] H := hP
  have hD : va_D A [(h0, .inr (7, [.ref aH, .ref aB, .ref aJ, .int 0, .int 0, .int 0, .ref rN, .ref rX, .int 0, .int 0, .int 0, .int 0, .int 0, .int 0, .int (-1), .int (-1), .int 0, .int 0, .ref aV])), (rN, .inr (6, [.int 7, .int 100, .int 800, .int 10]))] := hD
  refine lv_aload_n hx hb dX4_rules_60 rfl (lv_at hl 0 rfl) ?_
  refine va_get (D := D) (ci := 7) (v := .ref rN) (C := RX4) (T := TX4) (N := 19) hx hb hts (by decide +kernel) hown hK hP 0 rfl rfl 6 (by decide) (hts (.fieldLink RX4 30 "PrizeHouse" "rulesNow" "LPrizeHouse$Rules;") (by decide +kernel)) (fun _ h9 => h9) rfl dX4_rules_61 ?_
  refine va_get (D := D) (ci := 6) (v := .int 10) (C := RX3) (T := TX3) (N := 4) hx hb hts (by decide +kernel) hown hK hP 1 rfl rfl 3 (by decide) (hts (.fieldLink RX4 135 "PrizeHouse$Rules" "fee" "I") (by decide +kernel)) (fun _ h9 => h9) rfl dX4_rules_64 ?_
  exact W.iret (v := 10) hx hb hr (fun t ht hW => ⟨⟨10, (), rfl, rfl, trivial⟩, hS.F ht⟩) hS.2.2 dX4_rules_67
set_option maxHeartbeats 4000000 in
set_option maxRecDepth 100000 in
theorem t_judge (l : Launch) (hl0 : l.stackTraces = false) (D : va_G) (eT : Nat) (h0 : Nat) (aH : Nat) (aB : Nat) (aJ : Nat) (rN : Nat) (rX : Nat) (aV : Nat) (p0 : Int32) (p1 : Int32) (p2 : Int32) (sz : Nat) (hn : ¬ ((20 ≤ p0 ∧ p0 ≤ 200) ∧ (0 ≤ p1 ∧ p1 ≤ 9) ∧ ((-10) ≤ p2 ∧ p2 ≤ 10))) : vx_Met l yX4_judge wsX4_judge ({ frames := 6, cells := 1, slots := 6, locals := 82 }) (va_Pc [.ref h0, .int p0, .int p1, .int p2] (pr D eT sz [(h0, .inr (7, [.ref aH, .ref aB, .ref aJ, .int 0, .int 0, .int 0, .ref rN, .ref rX, .int 0, .int 0, .int 0, .int 0, .int 0, .int 0, .int (-1), .int (-1), .int 0, .int 0, .ref aV]))] [])) (va_Qi (fun (_ : Int32) (_ : Unit) => False) (fun _ _ => True) (fun q => sz ≤ q)) (xr eIAE sz) 1 6 (fun q => sz ≤ q) := by
  refine vx_ofW (cc := cX4_judge) (maxL := 4) (ret := (some .int)) (by decide +kernel) rfl ?_
  intro p e s m args below meth c s₁ B hml hno hv
  obtain ⟨rfl, hsz, hP, hK, hE⟩ := hv
  have hx := B.exec
  have hb := B.bytes
  have hr := B.returns
  have hts := atoms_spec (ws := wsX4_judge) B.pre
  have hown : s.vm.findClass RX4 = some m.cls := findClass_of_methodNamed B.named
  have hlocks := B.notSynchronized
  subst hsz
  have hA : ∀ q : Nat, s.heap.size ≤ q → (fun q : Nat => s.heap.size ≤ q) q := fun _ h => h
  have hS : va_S (fun q : Nat => s.heap.size ≤ q) s.heap s.heap [] := va_S.rf
  have hP : va_P D vwCl [(h0, .inr (7, [.ref aH, .ref aB, .ref aJ, .int 0, .int 0, .int 0, .ref rN, .ref rX, .int 0, .int 0, .int 0, .int 0, .int 0, .int 0, .int (-1), .int (-1), .int 0, .int 0, .ref aV]))] s.heap := hP
  have hl := lv_entry ([.ref h0, .int p0, .int p1, .int p2]) (n := 4) (Nat.le_of_ble_eq_true rfl)
  rw [lg_entry_eq]
  generalize (lg_sl ([.ref h0, .int p0, .int p1, .int p2]) ++ List.replicate (4 - (lg_sl ([.ref h0, .int p0, .int p1, .int p2])).length) Slot.unset).toArray = ls at hl ⊢
  have hl : lv_has ls 4 [(0, .ref h0), (1, .int p0), (2, .int p1), (3, .int p2)] := hl
  refine lv_iload_n hx hb dX4_judge_0 rfl (lv_at hl 1 rfl) ?_
  refine lv_bipush (v := 20) hx hb dX4_judge_1 (by decide) ?_
  refine lv_sipush (v := 200) hx hb dX4_judge_3 (by decide) ?_
  by_cases hs0 : 20 ≤ p0 ∧ p0 ≤ 200
  · skip
    have hPc := hP.sub (ws' := []) [] rfl
    have hKc := hK.sub (tys' := []) [] rfl
    refine va_calli (va_runS (As := [.int p0, .int 20, .int 200]) (rest := []) ⟨hx, hb, hml, hown, hts⟩ (k_within_t l D eT p0 20 200 s.heap.size hs0.1 hs0.2) (va_cwS 3 hts gX4_judge_X4_isWithin rfl rfl rfl (by decide +kernel) ⟨Nat.le_of_ble_eq_true rfl, Nat.le_of_ble_eq_true rfl⟩) (pr_s hPc hKc hE hS hA) rfl rfl hl.1 rfl (lv_room (Nat.le_of_ble_eq_true rfl)) dX4_judge_6 ⟨Nat.le_of_ble_eq_true rfl, Nat.le_of_ble_eq_true rfl⟩) hS (fun q h1 h2 => ro_A h1 h2) (fun q h => ro_F hS hA q h) (fun r u t H1 locs ht hvm hw hB hz1 hk1 hS => ?_)
    have hw : r = 1 := hw
    rw [hw]
    have hP := ro_P hP hk1
    generalize H1 = H at hP hS ⊢
    refine lv_if_eq (tgt := 33) hx hb dX4_judge_9 (by decide) (fun h => absurd h (by decide)) (fun _ => ?_)
    refine lv_iload_n hx hb dX4_judge_12 rfl (lv_at hl 2 rfl) ?_
    refine lv_iconst (v := 0) hx hb dX4_judge_13 (by decide) ?_
    refine lv_bipush (v := 9) hx hb dX4_judge_14 (by decide) ?_
    by_cases hs1 : 0 ≤ p1 ∧ p1 ≤ 9
    · skip
      have hPc := hP.sub (ws' := []) [] rfl
      have hKc := hK.sub (tys' := []) [] rfl
      refine va_calli (va_runS (As := [.int p1, .int 0, .int 9]) (rest := []) ⟨hx, hb, hml, hown, hts⟩ (k_within_t l D eT p1 0 9 H.size hs1.1 hs1.2) (va_cwS 3 hts gX4_judge_X4_isWithin rfl rfl rfl (by decide +kernel) ⟨Nat.le_of_ble_eq_true rfl, Nat.le_of_ble_eq_true rfl⟩) (pr_s hPc hKc hE hS hA) rfl rfl hl.1 rfl (lv_room (Nat.le_of_ble_eq_true rfl)) dX4_judge_16 ⟨Nat.le_of_ble_eq_true rfl, Nat.le_of_ble_eq_true rfl⟩) hS (fun q h1 h2 => ro_A h1 h2) (fun q h => ro_F hS hA q h) (fun r u t H1 locs ht hvm hw hB hz1 hk1 hS => ?_)
      have hw : r = 1 := hw
      rw [hw]
      have hP := ro_P hP hk1
      generalize H1 = H at hP hS ⊢
      refine lv_if_eq (tgt := 33) hx hb dX4_judge_19 (by decide) (fun h => absurd h (by decide)) (fun _ => ?_)
      refine lv_iload_n hx hb dX4_judge_22 rfl (lv_at hl 3 rfl) ?_
      refine lv_bipush (v := (-10)) hx hb dX4_judge_23 (by decide) ?_
      refine lv_bipush (v := 10) hx hb dX4_judge_25 (by decide) ?_
      by_cases hs2 : (-10) ≤ p2 ∧ p2 ≤ 10
      · skip
        exact absurd ⟨hs0, hs1, hs2⟩ hn
      · skip
        have hPc := hP.sub (ws' := []) [] rfl
        have hKc := hK.sub (tys' := []) [] rfl
        refine va_calli (va_runS (As := [.int p2, .int (-10), .int 10]) (rest := []) ⟨hx, hb, hml, hown, hts⟩ (k_within_f l D eT p2 (-10) 10 H.size hs2) (va_cwS 3 hts gX4_judge_X4_isWithin rfl rfl rfl (by decide +kernel) ⟨Nat.le_of_ble_eq_true rfl, Nat.le_of_ble_eq_true rfl⟩) (pr_s hPc hKc hE hS hA) rfl rfl hl.1 rfl (lv_room (Nat.le_of_ble_eq_true rfl)) dX4_judge_27 ⟨Nat.le_of_ble_eq_true rfl, Nat.le_of_ble_eq_true rfl⟩) hS (fun q h1 h2 => ro_A h1 h2) (fun q h => ro_F hS hA q h) (fun r u t H1 locs ht hvm hw hB hz1 hk1 hS => ?_)
        have hw : r = 0 := hw
        rw [hw]
        have hP := ro_P hP hk1
        generalize H1 = H at hP hS ⊢
        refine lv_if_ne (tgt := 43) hx hb dX4_judge_30 (by decide) (fun h => absurd (by decide) h) (fun _ => ?_)
        obtain ⟨sa_1, hsa_1⟩ := hE.str 0 rfl
        exact vx_throwS (A := fun q => s.heap.size ≤ q) hx hb hl0 hown fit_IAE fit_RE (hts (.classLink RX4 80 eIAE) (by decide +kernel)) (hts (.initialized eIAE) (by decide +kernel)) hsa_1 (hat_IAE (fun w h => hts w (List.mem_cons_of_mem _ (List.mem_append_left _ (List.mem_append_right _ h)))) hE.1 hE.2.2.1) good_IAE hE.2.2.2.1 hE.2.2.2.2.1 hS (hl.1.trans hml.symm) dX4_judge_33 dX4_judge_36 dX4_judge_37 dX4_judge_39 dX4_judge_42 (fun x hx9 => (hno x hx9).elim) (Nat.le_of_ble_eq_true rfl) (Nat.le_of_ble_eq_true rfl) (Nat.le_of_ble_eq_true rfl) (Nat.le_of_ble_eq_true rfl) hlocks (fun t _ h1 h2 => xr_in hS h1 h2) hS.2.2 (Nat.le_of_ble_eq_true rfl) (Nat.le_of_ble_eq_true rfl)
    · skip
      have hPc := hP.sub (ws' := []) [] rfl
      have hKc := hK.sub (tys' := []) [] rfl
      refine va_calli (va_runS (As := [.int p1, .int 0, .int 9]) (rest := []) ⟨hx, hb, hml, hown, hts⟩ (k_within_f l D eT p1 0 9 H.size hs1) (va_cwS 3 hts gX4_judge_X4_isWithin rfl rfl rfl (by decide +kernel) ⟨Nat.le_of_ble_eq_true rfl, Nat.le_of_ble_eq_true rfl⟩) (pr_s hPc hKc hE hS hA) rfl rfl hl.1 rfl (lv_room (Nat.le_of_ble_eq_true rfl)) dX4_judge_16 ⟨Nat.le_of_ble_eq_true rfl, Nat.le_of_ble_eq_true rfl⟩) hS (fun q h1 h2 => ro_A h1 h2) (fun q h => ro_F hS hA q h) (fun r u t H1 locs ht hvm hw hB hz1 hk1 hS => ?_)
      have hw : r = 0 := hw
      rw [hw]
      have hP := ro_P hP hk1
      generalize H1 = H at hP hS ⊢
      refine lv_if_eq (tgt := 33) hx hb dX4_judge_19 (by decide) (fun _ => ?_) (fun h => absurd (by decide) h)
      obtain ⟨sa_2, hsa_2⟩ := hE.str 0 rfl
      exact vx_throwS (A := fun q => s.heap.size ≤ q) hx hb hl0 hown fit_IAE fit_RE (hts (.classLink RX4 80 eIAE) (by decide +kernel)) (hts (.initialized eIAE) (by decide +kernel)) hsa_2 (hat_IAE (fun w h => hts w (List.mem_cons_of_mem _ (List.mem_append_left _ (List.mem_append_right _ h)))) hE.1 hE.2.2.1) good_IAE hE.2.2.2.1 hE.2.2.2.2.1 hS (hl.1.trans hml.symm) dX4_judge_33 dX4_judge_36 dX4_judge_37 dX4_judge_39 dX4_judge_42 (fun x hx9 => (hno x hx9).elim) (Nat.le_of_ble_eq_true rfl) (Nat.le_of_ble_eq_true rfl) (Nat.le_of_ble_eq_true rfl) (Nat.le_of_ble_eq_true rfl) hlocks (fun t _ h1 h2 => xr_in hS h1 h2) hS.2.2 (Nat.le_of_ble_eq_true rfl) (Nat.le_of_ble_eq_true rfl)
  · skip
    have hPc := hP.sub (ws' := []) [] rfl
    have hKc := hK.sub (tys' := []) [] rfl
    refine va_calli (va_runS (As := [.int p0, .int 20, .int 200]) (rest := []) ⟨hx, hb, hml, hown, hts⟩ (k_within_f l D eT p0 20 200 s.heap.size hs0) (va_cwS 3 hts gX4_judge_X4_isWithin rfl rfl rfl (by decide +kernel) ⟨Nat.le_of_ble_eq_true rfl, Nat.le_of_ble_eq_true rfl⟩) (pr_s hPc hKc hE hS hA) rfl rfl hl.1 rfl (lv_room (Nat.le_of_ble_eq_true rfl)) dX4_judge_6 ⟨Nat.le_of_ble_eq_true rfl, Nat.le_of_ble_eq_true rfl⟩) hS (fun q h1 h2 => ro_A h1 h2) (fun q h => ro_F hS hA q h) (fun r u t H1 locs ht hvm hw hB hz1 hk1 hS => ?_)
    have hw : r = 0 := hw
    rw [hw]
    have hP := ro_P hP hk1
    generalize H1 = H at hP hS ⊢
    refine lv_if_eq (tgt := 33) hx hb dX4_judge_9 (by decide) (fun _ => ?_) (fun h => absurd (by decide) h)
    obtain ⟨sa_3, hsa_3⟩ := hE.str 0 rfl
    exact vx_throwS (A := fun q => s.heap.size ≤ q) hx hb hl0 hown fit_IAE fit_RE (hts (.classLink RX4 80 eIAE) (by decide +kernel)) (hts (.initialized eIAE) (by decide +kernel)) hsa_3 (hat_IAE (fun w h => hts w (List.mem_cons_of_mem _ (List.mem_append_left _ (List.mem_append_right _ h)))) hE.1 hE.2.2.1) good_IAE hE.2.2.2.1 hE.2.2.2.2.1 hS (hl.1.trans hml.symm) dX4_judge_33 dX4_judge_36 dX4_judge_37 dX4_judge_39 dX4_judge_42 (fun x hx9 => (hno x hx9).elim) (Nat.le_of_ble_eq_true rfl) (Nat.le_of_ble_eq_true rfl) (Nat.le_of_ble_eq_true rfl) (Nat.le_of_ble_eq_true rfl) hlocks (fun t _ h1 h2 => xr_in hS h1 h2) hS.2.2 (Nat.le_of_ble_eq_true rfl) (Nat.le_of_ble_eq_true rfl)
set_option maxHeartbeats 4000000 in
set_option maxRecDepth 100000 in
theorem t_rules (l : Launch) (hl0 : l.stackTraces = false) (D : va_G) (eT : Nat) (h0 : Nat) (aH : Nat) (aB : Nat) (aJ : Nat) (rN : Nat) (rX : Nat) (aV : Nat) (p0 : Int32) (p1 : Int32) (p2 : Int32) (p3 : Int32) (sz : Nat) (hn : ¬ ((1 ≤ p0 ∧ p0 ≤ 7) ∧ (50 ≤ p1 ∧ p1 ≤ p2) ∧ p2 ≤ 900 ∧ (0 ≤ p3 ∧ p3 ≤ 50))) : vx_Met l yX4_rules wsX4_rules ({ frames := 6, cells := 1, slots := 6, locals := 82 }) (va_Pc [.ref h0, .int p0, .int p1, .int p2, .int p3] (pr D eT sz [(h0, .inr (7, [.ref aH, .ref aB, .ref aJ, .int 0, .int 0, .int 0, .ref rN, .ref rX, .int 0, .int 0, .int 0, .int 0, .int 0, .int 0, .int (-1), .int (-1), .int 0, .int 0, .ref aV]))] [])) (va_Qi (fun (_ : Int32) (_ : Unit) => False) (fun _ _ => True) (fun q => sz ≤ q)) (xr eIAE sz) 1 6 (fun q => sz ≤ q) := by
  refine vx_ofW (cc := cX4_rules) (maxL := 5) (ret := (some .int)) (by decide +kernel) rfl ?_
  intro p e s m args below meth c s₁ B hml hno hv
  obtain ⟨rfl, hsz, hP, hK, hE⟩ := hv
  have hx := B.exec
  have hb := B.bytes
  have hr := B.returns
  have hts := atoms_spec (ws := wsX4_rules) B.pre
  have hown : s.vm.findClass RX4 = some m.cls := findClass_of_methodNamed B.named
  have hlocks := B.notSynchronized
  subst hsz
  have hA : ∀ q : Nat, s.heap.size ≤ q → (fun q : Nat => s.heap.size ≤ q) q := fun _ h => h
  have hS : va_S (fun q : Nat => s.heap.size ≤ q) s.heap s.heap [] := va_S.rf
  have hP : va_P D vwCl [(h0, .inr (7, [.ref aH, .ref aB, .ref aJ, .int 0, .int 0, .int 0, .ref rN, .ref rX, .int 0, .int 0, .int 0, .int 0, .int 0, .int 0, .int (-1), .int (-1), .int 0, .int 0, .ref aV]))] s.heap := hP
  have hl := lv_entry ([.ref h0, .int p0, .int p1, .int p2, .int p3]) (n := 5) (Nat.le_of_ble_eq_true rfl)
  rw [lg_entry_eq]
  generalize (lg_sl ([.ref h0, .int p0, .int p1, .int p2, .int p3]) ++ List.replicate (5 - (lg_sl ([.ref h0, .int p0, .int p1, .int p2, .int p3])).length) Slot.unset).toArray = ls at hl ⊢
  have hl : lv_has ls 5 [(0, .ref h0), (1, .int p0), (2, .int p1), (3, .int p2), (4, .int p3)] := hl
  refine lv_iload_n hx hb dX4_rules_0 rfl (lv_at hl 1 rfl) ?_
  refine lv_iconst (v := 1) hx hb dX4_rules_1 (by decide) ?_
  refine lv_bipush (v := 7) hx hb dX4_rules_2 (by decide) ?_
  by_cases hs0 : 1 ≤ p0 ∧ p0 ≤ 7
  · skip
    have hPc := hP.sub (ws' := []) [] rfl
    have hKc := hK.sub (tys' := []) [] rfl
    refine va_calli (va_runS (As := [.int p0, .int 1, .int 7]) (rest := []) ⟨hx, hb, hml, hown, hts⟩ (k_within_t l D eT p0 1 7 s.heap.size hs0.1 hs0.2) (va_cwS 3 hts gX4_rules_X4_isWithin rfl rfl rfl (by decide +kernel) ⟨Nat.le_of_ble_eq_true rfl, Nat.le_of_ble_eq_true rfl⟩) (pr_s hPc hKc hE hS hA) rfl rfl hl.1 rfl (lv_room (Nat.le_of_ble_eq_true rfl)) dX4_rules_4 ⟨Nat.le_of_ble_eq_true rfl, Nat.le_of_ble_eq_true rfl⟩) hS (fun q h1 h2 => ro_A h1 h2) (fun q h => ro_F hS hA q h) (fun r u t H1 locs ht hvm hw hB hz1 hk1 hS => ?_)
    have hw : r = 1 := hw
    rw [hw]
    have hP := ro_P hP hk1
    generalize H1 = H at hP hS ⊢
    refine lv_if_eq (tgt := 38) hx hb dX4_rules_7 (by decide) (fun h => absurd h (by decide)) (fun _ => ?_)
    refine lv_iload_n hx hb dX4_rules_10 rfl (lv_at hl 2 rfl) ?_
    refine lv_bipush (v := 50) hx hb dX4_rules_11 (by decide) ?_
    refine lv_iload_n hx hb dX4_rules_13 rfl (lv_at hl 3 rfl) ?_
    by_cases hs1 : 50 ≤ p1 ∧ p1 ≤ p2
    · skip
      have hPc := hP.sub (ws' := []) [] rfl
      have hKc := hK.sub (tys' := []) [] rfl
      refine va_calli (va_runS (As := [.int p1, .int 50, .int p2]) (rest := []) ⟨hx, hb, hml, hown, hts⟩ (k_within_t l D eT p1 50 p2 H.size hs1.1 hs1.2) (va_cwS 3 hts gX4_rules_X4_isWithin rfl rfl rfl (by decide +kernel) ⟨Nat.le_of_ble_eq_true rfl, Nat.le_of_ble_eq_true rfl⟩) (pr_s hPc hKc hE hS hA) rfl rfl hl.1 rfl (lv_room (Nat.le_of_ble_eq_true rfl)) dX4_rules_14 ⟨Nat.le_of_ble_eq_true rfl, Nat.le_of_ble_eq_true rfl⟩) hS (fun q h1 h2 => ro_A h1 h2) (fun q h => ro_F hS hA q h) (fun r u t H1 locs ht hvm hw hB hz1 hk1 hS => ?_)
      have hw : r = 1 := hw
      rw [hw]
      have hP := ro_P hP hk1
      generalize H1 = H at hP hS ⊢
      refine lv_if_eq (tgt := 38) hx hb dX4_rules_17 (by decide) (fun h => absurd h (by decide)) (fun _ => ?_)
      refine lv_iload_n hx hb dX4_rules_20 rfl (lv_at hl 3 rfl) ?_
      refine lv_sipush (v := 900) hx hb dX4_rules_21 (by decide) ?_
      refine lv_icmp_gt (tgt := 38) hx hb dX4_rules_24 (by decide) (fun hm => ?_) (fun hm => ?_)
      · skip
        obtain ⟨sa_1, hsa_1⟩ := hE.str 4 rfl
        exact vx_throwS (A := fun q => s.heap.size ≤ q) hx hb hl0 hown fit_IAE fit_RE (hts (.classLink RX4 80 eIAE) (by decide +kernel)) (hts (.initialized eIAE) (by decide +kernel)) hsa_1 (hat_IAE (fun w h => hts w (List.mem_cons_of_mem _ (List.mem_append_right _ h))) hE.1 hE.2.2.1) good_IAE hE.2.2.2.1 hE.2.2.2.2.1 hS (hl.1.trans hml.symm) dX4_rules_38 dX4_rules_41 dX4_rules_42 dX4_rules_44 dX4_rules_47 (fun x hx9 => (hno x hx9).elim) (Nat.le_of_ble_eq_true rfl) (Nat.le_of_ble_eq_true rfl) (Nat.le_of_ble_eq_true rfl) (Nat.le_of_ble_eq_true rfl) hlocks (fun t _ h1 h2 => xr_in hS h1 h2) hS.2.2 (Nat.le_of_ble_eq_true rfl) (Nat.le_of_ble_eq_true rfl)
      · skip
        refine lv_iload hx hb dX4_rules_27 (lv_at hl 4 rfl) ?_
        refine lv_iconst (v := 0) hx hb dX4_rules_29 (by decide) ?_
        refine lv_bipush (v := 50) hx hb dX4_rules_30 (by decide) ?_
        by_cases hs2 : 0 ≤ p3 ∧ p3 ≤ 50
        · skip
          exact absurd ⟨hs0, hs1, i_nlt hm, hs2⟩ hn
        · skip
          have hPc := hP.sub (ws' := []) [] rfl
          have hKc := hK.sub (tys' := []) [] rfl
          refine va_calli (va_runS (As := [.int p3, .int 0, .int 50]) (rest := []) ⟨hx, hb, hml, hown, hts⟩ (k_within_f l D eT p3 0 50 H.size hs2) (va_cwS 3 hts gX4_rules_X4_isWithin rfl rfl rfl (by decide +kernel) ⟨Nat.le_of_ble_eq_true rfl, Nat.le_of_ble_eq_true rfl⟩) (pr_s hPc hKc hE hS hA) rfl rfl hl.1 rfl (lv_room (Nat.le_of_ble_eq_true rfl)) dX4_rules_32 ⟨Nat.le_of_ble_eq_true rfl, Nat.le_of_ble_eq_true rfl⟩) hS (fun q h1 h2 => ro_A h1 h2) (fun q h => ro_F hS hA q h) (fun r u t H1 locs ht hvm hw hB hz1 hk1 hS => ?_)
          have hw : r = 0 := hw
          rw [hw]
          have hP := ro_P hP hk1
          generalize H1 = H at hP hS ⊢
          refine lv_if_ne (tgt := 48) hx hb dX4_rules_35 (by decide) (fun h => absurd (by decide) h) (fun _ => ?_)
          obtain ⟨sa_2, hsa_2⟩ := hE.str 4 rfl
          exact vx_throwS (A := fun q => s.heap.size ≤ q) hx hb hl0 hown fit_IAE fit_RE (hts (.classLink RX4 80 eIAE) (by decide +kernel)) (hts (.initialized eIAE) (by decide +kernel)) hsa_2 (hat_IAE (fun w h => hts w (List.mem_cons_of_mem _ (List.mem_append_right _ h))) hE.1 hE.2.2.1) good_IAE hE.2.2.2.1 hE.2.2.2.2.1 hS (hl.1.trans hml.symm) dX4_rules_38 dX4_rules_41 dX4_rules_42 dX4_rules_44 dX4_rules_47 (fun x hx9 => (hno x hx9).elim) (Nat.le_of_ble_eq_true rfl) (Nat.le_of_ble_eq_true rfl) (Nat.le_of_ble_eq_true rfl) (Nat.le_of_ble_eq_true rfl) hlocks (fun t _ h1 h2 => xr_in hS h1 h2) hS.2.2 (Nat.le_of_ble_eq_true rfl) (Nat.le_of_ble_eq_true rfl)
    · skip
      have hPc := hP.sub (ws' := []) [] rfl
      have hKc := hK.sub (tys' := []) [] rfl
      refine va_calli (va_runS (As := [.int p1, .int 50, .int p2]) (rest := []) ⟨hx, hb, hml, hown, hts⟩ (k_within_f l D eT p1 50 p2 H.size hs1) (va_cwS 3 hts gX4_rules_X4_isWithin rfl rfl rfl (by decide +kernel) ⟨Nat.le_of_ble_eq_true rfl, Nat.le_of_ble_eq_true rfl⟩) (pr_s hPc hKc hE hS hA) rfl rfl hl.1 rfl (lv_room (Nat.le_of_ble_eq_true rfl)) dX4_rules_14 ⟨Nat.le_of_ble_eq_true rfl, Nat.le_of_ble_eq_true rfl⟩) hS (fun q h1 h2 => ro_A h1 h2) (fun q h => ro_F hS hA q h) (fun r u t H1 locs ht hvm hw hB hz1 hk1 hS => ?_)
      have hw : r = 0 := hw
      rw [hw]
      have hP := ro_P hP hk1
      generalize H1 = H at hP hS ⊢
      refine lv_if_eq (tgt := 38) hx hb dX4_rules_17 (by decide) (fun _ => ?_) (fun h => absurd (by decide) h)
      obtain ⟨sa_3, hsa_3⟩ := hE.str 4 rfl
      exact vx_throwS (A := fun q => s.heap.size ≤ q) hx hb hl0 hown fit_IAE fit_RE (hts (.classLink RX4 80 eIAE) (by decide +kernel)) (hts (.initialized eIAE) (by decide +kernel)) hsa_3 (hat_IAE (fun w h => hts w (List.mem_cons_of_mem _ (List.mem_append_right _ h))) hE.1 hE.2.2.1) good_IAE hE.2.2.2.1 hE.2.2.2.2.1 hS (hl.1.trans hml.symm) dX4_rules_38 dX4_rules_41 dX4_rules_42 dX4_rules_44 dX4_rules_47 (fun x hx9 => (hno x hx9).elim) (Nat.le_of_ble_eq_true rfl) (Nat.le_of_ble_eq_true rfl) (Nat.le_of_ble_eq_true rfl) (Nat.le_of_ble_eq_true rfl) hlocks (fun t _ h1 h2 => xr_in hS h1 h2) hS.2.2 (Nat.le_of_ble_eq_true rfl) (Nat.le_of_ble_eq_true rfl)
  · skip
    have hPc := hP.sub (ws' := []) [] rfl
    have hKc := hK.sub (tys' := []) [] rfl
    refine va_calli (va_runS (As := [.int p0, .int 1, .int 7]) (rest := []) ⟨hx, hb, hml, hown, hts⟩ (k_within_f l D eT p0 1 7 s.heap.size hs0) (va_cwS 3 hts gX4_rules_X4_isWithin rfl rfl rfl (by decide +kernel) ⟨Nat.le_of_ble_eq_true rfl, Nat.le_of_ble_eq_true rfl⟩) (pr_s hPc hKc hE hS hA) rfl rfl hl.1 rfl (lv_room (Nat.le_of_ble_eq_true rfl)) dX4_rules_4 ⟨Nat.le_of_ble_eq_true rfl, Nat.le_of_ble_eq_true rfl⟩) hS (fun q h1 h2 => ro_A h1 h2) (fun q h => ro_F hS hA q h) (fun r u t H1 locs ht hvm hw hB hz1 hk1 hS => ?_)
    have hw : r = 0 := hw
    rw [hw]
    have hP := ro_P hP hk1
    generalize H1 = H at hP hS ⊢
    refine lv_if_eq (tgt := 38) hx hb dX4_rules_7 (by decide) (fun _ => ?_) (fun h => absurd (by decide) h)
    obtain ⟨sa_4, hsa_4⟩ := hE.str 4 rfl
    exact vx_throwS (A := fun q => s.heap.size ≤ q) hx hb hl0 hown fit_IAE fit_RE (hts (.classLink RX4 80 eIAE) (by decide +kernel)) (hts (.initialized eIAE) (by decide +kernel)) hsa_4 (hat_IAE (fun w h => hts w (List.mem_cons_of_mem _ (List.mem_append_right _ h))) hE.1 hE.2.2.1) good_IAE hE.2.2.2.1 hE.2.2.2.2.1 hS (hl.1.trans hml.symm) dX4_rules_38 dX4_rules_41 dX4_rules_42 dX4_rules_44 dX4_rules_47 (fun x hx9 => (hno x hx9).elim) (Nat.le_of_ble_eq_true rfl) (Nat.le_of_ble_eq_true rfl) (Nat.le_of_ble_eq_true rfl) (Nat.le_of_ble_eq_true rfl) hlocks (fun t _ h1 h2 => xr_in hS h1 h2) hS.2.2 (Nat.le_of_ble_eq_true rfl) (Nat.le_of_ble_eq_true rfl)
set_option maxHeartbeats 4000000 in
set_option maxRecDepth 100000 in
theorem k_pass (l : Launch) (D : va_G) (eT : Nat) (h0 : Nat) (aH : Nat) (aB : Nat) (aJ : Nat) (rN : Nat) (rX : Nat) (aV : Nat) (p0 : Int32) (sz : Nat) (h1 : 1 ≤ p0) (h2 : p0 ≤ 60) : Met l yX4_pass wsX4_pass ({ frames := 1, cells := 0, slots := 0, locals := 23 }) (va_Pc [.ref h0, .int p0] (pc D eT sz [(h0, .inr (7, [.ref aH, .ref aB, .ref aJ, .int 0, .int 0, .int 0, .ref rN, .ref rX, .int 0, .int 0, .int 0, .int 0, .int 0, .int 0, .int (-1), .int (-1), .int 0, .int 0, .ref aV]))] [])) (va_Qi (fun (r : Int32) (_ : Unit) => r = 0) (fun _ _ => True) (va_A [(h0, .inr (7, [.ref aH, .ref aB, .ref aJ, .int 0, .int 0, .int 0, .ref rN, .ref rX, .int 0, .int 0, .int 0, .int 0, .int 0, .int 0, .int (-1), .int (-1), .int 0, .int 0, .ref aV]))] sz)) 0 0 (va_A [(h0, .inr (7, [.ref aH, .ref aB, .ref aJ, .int 0, .int 0, .int 0, .ref rN, .ref rX, .int 0, .int 0, .int 0, .int 0, .int 0, .int 0, .int (-1), .int (-1), .int 0, .int 0, .ref aV]))] sz) := by
  refine Met.ofW (cc := cX4_pass) (maxL := 4) (ret := (some .int)) (by decide +kernel) rfl ?_
  intro p e s m args below meth c s₁ B hml hv
  obtain ⟨rfl, hsz, hP, hK, hD0, hE⟩ := hv
  have hx := B.exec
  have hb := B.bytes
  have hr := B.returns
  have hts := atoms_spec (ws := wsX4_pass) B.pre
  have hown : s.vm.findClass RX4 = some m.cls := findClass_of_methodNamed B.named
  have hlocks := B.notSynchronized
  subst hsz
  have hD := hD0.self (sz := s.heap.size)
  generalize hAe : va_A [(h0, .inr (7, [.ref aH, .ref aB, .ref aJ, .int 0, .int 0, .int 0, .ref rN, .ref rX, .int 0, .int 0, .int 0, .int 0, .int 0, .int 0, .int (-1), .int (-1), .int 0, .int 0, .ref aV]))] s.heap.size = A at hD hE ⊢
  have hA : ∀ q : Nat, s.heap.size ≤ q → A q := fun q h => by rw [← hAe]; exact Or.inr h
  have hS : va_S A s.heap s.heap [] := va_S.rf
  have hP : va_P D vwCl [(h0, .inr (7, [.ref aH, .ref aB, .ref aJ, .int 0, .int 0, .int 0, .ref rN, .ref rX, .int 0, .int 0, .int 0, .int 0, .int 0, .int 0, .int (-1), .int (-1), .int 0, .int 0, .ref aV]))] s.heap := hP
  have hl := lv_entry ([.ref h0, .int p0]) (n := 4) (Nat.le_of_ble_eq_true rfl)
  rw [lg_entry_eq]
  generalize (lg_sl ([.ref h0, .int p0]) ++ List.replicate (4 - (lg_sl ([.ref h0, .int p0])).length) Slot.unset).toArray = ls at hl ⊢
  have hl : lv_has ls 4 [(0, .ref h0), (1, .int p0)] := hl
  refine lv_iload_n hx hb dX4_pass_0 rfl (lv_at hl 1 rfl) ?_
  refine lv_iconst (v := 1) hx hb dX4_pass_1 (by decide) ?_
  refine lv_bipush (v := 60) hx hb dX4_pass_2 (by decide) ?_
  have hPc := hP.sub (ws' := []) [] rfl
  have hKc := hK.sub (tys' := []) [] rfl
  refine va_calli (va_runS (As := [.int p0, .int 1, .int 60]) (rest := []) ⟨hx, hb, hml, hown, hts⟩ (k_within_t l D eT p0 1 60 s.heap.size h1 h2) (va_cwS 3 hts gX4_pass_X4_isWithin rfl rfl rfl (by decide +kernel) ⟨Nat.le_of_ble_eq_true rfl, Nat.le_of_ble_eq_true rfl⟩) (pr_s hPc hKc hE hS hA) rfl rfl hl.1 rfl (lv_room (Nat.le_of_ble_eq_true rfl)) dX4_pass_4 ⟨Nat.le_of_ble_eq_true rfl, Nat.le_of_ble_eq_true rfl⟩) hS (fun q h1 h2 => ro_A h1 h2) (fun q h => ro_F hS hA q h) (fun r u t H1 locs ht hvm hw hB hz1 hk1 hS => ?_)
  have hw : r = 1 := hw
  rw [hw]
  have hP := ro_P hP hk1
  generalize H1 = H at hP hS ⊢
  refine lv_if_ne (tgt := 20) hx hb dX4_pass_7 (by decide) (fun _ => ?_) (fun h => absurd h (by decide))
  refine lv_aload_n hx hb dX4_pass_20 rfl (lv_at hl 0 rfl) ?_
  refine va_get (D := D) (ci := 7) (v := .int 0) (C := RX4) (T := TX4) (N := 19) hx hb hts (by decide +kernel) hown hK hP 0 rfl rfl 10 (by decide) (hts (.fieldLink RX4 197 "PrizeHouse" "day" "I") (by decide +kernel)) (fun _ h9 => h9) rfl dX4_pass_21 ?_
  refine lv_iload_n hx hb dX4_pass_24 rfl (lv_at hl 1 rfl) ?_
  refine lv_iadd hx hb dX4_pass_25 ?_
  refine lv_sipush (v := 9999) hx hb dX4_pass_26 (by decide) ?_
  refine lv_icmp_le (tgt := 42) hx hb dX4_pass_29 (by decide) (fun hc => ?_) (fun h => absurd (le_days h2) h)
  refine lv_iconst (v := 0) hx hb dX4_pass_42 (by decide) ?_
  refine lv_istore_n (lv' := [(2, .int 0), (0, .ref h0), (1, .int p0)]) hx hb dX4_pass_43 rfl hl (by decide) rfl (fun ls hl => ?_)
  refine lv_iconst (v := 0) hx hb dX4_pass_44 (by decide) ?_
  refine lv_istore_n (lv' := [(3, .int 0), (2, .int 0), (0, .ref h0), (1, .int p0)]) hx hb dX4_pass_45 rfl hl (by decide) rfl (fun ls hl => ?_)
  obtain ⟨N, hN, eN⟩ : ∃ N : Nat, N ≤ 60 ∧ p0 = nI N := nI_of2 (M := 60) rfl (fun h => absurd h (i_le (Int32.le_trans (by decide) h1))) h2
  have K : ∀ (n i : Nat) (x : Int32), i + n = N → x = nI i → ∀ (H : Heap) (locs : List Loc), va_P D vwCl [(h0, .inr (7, [.ref aH, .ref aB, .ref aJ, .int 0, .int 0, .int 0, .ref rN, .ref rX, .int 0, .int 0, .int 0, .int 0, .int 0, .int 0, .int (-1), .int (-1), .int 0, .int 0, .ref aV]))] H → va_S A s.heap H locs → ∀ (ls : Array Slot), lv_has ls 4 [(3, .int x), (2, .int 0), (0, .ref h0), (1, .int p0)] → W p l e (headSpec wsX4_pass ({ frames := 1, cells := 0, slots := 0, locals := 23 })).room s m [.ref h0, .int p0].toArray below meth c H locs 0 0 (MQ below (va_Qi (fun (r : Int32) (_ : Unit) => r = 0) (fun _ _ => True) A) [.ref h0, .int p0].toArray s 0 0 A) (F0 m 46 ls []) := by
    intro n
    induction n with
    | zero =>
      intro i x hin hx3 H locs hP hS ls hl
      have hD : va_D A [(h0, .inr (7, [.ref aH, .ref aB, .ref aJ, .int 0, .int 0, .int 0, .ref rN, .ref rX, .int 0, .int 0, .int 0, .int 0, .int 0, .int 0, .int (-1), .int (-1), .int 0, .int 0, .ref aV]))] := hD
      refine lv_iload_n hx hb dX4_pass_46 rfl (lv_at hl 0 rfl) ?_
      refine lv_iload_n hx hb dX4_pass_47 rfl (lv_at hl 3 rfl) ?_
      refine lv_icmp_ge (tgt := 64) hx hb dX4_pass_48 (by decide) (fun hc => ?_) (fun hc => ?_)
      · skip
        refine lv_aload_n hx hb dX4_pass_64 rfl (lv_at hl 2 rfl) ?_
        refine lv_iload_n hx hb dX4_pass_65 rfl (lv_at hl 3 rfl) ?_
        have hPc := hP.sub (ws' := [(h0, .inr (7, [.ref aH, .ref aB, .ref aJ, .int 0, .int 0, .int 0, .ref rN, .ref rX, .int 0, .int 0, .int 0, .int 0, .int 0, .int 0, .int (-1), .int (-1), .int 0, .int 0, .ref aV]))]) [0] rfl
        have hKc := hK.sub (tys' := []) [] rfl
        refine va_callv (va_runV (As := [.int p0]) (rest := []) ⟨hx, hb, hml, hown, hts⟩ (k_sellFor l D eT h0 aH aB aJ rN rX aV p0 H.size ) (cwV 1 hts gX4_pass_X4_sellFor rfl rfl rfl (by decide +kernel) ⟨Nat.le_of_ble_eq_true rfl, Nat.le_of_ble_eq_true rfl⟩) (pr_v (ci := 7) (q0 := 0) rfl rfl hPc hKc hE hS hA) rfl rfl hl.1 rfl (lv_room (Nat.le_of_ble_eq_true rfl)) dX4_pass_66 ⟨Nat.le_of_ble_eq_true rfl, Nat.le_of_ble_eq_true rfl⟩) hS (fun q h1 h2 => ro_A h1 h2) (fun q h => ro_F hS hA q h) (fun u t H1 locs ht hvm hw hB hz1 hk1 hS => ?_)
        have hP := ro_P hP hk1
        generalize H1 = H at hP hS ⊢
        refine lv_aload_n hx hb dX4_pass_69 rfl (lv_at hl 2 rfl) ?_
        refine lv_dup hx hb dX4_pass_70 rfl ?_
        refine va_get (D := D) (ci := 7) (v := .int 0) (C := RX4) (T := TX4) (N := 19) hx hb hts (by decide +kernel) hown hK hP 0 rfl rfl 10 (by decide) (hts (.fieldLink RX4 197 "PrizeHouse" "day" "I") (by decide +kernel)) (fun _ h9 => h9) rfl dX4_pass_71 ?_
        refine lv_iload_n hx hb dX4_pass_74 rfl (lv_at hl 3 rfl) ?_
        refine lv_iadd hx hb dX4_pass_75 ?_
        refine va_put (D := D) (ci := 7) (v := .int (0 + p0)) (C := RX4) (T := TX4) (N := 19) hx hb hts (by decide +kernel) tyX4 tyX4_ok nmX4 hown hK hP hD hS 0 rfl rfl 10 (by decide) (hts (.fieldLink RX4 197 "PrizeHouse" "day" "I") (by decide +kernel)) (fun _ h9 => h9) rfl (tyX4_ok 10 (by decide)) rfl rfl (Nat.le_of_ble_eq_true rfl) dX4_pass_76 (fun H locs hP hD hS => ?_)
        have hP : va_P D vwCl [(h0, .inr (7, [.ref aH, .ref aB, .ref aJ, .int 0, .int 0, .int 0, .ref rN, .ref rX, .int 0, .int 0, .int (0 + p0), .int 0, .int 0, .int 0, .int (-1), .int (-1), .int 0, .int 0, .ref aV]))] H := hP
        have hD : va_D A [(h0, .inr (7, [.ref aH, .ref aB, .ref aJ, .int 0, .int 0, .int 0, .ref rN, .ref rX, .int 0, .int 0, .int (0 + p0), .int 0, .int 0, .int 0, .int (-1), .int (-1), .int 0, .int 0, .ref aV]))] := hD
        refine lv_iload_n hx hb dX4_pass_79 rfl (lv_at hl 1 rfl) ?_
        exact W.iret (v := 0) hx hb hr (fun t ht hW => ⟨⟨0, (), rfl, rfl, trivial⟩, hS.F ht⟩) hS.2.2 dX4_pass_80
      · skip
        exact absurd (by rw [eN, hx3, show i = N from hin]; exact Int32.le_refl _) hc
    | succ n ih =>
      intro i x hin hx3 H locs hP hS ls hl
      have hD : va_D A [(h0, .inr (7, [.ref aH, .ref aB, .ref aJ, .int 0, .int 0, .int 0, .ref rN, .ref rX, .int 0, .int 0, .int 0, .int 0, .int 0, .int 0, .int (-1), .int (-1), .int 0, .int 0, .ref aV]))] := hD
      refine lv_iload_n hx hb dX4_pass_46 rfl (lv_at hl 0 rfl) ?_
      refine lv_iload_n hx hb dX4_pass_47 rfl (lv_at hl 3 rfl) ?_
      refine lv_icmp_ge (tgt := 64) hx hb dX4_pass_48 (by decide) (fun hc => ?_) (fun hc => ?_)
      · skip
        refine lv_aload_n hx hb dX4_pass_64 rfl (lv_at hl 2 rfl) ?_
        refine lv_iload_n hx hb dX4_pass_65 rfl (lv_at hl 3 rfl) ?_
        have hPc := hP.sub (ws' := [(h0, .inr (7, [.ref aH, .ref aB, .ref aJ, .int 0, .int 0, .int 0, .ref rN, .ref rX, .int 0, .int 0, .int 0, .int 0, .int 0, .int 0, .int (-1), .int (-1), .int 0, .int 0, .ref aV]))]) [0] rfl
        have hKc := hK.sub (tys' := []) [] rfl
        refine va_callv (va_runV (As := [.int p0]) (rest := []) ⟨hx, hb, hml, hown, hts⟩ (k_sellFor l D eT h0 aH aB aJ rN rX aV p0 H.size ) (cwV 1 hts gX4_pass_X4_sellFor rfl rfl rfl (by decide +kernel) ⟨Nat.le_of_ble_eq_true rfl, Nat.le_of_ble_eq_true rfl⟩) (pr_v (ci := 7) (q0 := 0) rfl rfl hPc hKc hE hS hA) rfl rfl hl.1 rfl (lv_room (Nat.le_of_ble_eq_true rfl)) dX4_pass_66 ⟨Nat.le_of_ble_eq_true rfl, Nat.le_of_ble_eq_true rfl⟩) hS (fun q h1 h2 => ro_A h1 h2) (fun q h => ro_F hS hA q h) (fun u t H1 locs ht hvm hw hB hz1 hk1 hS => ?_)
        have hP := ro_P hP hk1
        generalize H1 = H at hP hS ⊢
        refine lv_aload_n hx hb dX4_pass_69 rfl (lv_at hl 2 rfl) ?_
        refine lv_dup hx hb dX4_pass_70 rfl ?_
        refine va_get (D := D) (ci := 7) (v := .int 0) (C := RX4) (T := TX4) (N := 19) hx hb hts (by decide +kernel) hown hK hP 0 rfl rfl 10 (by decide) (hts (.fieldLink RX4 197 "PrizeHouse" "day" "I") (by decide +kernel)) (fun _ h9 => h9) rfl dX4_pass_71 ?_
        refine lv_iload_n hx hb dX4_pass_74 rfl (lv_at hl 3 rfl) ?_
        refine lv_iadd hx hb dX4_pass_75 ?_
        refine va_put (D := D) (ci := 7) (v := .int (0 + p0)) (C := RX4) (T := TX4) (N := 19) hx hb hts (by decide +kernel) tyX4 tyX4_ok nmX4 hown hK hP hD hS 0 rfl rfl 10 (by decide) (hts (.fieldLink RX4 197 "PrizeHouse" "day" "I") (by decide +kernel)) (fun _ h9 => h9) rfl (tyX4_ok 10 (by decide)) rfl rfl (Nat.le_of_ble_eq_true rfl) dX4_pass_76 (fun H locs hP hD hS => ?_)
        have hP : va_P D vwCl [(h0, .inr (7, [.ref aH, .ref aB, .ref aJ, .int 0, .int 0, .int 0, .ref rN, .ref rX, .int 0, .int 0, .int (0 + p0), .int 0, .int 0, .int 0, .int (-1), .int (-1), .int 0, .int 0, .ref aV]))] H := hP
        have hD : va_D A [(h0, .inr (7, [.ref aH, .ref aB, .ref aJ, .int 0, .int 0, .int 0, .ref rN, .ref rX, .int 0, .int 0, .int (0 + p0), .int 0, .int 0, .int 0, .int (-1), .int (-1), .int 0, .int 0, .ref aV]))] := hD
        refine lv_iload_n hx hb dX4_pass_79 rfl (lv_at hl 1 rfl) ?_
        exact W.iret (v := 0) hx hb hr (fun t ht hW => ⟨⟨0, (), rfl, rfl, trivial⟩, hS.F ht⟩) hS.2.2 dX4_pass_80
      · skip
        refine lv_iload_n hx hb dX4_pass_51 rfl (lv_at hl 1 rfl) ?_
        refine lv_aload_n hx hb dX4_pass_52 rfl (lv_at hl 2 rfl) ?_
        have hPc := hP.sub (ws' := [(h0, .inr (7, [.ref aH, .ref aB, .ref aJ, .int 0, .int 0, .int 0, .ref rN, .ref rX, .int 0, .int 0, .int 0, .int 0, .int 0, .int 0, .int (-1), .int (-1), .int 0, .int 0, .ref aV]))]) [0] rfl
        have hKc := hK.sub (tys' := []) [] rfl
        refine va_calli (va_runV (As := []) (rest := [.int 0]) ⟨hx, hb, hml, hown, hts⟩ (k_readForDay l D eT h0 aH aB aJ rN rX aV H.size ) (cwV 0 hts gX4_pass_X4_readForDay rfl rfl rfl (by decide +kernel) ⟨Nat.le_of_ble_eq_true rfl, Nat.le_of_ble_eq_true rfl⟩) (pr_v (ci := 7) (q0 := 0) rfl rfl hPc hKc hE hS hA) rfl rfl hl.1 rfl (lv_room (Nat.le_of_ble_eq_true rfl)) dX4_pass_53 ⟨Nat.le_of_ble_eq_true rfl, Nat.le_of_ble_eq_true rfl⟩) hS (fun q h1 h2 => ro_A h1 h2) (fun q h => ro_F hS hA q h) (fun r u t H1 locs ht hvm hw hB hz1 hk1 hS => ?_)
        have hw : r = 0 := hw
        rw [hw]
        have hP := ro_P hP hk1
        generalize H1 = H at hP hS ⊢
        refine lv_iadd hx hb dX4_pass_56 ?_
        refine lv_topi (fun z_1 ez_1 => ?_)
        have ez_1 : z_1 = 0 := ez_1.trans (by decide +kernel)
        rw [ez_1]
        refine lv_istore_n (lv' := [(2, .int 0), (3, .int x), (0, .ref h0), (1, .int p0)]) hx hb dX4_pass_57 rfl hl (by decide) rfl (fun ls hl => ?_)
        refine lv_iinc (v := nI (i + 1)) (lv' := [(3, .int (nI (i + 1))), (2, .int 0), (0, .ref h0), (1, .int p0)]) hx hb dX4_pass_58 hl (k := 1) rfl (by rw [hx3]; exact nI_1 i) (by decide) rfl (fun ls hl => ?_)
        refine lv_goto (tgt := 46) hx hb dX4_pass_61 (by decide) ?_
        exact ih (i + 1) _ (by omega) rfl _ _ hP hS ls hl
  exact K N 0 0 (Nat.zero_add N) nI_0.symm _ _ hP hS ls hl
