set_option maxHeartbeats 4000000 in
set_option maxRecDepth 100000 in
theorem w_book (l : Launch) (hl0 : l.stackTraces = false) (D : va_G) (eT : Nat) (h0 : Nat) (aH : Nat) (aB : Nat) (aJ : Nat) (rN : Nat) (rX : Nat) (aV : Nat) (ho : Nat) (cO : ClassId) (fo : Nat → Int64) (p0 : Int32) (p1 : Int32) (p2 : Int32) (p3 : Int32) (p4 : Int32) (p5 : Int32) (sz : Nat) : Met l yL_book wsL_book ({ frames := 7, cells := 1, slots := 6, locals := 108 }) (va_Pc [.ref h0, .int p0, .int p1, .int p2, .int p3, .int p4, .int p5, .ref ho] (pc D eT sz [(h0, .inr (7, [.ref aH, .ref aB, .ref aJ, .int 0, .int 0, .int 0, .ref rN, .ref rX, .int 0, .int 0, .int 0, .int 0, .int 0, .int 0, .int (-1), .int (-1), .int 0, .int 0, .ref aV])), (ho, .inl (cO, 1, .inr (.inl fo)))] [(cO, .long)])) (va_Qi (fun (r : Int32) (_ : Unit) => r = 1) (fun _ t => va_P D vwCl [(ho, .inl (cO, 1, .inr (.inl fo)))] t.heap ∧ va_K D vwCl [] t ∧ va_D (va_A [(h0, .inr (7, [.ref aH, .ref aB, .ref aJ, .int 0, .int 0, .int 0, .ref rN, .ref rX, .int 0, .int 0, .int 0, .int 0, .int 0, .int 0, .int (-1), .int (-1), .int 0, .int 0, .ref aV])), (ho, .inl (cO, 1, .inr (.inl fo)))] sz) [(ho, .inl (cO, 1, .inr (.inl fo)))]) (va_A [(h0, .inr (7, [.ref aH, .ref aB, .ref aJ, .int 0, .int 0, .int 0, .ref rN, .ref rX, .int 0, .int 0, .int 0, .int 0, .int 0, .int 0, .int (-1), .int (-1), .int 0, .int 0, .ref aV])), (ho, .inl (cO, 1, .inr (.inl fo)))] sz)) 1 6 (va_A [(h0, .inr (7, [.ref aH, .ref aB, .ref aJ, .int 0, .int 0, .int 0, .ref rN, .ref rX, .int 0, .int 0, .int 0, .int 0, .int 0, .int 0, .int (-1), .int (-1), .int 0, .int 0, .ref aV])), (ho, .inl (cO, 1, .inr (.inl fo)))] sz) := by
  refine va_MetW (cc := cL_book) (maxL := 9) (ret := (some .int)) (by decide +kernel) rfl ?_
  intro p e s m args below meth c s₁ B hml hv
  obtain ⟨rfl, hsz, hP, hK, hD0, hE⟩ := hv
  have hx := B.exec
  have hb := B.bytes
  have hr := B.returns
  have hts := atoms_spec (ws := wsL_book) B.pre
  have hown : s.vm.findClass RL = some m.cls := findClass_of_methodNamed B.named
  have hlocks := B.notSynchronized
  have htab := vx_table (x := yL_book) B (hts _ List.mem_cons_self)
  subst hsz
  have hD := hD0.self (sz := s.heap.size)
  generalize hAe : va_A [(h0, .inr (7, [.ref aH, .ref aB, .ref aJ, .int 0, .int 0, .int 0, .ref rN, .ref rX, .int 0, .int 0, .int 0, .int 0, .int 0, .int 0, .int (-1), .int (-1), .int 0, .int 0, .ref aV])), (ho, .inl (cO, 1, .inr (.inl fo)))] s.heap.size = A at hD hE ⊢
  have hA : ∀ q : Nat, s.heap.size ≤ q → A q := fun q h => by rw [← hAe]; exact Or.inr h
  have hS : va_S A s.heap s.heap [] := va_S.rf
  have hP : va_P D vwCl [(h0, .inr (7, [.ref aH, .ref aB, .ref aJ, .int 0, .int 0, .int 0, .ref rN, .ref rX, .int 0, .int 0, .int 0, .int 0, .int 0, .int 0, .int (-1), .int (-1), .int 0, .int 0, .ref aV])), (ho, .inl (cO, 1, .inr (.inl fo)))] s.heap := hP
  have hl := lv_entry ([.ref h0, .int p0, .int p1, .int p2, .int p3, .int p4, .int p5, .ref ho]) (n := 9) (Nat.le_of_ble_eq_true rfl)
  rw [lg_entry_eq]
  generalize (lg_sl ([.ref h0, .int p0, .int p1, .int p2, .int p3, .int p4, .int p5, .ref ho]) ++ List.replicate (9 - (lg_sl ([.ref h0, .int p0, .int p1, .int p2, .int p3, .int p4, .int p5, .ref ho])).length) Slot.unset).toArray = ls at hl ⊢
  have hl : lv_has ls 9 [(0, .ref h0), (1, .int p0), (2, .int p1), (3, .int p2), (4, .int p3), (5, .int p4), (6, .int p5), (7, .ref ho)] := hl
  refine lv_aload hx hb dL_book_0 (lv_at hl 7 rfl) ?_
  refine lv_iconst (v := 0) hx hb dL_book_2 (by decide) ?_
  refine lv_aload_n hx hb dL_book_3 rfl (lv_at hl 0 rfl) ?_
  refine lv_iload_n hx hb dL_book_4 rfl (lv_at hl 1 rfl) ?_
  refine lv_iload_n hx hb dL_book_5 rfl (lv_at hl 2 rfl) ?_
  refine lv_iload_n hx hb dL_book_6 rfl (lv_at hl 3 rfl) ?_
  refine lv_iload hx hb dL_book_7 (lv_at hl 4 rfl) ?_
  refine lv_iload hx hb dL_book_9 (lv_at hl 5 rfl) ?_
  refine lv_iload hx hb dL_book_11 (lv_at hl 6 rfl) ?_
  have hPc := hP.sub (ws' := [(h0, .inr (7, [.ref aH, .ref aB, .ref aJ, .int 0, .int 0, .int 0, .ref rN, .ref rX, .int 0, .int 0, .int 0, .int 0, .int 0, .int 0, .int (-1), .int (-1), .int 0, .int 0, .ref aV]))]) [0] rfl
  have hKc := hK.sub (tys' := []) [] rfl
  refine vx_calli (vx_runV (As := [.int p0, .int p1, .int p2, .int p3, .int p4, .int p5]) (rest := [.int 0, .ref ho]) ⟨hx, hb, hml, hown, hts⟩ (t_book l hl0 D eT h0 aH aB aJ rN rX aV p0 p1 p2 p3 p4 p5 s.heap.size ) (cwV 6 hts gL_book_X4_book rfl rfl rfl (by decide +kernel) ⟨Nat.le_of_ble_eq_true rfl, Nat.le_of_ble_eq_true rfl⟩) (pr_v (ci := 7) (q0 := 0) rfl rfl hPc hKc hE hS hA) rfl rfl hl.1 rfl (lv_room (Nat.le_of_ble_eq_true rfl)) dL_book_13 ⟨Nat.le_of_ble_eq_true rfl, Nat.le_of_ble_eq_true rfl⟩) hS (fun q h1 h2 => ro_A h1 h2) (fun q h => ro_F hS hA q h) (fun q h1 h2 => ro_A h1 h2) (fun E ce q9 u t H1 locs ht hvm _ hw hz1 hk1 hS h9 hv9 hc9 => ?_) (fun r u t H1 locs ht hvm hw hB hz1 hk1 hS => hw.elim)
  subst hw
  have hP := ro_P hP hk1
  generalize H1 = H at hP hS h9 ⊢
  refine vx_widen (k := 1) (n := 6) (Nat.le_of_ble_eq_true rfl) (Nat.le_of_ble_eq_true rfl) ?_
  refine vx_catch (E := eIOB) (name := eIOB) hown [] ⟨0, 18, 21, 19⟩ [⟨0, 18, 25, 21⟩, ⟨0, 18, 29, 13⟩] (htab.trans rfl) (fun z h => absurd h List.not_mem_nil) (by decide) (by decide) (hts (.classLink RL 19 eIOB) (by decide +kernel)) (va_Nw.use rfl hE.1.2.2.2.2.2.1) h9 hv9 hc9 ?_
  refine W.eq (g2 := F0 m 21 ls [.ref q9]) rfl ?_
  refine lv_astore (lv' := [(8, .ref q9), (0, .ref h0), (1, .int p0), (2, .int p1), (3, .int p2), (4, .int p3), (5, .int p4), (6, .int p5), (7, .ref ho)]) hx hb dL_book_21 hl (by decide) rfl (fun ls hl => ?_)
  refine lv_iconst (v := 1) hx hb dL_book_23 (by decide) ?_
  have hP9 := hP.sub (ws' := [(ho, .inl (cO, 1, .inr (.inl fo)))]) [1] rfl
  have hD9 := hD.sub (ws' := [(ho, .inl (cO, 1, .inr (.inl fo)))]) [1] (by decide) rfl
  have hK9 := hK.sub (tys' := []) [] rfl
  exact W.iret (v := 1) hx hb hr (fun t ht hW => ⟨⟨1, (), rfl, rfl, ⟨by rw [ht]; exact hP9, va_K.moved hW.alike hK9, hD9⟩⟩, hS.F ht⟩) hS.2.2 dL_book_24
set_option maxHeartbeats 4000000 in
set_option maxRecDepth 100000 in
theorem w_conflict (l : Launch) (hl0 : l.stackTraces = false) (D : va_G) (eT : Nat) (h0 : Nat) (aH : Nat) (aB : Nat) (aJ : Nat) (rN : Nat) (rX : Nat) (aV : Nat) (ho : Nat) (cO : ClassId) (fo : Nat → Int64) (p0 : Int32) (p1 : Int32) (sz : Nat) : Met l yL_conflict wsL_conflict ({ frames := 7, cells := 1, slots := 6, locals := 104 }) (va_Pc [.ref h0, .int p0, .int p1, .ref ho] (pc D eT sz [(h0, .inr (7, [.ref aH, .ref aB, .ref aJ, .int 0, .int 0, .int 0, .ref rN, .ref rX, .int 0, .int 0, .int 0, .int 0, .int 0, .int 0, .int (-1), .int (-1), .int 0, .int 0, .ref aV])), (ho, .inl (cO, 1, .inr (.inl fo)))] [(cO, .long)])) (va_Qi (fun (r : Int32) (_ : Unit) => r = 1) (fun _ t => va_P D vwCl [(ho, .inl (cO, 1, .inr (.inl fo)))] t.heap ∧ va_K D vwCl [] t ∧ va_D (va_A [(h0, .inr (7, [.ref aH, .ref aB, .ref aJ, .int 0, .int 0, .int 0, .ref rN, .ref rX, .int 0, .int 0, .int 0, .int 0, .int 0, .int 0, .int (-1), .int (-1), .int 0, .int 0, .ref aV])), (ho, .inl (cO, 1, .inr (.inl fo)))] sz) [(ho, .inl (cO, 1, .inr (.inl fo)))]) (va_A [(h0, .inr (7, [.ref aH, .ref aB, .ref aJ, .int 0, .int 0, .int 0, .ref rN, .ref rX, .int 0, .int 0, .int 0, .int 0, .int 0, .int 0, .int (-1), .int (-1), .int 0, .int 0, .ref aV])), (ho, .inl (cO, 1, .inr (.inl fo)))] sz)) 1 6 (va_A [(h0, .inr (7, [.ref aH, .ref aB, .ref aJ, .int 0, .int 0, .int 0, .ref rN, .ref rX, .int 0, .int 0, .int 0, .int 0, .int 0, .int 0, .int (-1), .int (-1), .int 0, .int 0, .ref aV])), (ho, .inl (cO, 1, .inr (.inl fo)))] sz) := by
  refine va_MetW (cc := cL_conflict) (maxL := 5) (ret := (some .int)) (by decide +kernel) rfl ?_
  intro p e s m args below meth c s₁ B hml hv
  obtain ⟨rfl, hsz, hP, hK, hD0, hE⟩ := hv
  have hx := B.exec
  have hb := B.bytes
  have hr := B.returns
  have hts := atoms_spec (ws := wsL_conflict) B.pre
  have hown : s.vm.findClass RL = some m.cls := findClass_of_methodNamed B.named
  have hlocks := B.notSynchronized
  have htab := vx_table (x := yL_conflict) B (hts _ List.mem_cons_self)
  subst hsz
  have hD := hD0.self (sz := s.heap.size)
  generalize hAe : va_A [(h0, .inr (7, [.ref aH, .ref aB, .ref aJ, .int 0, .int 0, .int 0, .ref rN, .ref rX, .int 0, .int 0, .int 0, .int 0, .int 0, .int 0, .int (-1), .int (-1), .int 0, .int 0, .ref aV])), (ho, .inl (cO, 1, .inr (.inl fo)))] s.heap.size = A at hD hE ⊢
  have hA : ∀ q : Nat, s.heap.size ≤ q → A q := fun q h => by rw [← hAe]; exact Or.inr h
  have hS : va_S A s.heap s.heap [] := va_S.rf
  have hP : va_P D vwCl [(h0, .inr (7, [.ref aH, .ref aB, .ref aJ, .int 0, .int 0, .int 0, .ref rN, .ref rX, .int 0, .int 0, .int 0, .int 0, .int 0, .int 0, .int (-1), .int (-1), .int 0, .int 0, .ref aV])), (ho, .inl (cO, 1, .inr (.inl fo)))] s.heap := hP
  have hl := lv_entry ([.ref h0, .int p0, .int p1, .ref ho]) (n := 5) (Nat.le_of_ble_eq_true rfl)
  rw [lg_entry_eq]
  generalize (lg_sl ([.ref h0, .int p0, .int p1, .ref ho]) ++ List.replicate (5 - (lg_sl ([.ref h0, .int p0, .int p1, .ref ho])).length) Slot.unset).toArray = ls at hl ⊢
  have hl : lv_has ls 5 [(0, .ref h0), (1, .int p0), (2, .int p1), (3, .ref ho)] := hl
  refine lv_aload_n hx hb dL_conflict_0 rfl (lv_at hl 3 rfl) ?_
  refine lv_iconst (v := 0) hx hb dL_conflict_1 (by decide) ?_
  refine lv_aload_n hx hb dL_conflict_2 rfl (lv_at hl 0 rfl) ?_
  refine lv_iload_n hx hb dL_conflict_3 rfl (lv_at hl 1 rfl) ?_
  refine lv_iload_n hx hb dL_conflict_4 rfl (lv_at hl 2 rfl) ?_
  have hPc := hP.sub (ws' := [(h0, .inr (7, [.ref aH, .ref aB, .ref aJ, .int 0, .int 0, .int 0, .ref rN, .ref rX, .int 0, .int 0, .int 0, .int 0, .int 0, .int 0, .int (-1), .int (-1), .int 0, .int 0, .ref aV]))]) [0] rfl
  have hKc := hK.sub (tys' := []) [] rfl
  refine vx_calli (vx_runV (As := [.int p0, .int p1]) (rest := [.int 0, .ref ho]) ⟨hx, hb, hml, hown, hts⟩ (t_conflict l hl0 D eT h0 aH aB aJ rN rX aV p0 p1 s.heap.size ) (cwV 2 hts gL_conflict_X4_conflict rfl rfl rfl (by decide +kernel) ⟨Nat.le_of_ble_eq_true rfl, Nat.le_of_ble_eq_true rfl⟩) (pr_v (ci := 7) (q0 := 0) rfl rfl hPc hKc hE hS hA) rfl rfl hl.1 rfl (lv_room (Nat.le_of_ble_eq_true rfl)) dL_conflict_5 ⟨Nat.le_of_ble_eq_true rfl, Nat.le_of_ble_eq_true rfl⟩) hS (fun q h1 h2 => ro_A h1 h2) (fun q h => ro_F hS hA q h) (fun q h1 h2 => ro_A h1 h2) (fun E ce q9 u t H1 locs ht hvm _ hw hz1 hk1 hS h9 hv9 hc9 => ?_) (fun r u t H1 locs ht hvm hw hB hz1 hk1 hS => hw.elim)
  subst hw
  have hP := ro_P hP hk1
  generalize H1 = H at hP hS h9 ⊢
  refine vx_widen (k := 1) (n := 6) (Nat.le_of_ble_eq_true rfl) (Nat.le_of_ble_eq_true rfl) ?_
  refine vx_catch (E := eIOB) (name := eIOB) hown [] ⟨0, 10, 13, 19⟩ [⟨0, 10, 17, 21⟩] (htab.trans rfl) (fun z h => absurd h List.not_mem_nil) (by decide) (by decide) (hts (.classLink RL 19 eIOB) (by decide +kernel)) (va_Nw.use rfl hE.1.2.2.2.2.2.1) h9 hv9 hc9 ?_
  refine W.eq (g2 := F0 m 13 ls [.ref q9]) rfl ?_
  refine lv_astore (lv' := [(4, .ref q9), (0, .ref h0), (1, .int p0), (2, .int p1), (3, .ref ho)]) hx hb dL_conflict_13 hl (by decide) rfl (fun ls hl => ?_)
  refine lv_iconst (v := 1) hx hb dL_conflict_15 (by decide) ?_
  have hP9 := hP.sub (ws' := [(ho, .inl (cO, 1, .inr (.inl fo)))]) [1] rfl
  have hD9 := hD.sub (ws' := [(ho, .inl (cO, 1, .inr (.inl fo)))]) [1] (by decide) rfl
  have hK9 := hK.sub (tys' := []) [] rfl
  exact W.iret (v := 1) hx hb hr (fun t ht hW => ⟨⟨1, (), rfl, rfl, ⟨by rw [ht]; exact hP9, va_K.moved hW.alike hK9, hD9⟩⟩, hS.F ht⟩) hS.2.2 dL_conflict_16
set_option maxHeartbeats 4000000 in
set_option maxRecDepth 100000 in
theorem w_enter (l : Launch) (hl0 : l.stackTraces = false) (D : va_G) (eT : Nat) (h0 : Nat) (aH : Nat) (aB : Nat) (aJ : Nat) (rN : Nat) (rX : Nat) (aV : Nat) (ho : Nat) (cO : ClassId) (fo : Nat → Int64) (p0 : Int32) (sz : Nat) : Met l yL_enter wsL_enter ({ frames := 7, cells := 1, slots := 6, locals := 104 }) (va_Pc [.ref h0, .int p0, .ref ho] (pc D eT sz [(h0, .inr (7, [.ref aH, .ref aB, .ref aJ, .int 0, .int 0, .int 0, .ref rN, .ref rX, .int 0, .int 0, .int 0, .int 0, .int 0, .int 0, .int (-1), .int (-1), .int 0, .int 0, .ref aV])), (ho, .inl (cO, 1, .inr (.inl fo)))] [(cO, .long)])) (va_Qi (fun (r : Int32) (_ : Unit) => r = 1) (fun _ t => va_P D vwCl [(ho, .inl (cO, 1, .inr (.inl fo)))] t.heap ∧ va_K D vwCl [] t ∧ va_D (va_A [(h0, .inr (7, [.ref aH, .ref aB, .ref aJ, .int 0, .int 0, .int 0, .ref rN, .ref rX, .int 0, .int 0, .int 0, .int 0, .int 0, .int 0, .int (-1), .int (-1), .int 0, .int 0, .ref aV])), (ho, .inl (cO, 1, .inr (.inl fo)))] sz) [(ho, .inl (cO, 1, .inr (.inl fo)))]) (va_A [(h0, .inr (7, [.ref aH, .ref aB, .ref aJ, .int 0, .int 0, .int 0, .ref rN, .ref rX, .int 0, .int 0, .int 0, .int 0, .int 0, .int 0, .int (-1), .int (-1), .int 0, .int 0, .ref aV])), (ho, .inl (cO, 1, .inr (.inl fo)))] sz)) 1 6 (va_A [(h0, .inr (7, [.ref aH, .ref aB, .ref aJ, .int 0, .int 0, .int 0, .ref rN, .ref rX, .int 0, .int 0, .int 0, .int 0, .int 0, .int 0, .int (-1), .int (-1), .int 0, .int 0, .ref aV])), (ho, .inl (cO, 1, .inr (.inl fo)))] sz) := by
  refine va_MetW (cc := cL_enter) (maxL := 4) (ret := (some .int)) (by decide +kernel) rfl ?_
  intro p e s m args below meth c s₁ B hml hv
  obtain ⟨rfl, hsz, hP, hK, hD0, hE⟩ := hv
  have hx := B.exec
  have hb := B.bytes
  have hr := B.returns
  have hts := atoms_spec (ws := wsL_enter) B.pre
  have hown : s.vm.findClass RL = some m.cls := findClass_of_methodNamed B.named
  have hlocks := B.notSynchronized
  have htab := vx_table (x := yL_enter) B (hts _ List.mem_cons_self)
  subst hsz
  have hD := hD0.self (sz := s.heap.size)
  generalize hAe : va_A [(h0, .inr (7, [.ref aH, .ref aB, .ref aJ, .int 0, .int 0, .int 0, .ref rN, .ref rX, .int 0, .int 0, .int 0, .int 0, .int 0, .int 0, .int (-1), .int (-1), .int 0, .int 0, .ref aV])), (ho, .inl (cO, 1, .inr (.inl fo)))] s.heap.size = A at hD hE ⊢
  have hA : ∀ q : Nat, s.heap.size ≤ q → A q := fun q h => by rw [← hAe]; exact Or.inr h
  have hS : va_S A s.heap s.heap [] := va_S.rf
  have hP : va_P D vwCl [(h0, .inr (7, [.ref aH, .ref aB, .ref aJ, .int 0, .int 0, .int 0, .ref rN, .ref rX, .int 0, .int 0, .int 0, .int 0, .int 0, .int 0, .int (-1), .int (-1), .int 0, .int 0, .ref aV])), (ho, .inl (cO, 1, .inr (.inl fo)))] s.heap := hP
  have hl := lv_entry ([.ref h0, .int p0, .ref ho]) (n := 4) (Nat.le_of_ble_eq_true rfl)
  rw [lg_entry_eq]
  generalize (lg_sl ([.ref h0, .int p0, .ref ho]) ++ List.replicate (4 - (lg_sl ([.ref h0, .int p0, .ref ho])).length) Slot.unset).toArray = ls at hl ⊢
  have hl : lv_has ls 4 [(0, .ref h0), (1, .int p0), (2, .ref ho)] := hl
  refine lv_aload_n hx hb dL_enter_0 rfl (lv_at hl 2 rfl) ?_
  refine lv_iconst (v := 0) hx hb dL_enter_1 (by decide) ?_
  refine lv_aload_n hx hb dL_enter_2 rfl (lv_at hl 0 rfl) ?_
  refine lv_iload_n hx hb dL_enter_3 rfl (lv_at hl 1 rfl) ?_
  have hPc := hP.sub (ws' := [(h0, .inr (7, [.ref aH, .ref aB, .ref aJ, .int 0, .int 0, .int 0, .ref rN, .ref rX, .int 0, .int 0, .int 0, .int 0, .int 0, .int 0, .int (-1), .int (-1), .int 0, .int 0, .ref aV]))]) [0] rfl
  have hKc := hK.sub (tys' := []) [] rfl
  refine vx_calli (vx_runV (As := [.int p0]) (rest := [.int 0, .ref ho]) ⟨hx, hb, hml, hown, hts⟩ (t_enter l hl0 D eT h0 aH aB aJ rN rX aV p0 s.heap.size ) (cwV 1 hts gL_enter_X4_enter rfl rfl rfl (by decide +kernel) ⟨Nat.le_of_ble_eq_true rfl, Nat.le_of_ble_eq_true rfl⟩) (pr_v (ci := 7) (q0 := 0) rfl rfl hPc hKc hE hS hA) rfl rfl hl.1 rfl (lv_room (Nat.le_of_ble_eq_true rfl)) dL_enter_4 ⟨Nat.le_of_ble_eq_true rfl, Nat.le_of_ble_eq_true rfl⟩) hS (fun q h1 h2 => ro_A h1 h2) (fun q h => ro_F hS hA q h) (fun q h1 h2 => ro_A h1 h2) (fun E ce q9 u t H1 locs ht hvm _ hw hz1 hk1 hS h9 hv9 hc9 => ?_) (fun r u t H1 locs ht hvm hw hB hz1 hk1 hS => hw.elim)
  subst hw
  have hP := ro_P hP hk1
  generalize H1 = H at hP hS h9 ⊢
  refine vx_widen (k := 1) (n := 6) (Nat.le_of_ble_eq_true rfl) (Nat.le_of_ble_eq_true rfl) ?_
  refine vx_catch (E := eIOB) (name := eIOB) hown [] ⟨0, 9, 12, 19⟩ [⟨0, 9, 15, 13⟩] (htab.trans rfl) (fun z h => absurd h List.not_mem_nil) (by decide) (by decide) (hts (.classLink RL 19 eIOB) (by decide +kernel)) (va_Nw.use rfl hE.1.2.2.2.2.2.1) h9 hv9 hc9 ?_
  refine W.eq (g2 := F0 m 12 ls [.ref q9]) rfl ?_
  refine lv_astore_n (lv' := [(3, .ref q9), (0, .ref h0), (1, .int p0), (2, .ref ho)]) hx hb dL_enter_12 rfl hl (by decide) rfl (fun ls hl => ?_)
  refine lv_iconst (v := 1) hx hb dL_enter_13 (by decide) ?_
  have hP9 := hP.sub (ws' := [(ho, .inl (cO, 1, .inr (.inl fo)))]) [1] rfl
  have hD9 := hD.sub (ws' := [(ho, .inl (cO, 1, .inr (.inl fo)))]) [1] (by decide) rfl
  have hK9 := hK.sub (tys' := []) [] rfl
  exact W.iret (v := 1) hx hb hr (fun t ht hW => ⟨⟨1, (), rfl, rfl, ⟨by rw [ht]; exact hP9, va_K.moved hW.alike hK9, hD9⟩⟩, hS.F ht⟩) hS.2.2 dL_enter_14
set_option maxHeartbeats 4000000 in
set_option maxRecDepth 100000 in
theorem w_callIn (l : Launch) (hl0 : l.stackTraces = false) (D : va_G) (eT : Nat) (h0 : Nat) (aH : Nat) (aB : Nat) (aJ : Nat) (rN : Nat) (rX : Nat) (aV : Nat) (ho : Nat) (cO : ClassId) (fo : Nat → Int64) (p0 : Int32) (p1 : Int32) (sz : Nat) : Met l yL_callIn wsL_callIn ({ frames := 7, cells := 1, slots := 6, locals := 104 }) (va_Pc [.ref h0, .int p0, .int p1, .ref ho] (pc D eT sz [(h0, .inr (7, [.ref aH, .ref aB, .ref aJ, .int 0, .int 0, .int 0, .ref rN, .ref rX, .int 0, .int 0, .int 0, .int 0, .int 0, .int 0, .int (-1), .int (-1), .int 0, .int 0, .ref aV])), (ho, .inl (cO, 1, .inr (.inl fo)))] [(cO, .long)])) (va_Qi (fun (r : Int32) (_ : Unit) => r = 1) (fun _ t => va_P D vwCl [(ho, .inl (cO, 1, .inr (.inl fo)))] t.heap ∧ va_K D vwCl [] t ∧ va_D (va_A [(h0, .inr (7, [.ref aH, .ref aB, .ref aJ, .int 0, .int 0, .int 0, .ref rN, .ref rX, .int 0, .int 0, .int 0, .int 0, .int 0, .int 0, .int (-1), .int (-1), .int 0, .int 0, .ref aV])), (ho, .inl (cO, 1, .inr (.inl fo)))] sz) [(ho, .inl (cO, 1, .inr (.inl fo)))]) (va_A [(h0, .inr (7, [.ref aH, .ref aB, .ref aJ, .int 0, .int 0, .int 0, .ref rN, .ref rX, .int 0, .int 0, .int 0, .int 0, .int 0, .int 0, .int (-1), .int (-1), .int 0, .int 0, .ref aV])), (ho, .inl (cO, 1, .inr (.inl fo)))] sz)) 1 6 (va_A [(h0, .inr (7, [.ref aH, .ref aB, .ref aJ, .int 0, .int 0, .int 0, .ref rN, .ref rX, .int 0, .int 0, .int 0, .int 0, .int 0, .int 0, .int (-1), .int (-1), .int 0, .int 0, .ref aV])), (ho, .inl (cO, 1, .inr (.inl fo)))] sz) := by
  refine va_MetW (cc := cL_callIn) (maxL := 5) (ret := (some .int)) (by decide +kernel) rfl ?_
  intro p e s m args below meth c s₁ B hml hv
  obtain ⟨rfl, hsz, hP, hK, hD0, hE⟩ := hv
  have hx := B.exec
  have hb := B.bytes
  have hr := B.returns
  have hts := atoms_spec (ws := wsL_callIn) B.pre
  have hown : s.vm.findClass RL = some m.cls := findClass_of_methodNamed B.named
  have hlocks := B.notSynchronized
  have htab := vx_table (x := yL_callIn) B (hts _ List.mem_cons_self)
  subst hsz
  have hD := hD0.self (sz := s.heap.size)
  generalize hAe : va_A [(h0, .inr (7, [.ref aH, .ref aB, .ref aJ, .int 0, .int 0, .int 0, .ref rN, .ref rX, .int 0, .int 0, .int 0, .int 0, .int 0, .int 0, .int (-1), .int (-1), .int 0, .int 0, .ref aV])), (ho, .inl (cO, 1, .inr (.inl fo)))] s.heap.size = A at hD hE ⊢
  have hA : ∀ q : Nat, s.heap.size ≤ q → A q := fun q h => by rw [← hAe]; exact Or.inr h
  have hS : va_S A s.heap s.heap [] := va_S.rf
  have hP : va_P D vwCl [(h0, .inr (7, [.ref aH, .ref aB, .ref aJ, .int 0, .int 0, .int 0, .ref rN, .ref rX, .int 0, .int 0, .int 0, .int 0, .int 0, .int 0, .int (-1), .int (-1), .int 0, .int 0, .ref aV])), (ho, .inl (cO, 1, .inr (.inl fo)))] s.heap := hP
  have hl := lv_entry ([.ref h0, .int p0, .int p1, .ref ho]) (n := 5) (Nat.le_of_ble_eq_true rfl)
  rw [lg_entry_eq]
  generalize (lg_sl ([.ref h0, .int p0, .int p1, .ref ho]) ++ List.replicate (5 - (lg_sl ([.ref h0, .int p0, .int p1, .ref ho])).length) Slot.unset).toArray = ls at hl ⊢
  have hl : lv_has ls 5 [(0, .ref h0), (1, .int p0), (2, .int p1), (3, .ref ho)] := hl
  refine lv_aload_n hx hb dL_callIn_0 rfl (lv_at hl 3 rfl) ?_
  refine lv_iconst (v := 0) hx hb dL_callIn_1 (by decide) ?_
  refine lv_aload_n hx hb dL_callIn_2 rfl (lv_at hl 0 rfl) ?_
  refine lv_iload_n hx hb dL_callIn_3 rfl (lv_at hl 1 rfl) ?_
  refine lv_iload_n hx hb dL_callIn_4 rfl (lv_at hl 2 rfl) ?_
  have hPc := hP.sub (ws' := [(h0, .inr (7, [.ref aH, .ref aB, .ref aJ, .int 0, .int 0, .int 0, .ref rN, .ref rX, .int 0, .int 0, .int 0, .int 0, .int 0, .int 0, .int (-1), .int (-1), .int 0, .int 0, .ref aV]))]) [0] rfl
  have hKc := hK.sub (tys' := []) [] rfl
  refine vx_calli (vx_runV (As := [.int p0, .int p1]) (rest := [.int 0, .ref ho]) ⟨hx, hb, hml, hown, hts⟩ (t_callIn l hl0 D eT h0 aH aB aJ rN rX aV p0 p1 s.heap.size ) (cwV 2 hts gL_callIn_X4_callIn rfl rfl rfl (by decide +kernel) ⟨Nat.le_of_ble_eq_true rfl, Nat.le_of_ble_eq_true rfl⟩) (pr_v (ci := 7) (q0 := 0) rfl rfl hPc hKc hE hS hA) rfl rfl hl.1 rfl (lv_room (Nat.le_of_ble_eq_true rfl)) dL_callIn_5 ⟨Nat.le_of_ble_eq_true rfl, Nat.le_of_ble_eq_true rfl⟩) hS (fun q h1 h2 => ro_A h1 h2) (fun q h => ro_F hS hA q h) (fun q h1 h2 => ro_A h1 h2) (fun E ce q9 u t H1 locs ht hvm _ hw hz1 hk1 hS h9 hv9 hc9 => ?_) (fun r u t H1 locs ht hvm hw hB hz1 hk1 hS => hw.elim)
  subst hw
  have hP := ro_P hP hk1
  generalize H1 = H at hP hS h9 ⊢
  refine vx_widen (k := 1) (n := 6) (Nat.le_of_ble_eq_true rfl) (Nat.le_of_ble_eq_true rfl) ?_
  refine vx_catch (E := eIOB) (name := eIOB) hown [] ⟨0, 10, 13, 19⟩ [⟨0, 10, 17, 13⟩] (htab.trans rfl) (fun z h => absurd h List.not_mem_nil) (by decide) (by decide) (hts (.classLink RL 19 eIOB) (by decide +kernel)) (va_Nw.use rfl hE.1.2.2.2.2.2.1) h9 hv9 hc9 ?_
  refine W.eq (g2 := F0 m 13 ls [.ref q9]) rfl ?_
  refine lv_astore (lv' := [(4, .ref q9), (0, .ref h0), (1, .int p0), (2, .int p1), (3, .ref ho)]) hx hb dL_callIn_13 hl (by decide) rfl (fun ls hl => ?_)
  refine lv_iconst (v := 1) hx hb dL_callIn_15 (by decide) ?_
  have hP9 := hP.sub (ws' := [(ho, .inl (cO, 1, .inr (.inl fo)))]) [1] rfl
  have hD9 := hD.sub (ws' := [(ho, .inl (cO, 1, .inr (.inl fo)))]) [1] (by decide) rfl
  have hK9 := hK.sub (tys' := []) [] rfl
  exact W.iret (v := 1) hx hb hr (fun t ht hW => ⟨⟨1, (), rfl, rfl, ⟨by rw [ht]; exact hP9, va_K.moved hW.alike hK9, hD9⟩⟩, hS.F ht⟩) hS.2.2 dL_callIn_16
set_option maxHeartbeats 4000000 in
set_option maxRecDepth 100000 in
theorem w_print (l : Launch) (hl0 : l.stackTraces = false) (D : va_G) (eT : Nat) (h0 : Nat) (aH : Nat) (aB : Nat) (aJ : Nat) (rN : Nat) (rX : Nat) (aV : Nat) (ho : Nat) (cO : ClassId) (fo : Nat → Int64) (p0 : Int32) (p1 : Int32) (sz : Nat) : Met l yL_print wsL_print ({ frames := 7, cells := 1, slots := 6, locals := 104 }) (va_Pc [.ref h0, .int p0, .int p1, .ref ho] (pc D eT sz [(h0, .inr (7, [.ref aH, .ref aB, .ref aJ, .int 0, .int 0, .int 0, .ref rN, .ref rX, .int 0, .int 0, .int 0, .int 0, .int 0, .int 0, .int (-1), .int (-1), .int 0, .int 0, .ref aV])), (ho, .inl (cO, 1, .inr (.inl fo)))] [(cO, .long)])) (va_Qi (fun (r : Int32) (_ : Unit) => r = 1) (fun _ t => va_P D vwCl [(ho, .inl (cO, 1, .inr (.inl fo)))] t.heap ∧ va_K D vwCl [] t ∧ va_D (va_A [(h0, .inr (7, [.ref aH, .ref aB, .ref aJ, .int 0, .int 0, .int 0, .ref rN, .ref rX, .int 0, .int 0, .int 0, .int 0, .int 0, .int 0, .int (-1), .int (-1), .int 0, .int 0, .ref aV])), (ho, .inl (cO, 1, .inr (.inl fo)))] sz) [(ho, .inl (cO, 1, .inr (.inl fo)))]) (va_A [(h0, .inr (7, [.ref aH, .ref aB, .ref aJ, .int 0, .int 0, .int 0, .ref rN, .ref rX, .int 0, .int 0, .int 0, .int 0, .int 0, .int 0, .int (-1), .int (-1), .int 0, .int 0, .ref aV])), (ho, .inl (cO, 1, .inr (.inl fo)))] sz)) 1 6 (va_A [(h0, .inr (7, [.ref aH, .ref aB, .ref aJ, .int 0, .int 0, .int 0, .ref rN, .ref rX, .int 0, .int 0, .int 0, .int 0, .int 0, .int 0, .int (-1), .int (-1), .int 0, .int 0, .ref aV])), (ho, .inl (cO, 1, .inr (.inl fo)))] sz) := by
  refine va_MetW (cc := cL_print) (maxL := 5) (ret := (some .int)) (by decide +kernel) rfl ?_
  intro p e s m args below meth c s₁ B hml hv
  obtain ⟨rfl, hsz, hP, hK, hD0, hE⟩ := hv
  have hx := B.exec
  have hb := B.bytes
  have hr := B.returns
  have hts := atoms_spec (ws := wsL_print) B.pre
  have hown : s.vm.findClass RL = some m.cls := findClass_of_methodNamed B.named
  have hlocks := B.notSynchronized
  have htab := vx_table (x := yL_print) B (hts _ List.mem_cons_self)
  subst hsz
  have hD := hD0.self (sz := s.heap.size)
  generalize hAe : va_A [(h0, .inr (7, [.ref aH, .ref aB, .ref aJ, .int 0, .int 0, .int 0, .ref rN, .ref rX, .int 0, .int 0, .int 0, .int 0, .int 0, .int 0, .int (-1), .int (-1), .int 0, .int 0, .ref aV])), (ho, .inl (cO, 1, .inr (.inl fo)))] s.heap.size = A at hD hE ⊢
  have hA : ∀ q : Nat, s.heap.size ≤ q → A q := fun q h => by rw [← hAe]; exact Or.inr h
  have hS : va_S A s.heap s.heap [] := va_S.rf
  have hP : va_P D vwCl [(h0, .inr (7, [.ref aH, .ref aB, .ref aJ, .int 0, .int 0, .int 0, .ref rN, .ref rX, .int 0, .int 0, .int 0, .int 0, .int 0, .int 0, .int (-1), .int (-1), .int 0, .int 0, .ref aV])), (ho, .inl (cO, 1, .inr (.inl fo)))] s.heap := hP
  have hl := lv_entry ([.ref h0, .int p0, .int p1, .ref ho]) (n := 5) (Nat.le_of_ble_eq_true rfl)
  rw [lg_entry_eq]
  generalize (lg_sl ([.ref h0, .int p0, .int p1, .ref ho]) ++ List.replicate (5 - (lg_sl ([.ref h0, .int p0, .int p1, .ref ho])).length) Slot.unset).toArray = ls at hl ⊢
  have hl : lv_has ls 5 [(0, .ref h0), (1, .int p0), (2, .int p1), (3, .ref ho)] := hl
  refine lv_aload_n hx hb dL_print_0 rfl (lv_at hl 3 rfl) ?_
  refine lv_iconst (v := 0) hx hb dL_print_1 (by decide) ?_
  refine lv_aload_n hx hb dL_print_2 rfl (lv_at hl 0 rfl) ?_
  refine lv_iload_n hx hb dL_print_3 rfl (lv_at hl 1 rfl) ?_
  refine lv_iload_n hx hb dL_print_4 rfl (lv_at hl 2 rfl) ?_
  have hPc := hP.sub (ws' := [(h0, .inr (7, [.ref aH, .ref aB, .ref aJ, .int 0, .int 0, .int 0, .ref rN, .ref rX, .int 0, .int 0, .int 0, .int 0, .int 0, .int 0, .int (-1), .int (-1), .int 0, .int 0, .ref aV]))]) [0] rfl
  have hKc := hK.sub (tys' := []) [] rfl
  refine vx_calli (vx_runV (As := [.int p0, .int p1]) (rest := [.int 0, .ref ho]) ⟨hx, hb, hml, hown, hts⟩ (t_print l hl0 D eT h0 aH aB aJ rN rX aV p0 p1 s.heap.size ) (cwV 2 hts gL_print_X4_print rfl rfl rfl (by decide +kernel) ⟨Nat.le_of_ble_eq_true rfl, Nat.le_of_ble_eq_true rfl⟩) (pr_v (ci := 7) (q0 := 0) rfl rfl hPc hKc hE hS hA) rfl rfl hl.1 rfl (lv_room (Nat.le_of_ble_eq_true rfl)) dL_print_5 ⟨Nat.le_of_ble_eq_true rfl, Nat.le_of_ble_eq_true rfl⟩) hS (fun q h1 h2 => ro_A h1 h2) (fun q h => ro_F hS hA q h) (fun q h1 h2 => ro_A h1 h2) (fun E ce q9 u t H1 locs ht hvm _ hw hz1 hk1 hS h9 hv9 hc9 => ?_) (fun r u t H1 locs ht hvm hw hB hz1 hk1 hS => hw.elim)
  subst hw
  have hP := ro_P hP hk1
  generalize H1 = H at hP hS h9 ⊢
  refine vx_widen (k := 1) (n := 6) (Nat.le_of_ble_eq_true rfl) (Nat.le_of_ble_eq_true rfl) ?_
  refine vx_catch (E := eIOB) (name := eIOB) hown [] ⟨0, 10, 13, 19⟩ [⟨0, 10, 17, 21⟩] (htab.trans rfl) (fun z h => absurd h List.not_mem_nil) (by decide) (by decide) (hts (.classLink RL 19 eIOB) (by decide +kernel)) (va_Nw.use rfl hE.1.2.2.2.2.2.1) h9 hv9 hc9 ?_
  refine W.eq (g2 := F0 m 13 ls [.ref q9]) rfl ?_
  refine lv_astore (lv' := [(4, .ref q9), (0, .ref h0), (1, .int p0), (2, .int p1), (3, .ref ho)]) hx hb dL_print_13 hl (by decide) rfl (fun ls hl => ?_)
  refine lv_iconst (v := 1) hx hb dL_print_15 (by decide) ?_
  have hP9 := hP.sub (ws' := [(ho, .inl (cO, 1, .inr (.inl fo)))]) [1] rfl
  have hD9 := hD.sub (ws' := [(ho, .inl (cO, 1, .inr (.inl fo)))]) [1] (by decide) rfl
  have hK9 := hK.sub (tys' := []) [] rfl
  exact W.iret (v := 1) hx hb hr (fun t ht hW => ⟨⟨1, (), rfl, rfl, ⟨by rw [ht]; exact hP9, va_K.moved hW.alike hK9, hD9⟩⟩, hS.F ht⟩) hS.2.2 dL_print_16
set_option maxHeartbeats 4000000 in
set_option maxRecDepth 100000 in
theorem w_points (l : Launch) (hl0 : l.stackTraces = false) (D : va_G) (eT : Nat) (h0 : Nat) (aH : Nat) (aB : Nat) (aJ : Nat) (rN : Nat) (rX : Nat) (aV : Nat) (ho : Nat) (cO : ClassId) (fo : Nat → Int64) (p0 : Int32) (p1 : Int32) (p2 : Int32) (sz : Nat) : Met l yL_points wsL_points ({ frames := 7, cells := 1, slots := 6, locals := 106 }) (va_Pc [.ref h0, .int p0, .int p1, .int p2, .ref ho] (pc D eT sz [(h0, .inr (7, [.ref aH, .ref aB, .ref aJ, .int 0, .int 0, .int 0, .ref rN, .ref rX, .int 0, .int 0, .int 0, .int 0, .int 0, .int 0, .int (-1), .int (-1), .int 0, .int 0, .ref aV])), (ho, .inl (cO, 1, .inr (.inl fo)))] [(cO, .long)])) (va_Qi (fun (r : Int32) (_ : Unit) => r = 1) (fun _ t => va_P D vwCl [(ho, .inl (cO, 1, .inr (.inl fo)))] t.heap ∧ va_K D vwCl [] t ∧ va_D (va_A [(h0, .inr (7, [.ref aH, .ref aB, .ref aJ, .int 0, .int 0, .int 0, .ref rN, .ref rX, .int 0, .int 0, .int 0, .int 0, .int 0, .int 0, .int (-1), .int (-1), .int 0, .int 0, .ref aV])), (ho, .inl (cO, 1, .inr (.inl fo)))] sz) [(ho, .inl (cO, 1, .inr (.inl fo)))]) (va_A [(h0, .inr (7, [.ref aH, .ref aB, .ref aJ, .int 0, .int 0, .int 0, .ref rN, .ref rX, .int 0, .int 0, .int 0, .int 0, .int 0, .int 0, .int (-1), .int (-1), .int 0, .int 0, .ref aV])), (ho, .inl (cO, 1, .inr (.inl fo)))] sz)) 1 6 (va_A [(h0, .inr (7, [.ref aH, .ref aB, .ref aJ, .int 0, .int 0, .int 0, .ref rN, .ref rX, .int 0, .int 0, .int 0, .int 0, .int 0, .int 0, .int (-1), .int (-1), .int 0, .int 0, .ref aV])), (ho, .inl (cO, 1, .inr (.inl fo)))] sz) := by
  refine va_MetW (cc := cL_points) (maxL := 6) (ret := (some .int)) (by decide +kernel) rfl ?_
  intro p e s m args below meth c s₁ B hml hv
  obtain ⟨rfl, hsz, hP, hK, hD0, hE⟩ := hv
  have hx := B.exec
  have hb := B.bytes
  have hr := B.returns
  have hts := atoms_spec (ws := wsL_points) B.pre
  have hown : s.vm.findClass RL = some m.cls := findClass_of_methodNamed B.named
  have hlocks := B.notSynchronized
  have htab := vx_table (x := yL_points) B (hts _ List.mem_cons_self)
  subst hsz
  have hD := hD0.self (sz := s.heap.size)
  generalize hAe : va_A [(h0, .inr (7, [.ref aH, .ref aB, .ref aJ, .int 0, .int 0, .int 0, .ref rN, .ref rX, .int 0, .int 0, .int 0, .int 0, .int 0, .int 0, .int (-1), .int (-1), .int 0, .int 0, .ref aV])), (ho, .inl (cO, 1, .inr (.inl fo)))] s.heap.size = A at hD hE ⊢
  have hA : ∀ q : Nat, s.heap.size ≤ q → A q := fun q h => by rw [← hAe]; exact Or.inr h
  have hS : va_S A s.heap s.heap [] := va_S.rf
  have hP : va_P D vwCl [(h0, .inr (7, [.ref aH, .ref aB, .ref aJ, .int 0, .int 0, .int 0, .ref rN, .ref rX, .int 0, .int 0, .int 0, .int 0, .int 0, .int 0, .int (-1), .int (-1), .int 0, .int 0, .ref aV])), (ho, .inl (cO, 1, .inr (.inl fo)))] s.heap := hP
  have hl := lv_entry ([.ref h0, .int p0, .int p1, .int p2, .ref ho]) (n := 6) (Nat.le_of_ble_eq_true rfl)
  rw [lg_entry_eq]
  generalize (lg_sl ([.ref h0, .int p0, .int p1, .int p2, .ref ho]) ++ List.replicate (6 - (lg_sl ([.ref h0, .int p0, .int p1, .int p2, .ref ho])).length) Slot.unset).toArray = ls at hl ⊢
  have hl : lv_has ls 6 [(0, .ref h0), (1, .int p0), (2, .int p1), (3, .int p2), (4, .ref ho)] := hl
  refine lv_aload hx hb dL_points_0 (lv_at hl 4 rfl) ?_
  refine lv_iconst (v := 0) hx hb dL_points_2 (by decide) ?_
  refine lv_aload_n hx hb dL_points_3 rfl (lv_at hl 0 rfl) ?_
  refine lv_iload_n hx hb dL_points_4 rfl (lv_at hl 1 rfl) ?_
  refine lv_iload_n hx hb dL_points_5 rfl (lv_at hl 2 rfl) ?_
  refine lv_iload_n hx hb dL_points_6 rfl (lv_at hl 3 rfl) ?_
  have hPc := hP.sub (ws' := [(h0, .inr (7, [.ref aH, .ref aB, .ref aJ, .int 0, .int 0, .int 0, .ref rN, .ref rX, .int 0, .int 0, .int 0, .int 0, .int 0, .int 0, .int (-1), .int (-1), .int 0, .int 0, .ref aV]))]) [0] rfl
  have hKc := hK.sub (tys' := []) [] rfl
  refine vx_calli (vx_runV (As := [.int p0, .int p1, .int p2]) (rest := [.int 0, .ref ho]) ⟨hx, hb, hml, hown, hts⟩ (t_points l hl0 D eT h0 aH aB aJ rN rX aV p0 p1 p2 s.heap.size ) (cwV 3 hts gL_points_X4_points rfl rfl rfl (by decide +kernel) ⟨Nat.le_of_ble_eq_true rfl, Nat.le_of_ble_eq_true rfl⟩) (pr_v (ci := 7) (q0 := 0) rfl rfl hPc hKc hE hS hA) rfl rfl hl.1 rfl (lv_room (Nat.le_of_ble_eq_true rfl)) dL_points_7 ⟨Nat.le_of_ble_eq_true rfl, Nat.le_of_ble_eq_true rfl⟩) hS (fun q h1 h2 => ro_A h1 h2) (fun q h => ro_F hS hA q h) (fun q h1 h2 => ro_A h1 h2) (fun E ce q9 u t H1 locs ht hvm _ hw hz1 hk1 hS h9 hv9 hc9 => ?_) (fun r u t H1 locs ht hvm hw hB hz1 hk1 hS => hw.elim)
  subst hw
  have hP := ro_P hP hk1
  generalize H1 = H at hP hS h9 ⊢
  refine vx_widen (k := 1) (n := 6) (Nat.le_of_ble_eq_true rfl) (Nat.le_of_ble_eq_true rfl) ?_
  refine vx_catch (E := eIOB) (name := eIOB) hown [] ⟨0, 12, 15, 19⟩ [⟨0, 12, 19, 21⟩, ⟨0, 12, 23, 13⟩] (htab.trans rfl) (fun z h => absurd h List.not_mem_nil) (by decide) (by decide) (hts (.classLink RL 19 eIOB) (by decide +kernel)) (va_Nw.use rfl hE.1.2.2.2.2.2.1) h9 hv9 hc9 ?_
  refine W.eq (g2 := F0 m 15 ls [.ref q9]) rfl ?_
  refine lv_astore (lv' := [(5, .ref q9), (0, .ref h0), (1, .int p0), (2, .int p1), (3, .int p2), (4, .ref ho)]) hx hb dL_points_15 hl (by decide) rfl (fun ls hl => ?_)
  refine lv_iconst (v := 1) hx hb dL_points_17 (by decide) ?_
  have hP9 := hP.sub (ws' := [(ho, .inl (cO, 1, .inr (.inl fo)))]) [1] rfl
  have hD9 := hD.sub (ws' := [(ho, .inl (cO, 1, .inr (.inl fo)))]) [1] (by decide) rfl
  have hK9 := hK.sub (tys' := []) [] rfl
  exact W.iret (v := 1) hx hb hr (fun t ht hW => ⟨⟨1, (), rfl, rfl, ⟨by rw [ht]; exact hP9, va_K.moved hW.alike hK9, hD9⟩⟩, hS.F ht⟩) hS.2.2 dL_points_18
set_option maxHeartbeats 4000000 in
set_option maxRecDepth 100000 in
theorem w_vote (l : Launch) (hl0 : l.stackTraces = false) (D : va_G) (eT : Nat) (h0 : Nat) (aH : Nat) (aB : Nat) (aJ : Nat) (rN : Nat) (rX : Nat) (aV : Nat) (ho : Nat) (cO : ClassId) (fo : Nat → Int64) (p0 : Int32) (p1 : Int32) (sz : Nat) : Met l yL_vote wsL_vote ({ frames := 7, cells := 1, slots := 6, locals := 104 }) (va_Pc [.ref h0, .int p0, .int p1, .ref ho] (pc D eT sz [(h0, .inr (7, [.ref aH, .ref aB, .ref aJ, .int 0, .int 0, .int 0, .ref rN, .ref rX, .int 0, .int 0, .int 0, .int 0, .int 0, .int 0, .int (-1), .int (-1), .int 0, .int 0, .ref aV])), (ho, .inl (cO, 1, .inr (.inl fo)))] [(cO, .long)])) (va_Qi (fun (r : Int32) (_ : Unit) => r = 1) (fun _ t => va_P D vwCl [(ho, .inl (cO, 1, .inr (.inl fo)))] t.heap ∧ va_K D vwCl [] t ∧ va_D (va_A [(h0, .inr (7, [.ref aH, .ref aB, .ref aJ, .int 0, .int 0, .int 0, .ref rN, .ref rX, .int 0, .int 0, .int 0, .int 0, .int 0, .int 0, .int (-1), .int (-1), .int 0, .int 0, .ref aV])), (ho, .inl (cO, 1, .inr (.inl fo)))] sz) [(ho, .inl (cO, 1, .inr (.inl fo)))]) (va_A [(h0, .inr (7, [.ref aH, .ref aB, .ref aJ, .int 0, .int 0, .int 0, .ref rN, .ref rX, .int 0, .int 0, .int 0, .int 0, .int 0, .int 0, .int (-1), .int (-1), .int 0, .int 0, .ref aV])), (ho, .inl (cO, 1, .inr (.inl fo)))] sz)) 1 6 (va_A [(h0, .inr (7, [.ref aH, .ref aB, .ref aJ, .int 0, .int 0, .int 0, .ref rN, .ref rX, .int 0, .int 0, .int 0, .int 0, .int 0, .int 0, .int (-1), .int (-1), .int 0, .int 0, .ref aV])), (ho, .inl (cO, 1, .inr (.inl fo)))] sz) := by
  refine va_MetW (cc := cL_vote) (maxL := 5) (ret := (some .int)) (by decide +kernel) rfl ?_
  intro p e s m args below meth c s₁ B hml hv
  obtain ⟨rfl, hsz, hP, hK, hD0, hE⟩ := hv
  have hx := B.exec
  have hb := B.bytes
  have hr := B.returns
  have hts := atoms_spec (ws := wsL_vote) B.pre
  have hown : s.vm.findClass RL = some m.cls := findClass_of_methodNamed B.named
  have hlocks := B.notSynchronized
  have htab := vx_table (x := yL_vote) B (hts _ List.mem_cons_self)
  subst hsz
  have hD := hD0.self (sz := s.heap.size)
  generalize hAe : va_A [(h0, .inr (7, [.ref aH, .ref aB, .ref aJ, .int 0, .int 0, .int 0, .ref rN, .ref rX, .int 0, .int 0, .int 0, .int 0, .int 0, .int 0, .int (-1), .int (-1), .int 0, .int 0, .ref aV])), (ho, .inl (cO, 1, .inr (.inl fo)))] s.heap.size = A at hD hE ⊢
  have hA : ∀ q : Nat, s.heap.size ≤ q → A q := fun q h => by rw [← hAe]; exact Or.inr h
  have hS : va_S A s.heap s.heap [] := va_S.rf
  have hP : va_P D vwCl [(h0, .inr (7, [.ref aH, .ref aB, .ref aJ, .int 0, .int 0, .int 0, .ref rN, .ref rX, .int 0, .int 0, .int 0, .int 0, .int 0, .int 0, .int (-1), .int (-1), .int 0, .int 0, .ref aV])), (ho, .inl (cO, 1, .inr (.inl fo)))] s.heap := hP
  have hl := lv_entry ([.ref h0, .int p0, .int p1, .ref ho]) (n := 5) (Nat.le_of_ble_eq_true rfl)
  rw [lg_entry_eq]
  generalize (lg_sl ([.ref h0, .int p0, .int p1, .ref ho]) ++ List.replicate (5 - (lg_sl ([.ref h0, .int p0, .int p1, .ref ho])).length) Slot.unset).toArray = ls at hl ⊢
  have hl : lv_has ls 5 [(0, .ref h0), (1, .int p0), (2, .int p1), (3, .ref ho)] := hl
  refine lv_aload_n hx hb dL_vote_0 rfl (lv_at hl 3 rfl) ?_
  refine lv_iconst (v := 0) hx hb dL_vote_1 (by decide) ?_
  refine lv_aload_n hx hb dL_vote_2 rfl (lv_at hl 0 rfl) ?_
  refine lv_iload_n hx hb dL_vote_3 rfl (lv_at hl 1 rfl) ?_
  refine lv_iload_n hx hb dL_vote_4 rfl (lv_at hl 2 rfl) ?_
  have hPc := hP.sub (ws' := [(h0, .inr (7, [.ref aH, .ref aB, .ref aJ, .int 0, .int 0, .int 0, .ref rN, .ref rX, .int 0, .int 0, .int 0, .int 0, .int 0, .int 0, .int (-1), .int (-1), .int 0, .int 0, .ref aV]))]) [0] rfl
  have hKc := hK.sub (tys' := []) [] rfl
  refine vx_calli (vx_runV (As := [.int p0, .int p1]) (rest := [.int 0, .ref ho]) ⟨hx, hb, hml, hown, hts⟩ (t_vote l hl0 D eT h0 aH aB aJ rN rX aV p0 p1 s.heap.size ) (cwV 2 hts gL_vote_X4_vote rfl rfl rfl (by decide +kernel) ⟨Nat.le_of_ble_eq_true rfl, Nat.le_of_ble_eq_true rfl⟩) (pr_v (ci := 7) (q0 := 0) rfl rfl hPc hKc hE hS hA) rfl rfl hl.1 rfl (lv_room (Nat.le_of_ble_eq_true rfl)) dL_vote_5 ⟨Nat.le_of_ble_eq_true rfl, Nat.le_of_ble_eq_true rfl⟩) hS (fun q h1 h2 => ro_A h1 h2) (fun q h => ro_F hS hA q h) (fun q h1 h2 => ro_A h1 h2) (fun E ce q9 u t H1 locs ht hvm _ hw hz1 hk1 hS h9 hv9 hc9 => ?_) (fun r u t H1 locs ht hvm hw hB hz1 hk1 hS => hw.elim)
  subst hw
  have hP := ro_P hP hk1
  generalize H1 = H at hP hS h9 ⊢
  refine vx_widen (k := 1) (n := 6) (Nat.le_of_ble_eq_true rfl) (Nat.le_of_ble_eq_true rfl) ?_
  refine vx_catch (E := eIOB) (name := eIOB) hown [] ⟨0, 10, 13, 19⟩ [⟨0, 10, 17, 21⟩, ⟨0, 10, 21, 13⟩] (htab.trans rfl) (fun z h => absurd h List.not_mem_nil) (by decide) (by decide) (hts (.classLink RL 19 eIOB) (by decide +kernel)) (va_Nw.use rfl hE.1.2.2.2.2.2.1) h9 hv9 hc9 ?_
  refine W.eq (g2 := F0 m 13 ls [.ref q9]) rfl ?_
  refine lv_astore (lv' := [(4, .ref q9), (0, .ref h0), (1, .int p0), (2, .int p1), (3, .ref ho)]) hx hb dL_vote_13 hl (by decide) rfl (fun ls hl => ?_)
  refine lv_iconst (v := 1) hx hb dL_vote_15 (by decide) ?_
  have hP9 := hP.sub (ws' := [(ho, .inl (cO, 1, .inr (.inl fo)))]) [1] rfl
  have hD9 := hD.sub (ws' := [(ho, .inl (cO, 1, .inr (.inl fo)))]) [1] (by decide) rfl
  have hK9 := hK.sub (tys' := []) [] rfl
  exact W.iret (v := 1) hx hb hr (fun t ht hW => ⟨⟨1, (), rfl, rfl, ⟨by rw [ht]; exact hP9, va_K.moved hW.alike hK9, hD9⟩⟩, hS.F ht⟩) hS.2.2 dL_vote_16
set_option maxHeartbeats 4000000 in
set_option maxRecDepth 100000 in
theorem w_ofHouse (l : Launch) (hl0 : l.stackTraces = false) (D : va_G) (eT : Nat) (h0 : Nat) (aH : Nat) (aB : Nat) (aJ : Nat) (rN : Nat) (rX : Nat) (aV : Nat) (ho : Nat) (cO : ClassId) (fo : Nat → Int64) (p0 : Int32) (p1 : Int32) (sz : Nat) : Met l yL_ofHouse wsL_ofHouse ({ frames := 7, cells := 1, slots := 6, locals := 104 }) (va_Pc [.ref h0, .int p0, .int p1, .ref ho] (pc D eT sz [(h0, .inr (7, [.ref aH, .ref aB, .ref aJ, .int 0, .int 0, .int 0, .ref rN, .ref rX, .int 0, .int 0, .int 0, .int 0, .int 0, .int 0, .int (-1), .int (-1), .int 0, .int 0, .ref aV])), (ho, .inl (cO, 1, .inr (.inl fo)))] [(cO, .long)])) (va_Qi (fun (r : Int32) (_ : Unit) => r = 1) (fun _ t => va_P D vwCl [(ho, .inl (cO, 1, .inr (.inl fo)))] t.heap ∧ va_K D vwCl [] t ∧ va_D (va_A [(h0, .inr (7, [.ref aH, .ref aB, .ref aJ, .int 0, .int 0, .int 0, .ref rN, .ref rX, .int 0, .int 0, .int 0, .int 0, .int 0, .int 0, .int (-1), .int (-1), .int 0, .int 0, .ref aV])), (ho, .inl (cO, 1, .inr (.inl fo)))] sz) [(ho, .inl (cO, 1, .inr (.inl fo)))]) (va_A [(h0, .inr (7, [.ref aH, .ref aB, .ref aJ, .int 0, .int 0, .int 0, .ref rN, .ref rX, .int 0, .int 0, .int 0, .int 0, .int 0, .int 0, .int (-1), .int (-1), .int 0, .int 0, .ref aV])), (ho, .inl (cO, 1, .inr (.inl fo)))] sz)) 1 6 (va_A [(h0, .inr (7, [.ref aH, .ref aB, .ref aJ, .int 0, .int 0, .int 0, .ref rN, .ref rX, .int 0, .int 0, .int 0, .int 0, .int 0, .int 0, .int (-1), .int (-1), .int 0, .int 0, .ref aV])), (ho, .inl (cO, 1, .inr (.inl fo)))] sz) := by
  refine va_MetW (cc := cL_ofHouse) (maxL := 5) (ret := (some .int)) (by decide +kernel) rfl ?_
  intro p e s m args below meth c s₁ B hml hv
  obtain ⟨rfl, hsz, hP, hK, hD0, hE⟩ := hv
  have hx := B.exec
  have hb := B.bytes
  have hr := B.returns
  have hts := atoms_spec (ws := wsL_ofHouse) B.pre
  have hown : s.vm.findClass RL = some m.cls := findClass_of_methodNamed B.named
  have hlocks := B.notSynchronized
  have htab := vx_table (x := yL_ofHouse) B (hts _ List.mem_cons_self)
  subst hsz
  have hD := hD0.self (sz := s.heap.size)
  generalize hAe : va_A [(h0, .inr (7, [.ref aH, .ref aB, .ref aJ, .int 0, .int 0, .int 0, .ref rN, .ref rX, .int 0, .int 0, .int 0, .int 0, .int 0, .int 0, .int (-1), .int (-1), .int 0, .int 0, .ref aV])), (ho, .inl (cO, 1, .inr (.inl fo)))] s.heap.size = A at hD hE ⊢
  have hA : ∀ q : Nat, s.heap.size ≤ q → A q := fun q h => by rw [← hAe]; exact Or.inr h
  have hS : va_S A s.heap s.heap [] := va_S.rf
  have hP : va_P D vwCl [(h0, .inr (7, [.ref aH, .ref aB, .ref aJ, .int 0, .int 0, .int 0, .ref rN, .ref rX, .int 0, .int 0, .int 0, .int 0, .int 0, .int 0, .int (-1), .int (-1), .int 0, .int 0, .ref aV])), (ho, .inl (cO, 1, .inr (.inl fo)))] s.heap := hP
  have hl := lv_entry ([.ref h0, .int p0, .int p1, .ref ho]) (n := 5) (Nat.le_of_ble_eq_true rfl)
  rw [lg_entry_eq]
  generalize (lg_sl ([.ref h0, .int p0, .int p1, .ref ho]) ++ List.replicate (5 - (lg_sl ([.ref h0, .int p0, .int p1, .ref ho])).length) Slot.unset).toArray = ls at hl ⊢
  have hl : lv_has ls 5 [(0, .ref h0), (1, .int p0), (2, .int p1), (3, .ref ho)] := hl
  refine lv_aload_n hx hb dL_ofHouse_0 rfl (lv_at hl 3 rfl) ?_
  refine lv_iconst (v := 0) hx hb dL_ofHouse_1 (by decide) ?_
  refine lv_aload_n hx hb dL_ofHouse_2 rfl (lv_at hl 0 rfl) ?_
  refine lv_iload_n hx hb dL_ofHouse_3 rfl (lv_at hl 1 rfl) ?_
  refine lv_iload_n hx hb dL_ofHouse_4 rfl (lv_at hl 2 rfl) ?_
  have hPc := hP.sub (ws' := [(h0, .inr (7, [.ref aH, .ref aB, .ref aJ, .int 0, .int 0, .int 0, .ref rN, .ref rX, .int 0, .int 0, .int 0, .int 0, .int 0, .int 0, .int (-1), .int (-1), .int 0, .int 0, .ref aV]))]) [0] rfl
  have hKc := hK.sub (tys' := []) [] rfl
  refine vx_calli (vx_runV (As := [.int p0, .int p1]) (rest := [.int 0, .ref ho]) ⟨hx, hb, hml, hown, hts⟩ (t_ofHouse l hl0 D eT h0 aH aB aJ rN rX aV p0 p1 s.heap.size ) (cwV 2 hts gL_ofHouse_X4_ofHouse rfl rfl rfl (by decide +kernel) ⟨Nat.le_of_ble_eq_true rfl, Nat.le_of_ble_eq_true rfl⟩) (pr_v (ci := 7) (q0 := 0) rfl rfl hPc hKc hE hS hA) rfl rfl hl.1 rfl (lv_room (Nat.le_of_ble_eq_true rfl)) dL_ofHouse_5 ⟨Nat.le_of_ble_eq_true rfl, Nat.le_of_ble_eq_true rfl⟩) hS (fun q h1 h2 => ro_A h1 h2) (fun q h => ro_F hS hA q h) (fun q h1 h2 => ro_A h1 h2) (fun E ce q9 u t H1 locs ht hvm _ hw hz1 hk1 hS h9 hv9 hc9 => ?_) (fun r u t H1 locs ht hvm hw hB hz1 hk1 hS => hw.elim)
  subst hw
  have hP := ro_P hP hk1
  generalize H1 = H at hP hS h9 ⊢
  refine vx_widen (k := 1) (n := 6) (Nat.le_of_ble_eq_true rfl) (Nat.le_of_ble_eq_true rfl) ?_
  refine vx_catch (E := eIOB) (name := eIOB) hown [] ⟨0, 10, 13, 19⟩ [⟨0, 10, 17, 21⟩] (htab.trans rfl) (fun z h => absurd h List.not_mem_nil) (by decide) (by decide) (hts (.classLink RL 19 eIOB) (by decide +kernel)) (va_Nw.use rfl hE.1.2.2.2.2.2.1) h9 hv9 hc9 ?_
  refine W.eq (g2 := F0 m 13 ls [.ref q9]) rfl ?_
  refine lv_astore (lv' := [(4, .ref q9), (0, .ref h0), (1, .int p0), (2, .int p1), (3, .ref ho)]) hx hb dL_ofHouse_13 hl (by decide) rfl (fun ls hl => ?_)
  refine lv_iconst (v := 1) hx hb dL_ofHouse_15 (by decide) ?_
  have hP9 := hP.sub (ws' := [(ho, .inl (cO, 1, .inr (.inl fo)))]) [1] rfl
  have hD9 := hD.sub (ws' := [(ho, .inl (cO, 1, .inr (.inl fo)))]) [1] (by decide) rfl
  have hK9 := hK.sub (tys' := []) [] rfl
  exact W.iret (v := 1) hx hb hr (fun t ht hW => ⟨⟨1, (), rfl, rfl, ⟨by rw [ht]; exact hP9, va_K.moved hW.alike hK9, hD9⟩⟩, hS.F ht⟩) hS.2.2 dL_ofHouse_16
set_option maxHeartbeats 4000000 in
set_option maxRecDepth 100000 in
theorem w_ofBook (l : Launch) (hl0 : l.stackTraces = false) (D : va_G) (eT : Nat) (h0 : Nat) (aH : Nat) (aB : Nat) (aJ : Nat) (rN : Nat) (rX : Nat) (aV : Nat) (ho : Nat) (cO : ClassId) (fo : Nat → Int64) (p0 : Int32) (p1 : Int32) (sz : Nat) : Met l yL_ofBook wsL_ofBook ({ frames := 7, cells := 1, slots := 6, locals := 104 }) (va_Pc [.ref h0, .int p0, .int p1, .ref ho] (pc D eT sz [(h0, .inr (7, [.ref aH, .ref aB, .ref aJ, .int 0, .int 0, .int 0, .ref rN, .ref rX, .int 0, .int 0, .int 0, .int 0, .int 0, .int 0, .int (-1), .int (-1), .int 0, .int 0, .ref aV])), (ho, .inl (cO, 1, .inr (.inl fo)))] [(cO, .long)])) (va_Qi (fun (r : Int32) (_ : Unit) => r = 1) (fun _ t => va_P D vwCl [(ho, .inl (cO, 1, .inr (.inl fo)))] t.heap ∧ va_K D vwCl [] t ∧ va_D (va_A [(h0, .inr (7, [.ref aH, .ref aB, .ref aJ, .int 0, .int 0, .int 0, .ref rN, .ref rX, .int 0, .int 0, .int 0, .int 0, .int 0, .int 0, .int (-1), .int (-1), .int 0, .int 0, .ref aV])), (ho, .inl (cO, 1, .inr (.inl fo)))] sz) [(ho, .inl (cO, 1, .inr (.inl fo)))]) (va_A [(h0, .inr (7, [.ref aH, .ref aB, .ref aJ, .int 0, .int 0, .int 0, .ref rN, .ref rX, .int 0, .int 0, .int 0, .int 0, .int 0, .int 0, .int (-1), .int (-1), .int 0, .int 0, .ref aV])), (ho, .inl (cO, 1, .inr (.inl fo)))] sz)) 1 6 (va_A [(h0, .inr (7, [.ref aH, .ref aB, .ref aJ, .int 0, .int 0, .int 0, .ref rN, .ref rX, .int 0, .int 0, .int 0, .int 0, .int 0, .int 0, .int (-1), .int (-1), .int 0, .int 0, .ref aV])), (ho, .inl (cO, 1, .inr (.inl fo)))] sz) := by
  refine va_MetW (cc := cL_ofBook) (maxL := 5) (ret := (some .int)) (by decide +kernel) rfl ?_
  intro p e s m args below meth c s₁ B hml hv
  obtain ⟨rfl, hsz, hP, hK, hD0, hE⟩ := hv
  have hx := B.exec
  have hb := B.bytes
  have hr := B.returns
  have hts := atoms_spec (ws := wsL_ofBook) B.pre
  have hown : s.vm.findClass RL = some m.cls := findClass_of_methodNamed B.named
  have hlocks := B.notSynchronized
  have htab := vx_table (x := yL_ofBook) B (hts _ List.mem_cons_self)
  subst hsz
  have hD := hD0.self (sz := s.heap.size)
  generalize hAe : va_A [(h0, .inr (7, [.ref aH, .ref aB, .ref aJ, .int 0, .int 0, .int 0, .ref rN, .ref rX, .int 0, .int 0, .int 0, .int 0, .int 0, .int 0, .int (-1), .int (-1), .int 0, .int 0, .ref aV])), (ho, .inl (cO, 1, .inr (.inl fo)))] s.heap.size = A at hD hE ⊢
  have hA : ∀ q : Nat, s.heap.size ≤ q → A q := fun q h => by rw [← hAe]; exact Or.inr h
  have hS : va_S A s.heap s.heap [] := va_S.rf
  have hP : va_P D vwCl [(h0, .inr (7, [.ref aH, .ref aB, .ref aJ, .int 0, .int 0, .int 0, .ref rN, .ref rX, .int 0, .int 0, .int 0, .int 0, .int 0, .int 0, .int (-1), .int (-1), .int 0, .int 0, .ref aV])), (ho, .inl (cO, 1, .inr (.inl fo)))] s.heap := hP
  have hl := lv_entry ([.ref h0, .int p0, .int p1, .ref ho]) (n := 5) (Nat.le_of_ble_eq_true rfl)
  rw [lg_entry_eq]
  generalize (lg_sl ([.ref h0, .int p0, .int p1, .ref ho]) ++ List.replicate (5 - (lg_sl ([.ref h0, .int p0, .int p1, .ref ho])).length) Slot.unset).toArray = ls at hl ⊢
  have hl : lv_has ls 5 [(0, .ref h0), (1, .int p0), (2, .int p1), (3, .ref ho)] := hl
  refine lv_aload_n hx hb dL_ofBook_0 rfl (lv_at hl 3 rfl) ?_
  refine lv_iconst (v := 0) hx hb dL_ofBook_1 (by decide) ?_
  refine lv_aload_n hx hb dL_ofBook_2 rfl (lv_at hl 0 rfl) ?_
  refine lv_iload_n hx hb dL_ofBook_3 rfl (lv_at hl 1 rfl) ?_
  refine lv_iload_n hx hb dL_ofBook_4 rfl (lv_at hl 2 rfl) ?_
  have hPc := hP.sub (ws' := [(h0, .inr (7, [.ref aH, .ref aB, .ref aJ, .int 0, .int 0, .int 0, .ref rN, .ref rX, .int 0, .int 0, .int 0, .int 0, .int 0, .int 0, .int (-1), .int (-1), .int 0, .int 0, .ref aV]))]) [0] rfl
  have hKc := hK.sub (tys' := []) [] rfl
  refine vx_calli (vx_runV (As := [.int p0, .int p1]) (rest := [.int 0, .ref ho]) ⟨hx, hb, hml, hown, hts⟩ (t_ofBook l hl0 D eT h0 aH aB aJ rN rX aV p0 p1 s.heap.size ) (cwV 2 hts gL_ofBook_X4_ofBook rfl rfl rfl (by decide +kernel) ⟨Nat.le_of_ble_eq_true rfl, Nat.le_of_ble_eq_true rfl⟩) (pr_v (ci := 7) (q0 := 0) rfl rfl hPc hKc hE hS hA) rfl rfl hl.1 rfl (lv_room (Nat.le_of_ble_eq_true rfl)) dL_ofBook_5 ⟨Nat.le_of_ble_eq_true rfl, Nat.le_of_ble_eq_true rfl⟩) hS (fun q h1 h2 => ro_A h1 h2) (fun q h => ro_F hS hA q h) (fun q h1 h2 => ro_A h1 h2) (fun E ce q9 u t H1 locs ht hvm _ hw hz1 hk1 hS h9 hv9 hc9 => ?_) (fun r u t H1 locs ht hvm hw hB hz1 hk1 hS => hw.elim)
  subst hw
  have hP := ro_P hP hk1
  generalize H1 = H at hP hS h9 ⊢
  refine vx_widen (k := 1) (n := 6) (Nat.le_of_ble_eq_true rfl) (Nat.le_of_ble_eq_true rfl) ?_
  refine vx_catch (E := eIOB) (name := eIOB) hown [] ⟨0, 10, 13, 19⟩ [⟨0, 10, 17, 21⟩] (htab.trans rfl) (fun z h => absurd h List.not_mem_nil) (by decide) (by decide) (hts (.classLink RL 19 eIOB) (by decide +kernel)) (va_Nw.use rfl hE.1.2.2.2.2.2.1) h9 hv9 hc9 ?_
  refine W.eq (g2 := F0 m 13 ls [.ref q9]) rfl ?_
  refine lv_astore (lv' := [(4, .ref q9), (0, .ref h0), (1, .int p0), (2, .int p1), (3, .ref ho)]) hx hb dL_ofBook_13 hl (by decide) rfl (fun ls hl => ?_)
  refine lv_iconst (v := 1) hx hb dL_ofBook_15 (by decide) ?_
  have hP9 := hP.sub (ws' := [(ho, .inl (cO, 1, .inr (.inl fo)))]) [1] rfl
  have hD9 := hD.sub (ws' := [(ho, .inl (cO, 1, .inr (.inl fo)))]) [1] (by decide) rfl
  have hK9 := hK.sub (tys' := []) [] rfl
  exact W.iret (v := 1) hx hb hr (fun t ht hW => ⟨⟨1, (), rfl, rfl, ⟨by rw [ht]; exact hP9, va_K.moved hW.alike hK9, hD9⟩⟩, hS.F ht⟩) hS.2.2 dL_ofBook_16
set_option maxHeartbeats 4000000 in
set_option maxRecDepth 100000 in
theorem w_ofJudge (l : Launch) (hl0 : l.stackTraces = false) (D : va_G) (eT : Nat) (h0 : Nat) (aH : Nat) (aB : Nat) (aJ : Nat) (rN : Nat) (rX : Nat) (aV : Nat) (ho : Nat) (cO : ClassId) (fo : Nat → Int64) (p0 : Int32) (p1 : Int32) (sz : Nat) : Met l yL_ofJudge wsL_ofJudge ({ frames := 7, cells := 1, slots := 6, locals := 104 }) (va_Pc [.ref h0, .int p0, .int p1, .ref ho] (pc D eT sz [(h0, .inr (7, [.ref aH, .ref aB, .ref aJ, .int 0, .int 0, .int 0, .ref rN, .ref rX, .int 0, .int 0, .int 0, .int 0, .int 0, .int 0, .int (-1), .int (-1), .int 0, .int 0, .ref aV])), (ho, .inl (cO, 1, .inr (.inl fo)))] [(cO, .long)])) (va_Qi (fun (r : Int32) (_ : Unit) => r = 1) (fun _ t => va_P D vwCl [(ho, .inl (cO, 1, .inr (.inl fo)))] t.heap ∧ va_K D vwCl [] t ∧ va_D (va_A [(h0, .inr (7, [.ref aH, .ref aB, .ref aJ, .int 0, .int 0, .int 0, .ref rN, .ref rX, .int 0, .int 0, .int 0, .int 0, .int 0, .int 0, .int (-1), .int (-1), .int 0, .int 0, .ref aV])), (ho, .inl (cO, 1, .inr (.inl fo)))] sz) [(ho, .inl (cO, 1, .inr (.inl fo)))]) (va_A [(h0, .inr (7, [.ref aH, .ref aB, .ref aJ, .int 0, .int 0, .int 0, .ref rN, .ref rX, .int 0, .int 0, .int 0, .int 0, .int 0, .int 0, .int (-1), .int (-1), .int 0, .int 0, .ref aV])), (ho, .inl (cO, 1, .inr (.inl fo)))] sz)) 1 6 (va_A [(h0, .inr (7, [.ref aH, .ref aB, .ref aJ, .int 0, .int 0, .int 0, .ref rN, .ref rX, .int 0, .int 0, .int 0, .int 0, .int 0, .int 0, .int (-1), .int (-1), .int 0, .int 0, .ref aV])), (ho, .inl (cO, 1, .inr (.inl fo)))] sz) := by
  refine va_MetW (cc := cL_ofJudge) (maxL := 5) (ret := (some .int)) (by decide +kernel) rfl ?_
  intro p e s m args below meth c s₁ B hml hv
  obtain ⟨rfl, hsz, hP, hK, hD0, hE⟩ := hv
  have hx := B.exec
  have hb := B.bytes
  have hr := B.returns
  have hts := atoms_spec (ws := wsL_ofJudge) B.pre
  have hown : s.vm.findClass RL = some m.cls := findClass_of_methodNamed B.named
  have hlocks := B.notSynchronized
  have htab := vx_table (x := yL_ofJudge) B (hts _ List.mem_cons_self)
  subst hsz
  have hD := hD0.self (sz := s.heap.size)
  generalize hAe : va_A [(h0, .inr (7, [.ref aH, .ref aB, .ref aJ, .int 0, .int 0, .int 0, .ref rN, .ref rX, .int 0, .int 0, .int 0, .int 0, .int 0, .int 0, .int (-1), .int (-1), .int 0, .int 0, .ref aV])), (ho, .inl (cO, 1, .inr (.inl fo)))] s.heap.size = A at hD hE ⊢
  have hA : ∀ q : Nat, s.heap.size ≤ q → A q := fun q h => by rw [← hAe]; exact Or.inr h
  have hS : va_S A s.heap s.heap [] := va_S.rf
  have hP : va_P D vwCl [(h0, .inr (7, [.ref aH, .ref aB, .ref aJ, .int 0, .int 0, .int 0, .ref rN, .ref rX, .int 0, .int 0, .int 0, .int 0, .int 0, .int 0, .int (-1), .int (-1), .int 0, .int 0, .ref aV])), (ho, .inl (cO, 1, .inr (.inl fo)))] s.heap := hP
  have hl := lv_entry ([.ref h0, .int p0, .int p1, .ref ho]) (n := 5) (Nat.le_of_ble_eq_true rfl)
  rw [lg_entry_eq]
  generalize (lg_sl ([.ref h0, .int p0, .int p1, .ref ho]) ++ List.replicate (5 - (lg_sl ([.ref h0, .int p0, .int p1, .ref ho])).length) Slot.unset).toArray = ls at hl ⊢
  have hl : lv_has ls 5 [(0, .ref h0), (1, .int p0), (2, .int p1), (3, .ref ho)] := hl
  refine lv_aload_n hx hb dL_ofJudge_0 rfl (lv_at hl 3 rfl) ?_
  refine lv_iconst (v := 0) hx hb dL_ofJudge_1 (by decide) ?_
  refine lv_aload_n hx hb dL_ofJudge_2 rfl (lv_at hl 0 rfl) ?_
  refine lv_iload_n hx hb dL_ofJudge_3 rfl (lv_at hl 1 rfl) ?_
  refine lv_iload_n hx hb dL_ofJudge_4 rfl (lv_at hl 2 rfl) ?_
  have hPc := hP.sub (ws' := [(h0, .inr (7, [.ref aH, .ref aB, .ref aJ, .int 0, .int 0, .int 0, .ref rN, .ref rX, .int 0, .int 0, .int 0, .int 0, .int 0, .int 0, .int (-1), .int (-1), .int 0, .int 0, .ref aV]))]) [0] rfl
  have hKc := hK.sub (tys' := []) [] rfl
  refine vx_calli (vx_runV (As := [.int p0, .int p1]) (rest := [.int 0, .ref ho]) ⟨hx, hb, hml, hown, hts⟩ (t_ofJudge l hl0 D eT h0 aH aB aJ rN rX aV p0 p1 s.heap.size ) (cwV 2 hts gL_ofJudge_X4_ofJudge rfl rfl rfl (by decide +kernel) ⟨Nat.le_of_ble_eq_true rfl, Nat.le_of_ble_eq_true rfl⟩) (pr_v (ci := 7) (q0 := 0) rfl rfl hPc hKc hE hS hA) rfl rfl hl.1 rfl (lv_room (Nat.le_of_ble_eq_true rfl)) dL_ofJudge_5 ⟨Nat.le_of_ble_eq_true rfl, Nat.le_of_ble_eq_true rfl⟩) hS (fun q h1 h2 => ro_A h1 h2) (fun q h => ro_F hS hA q h) (fun q h1 h2 => ro_A h1 h2) (fun E ce q9 u t H1 locs ht hvm _ hw hz1 hk1 hS h9 hv9 hc9 => ?_) (fun r u t H1 locs ht hvm hw hB hz1 hk1 hS => hw.elim)
  subst hw
  have hP := ro_P hP hk1
  generalize H1 = H at hP hS h9 ⊢
  refine vx_widen (k := 1) (n := 6) (Nat.le_of_ble_eq_true rfl) (Nat.le_of_ble_eq_true rfl) ?_
  refine vx_catch (E := eIOB) (name := eIOB) hown [] ⟨0, 10, 13, 19⟩ [⟨0, 10, 17, 21⟩] (htab.trans rfl) (fun z h => absurd h List.not_mem_nil) (by decide) (by decide) (hts (.classLink RL 19 eIOB) (by decide +kernel)) (va_Nw.use rfl hE.1.2.2.2.2.2.1) h9 hv9 hc9 ?_
  refine W.eq (g2 := F0 m 13 ls [.ref q9]) rfl ?_
  refine lv_astore (lv' := [(4, .ref q9), (0, .ref h0), (1, .int p0), (2, .int p1), (3, .ref ho)]) hx hb dL_ofJudge_13 hl (by decide) rfl (fun ls hl => ?_)
  refine lv_iconst (v := 1) hx hb dL_ofJudge_15 (by decide) ?_
  have hP9 := hP.sub (ws' := [(ho, .inl (cO, 1, .inr (.inl fo)))]) [1] rfl
  have hD9 := hD.sub (ws' := [(ho, .inl (cO, 1, .inr (.inl fo)))]) [1] (by decide) rfl
  have hK9 := hK.sub (tys' := []) [] rfl
  exact W.iret (v := 1) hx hb hr (fun t ht hW => ⟨⟨1, (), rfl, rfl, ⟨by rw [ht]; exact hP9, va_K.moved hW.alike hK9, hD9⟩⟩, hS.F ht⟩) hS.2.2 dL_ofJudge_16
set_option maxHeartbeats 4000000 in
set_option maxRecDepth 100000 in
theorem w_mark (l : Launch) (hl0 : l.stackTraces = false) (D : va_G) (eT : Nat) (h0 : Nat) (aH : Nat) (aB : Nat) (aJ : Nat) (rN : Nat) (rX : Nat) (aV : Nat) (ho : Nat) (cO : ClassId) (fo : Nat → Int64) (p0 : Int32) (p1 : Int32) (sz : Nat) : Met l yL_mark wsL_mark ({ frames := 7, cells := 1, slots := 6, locals := 104 }) (va_Pc [.ref h0, .int p0, .int p1, .ref ho] (pc D eT sz [(h0, .inr (7, [.ref aH, .ref aB, .ref aJ, .int 0, .int 0, .int 0, .ref rN, .ref rX, .int 0, .int 0, .int 0, .int 0, .int 0, .int 0, .int (-1), .int (-1), .int 0, .int 0, .ref aV])), (ho, .inl (cO, 1, .inr (.inl fo)))] [(cO, .long)])) (va_Qi (fun (r : Int32) (_ : Unit) => r = 1) (fun _ t => va_P D vwCl [(ho, .inl (cO, 1, .inr (.inl fo)))] t.heap ∧ va_K D vwCl [] t ∧ va_D (va_A [(h0, .inr (7, [.ref aH, .ref aB, .ref aJ, .int 0, .int 0, .int 0, .ref rN, .ref rX, .int 0, .int 0, .int 0, .int 0, .int 0, .int 0, .int (-1), .int (-1), .int 0, .int 0, .ref aV])), (ho, .inl (cO, 1, .inr (.inl fo)))] sz) [(ho, .inl (cO, 1, .inr (.inl fo)))]) (va_A [(h0, .inr (7, [.ref aH, .ref aB, .ref aJ, .int 0, .int 0, .int 0, .ref rN, .ref rX, .int 0, .int 0, .int 0, .int 0, .int 0, .int 0, .int (-1), .int (-1), .int 0, .int 0, .ref aV])), (ho, .inl (cO, 1, .inr (.inl fo)))] sz)) 1 6 (va_A [(h0, .inr (7, [.ref aH, .ref aB, .ref aJ, .int 0, .int 0, .int 0, .ref rN, .ref rX, .int 0, .int 0, .int 0, .int 0, .int 0, .int 0, .int (-1), .int (-1), .int 0, .int 0, .ref aV])), (ho, .inl (cO, 1, .inr (.inl fo)))] sz) := by
  refine va_MetW (cc := cL_mark) (maxL := 5) (ret := (some .int)) (by decide +kernel) rfl ?_
  intro p e s m args below meth c s₁ B hml hv
  obtain ⟨rfl, hsz, hP, hK, hD0, hE⟩ := hv
  have hx := B.exec
  have hb := B.bytes
  have hr := B.returns
  have hts := atoms_spec (ws := wsL_mark) B.pre
  have hown : s.vm.findClass RL = some m.cls := findClass_of_methodNamed B.named
  have hlocks := B.notSynchronized
  have htab := vx_table (x := yL_mark) B (hts _ List.mem_cons_self)
  subst hsz
  have hD := hD0.self (sz := s.heap.size)
  generalize hAe : va_A [(h0, .inr (7, [.ref aH, .ref aB, .ref aJ, .int 0, .int 0, .int 0, .ref rN, .ref rX, .int 0, .int 0, .int 0, .int 0, .int 0, .int 0, .int (-1), .int (-1), .int 0, .int 0, .ref aV])), (ho, .inl (cO, 1, .inr (.inl fo)))] s.heap.size = A at hD hE ⊢
  have hA : ∀ q : Nat, s.heap.size ≤ q → A q := fun q h => by rw [← hAe]; exact Or.inr h
  have hS : va_S A s.heap s.heap [] := va_S.rf
  have hP : va_P D vwCl [(h0, .inr (7, [.ref aH, .ref aB, .ref aJ, .int 0, .int 0, .int 0, .ref rN, .ref rX, .int 0, .int 0, .int 0, .int 0, .int 0, .int 0, .int (-1), .int (-1), .int 0, .int 0, .ref aV])), (ho, .inl (cO, 1, .inr (.inl fo)))] s.heap := hP
  have hl := lv_entry ([.ref h0, .int p0, .int p1, .ref ho]) (n := 5) (Nat.le_of_ble_eq_true rfl)
  rw [lg_entry_eq]
  generalize (lg_sl ([.ref h0, .int p0, .int p1, .ref ho]) ++ List.replicate (5 - (lg_sl ([.ref h0, .int p0, .int p1, .ref ho])).length) Slot.unset).toArray = ls at hl ⊢
  have hl : lv_has ls 5 [(0, .ref h0), (1, .int p0), (2, .int p1), (3, .ref ho)] := hl
  refine lv_aload_n hx hb dL_mark_0 rfl (lv_at hl 3 rfl) ?_
  refine lv_iconst (v := 0) hx hb dL_mark_1 (by decide) ?_
  refine lv_aload_n hx hb dL_mark_2 rfl (lv_at hl 0 rfl) ?_
  refine lv_iload_n hx hb dL_mark_3 rfl (lv_at hl 1 rfl) ?_
  refine lv_iload_n hx hb dL_mark_4 rfl (lv_at hl 2 rfl) ?_
  have hPc := hP.sub (ws' := [(h0, .inr (7, [.ref aH, .ref aB, .ref aJ, .int 0, .int 0, .int 0, .ref rN, .ref rX, .int 0, .int 0, .int 0, .int 0, .int 0, .int 0, .int (-1), .int (-1), .int 0, .int 0, .ref aV]))]) [0] rfl
  have hKc := hK.sub (tys' := []) [] rfl
  refine vx_calli (vx_runV (As := [.int p0, .int p1]) (rest := [.int 0, .ref ho]) ⟨hx, hb, hml, hown, hts⟩ (t_mark l hl0 D eT h0 aH aB aJ rN rX aV p0 p1 s.heap.size ) (cwV 2 hts gL_mark_X4_mark rfl rfl rfl (by decide +kernel) ⟨Nat.le_of_ble_eq_true rfl, Nat.le_of_ble_eq_true rfl⟩) (pr_v (ci := 7) (q0 := 0) rfl rfl hPc hKc hE hS hA) rfl rfl hl.1 rfl (lv_room (Nat.le_of_ble_eq_true rfl)) dL_mark_5 ⟨Nat.le_of_ble_eq_true rfl, Nat.le_of_ble_eq_true rfl⟩) hS (fun q h1 h2 => ro_A h1 h2) (fun q h => ro_F hS hA q h) (fun q h1 h2 => ro_A h1 h2) (fun E ce q9 u t H1 locs ht hvm _ hw hz1 hk1 hS h9 hv9 hc9 => ?_) (fun r u t H1 locs ht hvm hw hB hz1 hk1 hS => hw.elim)
  subst hw
  have hP := ro_P hP hk1
  generalize H1 = H at hP hS h9 ⊢
  refine vx_widen (k := 1) (n := 6) (Nat.le_of_ble_eq_true rfl) (Nat.le_of_ble_eq_true rfl) ?_
  refine vx_catch (E := eIOB) (name := eIOB) hown [] ⟨0, 10, 13, 19⟩ [] (htab.trans rfl) (fun z h => absurd h List.not_mem_nil) (by decide) (by decide) (hts (.classLink RL 19 eIOB) (by decide +kernel)) (va_Nw.use rfl hE.1.2.2.2.2.2.1) h9 hv9 hc9 ?_
  refine W.eq (g2 := F0 m 13 ls [.ref q9]) rfl ?_
  refine lv_astore (lv' := [(4, .ref q9), (0, .ref h0), (1, .int p0), (2, .int p1), (3, .ref ho)]) hx hb dL_mark_13 hl (by decide) rfl (fun ls hl => ?_)
  refine lv_iconst (v := 1) hx hb dL_mark_15 (by decide) ?_
  have hP9 := hP.sub (ws' := [(ho, .inl (cO, 1, .inr (.inl fo)))]) [1] rfl
  have hD9 := hD.sub (ws' := [(ho, .inl (cO, 1, .inr (.inl fo)))]) [1] (by decide) rfl
  have hK9 := hK.sub (tys' := []) [] rfl
  exact W.iret (v := 1) hx hb hr (fun t ht hW => ⟨⟨1, (), rfl, rfl, ⟨by rw [ht]; exact hP9, va_K.moved hW.alike hK9, hD9⟩⟩, hS.F ht⟩) hS.2.2 dL_mark_16
set_option maxHeartbeats 4000000 in
set_option maxRecDepth 100000 in
theorem w_spoiled (l : Launch) (hl0 : l.stackTraces = false) (D : va_G) (eT : Nat) (h0 : Nat) (aH : Nat) (aB : Nat) (aJ : Nat) (rN : Nat) (rX : Nat) (aV : Nat) (ho : Nat) (cO : ClassId) (fo : Nat → Int64) (p0 : Int32) (sz : Nat) : Met l yL_spoiled wsL_spoiled ({ frames := 7, cells := 1, slots := 6, locals := 103 }) (va_Pc [.ref h0, .int p0, .ref ho] (pc D eT sz [(h0, .inr (7, [.ref aH, .ref aB, .ref aJ, .int 0, .int 0, .int 0, .ref rN, .ref rX, .int 0, .int 0, .int 0, .int 0, .int 0, .int 0, .int (-1), .int (-1), .int 0, .int 0, .ref aV])), (ho, .inl (cO, 1, .inr (.inl fo)))] [(cO, .long)])) (va_Qi (fun (r : Int32) (_ : Unit) => r = 1) (fun _ t => va_P D vwCl [(ho, .inl (cO, 1, .inr (.inl fo)))] t.heap ∧ va_K D vwCl [] t ∧ va_D (va_A [(h0, .inr (7, [.ref aH, .ref aB, .ref aJ, .int 0, .int 0, .int 0, .ref rN, .ref rX, .int 0, .int 0, .int 0, .int 0, .int 0, .int 0, .int (-1), .int (-1), .int 0, .int 0, .ref aV])), (ho, .inl (cO, 1, .inr (.inl fo)))] sz) [(ho, .inl (cO, 1, .inr (.inl fo)))]) (va_A [(h0, .inr (7, [.ref aH, .ref aB, .ref aJ, .int 0, .int 0, .int 0, .ref rN, .ref rX, .int 0, .int 0, .int 0, .int 0, .int 0, .int 0, .int (-1), .int (-1), .int 0, .int 0, .ref aV])), (ho, .inl (cO, 1, .inr (.inl fo)))] sz)) 1 6 (va_A [(h0, .inr (7, [.ref aH, .ref aB, .ref aJ, .int 0, .int 0, .int 0, .ref rN, .ref rX, .int 0, .int 0, .int 0, .int 0, .int 0, .int 0, .int (-1), .int (-1), .int 0, .int 0, .ref aV])), (ho, .inl (cO, 1, .inr (.inl fo)))] sz) := by
  refine va_MetW (cc := cL_spoiled) (maxL := 4) (ret := (some .int)) (by decide +kernel) rfl ?_
  intro p e s m args below meth c s₁ B hml hv
  obtain ⟨rfl, hsz, hP, hK, hD0, hE⟩ := hv
  have hx := B.exec
  have hb := B.bytes
  have hr := B.returns
  have hts := atoms_spec (ws := wsL_spoiled) B.pre
  have hown : s.vm.findClass RL = some m.cls := findClass_of_methodNamed B.named
  have hlocks := B.notSynchronized
  have htab := vx_table (x := yL_spoiled) B (hts _ List.mem_cons_self)
  subst hsz
  have hD := hD0.self (sz := s.heap.size)
  generalize hAe : va_A [(h0, .inr (7, [.ref aH, .ref aB, .ref aJ, .int 0, .int 0, .int 0, .ref rN, .ref rX, .int 0, .int 0, .int 0, .int 0, .int 0, .int 0, .int (-1), .int (-1), .int 0, .int 0, .ref aV])), (ho, .inl (cO, 1, .inr (.inl fo)))] s.heap.size = A at hD hE ⊢
  have hA : ∀ q : Nat, s.heap.size ≤ q → A q := fun q h => by rw [← hAe]; exact Or.inr h
  have hS : va_S A s.heap s.heap [] := va_S.rf
  have hP : va_P D vwCl [(h0, .inr (7, [.ref aH, .ref aB, .ref aJ, .int 0, .int 0, .int 0, .ref rN, .ref rX, .int 0, .int 0, .int 0, .int 0, .int 0, .int 0, .int (-1), .int (-1), .int 0, .int 0, .ref aV])), (ho, .inl (cO, 1, .inr (.inl fo)))] s.heap := hP
  have hl := lv_entry ([.ref h0, .int p0, .ref ho]) (n := 4) (Nat.le_of_ble_eq_true rfl)
  rw [lg_entry_eq]
  generalize (lg_sl ([.ref h0, .int p0, .ref ho]) ++ List.replicate (4 - (lg_sl ([.ref h0, .int p0, .ref ho])).length) Slot.unset).toArray = ls at hl ⊢
  have hl : lv_has ls 4 [(0, .ref h0), (1, .int p0), (2, .ref ho)] := hl
  refine lv_aload_n hx hb dL_spoiled_0 rfl (lv_at hl 2 rfl) ?_
  refine lv_iconst (v := 0) hx hb dL_spoiled_1 (by decide) ?_
  refine lv_aload_n hx hb dL_spoiled_2 rfl (lv_at hl 0 rfl) ?_
  refine lv_iload_n hx hb dL_spoiled_3 rfl (lv_at hl 1 rfl) ?_
  have hPc := hP.sub (ws' := [(h0, .inr (7, [.ref aH, .ref aB, .ref aJ, .int 0, .int 0, .int 0, .ref rN, .ref rX, .int 0, .int 0, .int 0, .int 0, .int 0, .int 0, .int (-1), .int (-1), .int 0, .int 0, .ref aV]))]) [0] rfl
  have hKc := hK.sub (tys' := []) [] rfl
  refine vx_calli (vx_runV (As := [.int p0]) (rest := [.int 0, .ref ho]) ⟨hx, hb, hml, hown, hts⟩ (t_spoiled l hl0 D eT h0 aH aB aJ rN rX aV p0 s.heap.size ) (cwV 1 hts gL_spoiled_X4_spoiled rfl rfl rfl (by decide +kernel) ⟨Nat.le_of_ble_eq_true rfl, Nat.le_of_ble_eq_true rfl⟩) (pr_v (ci := 7) (q0 := 0) rfl rfl hPc hKc hE hS hA) rfl rfl hl.1 rfl (lv_room (Nat.le_of_ble_eq_true rfl)) dL_spoiled_4 ⟨Nat.le_of_ble_eq_true rfl, Nat.le_of_ble_eq_true rfl⟩) hS (fun q h1 h2 => ro_A h1 h2) (fun q h => ro_F hS hA q h) (fun q h1 h2 => ro_A h1 h2) (fun E ce q9 u t H1 locs ht hvm _ hw hz1 hk1 hS h9 hv9 hc9 => ?_) (fun r u t H1 locs ht hvm hw hB hz1 hk1 hS => hw.elim)
  subst hw
  have hP := ro_P hP hk1
  generalize H1 = H at hP hS h9 ⊢
  refine vx_widen (k := 1) (n := 6) (Nat.le_of_ble_eq_true rfl) (Nat.le_of_ble_eq_true rfl) ?_
  refine vx_catch (E := eIOB) (name := eIOB) hown [] ⟨0, 9, 12, 19⟩ [] (htab.trans rfl) (fun z h => absurd h List.not_mem_nil) (by decide) (by decide) (hts (.classLink RL 19 eIOB) (by decide +kernel)) (va_Nw.use rfl hE.1.2.2.2.2.2.1) h9 hv9 hc9 ?_
  refine W.eq (g2 := F0 m 12 ls [.ref q9]) rfl ?_
  refine lv_astore_n (lv' := [(3, .ref q9), (0, .ref h0), (1, .int p0), (2, .ref ho)]) hx hb dL_spoiled_12 rfl hl (by decide) rfl (fun ls hl => ?_)
  refine lv_iconst (v := 1) hx hb dL_spoiled_13 (by decide) ?_
  have hP9 := hP.sub (ws' := [(ho, .inl (cO, 1, .inr (.inl fo)))]) [1] rfl
  have hD9 := hD.sub (ws' := [(ho, .inl (cO, 1, .inr (.inl fo)))]) [1] (by decide) rfl
  have hK9 := hK.sub (tys' := []) [] rfl
  exact W.iret (v := 1) hx hb hr (fun t ht hW => ⟨⟨1, (), rfl, rfl, ⟨by rw [ht]; exact hP9, va_K.moved hW.alike hK9, hD9⟩⟩, hS.F ht⟩) hS.2.2 dL_spoiled_14
set_option maxHeartbeats 4000000 in
set_option maxRecDepth 100000 in
theorem w_read (l : Launch) (hl0 : l.stackTraces = false) (D : va_G) (eT : Nat) (h0 : Nat) (aH : Nat) (aB : Nat) (aJ : Nat) (rN : Nat) (rX : Nat) (aV : Nat) (ho : Nat) (cO : ClassId) (fo : Nat → Int64) (sz : Nat) : Met l yL_read wsL_read ({ frames := 7, cells := 1, slots := 6, locals := 104 }) (va_Pc [.ref h0, .ref ho] (pc D eT sz [(h0, .inr (7, [.ref aH, .ref aB, .ref aJ, .int 0, .int 0, .int 0, .ref rN, .ref rX, .int 0, .int 0, .int 0, .int 0, .int 0, .int 0, .int (-1), .int (-1), .int 0, .int 0, .ref aV])), (ho, .inl (cO, 1, .inr (.inl fo)))] [(cO, .long)])) (va_Qi (fun (r : Int32) (_ : Unit) => r = 1) (fun _ t => va_P D vwCl [(ho, .inl (cO, 1, .inr (.inl fo)))] t.heap ∧ va_K D vwCl [] t ∧ va_D (va_A [(h0, .inr (7, [.ref aH, .ref aB, .ref aJ, .int 0, .int 0, .int 0, .ref rN, .ref rX, .int 0, .int 0, .int 0, .int 0, .int 0, .int 0, .int (-1), .int (-1), .int 0, .int 0, .ref aV])), (ho, .inl (cO, 1, .inr (.inl fo)))] sz) [(ho, .inl (cO, 1, .inr (.inl fo)))]) (va_A [(h0, .inr (7, [.ref aH, .ref aB, .ref aJ, .int 0, .int 0, .int 0, .ref rN, .ref rX, .int 0, .int 0, .int 0, .int 0, .int 0, .int 0, .int (-1), .int (-1), .int 0, .int 0, .ref aV])), (ho, .inl (cO, 1, .inr (.inl fo)))] sz)) 1 6 (va_A [(h0, .inr (7, [.ref aH, .ref aB, .ref aJ, .int 0, .int 0, .int 0, .ref rN, .ref rX, .int 0, .int 0, .int 0, .int 0, .int 0, .int 0, .int (-1), .int (-1), .int 0, .int 0, .ref aV])), (ho, .inl (cO, 1, .inr (.inl fo)))] sz) := by
  refine va_MetW (cc := cL_read) (maxL := 3) (ret := (some .int)) (by decide +kernel) rfl ?_
  intro p e s m args below meth c s₁ B hml hv
  obtain ⟨rfl, hsz, hP, hK, hD0, hE⟩ := hv
  have hx := B.exec
  have hb := B.bytes
  have hr := B.returns
  have hts := atoms_spec (ws := wsL_read) B.pre
  have hown : s.vm.findClass RL = some m.cls := findClass_of_methodNamed B.named
  have hlocks := B.notSynchronized
  have htab := vx_table (x := yL_read) B (hts _ List.mem_cons_self)
  subst hsz
  have hD := hD0.self (sz := s.heap.size)
  generalize hAe : va_A [(h0, .inr (7, [.ref aH, .ref aB, .ref aJ, .int 0, .int 0, .int 0, .ref rN, .ref rX, .int 0, .int 0, .int 0, .int 0, .int 0, .int 0, .int (-1), .int (-1), .int 0, .int 0, .ref aV])), (ho, .inl (cO, 1, .inr (.inl fo)))] s.heap.size = A at hD hE ⊢
  have hA : ∀ q : Nat, s.heap.size ≤ q → A q := fun q h => by rw [← hAe]; exact Or.inr h
  have hS : va_S A s.heap s.heap [] := va_S.rf
  have hP : va_P D vwCl [(h0, .inr (7, [.ref aH, .ref aB, .ref aJ, .int 0, .int 0, .int 0, .ref rN, .ref rX, .int 0, .int 0, .int 0, .int 0, .int 0, .int 0, .int (-1), .int (-1), .int 0, .int 0, .ref aV])), (ho, .inl (cO, 1, .inr (.inl fo)))] s.heap := hP
  have hl := lv_entry ([.ref h0, .ref ho]) (n := 3) (Nat.le_of_ble_eq_true rfl)
  rw [lg_entry_eq]
  generalize (lg_sl ([.ref h0, .ref ho]) ++ List.replicate (3 - (lg_sl ([.ref h0, .ref ho])).length) Slot.unset).toArray = ls at hl ⊢
  have hl : lv_has ls 3 [(0, .ref h0), (1, .ref ho)] := hl
  refine lv_aload_n hx hb dL_read_0 rfl (lv_at hl 1 rfl) ?_
  refine lv_iconst (v := 0) hx hb dL_read_1 (by decide) ?_
  refine lv_aload_n hx hb dL_read_2 rfl (lv_at hl 0 rfl) ?_
  have hPc := hP.sub (ws' := [(h0, .inr (7, [.ref aH, .ref aB, .ref aJ, .int 0, .int 0, .int 0, .ref rN, .ref rX, .int 0, .int 0, .int 0, .int 0, .int 0, .int 0, .int (-1), .int (-1), .int 0, .int 0, .ref aV]))]) [0] rfl
  have hKc := hK.sub (tys' := []) [] rfl
  refine vx_calli (vx_runV (As := []) (rest := [.int 0, .ref ho]) ⟨hx, hb, hml, hown, hts⟩ (t_read l hl0 D eT h0 aH aB aJ rN rX aV s.heap.size ) (cwV 0 hts gL_read_X4_read rfl rfl rfl (by decide +kernel) ⟨Nat.le_of_ble_eq_true rfl, Nat.le_of_ble_eq_true rfl⟩) (pr_v (ci := 7) (q0 := 0) rfl rfl hPc hKc hE hS hA) rfl rfl hl.1 rfl (lv_room (Nat.le_of_ble_eq_true rfl)) dL_read_3 ⟨Nat.le_of_ble_eq_true rfl, Nat.le_of_ble_eq_true rfl⟩) hS (fun q h1 h2 => ro_A h1 h2) (fun q h => ro_F hS hA q h) (fun q h1 h2 => ro_A h1 h2) (fun E ce q9 u t H1 locs ht hvm _ hw hz1 hk1 hS h9 hv9 hc9 => ?_) (fun r u t H1 locs ht hvm hw hB hz1 hk1 hS => hw.elim)
  subst hw
  have hP := ro_P hP hk1
  generalize H1 = H at hP hS h9 ⊢
  refine vx_widen (k := 1) (n := 6) (Nat.le_of_ble_eq_true rfl) (Nat.le_of_ble_eq_true rfl) ?_
  refine vx_catch (E := eISE) (name := eISE) hown [] ⟨0, 8, 11, 13⟩ [] (htab.trans rfl) (fun z h => absurd h List.not_mem_nil) (by decide) (by decide) (hts (.classLink RL 13 eISE) (by decide +kernel)) (va_Nw.use rfl hE.1.2.2.2.2.1) h9 hv9 hc9 ?_
  refine W.eq (g2 := F0 m 11 ls [.ref q9]) rfl ?_
  refine lv_astore_n (lv' := [(2, .ref q9), (0, .ref h0), (1, .ref ho)]) hx hb dL_read_11 rfl hl (by decide) rfl (fun ls hl => ?_)
  refine lv_iconst (v := 1) hx hb dL_read_12 (by decide) ?_
  have hP9 := hP.sub (ws' := [(ho, .inl (cO, 1, .inr (.inl fo)))]) [1] rfl
  have hD9 := hD.sub (ws' := [(ho, .inl (cO, 1, .inr (.inl fo)))]) [1] (by decide) rfl
  have hK9 := hK.sub (tys' := []) [] rfl
  exact W.iret (v := 1) hx hb hr (fun t ht hW => ⟨⟨1, (), rfl, rfl, ⟨by rw [ht]; exact hP9, va_K.moved hW.alike hK9, hD9⟩⟩, hS.F ht⟩) hS.2.2 dL_read_13
set_option maxHeartbeats 4000000 in
set_option maxRecDepth 100000 in
theorem w_end (l : Launch) (hl0 : l.stackTraces = false) (D : va_G) (eT : Nat) (h0 : Nat) (aH : Nat) (aB : Nat) (aJ : Nat) (rN : Nat) (rX : Nat) (aV : Nat) (ho : Nat) (cO : ClassId) (fo : Nat → Int64) (sz : Nat) : Met l yL_end wsL_end ({ frames := 7, cells := 1, slots := 6, locals := 102 }) (va_Pc [.ref h0, .ref ho] (pc D eT sz [(h0, .inr (7, [.ref aH, .ref aB, .ref aJ, .int 0, .int 0, .int 0, .ref rN, .ref rX, .int 0, .int 0, .int 0, .int 0, .int 0, .int 0, .int (-1), .int (-1), .int 0, .int 0, .ref aV])), (ho, .inl (cO, 1, .inr (.inl fo)))] [(cO, .long)])) (va_Qi (fun (r : Int32) (_ : Unit) => r = 1) (fun _ t => va_P D vwCl [(ho, .inl (cO, 1, .inr (.inl fo)))] t.heap ∧ va_K D vwCl [] t ∧ va_D (va_A [(h0, .inr (7, [.ref aH, .ref aB, .ref aJ, .int 0, .int 0, .int 0, .ref rN, .ref rX, .int 0, .int 0, .int 0, .int 0, .int 0, .int 0, .int (-1), .int (-1), .int 0, .int 0, .ref aV])), (ho, .inl (cO, 1, .inr (.inl fo)))] sz) [(ho, .inl (cO, 1, .inr (.inl fo)))]) (va_A [(h0, .inr (7, [.ref aH, .ref aB, .ref aJ, .int 0, .int 0, .int 0, .ref rN, .ref rX, .int 0, .int 0, .int 0, .int 0, .int 0, .int 0, .int (-1), .int (-1), .int 0, .int 0, .ref aV])), (ho, .inl (cO, 1, .inr (.inl fo)))] sz)) 1 6 (va_A [(h0, .inr (7, [.ref aH, .ref aB, .ref aJ, .int 0, .int 0, .int 0, .ref rN, .ref rX, .int 0, .int 0, .int 0, .int 0, .int 0, .int 0, .int (-1), .int (-1), .int 0, .int 0, .ref aV])), (ho, .inl (cO, 1, .inr (.inl fo)))] sz) := by
  refine va_MetW (cc := cL_end) (maxL := 3) (ret := (some .int)) (by decide +kernel) rfl ?_
  intro p e s m args below meth c s₁ B hml hv
  obtain ⟨rfl, hsz, hP, hK, hD0, hE⟩ := hv
  have hx := B.exec
  have hb := B.bytes
  have hr := B.returns
  have hts := atoms_spec (ws := wsL_end) B.pre
  have hown : s.vm.findClass RL = some m.cls := findClass_of_methodNamed B.named
  have hlocks := B.notSynchronized
  have htab := vx_table (x := yL_end) B (hts _ List.mem_cons_self)
  subst hsz
  have hD := hD0.self (sz := s.heap.size)
  generalize hAe : va_A [(h0, .inr (7, [.ref aH, .ref aB, .ref aJ, .int 0, .int 0, .int 0, .ref rN, .ref rX, .int 0, .int 0, .int 0, .int 0, .int 0, .int 0, .int (-1), .int (-1), .int 0, .int 0, .ref aV])), (ho, .inl (cO, 1, .inr (.inl fo)))] s.heap.size = A at hD hE ⊢
  have hA : ∀ q : Nat, s.heap.size ≤ q → A q := fun q h => by rw [← hAe]; exact Or.inr h
  have hS : va_S A s.heap s.heap [] := va_S.rf
  have hP : va_P D vwCl [(h0, .inr (7, [.ref aH, .ref aB, .ref aJ, .int 0, .int 0, .int 0, .ref rN, .ref rX, .int 0, .int 0, .int 0, .int 0, .int 0, .int 0, .int (-1), .int (-1), .int 0, .int 0, .ref aV])), (ho, .inl (cO, 1, .inr (.inl fo)))] s.heap := hP
  have hl := lv_entry ([.ref h0, .ref ho]) (n := 3) (Nat.le_of_ble_eq_true rfl)
  rw [lg_entry_eq]
  generalize (lg_sl ([.ref h0, .ref ho]) ++ List.replicate (3 - (lg_sl ([.ref h0, .ref ho])).length) Slot.unset).toArray = ls at hl ⊢
  have hl : lv_has ls 3 [(0, .ref h0), (1, .ref ho)] := hl
  refine lv_aload_n hx hb dL_end_0 rfl (lv_at hl 1 rfl) ?_
  refine lv_iconst (v := 0) hx hb dL_end_1 (by decide) ?_
  refine lv_aload_n hx hb dL_end_2 rfl (lv_at hl 0 rfl) ?_
  have hPc := hP.sub (ws' := [(h0, .inr (7, [.ref aH, .ref aB, .ref aJ, .int 0, .int 0, .int 0, .ref rN, .ref rX, .int 0, .int 0, .int 0, .int 0, .int 0, .int 0, .int (-1), .int (-1), .int 0, .int 0, .ref aV]))]) [0] rfl
  have hKc := hK.sub (tys' := []) [] rfl
  refine vx_calli (vx_runV (As := []) (rest := [.int 0, .ref ho]) ⟨hx, hb, hml, hown, hts⟩ (t_end l hl0 D eT h0 aH aB aJ rN rX aV s.heap.size ) (cwV 0 hts gL_end_X4_end rfl rfl rfl (by decide +kernel) ⟨Nat.le_of_ble_eq_true rfl, Nat.le_of_ble_eq_true rfl⟩) (pr_v (ci := 7) (q0 := 0) rfl rfl hPc hKc hE hS hA) rfl rfl hl.1 rfl (lv_room (Nat.le_of_ble_eq_true rfl)) dL_end_3 ⟨Nat.le_of_ble_eq_true rfl, Nat.le_of_ble_eq_true rfl⟩) hS (fun q h1 h2 => ro_A h1 h2) (fun q h => ro_F hS hA q h) (fun q h1 h2 => ro_A h1 h2) (fun E ce q9 u t H1 locs ht hvm _ hw hz1 hk1 hS h9 hv9 hc9 => ?_) (fun r u t H1 locs ht hvm hw hB hz1 hk1 hS => hw.elim)
  subst hw
  have hP := ro_P hP hk1
  generalize H1 = H at hP hS h9 ⊢
  refine vx_widen (k := 1) (n := 6) (Nat.le_of_ble_eq_true rfl) (Nat.le_of_ble_eq_true rfl) ?_
  refine vx_catch (E := eISE) (name := eISE) hown [] ⟨0, 8, 11, 13⟩ [] (htab.trans rfl) (fun z h => absurd h List.not_mem_nil) (by decide) (by decide) (hts (.classLink RL 13 eISE) (by decide +kernel)) (va_Nw.use rfl hE.1.2.2.2.2.1) h9 hv9 hc9 ?_
  refine W.eq (g2 := F0 m 11 ls [.ref q9]) rfl ?_
  refine lv_astore_n (lv' := [(2, .ref q9), (0, .ref h0), (1, .ref ho)]) hx hb dL_end_11 rfl hl (by decide) rfl (fun ls hl => ?_)
  refine lv_iconst (v := 1) hx hb dL_end_12 (by decide) ?_
  have hP9 := hP.sub (ws' := [(ho, .inl (cO, 1, .inr (.inl fo)))]) [1] rfl
  have hD9 := hD.sub (ws' := [(ho, .inl (cO, 1, .inr (.inl fo)))]) [1] (by decide) rfl
  have hK9 := hK.sub (tys' := []) [] rfl
  exact W.iret (v := 1) hx hb hr (fun t ht hW => ⟨⟨1, (), rfl, rfl, ⟨by rw [ht]; exact hP9, va_K.moved hW.alike hK9, hD9⟩⟩, hS.F ht⟩) hS.2.2 dL_end_13
set_option maxHeartbeats 4000000 in
set_option maxRecDepth 100000 in
theorem w_strip (l : Launch) (hl0 : l.stackTraces = false) (D : va_G) (eT : Nat) (h0 : Nat) (aH : Nat) (aB : Nat) (aJ : Nat) (rN : Nat) (rX : Nat) (aV : Nat) (ho : Nat) (cO : ClassId) (fo : Nat → Int64) (sz : Nat) : Met l yL_strip wsL_strip ({ frames := 7, cells := 1, slots := 6, locals := 102 }) (va_Pc [.ref h0, .ref ho] (pc D eT sz [(h0, .inr (7, [.ref aH, .ref aB, .ref aJ, .int 0, .int 0, .int 0, .ref rN, .ref rX, .int 0, .int 0, .int 0, .int 0, .int 0, .int 0, .int (-1), .int (-1), .int 0, .int 0, .ref aV])), (ho, .inl (cO, 1, .inr (.inl fo)))] [(cO, .long)])) (va_Qi (fun (r : Int32) (_ : Unit) => r = 1) (fun _ t => va_P D vwCl [(ho, .inl (cO, 1, .inr (.inl fo)))] t.heap ∧ va_K D vwCl [] t ∧ va_D (va_A [(h0, .inr (7, [.ref aH, .ref aB, .ref aJ, .int 0, .int 0, .int 0, .ref rN, .ref rX, .int 0, .int 0, .int 0, .int 0, .int 0, .int 0, .int (-1), .int (-1), .int 0, .int 0, .ref aV])), (ho, .inl (cO, 1, .inr (.inl fo)))] sz) [(ho, .inl (cO, 1, .inr (.inl fo)))]) (va_A [(h0, .inr (7, [.ref aH, .ref aB, .ref aJ, .int 0, .int 0, .int 0, .ref rN, .ref rX, .int 0, .int 0, .int 0, .int 0, .int 0, .int 0, .int (-1), .int (-1), .int 0, .int 0, .ref aV])), (ho, .inl (cO, 1, .inr (.inl fo)))] sz)) 1 6 (va_A [(h0, .inr (7, [.ref aH, .ref aB, .ref aJ, .int 0, .int 0, .int 0, .ref rN, .ref rX, .int 0, .int 0, .int 0, .int 0, .int 0, .int 0, .int (-1), .int (-1), .int 0, .int 0, .ref aV])), (ho, .inl (cO, 1, .inr (.inl fo)))] sz) := by
  refine va_MetW (cc := cL_strip) (maxL := 3) (ret := (some .int)) (by decide +kernel) rfl ?_
  intro p e s m args below meth c s₁ B hml hv
  obtain ⟨rfl, hsz, hP, hK, hD0, hE⟩ := hv
  have hx := B.exec
  have hb := B.bytes
  have hr := B.returns
  have hts := atoms_spec (ws := wsL_strip) B.pre
  have hown : s.vm.findClass RL = some m.cls := findClass_of_methodNamed B.named
  have hlocks := B.notSynchronized
  have htab := vx_table (x := yL_strip) B (hts _ List.mem_cons_self)
  subst hsz
  have hD := hD0.self (sz := s.heap.size)
  generalize hAe : va_A [(h0, .inr (7, [.ref aH, .ref aB, .ref aJ, .int 0, .int 0, .int 0, .ref rN, .ref rX, .int 0, .int 0, .int 0, .int 0, .int 0, .int 0, .int (-1), .int (-1), .int 0, .int 0, .ref aV])), (ho, .inl (cO, 1, .inr (.inl fo)))] s.heap.size = A at hD hE ⊢
  have hA : ∀ q : Nat, s.heap.size ≤ q → A q := fun q h => by rw [← hAe]; exact Or.inr h
  have hS : va_S A s.heap s.heap [] := va_S.rf
  have hP : va_P D vwCl [(h0, .inr (7, [.ref aH, .ref aB, .ref aJ, .int 0, .int 0, .int 0, .ref rN, .ref rX, .int 0, .int 0, .int 0, .int 0, .int 0, .int 0, .int (-1), .int (-1), .int 0, .int 0, .ref aV])), (ho, .inl (cO, 1, .inr (.inl fo)))] s.heap := hP
  have hl := lv_entry ([.ref h0, .ref ho]) (n := 3) (Nat.le_of_ble_eq_true rfl)
  rw [lg_entry_eq]
  generalize (lg_sl ([.ref h0, .ref ho]) ++ List.replicate (3 - (lg_sl ([.ref h0, .ref ho])).length) Slot.unset).toArray = ls at hl ⊢
  have hl : lv_has ls 3 [(0, .ref h0), (1, .ref ho)] := hl
  refine lv_aload_n hx hb dL_strip_0 rfl (lv_at hl 1 rfl) ?_
  refine lv_iconst (v := 0) hx hb dL_strip_1 (by decide) ?_
  refine lv_aload_n hx hb dL_strip_2 rfl (lv_at hl 0 rfl) ?_
  have hPc := hP.sub (ws' := [(h0, .inr (7, [.ref aH, .ref aB, .ref aJ, .int 0, .int 0, .int 0, .ref rN, .ref rX, .int 0, .int 0, .int 0, .int 0, .int 0, .int 0, .int (-1), .int (-1), .int 0, .int 0, .ref aV]))]) [0] rfl
  have hKc := hK.sub (tys' := []) [] rfl
  refine vx_calli (vx_runV (As := []) (rest := [.int 0, .ref ho]) ⟨hx, hb, hml, hown, hts⟩ (t_strip l hl0 D eT h0 aH aB aJ rN rX aV s.heap.size ) (cwV 0 hts gL_strip_X4_strip rfl rfl rfl (by decide +kernel) ⟨Nat.le_of_ble_eq_true rfl, Nat.le_of_ble_eq_true rfl⟩) (pr_v (ci := 7) (q0 := 0) rfl rfl hPc hKc hE hS hA) rfl rfl hl.1 rfl (lv_room (Nat.le_of_ble_eq_true rfl)) dL_strip_3 ⟨Nat.le_of_ble_eq_true rfl, Nat.le_of_ble_eq_true rfl⟩) hS (fun q h1 h2 => ro_A h1 h2) (fun q h => ro_F hS hA q h) (fun q h1 h2 => ro_A h1 h2) (fun E ce q9 u t H1 locs ht hvm _ hw hz1 hk1 hS h9 hv9 hc9 => ?_) (fun r u t H1 locs ht hvm hw hB hz1 hk1 hS => hw.elim)
  subst hw
  have hP := ro_P hP hk1
  generalize H1 = H at hP hS h9 ⊢
  refine vx_widen (k := 1) (n := 6) (Nat.le_of_ble_eq_true rfl) (Nat.le_of_ble_eq_true rfl) ?_
  refine vx_catch (E := eISE) (name := eISE) hown [] ⟨0, 8, 11, 13⟩ [] (htab.trans rfl) (fun z h => absurd h List.not_mem_nil) (by decide) (by decide) (hts (.classLink RL 13 eISE) (by decide +kernel)) (va_Nw.use rfl hE.1.2.2.2.2.1) h9 hv9 hc9 ?_
  refine W.eq (g2 := F0 m 11 ls [.ref q9]) rfl ?_
  refine lv_astore_n (lv' := [(2, .ref q9), (0, .ref h0), (1, .ref ho)]) hx hb dL_strip_11 rfl hl (by decide) rfl (fun ls hl => ?_)
  refine lv_iconst (v := 1) hx hb dL_strip_12 (by decide) ?_
  have hP9 := hP.sub (ws' := [(ho, .inl (cO, 1, .inr (.inl fo)))]) [1] rfl
  have hD9 := hD.sub (ws' := [(ho, .inl (cO, 1, .inr (.inl fo)))]) [1] (by decide) rfl
  have hK9 := hK.sub (tys' := []) [] rfl
  exact W.iret (v := 1) hx hb hr (fun t ht hW => ⟨⟨1, (), rfl, rfl, ⟨by rw [ht]; exact hP9, va_K.moved hW.alike hK9, hD9⟩⟩, hS.F ht⟩) hS.2.2 dL_strip_13
set_option maxHeartbeats 4000000 in
set_option maxRecDepth 100000 in
theorem w_next (l : Launch) (hl0 : l.stackTraces = false) (D : va_G) (eT : Nat) (h0 : Nat) (aH : Nat) (aB : Nat) (aJ : Nat) (rN : Nat) (rX : Nat) (aV : Nat) (ho : Nat) (cO : ClassId) (fo : Nat → Int64) (sz : Nat) : Met l yL_next wsL_next ({ frames := 7, cells := 1, slots := 6, locals := 103 }) (va_Pc [.ref h0, .ref ho] (pc D eT sz [(h0, .inr (7, [.ref aH, .ref aB, .ref aJ, .int 0, .int 0, .int 0, .ref rN, .ref rX, .int 0, .int 0, .int 0, .int 0, .int 0, .int 0, .int (-1), .int (-1), .int 0, .int 0, .ref aV])), (ho, .inl (cO, 1, .inr (.inl fo)))] [(cO, .long)])) (va_Qi (fun (r : Int32) (_ : Unit) => r = 1) (fun _ t => va_P D vwCl [(ho, .inl (cO, 1, .inr (.inl fo)))] t.heap ∧ va_K D vwCl [] t ∧ va_D (va_A [(h0, .inr (7, [.ref aH, .ref aB, .ref aJ, .int 0, .int 0, .int 0, .ref rN, .ref rX, .int 0, .int 0, .int 0, .int 0, .int 0, .int 0, .int (-1), .int (-1), .int 0, .int 0, .ref aV])), (ho, .inl (cO, 1, .inr (.inl fo)))] sz) [(ho, .inl (cO, 1, .inr (.inl fo)))]) (va_A [(h0, .inr (7, [.ref aH, .ref aB, .ref aJ, .int 0, .int 0, .int 0, .ref rN, .ref rX, .int 0, .int 0, .int 0, .int 0, .int 0, .int 0, .int (-1), .int (-1), .int 0, .int 0, .ref aV])), (ho, .inl (cO, 1, .inr (.inl fo)))] sz)) 1 6 (va_A [(h0, .inr (7, [.ref aH, .ref aB, .ref aJ, .int 0, .int 0, .int 0, .ref rN, .ref rX, .int 0, .int 0, .int 0, .int 0, .int 0, .int 0, .int (-1), .int (-1), .int 0, .int 0, .ref aV])), (ho, .inl (cO, 1, .inr (.inl fo)))] sz) := by
  refine va_MetW (cc := cL_next) (maxL := 3) (ret := (some .int)) (by decide +kernel) rfl ?_
  intro p e s m args below meth c s₁ B hml hv
  obtain ⟨rfl, hsz, hP, hK, hD0, hE⟩ := hv
  have hx := B.exec
  have hb := B.bytes
  have hr := B.returns
  have hts := atoms_spec (ws := wsL_next) B.pre
  have hown : s.vm.findClass RL = some m.cls := findClass_of_methodNamed B.named
  have hlocks := B.notSynchronized
  have htab := vx_table (x := yL_next) B (hts _ List.mem_cons_self)
  subst hsz
  have hD := hD0.self (sz := s.heap.size)
  generalize hAe : va_A [(h0, .inr (7, [.ref aH, .ref aB, .ref aJ, .int 0, .int 0, .int 0, .ref rN, .ref rX, .int 0, .int 0, .int 0, .int 0, .int 0, .int 0, .int (-1), .int (-1), .int 0, .int 0, .ref aV])), (ho, .inl (cO, 1, .inr (.inl fo)))] s.heap.size = A at hD hE ⊢
  have hA : ∀ q : Nat, s.heap.size ≤ q → A q := fun q h => by rw [← hAe]; exact Or.inr h
  have hS : va_S A s.heap s.heap [] := va_S.rf
  have hP : va_P D vwCl [(h0, .inr (7, [.ref aH, .ref aB, .ref aJ, .int 0, .int 0, .int 0, .ref rN, .ref rX, .int 0, .int 0, .int 0, .int 0, .int 0, .int 0, .int (-1), .int (-1), .int 0, .int 0, .ref aV])), (ho, .inl (cO, 1, .inr (.inl fo)))] s.heap := hP
  have hl := lv_entry ([.ref h0, .ref ho]) (n := 3) (Nat.le_of_ble_eq_true rfl)
  rw [lg_entry_eq]
  generalize (lg_sl ([.ref h0, .ref ho]) ++ List.replicate (3 - (lg_sl ([.ref h0, .ref ho])).length) Slot.unset).toArray = ls at hl ⊢
  have hl : lv_has ls 3 [(0, .ref h0), (1, .ref ho)] := hl
  refine lv_aload_n hx hb dL_next_0 rfl (lv_at hl 1 rfl) ?_
  refine lv_iconst (v := 0) hx hb dL_next_1 (by decide) ?_
  refine lv_aload_n hx hb dL_next_2 rfl (lv_at hl 0 rfl) ?_
  have hPc := hP.sub (ws' := [(h0, .inr (7, [.ref aH, .ref aB, .ref aJ, .int 0, .int 0, .int 0, .ref rN, .ref rX, .int 0, .int 0, .int 0, .int 0, .int 0, .int 0, .int (-1), .int (-1), .int 0, .int 0, .ref aV]))]) [0] rfl
  have hKc := hK.sub (tys' := []) [] rfl
  refine vx_calli (vx_runV (As := []) (rest := [.int 0, .ref ho]) ⟨hx, hb, hml, hown, hts⟩ (t_next l hl0 D eT h0 aH aB aJ rN rX aV s.heap.size ) (cwV 0 hts gL_next_X4_next rfl rfl rfl (by decide +kernel) ⟨Nat.le_of_ble_eq_true rfl, Nat.le_of_ble_eq_true rfl⟩) (pr_v (ci := 7) (q0 := 0) rfl rfl hPc hKc hE hS hA) rfl rfl hl.1 rfl (lv_room (Nat.le_of_ble_eq_true rfl)) dL_next_3 ⟨Nat.le_of_ble_eq_true rfl, Nat.le_of_ble_eq_true rfl⟩) hS (fun q h1 h2 => ro_A h1 h2) (fun q h => ro_F hS hA q h) (fun q h1 h2 => ro_A h1 h2) (fun E ce q9 u t H1 locs ht hvm _ hw hz1 hk1 hS h9 hv9 hc9 => ?_) (fun r u t H1 locs ht hvm hw hB hz1 hk1 hS => hw.elim)
  subst hw
  have hP := ro_P hP hk1
  generalize H1 = H at hP hS h9 ⊢
  refine vx_widen (k := 1) (n := 6) (Nat.le_of_ble_eq_true rfl) (Nat.le_of_ble_eq_true rfl) ?_
  refine vx_catch (E := eISE) (name := eISE) hown [] ⟨0, 8, 11, 13⟩ [] (htab.trans rfl) (fun z h => absurd h List.not_mem_nil) (by decide) (by decide) (hts (.classLink RL 13 eISE) (by decide +kernel)) (va_Nw.use rfl hE.1.2.2.2.2.1) h9 hv9 hc9 ?_
  refine W.eq (g2 := F0 m 11 ls [.ref q9]) rfl ?_
  refine lv_astore_n (lv' := [(2, .ref q9), (0, .ref h0), (1, .ref ho)]) hx hb dL_next_11 rfl hl (by decide) rfl (fun ls hl => ?_)
  refine lv_iconst (v := 1) hx hb dL_next_12 (by decide) ?_
  have hP9 := hP.sub (ws' := [(ho, .inl (cO, 1, .inr (.inl fo)))]) [1] rfl
  have hD9 := hD.sub (ws' := [(ho, .inl (cO, 1, .inr (.inl fo)))]) [1] (by decide) rfl
  have hK9 := hK.sub (tys' := []) [] rfl
  exact W.iret (v := 1) hx hb hr (fun t ht hW => ⟨⟨1, (), rfl, rfl, ⟨by rw [ht]; exact hP9, va_K.moved hW.alike hK9, hD9⟩⟩, hS.F ht⟩) hS.2.2 dL_next_13
set_option maxHeartbeats 4000000 in
set_option maxRecDepth 100000 in
theorem w_longList_f (l : Launch) (hl0 : l.stackTraces = false) (D : va_G) (eT : Nat) (h0 : Nat) (aH : Nat) (aB : Nat) (aJ : Nat) (rN : Nat) (rX : Nat) (aV : Nat) (ho : Nat) (cO : ClassId) (fo : Nat → Int64) (p0 : Int32) (sz : Nat) (hn : ¬ (3 ≤ p0 ∧ p0 ≤ 8)) : Met l yL_longList wsL_longList ({ frames := 7, cells := 1, slots := 6, locals := 103 }) (va_Pc [.ref h0, .int p0, .ref ho] (pc D eT sz [(h0, .inr (7, [.ref aH, .ref aB, .ref aJ, .int 0, .int 0, .int 0, .ref rN, .ref rX, .int 0, .int 0, .int 0, .int 0, .int 0, .int 0, .int (-1), .int (-1), .int 0, .int 0, .ref aV])), (ho, .inl (cO, 1, .inr (.inl fo)))] [(cO, .long)])) (va_Qi (fun (r : Int32) (_ : Unit) => r = 1) (fun _ t => va_P D vwCl [(ho, .inl (cO, 1, .inr (.inl fo)))] t.heap ∧ va_K D vwCl [] t ∧ va_D (va_A [(h0, .inr (7, [.ref aH, .ref aB, .ref aJ, .int 0, .int 0, .int 0, .ref rN, .ref rX, .int 0, .int 0, .int 0, .int 0, .int 0, .int 0, .int (-1), .int (-1), .int 0, .int 0, .ref aV])), (ho, .inl (cO, 1, .inr (.inl fo)))] sz) [(ho, .inl (cO, 1, .inr (.inl fo)))]) (va_A [(h0, .inr (7, [.ref aH, .ref aB, .ref aJ, .int 0, .int 0, .int 0, .ref rN, .ref rX, .int 0, .int 0, .int 0, .int 0, .int 0, .int 0, .int (-1), .int (-1), .int 0, .int 0, .ref aV])), (ho, .inl (cO, 1, .inr (.inl fo)))] sz)) 1 6 (va_A [(h0, .inr (7, [.ref aH, .ref aB, .ref aJ, .int 0, .int 0, .int 0, .ref rN, .ref rX, .int 0, .int 0, .int 0, .int 0, .int 0, .int 0, .int (-1), .int (-1), .int 0, .int 0, .ref aV])), (ho, .inl (cO, 1, .inr (.inl fo)))] sz) := by
  refine va_MetW (cc := cL_longList) (maxL := 4) (ret := (some .int)) (by decide +kernel) rfl ?_
  intro p e s m args below meth c s₁ B hml hv
  obtain ⟨rfl, hsz, hP, hK, hD0, hE⟩ := hv
  have hx := B.exec
  have hb := B.bytes
  have hr := B.returns
  have hts := atoms_spec (ws := wsL_longList) B.pre
  have hown : s.vm.findClass RL = some m.cls := findClass_of_methodNamed B.named
  have hlocks := B.notSynchronized
  have htab := vx_table (x := yL_longList) B (hts _ List.mem_cons_self)
  subst hsz
  have hD := hD0.self (sz := s.heap.size)
  generalize hAe : va_A [(h0, .inr (7, [.ref aH, .ref aB, .ref aJ, .int 0, .int 0, .int 0, .ref rN, .ref rX, .int 0, .int 0, .int 0, .int 0, .int 0, .int 0, .int (-1), .int (-1), .int 0, .int 0, .ref aV])), (ho, .inl (cO, 1, .inr (.inl fo)))] s.heap.size = A at hD hE ⊢
  have hA : ∀ q : Nat, s.heap.size ≤ q → A q := fun q h => by rw [← hAe]; exact Or.inr h
  have hS : va_S A s.heap s.heap [] := va_S.rf
  have hP : va_P D vwCl [(h0, .inr (7, [.ref aH, .ref aB, .ref aJ, .int 0, .int 0, .int 0, .ref rN, .ref rX, .int 0, .int 0, .int 0, .int 0, .int 0, .int 0, .int (-1), .int (-1), .int 0, .int 0, .ref aV])), (ho, .inl (cO, 1, .inr (.inl fo)))] s.heap := hP
  have hl := lv_entry ([.ref h0, .int p0, .ref ho]) (n := 4) (Nat.le_of_ble_eq_true rfl)
  rw [lg_entry_eq]
  generalize (lg_sl ([.ref h0, .int p0, .ref ho]) ++ List.replicate (4 - (lg_sl ([.ref h0, .int p0, .ref ho])).length) Slot.unset).toArray = ls at hl ⊢
  have hl : lv_has ls 4 [(0, .ref h0), (1, .int p0), (2, .ref ho)] := hl
  refine lv_aload_n hx hb dL_longList_0 rfl (lv_at hl 2 rfl) ?_
  refine lv_iconst (v := 0) hx hb dL_longList_1 (by decide) ?_
  refine lv_aload_n hx hb dL_longList_2 rfl (lv_at hl 0 rfl) ?_
  refine lv_iload_n hx hb dL_longList_3 rfl (lv_at hl 1 rfl) ?_
  have hPc := hP.sub (ws' := [(h0, .inr (7, [.ref aH, .ref aB, .ref aJ, .int 0, .int 0, .int 0, .ref rN, .ref rX, .int 0, .int 0, .int 0, .int 0, .int 0, .int 0, .int (-1), .int (-1), .int 0, .int 0, .ref aV]))]) [0] rfl
  have hKc := hK.sub (tys' := []) [] rfl
  refine vx_calli (vx_runV (As := [.int p0]) (rest := [.int 0, .ref ho]) ⟨hx, hb, hml, hown, hts⟩ (t_longList_f l hl0 D eT h0 aH aB aJ rN rX aV p0 s.heap.size hn) (cwV 1 hts gL_longList_X4_longList rfl rfl rfl (by decide +kernel) ⟨Nat.le_of_ble_eq_true rfl, Nat.le_of_ble_eq_true rfl⟩) (pr_v (ci := 7) (q0 := 0) rfl rfl hPc hKc hE hS hA) rfl rfl hl.1 rfl (lv_room (Nat.le_of_ble_eq_true rfl)) dL_longList_4 ⟨Nat.le_of_ble_eq_true rfl, Nat.le_of_ble_eq_true rfl⟩) hS (fun q h1 h2 => ro_A h1 h2) (fun q h => ro_F hS hA q h) (fun q h1 h2 => ro_A h1 h2) (fun E ce q9 u t H1 locs ht hvm _ hw hz1 hk1 hS h9 hv9 hc9 => ?_) (fun r u t H1 locs ht hvm hw hB hz1 hk1 hS => hw.elim)
  subst hw
  have hP := ro_P hP hk1
  generalize H1 = H at hP hS h9 ⊢
  refine vx_widen (k := 1) (n := 6) (Nat.le_of_ble_eq_true rfl) (Nat.le_of_ble_eq_true rfl) ?_
  refine vx_catch (E := eIAE) (name := eIAE) hown [] ⟨0, 9, 12, 21⟩ [⟨0, 9, 15, 13⟩] (htab.trans rfl) (fun z h => absurd h List.not_mem_nil) (by decide) (by decide) (hts (.classLink RL 21 eIAE) (by decide +kernel)) (va_Nw.use rfl hE.1.2.2.2.2.2.2.1) h9 hv9 hc9 ?_
  refine W.eq (g2 := F0 m 12 ls [.ref q9]) rfl ?_
  refine lv_astore_n (lv' := [(3, .ref q9), (0, .ref h0), (1, .int p0), (2, .ref ho)]) hx hb dL_longList_12 rfl hl (by decide) rfl (fun ls hl => ?_)
  refine lv_iconst (v := 1) hx hb dL_longList_13 (by decide) ?_
  have hP9 := hP.sub (ws' := [(ho, .inl (cO, 1, .inr (.inl fo)))]) [1] rfl
  have hD9 := hD.sub (ws' := [(ho, .inl (cO, 1, .inr (.inl fo)))]) [1] (by decide) rfl
  have hK9 := hK.sub (tys' := []) [] rfl
  exact W.iret (v := 1) hx hb hr (fun t ht hW => ⟨⟨1, (), rfl, rfl, ⟨by rw [ht]; exact hP9, va_K.moved hW.alike hK9, hD9⟩⟩, hS.F ht⟩) hS.2.2 dL_longList_14
set_option maxHeartbeats 4000000 in
set_option maxRecDepth 100000 in
theorem w_shortList_f (l : Launch) (hl0 : l.stackTraces = false) (D : va_G) (eT : Nat) (h0 : Nat) (aH : Nat) (aB : Nat) (aJ : Nat) (rN : Nat) (rX : Nat) (aV : Nat) (ho : Nat) (cO : ClassId) (fo : Nat → Int64) (p0 : Int32) (sz : Nat) (hn : ¬ (2 ≤ p0 ∧ p0 ≤ 5)) : Met l yL_shortList wsL_shortList ({ frames := 7, cells := 1, slots := 6, locals := 103 }) (va_Pc [.ref h0, .int p0, .ref ho] (pc D eT sz [(h0, .inr (7, [.ref aH, .ref aB, .ref aJ, .int 0, .int 0, .int 0, .ref rN, .ref rX, .int 0, .int 0, .int 0, .int 0, .int 0, .int 0, .int (-1), .int (-1), .int 0, .int 0, .ref aV])), (ho, .inl (cO, 1, .inr (.inl fo)))] [(cO, .long)])) (va_Qi (fun (r : Int32) (_ : Unit) => r = 1) (fun _ t => va_P D vwCl [(ho, .inl (cO, 1, .inr (.inl fo)))] t.heap ∧ va_K D vwCl [] t ∧ va_D (va_A [(h0, .inr (7, [.ref aH, .ref aB, .ref aJ, .int 0, .int 0, .int 0, .ref rN, .ref rX, .int 0, .int 0, .int 0, .int 0, .int 0, .int 0, .int (-1), .int (-1), .int 0, .int 0, .ref aV])), (ho, .inl (cO, 1, .inr (.inl fo)))] sz) [(ho, .inl (cO, 1, .inr (.inl fo)))]) (va_A [(h0, .inr (7, [.ref aH, .ref aB, .ref aJ, .int 0, .int 0, .int 0, .ref rN, .ref rX, .int 0, .int 0, .int 0, .int 0, .int 0, .int 0, .int (-1), .int (-1), .int 0, .int 0, .ref aV])), (ho, .inl (cO, 1, .inr (.inl fo)))] sz)) 1 6 (va_A [(h0, .inr (7, [.ref aH, .ref aB, .ref aJ, .int 0, .int 0, .int 0, .ref rN, .ref rX, .int 0, .int 0, .int 0, .int 0, .int 0, .int 0, .int (-1), .int (-1), .int 0, .int 0, .ref aV])), (ho, .inl (cO, 1, .inr (.inl fo)))] sz) := by
  refine va_MetW (cc := cL_shortList) (maxL := 4) (ret := (some .int)) (by decide +kernel) rfl ?_
  intro p e s m args below meth c s₁ B hml hv
  obtain ⟨rfl, hsz, hP, hK, hD0, hE⟩ := hv
  have hx := B.exec
  have hb := B.bytes
  have hr := B.returns
  have hts := atoms_spec (ws := wsL_shortList) B.pre
  have hown : s.vm.findClass RL = some m.cls := findClass_of_methodNamed B.named
  have hlocks := B.notSynchronized
  have htab := vx_table (x := yL_shortList) B (hts _ List.mem_cons_self)
  subst hsz
  have hD := hD0.self (sz := s.heap.size)
  generalize hAe : va_A [(h0, .inr (7, [.ref aH, .ref aB, .ref aJ, .int 0, .int 0, .int 0, .ref rN, .ref rX, .int 0, .int 0, .int 0, .int 0, .int 0, .int 0, .int (-1), .int (-1), .int 0, .int 0, .ref aV])), (ho, .inl (cO, 1, .inr (.inl fo)))] s.heap.size = A at hD hE ⊢
  have hA : ∀ q : Nat, s.heap.size ≤ q → A q := fun q h => by rw [← hAe]; exact Or.inr h
  have hS : va_S A s.heap s.heap [] := va_S.rf
  have hP : va_P D vwCl [(h0, .inr (7, [.ref aH, .ref aB, .ref aJ, .int 0, .int 0, .int 0, .ref rN, .ref rX, .int 0, .int 0, .int 0, .int 0, .int 0, .int 0, .int (-1), .int (-1), .int 0, .int 0, .ref aV])), (ho, .inl (cO, 1, .inr (.inl fo)))] s.heap := hP
  have hl := lv_entry ([.ref h0, .int p0, .ref ho]) (n := 4) (Nat.le_of_ble_eq_true rfl)
  rw [lg_entry_eq]
  generalize (lg_sl ([.ref h0, .int p0, .ref ho]) ++ List.replicate (4 - (lg_sl ([.ref h0, .int p0, .ref ho])).length) Slot.unset).toArray = ls at hl ⊢
  have hl : lv_has ls 4 [(0, .ref h0), (1, .int p0), (2, .ref ho)] := hl
  refine lv_aload_n hx hb dL_shortList_0 rfl (lv_at hl 2 rfl) ?_
  refine lv_iconst (v := 0) hx hb dL_shortList_1 (by decide) ?_
  refine lv_aload_n hx hb dL_shortList_2 rfl (lv_at hl 0 rfl) ?_
  refine lv_iload_n hx hb dL_shortList_3 rfl (lv_at hl 1 rfl) ?_
  have hPc := hP.sub (ws' := [(h0, .inr (7, [.ref aH, .ref aB, .ref aJ, .int 0, .int 0, .int 0, .ref rN, .ref rX, .int 0, .int 0, .int 0, .int 0, .int 0, .int 0, .int (-1), .int (-1), .int 0, .int 0, .ref aV]))]) [0] rfl
  have hKc := hK.sub (tys' := []) [] rfl
  refine vx_calli (vx_runV (As := [.int p0]) (rest := [.int 0, .ref ho]) ⟨hx, hb, hml, hown, hts⟩ (t_shortList_f l hl0 D eT h0 aH aB aJ rN rX aV p0 s.heap.size hn) (cwV 1 hts gL_shortList_X4_shortList rfl rfl rfl (by decide +kernel) ⟨Nat.le_of_ble_eq_true rfl, Nat.le_of_ble_eq_true rfl⟩) (pr_v (ci := 7) (q0 := 0) rfl rfl hPc hKc hE hS hA) rfl rfl hl.1 rfl (lv_room (Nat.le_of_ble_eq_true rfl)) dL_shortList_4 ⟨Nat.le_of_ble_eq_true rfl, Nat.le_of_ble_eq_true rfl⟩) hS (fun q h1 h2 => ro_A h1 h2) (fun q h => ro_F hS hA q h) (fun q h1 h2 => ro_A h1 h2) (fun E ce q9 u t H1 locs ht hvm _ hw hz1 hk1 hS h9 hv9 hc9 => ?_) (fun r u t H1 locs ht hvm hw hB hz1 hk1 hS => hw.elim)
  subst hw
  have hP := ro_P hP hk1
  generalize H1 = H at hP hS h9 ⊢
  refine vx_widen (k := 1) (n := 6) (Nat.le_of_ble_eq_true rfl) (Nat.le_of_ble_eq_true rfl) ?_
  refine vx_catch (E := eIAE) (name := eIAE) hown [] ⟨0, 9, 12, 21⟩ [⟨0, 9, 15, 13⟩] (htab.trans rfl) (fun z h => absurd h List.not_mem_nil) (by decide) (by decide) (hts (.classLink RL 21 eIAE) (by decide +kernel)) (va_Nw.use rfl hE.1.2.2.2.2.2.2.1) h9 hv9 hc9 ?_
  refine W.eq (g2 := F0 m 12 ls [.ref q9]) rfl ?_
  refine lv_astore_n (lv' := [(3, .ref q9), (0, .ref h0), (1, .int p0), (2, .ref ho)]) hx hb dL_shortList_12 rfl hl (by decide) rfl (fun ls hl => ?_)
  refine lv_iconst (v := 1) hx hb dL_shortList_13 (by decide) ?_
  have hP9 := hP.sub (ws' := [(ho, .inl (cO, 1, .inr (.inl fo)))]) [1] rfl
  have hD9 := hD.sub (ws' := [(ho, .inl (cO, 1, .inr (.inl fo)))]) [1] (by decide) rfl
  have hK9 := hK.sub (tys' := []) [] rfl
  exact W.iret (v := 1) hx hb hr (fun t ht hW => ⟨⟨1, (), rfl, rfl, ⟨by rw [ht]; exact hP9, va_K.moved hW.alike hK9, hD9⟩⟩, hS.F ht⟩) hS.2.2 dL_shortList_14
set_option maxHeartbeats 4000000 in
set_option maxRecDepth 100000 in
theorem w_pass_f (l : Launch) (hl0 : l.stackTraces = false) (D : va_G) (eT : Nat) (h0 : Nat) (aH : Nat) (aB : Nat) (aJ : Nat) (rN : Nat) (rX : Nat) (aV : Nat) (ho : Nat) (cO : ClassId) (fo : Nat → Int64) (p0 : Int32) (sz : Nat) (hn : ¬ (1 ≤ p0 ∧ p0 ≤ 60)) : Met l yL_pass wsL_pass ({ frames := 7, cells := 1, slots := 6, locals := 105 }) (va_Pc [.ref h0, .int p0, .ref ho] (pc D eT sz [(h0, .inr (7, [.ref aH, .ref aB, .ref aJ, .int 0, .int 0, .int 0, .ref rN, .ref rX, .int 0, .int 0, .int 0, .int 0, .int 0, .int 0, .int (-1), .int (-1), .int 0, .int 0, .ref aV])), (ho, .inl (cO, 1, .inr (.inl fo)))] [(cO, .long)])) (va_Qi (fun (r : Int32) (_ : Unit) => r = 1) (fun _ t => va_P D vwCl [(ho, .inl (cO, 1, .inr (.inl fo)))] t.heap ∧ va_K D vwCl [] t ∧ va_D (va_A [(h0, .inr (7, [.ref aH, .ref aB, .ref aJ, .int 0, .int 0, .int 0, .ref rN, .ref rX, .int 0, .int 0, .int 0, .int 0, .int 0, .int 0, .int (-1), .int (-1), .int 0, .int 0, .ref aV])), (ho, .inl (cO, 1, .inr (.inl fo)))] sz) [(ho, .inl (cO, 1, .inr (.inl fo)))]) (va_A [(h0, .inr (7, [.ref aH, .ref aB, .ref aJ, .int 0, .int 0, .int 0, .ref rN, .ref rX, .int 0, .int 0, .int 0, .int 0, .int 0, .int 0, .int (-1), .int (-1), .int 0, .int 0, .ref aV])), (ho, .inl (cO, 1, .inr (.inl fo)))] sz)) 1 6 (va_A [(h0, .inr (7, [.ref aH, .ref aB, .ref aJ, .int 0, .int 0, .int 0, .ref rN, .ref rX, .int 0, .int 0, .int 0, .int 0, .int 0, .int 0, .int (-1), .int (-1), .int 0, .int 0, .ref aV])), (ho, .inl (cO, 1, .inr (.inl fo)))] sz) := by
  refine va_MetW (cc := cL_pass) (maxL := 4) (ret := (some .int)) (by decide +kernel) rfl ?_
  intro p e s m args below meth c s₁ B hml hv
  obtain ⟨rfl, hsz, hP, hK, hD0, hE⟩ := hv
  have hx := B.exec
  have hb := B.bytes
  have hr := B.returns
  have hts := atoms_spec (ws := wsL_pass) B.pre
  have hown : s.vm.findClass RL = some m.cls := findClass_of_methodNamed B.named
  have hlocks := B.notSynchronized
  have htab := vx_table (x := yL_pass) B (hts _ List.mem_cons_self)
  subst hsz
  have hD := hD0.self (sz := s.heap.size)
  generalize hAe : va_A [(h0, .inr (7, [.ref aH, .ref aB, .ref aJ, .int 0, .int 0, .int 0, .ref rN, .ref rX, .int 0, .int 0, .int 0, .int 0, .int 0, .int 0, .int (-1), .int (-1), .int 0, .int 0, .ref aV])), (ho, .inl (cO, 1, .inr (.inl fo)))] s.heap.size = A at hD hE ⊢
  have hA : ∀ q : Nat, s.heap.size ≤ q → A q := fun q h => by rw [← hAe]; exact Or.inr h
  have hS : va_S A s.heap s.heap [] := va_S.rf
  have hP : va_P D vwCl [(h0, .inr (7, [.ref aH, .ref aB, .ref aJ, .int 0, .int 0, .int 0, .ref rN, .ref rX, .int 0, .int 0, .int 0, .int 0, .int 0, .int 0, .int (-1), .int (-1), .int 0, .int 0, .ref aV])), (ho, .inl (cO, 1, .inr (.inl fo)))] s.heap := hP
  have hl := lv_entry ([.ref h0, .int p0, .ref ho]) (n := 4) (Nat.le_of_ble_eq_true rfl)
  rw [lg_entry_eq]
  generalize (lg_sl ([.ref h0, .int p0, .ref ho]) ++ List.replicate (4 - (lg_sl ([.ref h0, .int p0, .ref ho])).length) Slot.unset).toArray = ls at hl ⊢
  have hl : lv_has ls 4 [(0, .ref h0), (1, .int p0), (2, .ref ho)] := hl
  refine lv_aload_n hx hb dL_pass_0 rfl (lv_at hl 2 rfl) ?_
  refine lv_iconst (v := 0) hx hb dL_pass_1 (by decide) ?_
  refine lv_aload_n hx hb dL_pass_2 rfl (lv_at hl 0 rfl) ?_
  refine lv_iload_n hx hb dL_pass_3 rfl (lv_at hl 1 rfl) ?_
  have hPc := hP.sub (ws' := [(h0, .inr (7, [.ref aH, .ref aB, .ref aJ, .int 0, .int 0, .int 0, .ref rN, .ref rX, .int 0, .int 0, .int 0, .int 0, .int 0, .int 0, .int (-1), .int (-1), .int 0, .int 0, .ref aV]))]) [0] rfl
  have hKc := hK.sub (tys' := []) [] rfl
  refine vx_calli (vx_runV (As := [.int p0]) (rest := [.int 0, .ref ho]) ⟨hx, hb, hml, hown, hts⟩ (t_pass_f l hl0 D eT h0 aH aB aJ rN rX aV p0 s.heap.size hn) (cwV 1 hts gL_pass_X4_pass rfl rfl rfl (by decide +kernel) ⟨Nat.le_of_ble_eq_true rfl, Nat.le_of_ble_eq_true rfl⟩) (pr_v (ci := 7) (q0 := 0) rfl rfl hPc hKc hE hS hA) rfl rfl hl.1 rfl (lv_room (Nat.le_of_ble_eq_true rfl)) dL_pass_4 ⟨Nat.le_of_ble_eq_true rfl, Nat.le_of_ble_eq_true rfl⟩) hS (fun q h1 h2 => ro_A h1 h2) (fun q h => ro_F hS hA q h) (fun q h1 h2 => ro_A h1 h2) (fun E ce q9 u t H1 locs ht hvm _ hw hz1 hk1 hS h9 hv9 hc9 => ?_) (fun r u t H1 locs ht hvm hw hB hz1 hk1 hS => hw.elim)
  subst hw
  have hP := ro_P hP hk1
  generalize H1 = H at hP hS h9 ⊢
  refine vx_widen (k := 1) (n := 6) (Nat.le_of_ble_eq_true rfl) (Nat.le_of_ble_eq_true rfl) ?_
  refine vx_catch (E := eIAE) (name := eIAE) hown [] ⟨0, 9, 12, 21⟩ [⟨0, 9, 15, 13⟩] (htab.trans rfl) (fun z h => absurd h List.not_mem_nil) (by decide) (by decide) (hts (.classLink RL 21 eIAE) (by decide +kernel)) (va_Nw.use rfl hE.1.2.2.2.2.2.2.1) h9 hv9 hc9 ?_
  refine W.eq (g2 := F0 m 12 ls [.ref q9]) rfl ?_
  refine lv_astore_n (lv' := [(3, .ref q9), (0, .ref h0), (1, .int p0), (2, .ref ho)]) hx hb dL_pass_12 rfl hl (by decide) rfl (fun ls hl => ?_)
  refine lv_iconst (v := 1) hx hb dL_pass_13 (by decide) ?_
  have hP9 := hP.sub (ws' := [(ho, .inl (cO, 1, .inr (.inl fo)))]) [1] rfl
  have hD9 := hD.sub (ws' := [(ho, .inl (cO, 1, .inr (.inl fo)))]) [1] (by decide) rfl
  have hK9 := hK.sub (tys' := []) [] rfl
  exact W.iret (v := 1) hx hb hr (fun t ht hW => ⟨⟨1, (), rfl, rfl, ⟨by rw [ht]; exact hP9, va_K.moved hW.alike hK9, hD9⟩⟩, hS.F ht⟩) hS.2.2 dL_pass_14
set_option maxHeartbeats 4000000 in
set_option maxRecDepth 100000 in
theorem w_wins_f (l : Launch) (hl0 : l.stackTraces = false) (D : va_G) (eT : Nat) (h0 : Nat) (aH : Nat) (aB : Nat) (aJ : Nat) (rN : Nat) (rX : Nat) (aV : Nat) (ho : Nat) (cO : ClassId) (fo : Nat → Int64) (p0 : Int32) (sz : Nat) (hn : ¬ (0 ≤ p0 ∧ p0 ≤ 31)) : Met l yL_wins wsL_wins ({ frames := 7, cells := 1, slots := 6, locals := 103 }) (va_Pc [.ref h0, .int p0, .ref ho] (pc D eT sz [(h0, .inr (7, [.ref aH, .ref aB, .ref aJ, .int 0, .int 0, .int 0, .ref rN, .ref rX, .int 0, .int 0, .int 0, .int 0, .int 0, .int 0, .int (-1), .int (-1), .int 0, .int 0, .ref aV])), (ho, .inl (cO, 1, .inr (.inl fo)))] [(cO, .long)])) (va_Qi (fun (r : Int32) (_ : Unit) => r = 1) (fun _ t => va_P D vwCl [(ho, .inl (cO, 1, .inr (.inl fo)))] t.heap ∧ va_K D vwCl [] t ∧ va_D (va_A [(h0, .inr (7, [.ref aH, .ref aB, .ref aJ, .int 0, .int 0, .int 0, .ref rN, .ref rX, .int 0, .int 0, .int 0, .int 0, .int 0, .int 0, .int (-1), .int (-1), .int 0, .int 0, .ref aV])), (ho, .inl (cO, 1, .inr (.inl fo)))] sz) [(ho, .inl (cO, 1, .inr (.inl fo)))]) (va_A [(h0, .inr (7, [.ref aH, .ref aB, .ref aJ, .int 0, .int 0, .int 0, .ref rN, .ref rX, .int 0, .int 0, .int 0, .int 0, .int 0, .int 0, .int (-1), .int (-1), .int 0, .int 0, .ref aV])), (ho, .inl (cO, 1, .inr (.inl fo)))] sz)) 1 6 (va_A [(h0, .inr (7, [.ref aH, .ref aB, .ref aJ, .int 0, .int 0, .int 0, .ref rN, .ref rX, .int 0, .int 0, .int 0, .int 0, .int 0, .int 0, .int (-1), .int (-1), .int 0, .int 0, .ref aV])), (ho, .inl (cO, 1, .inr (.inl fo)))] sz) := by
  refine va_MetW (cc := cL_wins) (maxL := 4) (ret := (some .int)) (by decide +kernel) rfl ?_
  intro p e s m args below meth c s₁ B hml hv
  obtain ⟨rfl, hsz, hP, hK, hD0, hE⟩ := hv
  have hx := B.exec
  have hb := B.bytes
  have hr := B.returns
  have hts := atoms_spec (ws := wsL_wins) B.pre
  have hown : s.vm.findClass RL = some m.cls := findClass_of_methodNamed B.named
  have hlocks := B.notSynchronized
  have htab := vx_table (x := yL_wins) B (hts _ List.mem_cons_self)
  subst hsz
  have hD := hD0.self (sz := s.heap.size)
  generalize hAe : va_A [(h0, .inr (7, [.ref aH, .ref aB, .ref aJ, .int 0, .int 0, .int 0, .ref rN, .ref rX, .int 0, .int 0, .int 0, .int 0, .int 0, .int 0, .int (-1), .int (-1), .int 0, .int 0, .ref aV])), (ho, .inl (cO, 1, .inr (.inl fo)))] s.heap.size = A at hD hE ⊢
  have hA : ∀ q : Nat, s.heap.size ≤ q → A q := fun q h => by rw [← hAe]; exact Or.inr h
  have hS : va_S A s.heap s.heap [] := va_S.rf
  have hP : va_P D vwCl [(h0, .inr (7, [.ref aH, .ref aB, .ref aJ, .int 0, .int 0, .int 0, .ref rN, .ref rX, .int 0, .int 0, .int 0, .int 0, .int 0, .int 0, .int (-1), .int (-1), .int 0, .int 0, .ref aV])), (ho, .inl (cO, 1, .inr (.inl fo)))] s.heap := hP
  have hl := lv_entry ([.ref h0, .int p0, .ref ho]) (n := 4) (Nat.le_of_ble_eq_true rfl)
  rw [lg_entry_eq]
  generalize (lg_sl ([.ref h0, .int p0, .ref ho]) ++ List.replicate (4 - (lg_sl ([.ref h0, .int p0, .ref ho])).length) Slot.unset).toArray = ls at hl ⊢
  have hl : lv_has ls 4 [(0, .ref h0), (1, .int p0), (2, .ref ho)] := hl
  refine lv_aload_n hx hb dL_wins_0 rfl (lv_at hl 2 rfl) ?_
  refine lv_iconst (v := 0) hx hb dL_wins_1 (by decide) ?_
  refine lv_aload_n hx hb dL_wins_2 rfl (lv_at hl 0 rfl) ?_
  refine lv_iload_n hx hb dL_wins_3 rfl (lv_at hl 1 rfl) ?_
  have hPc := hP.sub (ws' := [(h0, .inr (7, [.ref aH, .ref aB, .ref aJ, .int 0, .int 0, .int 0, .ref rN, .ref rX, .int 0, .int 0, .int 0, .int 0, .int 0, .int 0, .int (-1), .int (-1), .int 0, .int 0, .ref aV]))]) [0] rfl
  have hKc := hK.sub (tys' := []) [] rfl
  refine vx_calli (vx_runV (As := [.int p0]) (rest := [.int 0, .ref ho]) ⟨hx, hb, hml, hown, hts⟩ (t_wins_f l hl0 D eT h0 aH aB aJ rN rX aV p0 s.heap.size hn) (cwV 1 hts gL_wins_X4_wins rfl rfl rfl (by decide +kernel) ⟨Nat.le_of_ble_eq_true rfl, Nat.le_of_ble_eq_true rfl⟩) (pr_v (ci := 7) (q0 := 0) rfl rfl hPc hKc hE hS hA) rfl rfl hl.1 rfl (lv_room (Nat.le_of_ble_eq_true rfl)) dL_wins_4 ⟨Nat.le_of_ble_eq_true rfl, Nat.le_of_ble_eq_true rfl⟩) hS (fun q h1 h2 => ro_A h1 h2) (fun q h => ro_F hS hA q h) (fun q h1 h2 => ro_A h1 h2) (fun E ce q9 u t H1 locs ht hvm _ hw hz1 hk1 hS h9 hv9 hc9 => ?_) (fun r u t H1 locs ht hvm hw hB hz1 hk1 hS => hw.elim)
  subst hw
  have hP := ro_P hP hk1
  generalize H1 = H at hP hS h9 ⊢
  refine vx_widen (k := 1) (n := 6) (Nat.le_of_ble_eq_true rfl) (Nat.le_of_ble_eq_true rfl) ?_
  refine vx_catch (E := eIAE) (name := eIAE) hown [] ⟨0, 9, 12, 21⟩ [] (htab.trans rfl) (fun z h => absurd h List.not_mem_nil) (by decide) (by decide) (hts (.classLink RL 21 eIAE) (by decide +kernel)) (va_Nw.use rfl hE.1.2.2.2.2.2.2.1) h9 hv9 hc9 ?_
  refine W.eq (g2 := F0 m 12 ls [.ref q9]) rfl ?_
  refine lv_astore_n (lv' := [(3, .ref q9), (0, .ref h0), (1, .int p0), (2, .ref ho)]) hx hb dL_wins_12 rfl hl (by decide) rfl (fun ls hl => ?_)
  refine lv_iconst (v := 1) hx hb dL_wins_13 (by decide) ?_
  have hP9 := hP.sub (ws' := [(ho, .inl (cO, 1, .inr (.inl fo)))]) [1] rfl
  have hD9 := hD.sub (ws' := [(ho, .inl (cO, 1, .inr (.inl fo)))]) [1] (by decide) rfl
  have hK9 := hK.sub (tys' := []) [] rfl
  exact W.iret (v := 1) hx hb hr (fun t ht hW => ⟨⟨1, (), rfl, rfl, ⟨by rw [ht]; exact hP9, va_K.moved hW.alike hK9, hD9⟩⟩, hS.F ht⟩) hS.2.2 dL_wins_14
set_option maxHeartbeats 4000000 in
set_option maxRecDepth 100000 in
theorem w_wouldMiss_f (l : Launch) (hl0 : l.stackTraces = false) (D : va_G) (eT : Nat) (h0 : Nat) (aH : Nat) (aB : Nat) (aJ : Nat) (rN : Nat) (rX : Nat) (aV : Nat) (ho : Nat) (cO : ClassId) (fo : Nat → Int64) (p0 : Int32) (sz : Nat) (hn : ¬ (1 ≤ p0 ∧ p0 ≤ 60)) : Met l yL_wouldMiss wsL_wouldMiss ({ frames := 7, cells := 1, slots := 6, locals := 105 }) (va_Pc [.ref h0, .int p0, .ref ho] (pc D eT sz [(h0, .inr (7, [.ref aH, .ref aB, .ref aJ, .int 0, .int 0, .int 0, .ref rN, .ref rX, .int 0, .int 0, .int 0, .int 0, .int 0, .int 0, .int (-1), .int (-1), .int 0, .int 0, .ref aV])), (ho, .inl (cO, 1, .inr (.inl fo)))] [(cO, .long)])) (va_Qi (fun (r : Int32) (_ : Unit) => r = 1) (fun _ t => va_P D vwCl [(ho, .inl (cO, 1, .inr (.inl fo)))] t.heap ∧ va_K D vwCl [] t ∧ va_D (va_A [(h0, .inr (7, [.ref aH, .ref aB, .ref aJ, .int 0, .int 0, .int 0, .ref rN, .ref rX, .int 0, .int 0, .int 0, .int 0, .int 0, .int 0, .int (-1), .int (-1), .int 0, .int 0, .ref aV])), (ho, .inl (cO, 1, .inr (.inl fo)))] sz) [(ho, .inl (cO, 1, .inr (.inl fo)))]) (va_A [(h0, .inr (7, [.ref aH, .ref aB, .ref aJ, .int 0, .int 0, .int 0, .ref rN, .ref rX, .int 0, .int 0, .int 0, .int 0, .int 0, .int 0, .int (-1), .int (-1), .int 0, .int 0, .ref aV])), (ho, .inl (cO, 1, .inr (.inl fo)))] sz)) 1 6 (va_A [(h0, .inr (7, [.ref aH, .ref aB, .ref aJ, .int 0, .int 0, .int 0, .ref rN, .ref rX, .int 0, .int 0, .int 0, .int 0, .int 0, .int 0, .int (-1), .int (-1), .int 0, .int 0, .ref aV])), (ho, .inl (cO, 1, .inr (.inl fo)))] sz) := by
  refine va_MetW (cc := cL_wouldMiss) (maxL := 4) (ret := (some .int)) (by decide +kernel) rfl ?_
  intro p e s m args below meth c s₁ B hml hv
  obtain ⟨rfl, hsz, hP, hK, hD0, hE⟩ := hv
  have hx := B.exec
  have hb := B.bytes
  have hr := B.returns
  have hts := atoms_spec (ws := wsL_wouldMiss) B.pre
  have hown : s.vm.findClass RL = some m.cls := findClass_of_methodNamed B.named
  have hlocks := B.notSynchronized
  have htab := vx_table (x := yL_wouldMiss) B (hts _ List.mem_cons_self)
  subst hsz
  have hD := hD0.self (sz := s.heap.size)
  generalize hAe : va_A [(h0, .inr (7, [.ref aH, .ref aB, .ref aJ, .int 0, .int 0, .int 0, .ref rN, .ref rX, .int 0, .int 0, .int 0, .int 0, .int 0, .int 0, .int (-1), .int (-1), .int 0, .int 0, .ref aV])), (ho, .inl (cO, 1, .inr (.inl fo)))] s.heap.size = A at hD hE ⊢
  have hA : ∀ q : Nat, s.heap.size ≤ q → A q := fun q h => by rw [← hAe]; exact Or.inr h
  have hS : va_S A s.heap s.heap [] := va_S.rf
  have hP : va_P D vwCl [(h0, .inr (7, [.ref aH, .ref aB, .ref aJ, .int 0, .int 0, .int 0, .ref rN, .ref rX, .int 0, .int 0, .int 0, .int 0, .int 0, .int 0, .int (-1), .int (-1), .int 0, .int 0, .ref aV])), (ho, .inl (cO, 1, .inr (.inl fo)))] s.heap := hP
  have hl := lv_entry ([.ref h0, .int p0, .ref ho]) (n := 4) (Nat.le_of_ble_eq_true rfl)
  rw [lg_entry_eq]
  generalize (lg_sl ([.ref h0, .int p0, .ref ho]) ++ List.replicate (4 - (lg_sl ([.ref h0, .int p0, .ref ho])).length) Slot.unset).toArray = ls at hl ⊢
  have hl : lv_has ls 4 [(0, .ref h0), (1, .int p0), (2, .ref ho)] := hl
  refine lv_aload_n hx hb dL_wouldMiss_0 rfl (lv_at hl 2 rfl) ?_
  refine lv_iconst (v := 0) hx hb dL_wouldMiss_1 (by decide) ?_
  refine lv_aload_n hx hb dL_wouldMiss_2 rfl (lv_at hl 0 rfl) ?_
  refine lv_iload_n hx hb dL_wouldMiss_3 rfl (lv_at hl 1 rfl) ?_
  have hPc := hP.sub (ws' := [(h0, .inr (7, [.ref aH, .ref aB, .ref aJ, .int 0, .int 0, .int 0, .ref rN, .ref rX, .int 0, .int 0, .int 0, .int 0, .int 0, .int 0, .int (-1), .int (-1), .int 0, .int 0, .ref aV]))]) [0] rfl
  have hKc := hK.sub (tys' := []) [] rfl
  refine vx_calli (vx_runV (As := [.int p0]) (rest := [.int 0, .ref ho]) ⟨hx, hb, hml, hown, hts⟩ (t_wouldMiss_f l hl0 D eT h0 aH aB aJ rN rX aV p0 s.heap.size hn) (cwV 1 hts gL_wouldMiss_X4_wouldMiss rfl rfl rfl (by decide +kernel) ⟨Nat.le_of_ble_eq_true rfl, Nat.le_of_ble_eq_true rfl⟩) (pr_v (ci := 7) (q0 := 0) rfl rfl hPc hKc hE hS hA) rfl rfl hl.1 rfl (lv_room (Nat.le_of_ble_eq_true rfl)) dL_wouldMiss_4 ⟨Nat.le_of_ble_eq_true rfl, Nat.le_of_ble_eq_true rfl⟩) hS (fun q h1 h2 => ro_A h1 h2) (fun q h => ro_F hS hA q h) (fun q h1 h2 => ro_A h1 h2) (fun E ce q9 u t H1 locs ht hvm _ hw hz1 hk1 hS h9 hv9 hc9 => ?_) (fun r u t H1 locs ht hvm hw hB hz1 hk1 hS => hw.elim)
  subst hw
  have hP := ro_P hP hk1
  generalize H1 = H at hP hS h9 ⊢
  refine vx_widen (k := 1) (n := 6) (Nat.le_of_ble_eq_true rfl) (Nat.le_of_ble_eq_true rfl) ?_
  refine vx_catch (E := eIAE) (name := eIAE) hown [] ⟨0, 9, 12, 21⟩ [] (htab.trans rfl) (fun z h => absurd h List.not_mem_nil) (by decide) (by decide) (hts (.classLink RL 21 eIAE) (by decide +kernel)) (va_Nw.use rfl hE.1.2.2.2.2.2.2.1) h9 hv9 hc9 ?_
  refine W.eq (g2 := F0 m 12 ls [.ref q9]) rfl ?_
  refine lv_astore_n (lv' := [(3, .ref q9), (0, .ref h0), (1, .int p0), (2, .ref ho)]) hx hb dL_wouldMiss_12 rfl hl (by decide) rfl (fun ls hl => ?_)
  refine lv_iconst (v := 1) hx hb dL_wouldMiss_13 (by decide) ?_
  have hP9 := hP.sub (ws' := [(ho, .inl (cO, 1, .inr (.inl fo)))]) [1] rfl
  have hD9 := hD.sub (ws' := [(ho, .inl (cO, 1, .inr (.inl fo)))]) [1] (by decide) rfl
  have hK9 := hK.sub (tys' := []) [] rfl
  exact W.iret (v := 1) hx hb hr (fun t ht hW => ⟨⟨1, (), rfl, rfl, ⟨by rw [ht]; exact hP9, va_K.moved hW.alike hK9, hD9⟩⟩, hS.F ht⟩) hS.2.2 dL_wouldMiss_14
set_option maxHeartbeats 4000000 in
set_option maxRecDepth 100000 in
theorem w_longList_t (l : Launch) (hl0 : l.stackTraces = false) (D : va_G) (eT : Nat) (h0 : Nat) (aH : Nat) (aB : Nat) (aJ : Nat) (rN : Nat) (rX : Nat) (aV : Nat) (ho : Nat) (cO : ClassId) (fo : Nat → Int64) (p0 : Int32) (sz : Nat) (h1 : 3 ≤ p0) (h2 : p0 ≤ 8) : Met l yL_longList wsL_longList ({ frames := 7, cells := 1, slots := 6, locals := 103 }) (va_Pc [.ref h0, .int p0, .ref ho] (pc D eT sz [(h0, .inr (7, [.ref aH, .ref aB, .ref aJ, .int 0, .int 0, .int 0, .ref rN, .ref rX, .int 0, .int 0, .int 0, .int 0, .int 0, .int 0, .int (-1), .int (-1), .int 0, .int 0, .ref aV])), (ho, .inl (cO, 1, .inr (.inl fo)))] [(cO, .long)])) (va_Qi (fun (r : Int32) (_ : Unit) => r = 2) (fun _ t => va_P D vwCl [(ho, .inl (cO, 1, .inr (.inl fo)))] t.heap ∧ va_K D vwCl [] t ∧ va_D (va_A [(h0, .inr (7, [.ref aH, .ref aB, .ref aJ, .int 0, .int 0, .int 0, .ref rN, .ref rX, .int 0, .int 0, .int 0, .int 0, .int 0, .int 0, .int (-1), .int (-1), .int 0, .int 0, .ref aV])), (ho, .inl (cO, 1, .inr (.inl fo)))] sz) [(ho, .inl (cO, 1, .inr (.inl fo)))]) (va_A [(h0, .inr (7, [.ref aH, .ref aB, .ref aJ, .int 0, .int 0, .int 0, .ref rN, .ref rX, .int 0, .int 0, .int 0, .int 0, .int 0, .int 0, .int (-1), .int (-1), .int 0, .int 0, .ref aV])), (ho, .inl (cO, 1, .inr (.inl fo)))] sz)) 1 6 (va_A [(h0, .inr (7, [.ref aH, .ref aB, .ref aJ, .int 0, .int 0, .int 0, .ref rN, .ref rX, .int 0, .int 0, .int 0, .int 0, .int 0, .int 0, .int (-1), .int (-1), .int 0, .int 0, .ref aV])), (ho, .inl (cO, 1, .inr (.inl fo)))] sz) := by
  refine va_MetW (cc := cL_longList) (maxL := 4) (ret := (some .int)) (by decide +kernel) rfl ?_
  intro p e s m args below meth c s₁ B hml hv
  obtain ⟨rfl, hsz, hP, hK, hD0, hE⟩ := hv
  have hx := B.exec
  have hb := B.bytes
  have hr := B.returns
  have hts := atoms_spec (ws := wsL_longList) B.pre
  have hown : s.vm.findClass RL = some m.cls := findClass_of_methodNamed B.named
  have hlocks := B.notSynchronized
  have htab := vx_table (x := yL_longList) B (hts _ List.mem_cons_self)
  subst hsz
  have hD := hD0.self (sz := s.heap.size)
  generalize hAe : va_A [(h0, .inr (7, [.ref aH, .ref aB, .ref aJ, .int 0, .int 0, .int 0, .ref rN, .ref rX, .int 0, .int 0, .int 0, .int 0, .int 0, .int 0, .int (-1), .int (-1), .int 0, .int 0, .ref aV])), (ho, .inl (cO, 1, .inr (.inl fo)))] s.heap.size = A at hD hE ⊢
  have hA : ∀ q : Nat, s.heap.size ≤ q → A q := fun q h => by rw [← hAe]; exact Or.inr h
  have hS : va_S A s.heap s.heap [] := va_S.rf
  have hP : va_P D vwCl [(h0, .inr (7, [.ref aH, .ref aB, .ref aJ, .int 0, .int 0, .int 0, .ref rN, .ref rX, .int 0, .int 0, .int 0, .int 0, .int 0, .int 0, .int (-1), .int (-1), .int 0, .int 0, .ref aV])), (ho, .inl (cO, 1, .inr (.inl fo)))] s.heap := hP
  have hl := lv_entry ([.ref h0, .int p0, .ref ho]) (n := 4) (Nat.le_of_ble_eq_true rfl)
  rw [lg_entry_eq]
  generalize (lg_sl ([.ref h0, .int p0, .ref ho]) ++ List.replicate (4 - (lg_sl ([.ref h0, .int p0, .ref ho])).length) Slot.unset).toArray = ls at hl ⊢
  have hl : lv_has ls 4 [(0, .ref h0), (1, .int p0), (2, .ref ho)] := hl
  refine lv_aload_n hx hb dL_longList_0 rfl (lv_at hl 2 rfl) ?_
  refine lv_iconst (v := 0) hx hb dL_longList_1 (by decide) ?_
  refine lv_aload_n hx hb dL_longList_2 rfl (lv_at hl 0 rfl) ?_
  refine lv_iload_n hx hb dL_longList_3 rfl (lv_at hl 1 rfl) ?_
  have hPc := hP.sub (ws' := [(h0, .inr (7, [.ref aH, .ref aB, .ref aJ, .int 0, .int 0, .int 0, .ref rN, .ref rX, .int 0, .int 0, .int 0, .int 0, .int 0, .int 0, .int (-1), .int (-1), .int 0, .int 0, .ref aV]))]) [0] rfl
  have hKc := hK.sub (tys' := []) [] rfl
  refine vx_calli (vx_runV (As := [.int p0]) (rest := [.int 0, .ref ho]) ⟨hx, hb, hml, hown, hts⟩ (t_longList_t l hl0 D eT h0 aH aB aJ rN rX aV p0 s.heap.size h1 h2) (cwV 1 hts gL_longList_X4_longList rfl rfl rfl (by decide +kernel) ⟨Nat.le_of_ble_eq_true rfl, Nat.le_of_ble_eq_true rfl⟩) (pr_v (ci := 7) (q0 := 0) rfl rfl hPc hKc hE hS hA) rfl rfl hl.1 rfl (lv_room (Nat.le_of_ble_eq_true rfl)) dL_longList_4 ⟨Nat.le_of_ble_eq_true rfl, Nat.le_of_ble_eq_true rfl⟩) hS (fun q h1 h2 => ro_A h1 h2) (fun q h => ro_F hS hA q h) (fun q h1 h2 => ro_A h1 h2) (fun E ce q9 u t H1 locs ht hvm _ hw hz1 hk1 hS h9 hv9 hc9 => ?_) (fun r u t H1 locs ht hvm hw hB hz1 hk1 hS => hw.elim)
  subst hw
  have hP := ro_P hP hk1
  generalize H1 = H at hP hS h9 ⊢
  refine vx_widen (k := 1) (n := 6) (Nat.le_of_ble_eq_true rfl) (Nat.le_of_ble_eq_true rfl) ?_
  refine vx_catch (E := eISE) (name := eISE) hown [⟨0, 9, 12, 21⟩] ⟨0, 9, 15, 13⟩ [] (htab.trans rfl) (fun z h => by rcases List.mem_singleton.mp h with rfl; exact Or.inr ⟨by decide, eIAE, (hts (.classLink RL 21 eIAE) (by decide +kernel)), hE.2.2.1.2.2.2.2.2.2.1⟩) (by decide) (by decide) (hts (.classLink RL 13 eISE) (by decide +kernel)) (va_Nw.use rfl hE.1.2.2.2.2.1) h9 hv9 hc9 ?_
  refine W.eq (g2 := F0 m 15 ls [.ref q9]) rfl ?_
  refine lv_astore_n (lv' := [(3, .ref q9), (0, .ref h0), (1, .int p0), (2, .ref ho)]) hx hb dL_longList_15 rfl hl (by decide) rfl (fun ls hl => ?_)
  refine lv_iconst (v := 2) hx hb dL_longList_16 (by decide) ?_
  have hP9 := hP.sub (ws' := [(ho, .inl (cO, 1, .inr (.inl fo)))]) [1] rfl
  have hD9 := hD.sub (ws' := [(ho, .inl (cO, 1, .inr (.inl fo)))]) [1] (by decide) rfl
  have hK9 := hK.sub (tys' := []) [] rfl
  exact W.iret (v := 2) hx hb hr (fun t ht hW => ⟨⟨2, (), rfl, rfl, ⟨by rw [ht]; exact hP9, va_K.moved hW.alike hK9, hD9⟩⟩, hS.F ht⟩) hS.2.2 dL_longList_17
set_option maxHeartbeats 4000000 in
set_option maxRecDepth 100000 in
theorem w_shortList_t (l : Launch) (hl0 : l.stackTraces = false) (D : va_G) (eT : Nat) (h0 : Nat) (aH : Nat) (aB : Nat) (aJ : Nat) (rN : Nat) (rX : Nat) (aV : Nat) (ho : Nat) (cO : ClassId) (fo : Nat → Int64) (p0 : Int32) (sz : Nat) (h1 : 2 ≤ p0) (h2 : p0 ≤ 5) : Met l yL_shortList wsL_shortList ({ frames := 7, cells := 1, slots := 6, locals := 103 }) (va_Pc [.ref h0, .int p0, .ref ho] (pc D eT sz [(h0, .inr (7, [.ref aH, .ref aB, .ref aJ, .int 0, .int 0, .int 0, .ref rN, .ref rX, .int 0, .int 0, .int 0, .int 0, .int 0, .int 0, .int (-1), .int (-1), .int 0, .int 0, .ref aV])), (ho, .inl (cO, 1, .inr (.inl fo)))] [(cO, .long)])) (va_Qi (fun (r : Int32) (_ : Unit) => r = 2) (fun _ t => va_P D vwCl [(ho, .inl (cO, 1, .inr (.inl fo)))] t.heap ∧ va_K D vwCl [] t ∧ va_D (va_A [(h0, .inr (7, [.ref aH, .ref aB, .ref aJ, .int 0, .int 0, .int 0, .ref rN, .ref rX, .int 0, .int 0, .int 0, .int 0, .int 0, .int 0, .int (-1), .int (-1), .int 0, .int 0, .ref aV])), (ho, .inl (cO, 1, .inr (.inl fo)))] sz) [(ho, .inl (cO, 1, .inr (.inl fo)))]) (va_A [(h0, .inr (7, [.ref aH, .ref aB, .ref aJ, .int 0, .int 0, .int 0, .ref rN, .ref rX, .int 0, .int 0, .int 0, .int 0, .int 0, .int 0, .int (-1), .int (-1), .int 0, .int 0, .ref aV])), (ho, .inl (cO, 1, .inr (.inl fo)))] sz)) 1 6 (va_A [(h0, .inr (7, [.ref aH, .ref aB, .ref aJ, .int 0, .int 0, .int 0, .ref rN, .ref rX, .int 0, .int 0, .int 0, .int 0, .int 0, .int 0, .int (-1), .int (-1), .int 0, .int 0, .ref aV])), (ho, .inl (cO, 1, .inr (.inl fo)))] sz) := by
  refine va_MetW (cc := cL_shortList) (maxL := 4) (ret := (some .int)) (by decide +kernel) rfl ?_
  intro p e s m args below meth c s₁ B hml hv
  obtain ⟨rfl, hsz, hP, hK, hD0, hE⟩ := hv
  have hx := B.exec
  have hb := B.bytes
  have hr := B.returns
  have hts := atoms_spec (ws := wsL_shortList) B.pre
  have hown : s.vm.findClass RL = some m.cls := findClass_of_methodNamed B.named
  have hlocks := B.notSynchronized
  have htab := vx_table (x := yL_shortList) B (hts _ List.mem_cons_self)
  subst hsz
  have hD := hD0.self (sz := s.heap.size)
  generalize hAe : va_A [(h0, .inr (7, [.ref aH, .ref aB, .ref aJ, .int 0, .int 0, .int 0, .ref rN, .ref rX, .int 0, .int 0, .int 0, .int 0, .int 0, .int 0, .int (-1), .int (-1), .int 0, .int 0, .ref aV])), (ho, .inl (cO, 1, .inr (.inl fo)))] s.heap.size = A at hD hE ⊢
  have hA : ∀ q : Nat, s.heap.size ≤ q → A q := fun q h => by rw [← hAe]; exact Or.inr h
  have hS : va_S A s.heap s.heap [] := va_S.rf
  have hP : va_P D vwCl [(h0, .inr (7, [.ref aH, .ref aB, .ref aJ, .int 0, .int 0, .int 0, .ref rN, .ref rX, .int 0, .int 0, .int 0, .int 0, .int 0, .int 0, .int (-1), .int (-1), .int 0, .int 0, .ref aV])), (ho, .inl (cO, 1, .inr (.inl fo)))] s.heap := hP
  have hl := lv_entry ([.ref h0, .int p0, .ref ho]) (n := 4) (Nat.le_of_ble_eq_true rfl)
  rw [lg_entry_eq]
  generalize (lg_sl ([.ref h0, .int p0, .ref ho]) ++ List.replicate (4 - (lg_sl ([.ref h0, .int p0, .ref ho])).length) Slot.unset).toArray = ls at hl ⊢
  have hl : lv_has ls 4 [(0, .ref h0), (1, .int p0), (2, .ref ho)] := hl
  refine lv_aload_n hx hb dL_shortList_0 rfl (lv_at hl 2 rfl) ?_
  refine lv_iconst (v := 0) hx hb dL_shortList_1 (by decide) ?_
  refine lv_aload_n hx hb dL_shortList_2 rfl (lv_at hl 0 rfl) ?_
  refine lv_iload_n hx hb dL_shortList_3 rfl (lv_at hl 1 rfl) ?_
  have hPc := hP.sub (ws' := [(h0, .inr (7, [.ref aH, .ref aB, .ref aJ, .int 0, .int 0, .int 0, .ref rN, .ref rX, .int 0, .int 0, .int 0, .int 0, .int 0, .int 0, .int (-1), .int (-1), .int 0, .int 0, .ref aV]))]) [0] rfl
  have hKc := hK.sub (tys' := []) [] rfl
  refine vx_calli (vx_runV (As := [.int p0]) (rest := [.int 0, .ref ho]) ⟨hx, hb, hml, hown, hts⟩ (t_shortList_t l hl0 D eT h0 aH aB aJ rN rX aV p0 s.heap.size h1 h2) (cwV 1 hts gL_shortList_X4_shortList rfl rfl rfl (by decide +kernel) ⟨Nat.le_of_ble_eq_true rfl, Nat.le_of_ble_eq_true rfl⟩) (pr_v (ci := 7) (q0 := 0) rfl rfl hPc hKc hE hS hA) rfl rfl hl.1 rfl (lv_room (Nat.le_of_ble_eq_true rfl)) dL_shortList_4 ⟨Nat.le_of_ble_eq_true rfl, Nat.le_of_ble_eq_true rfl⟩) hS (fun q h1 h2 => ro_A h1 h2) (fun q h => ro_F hS hA q h) (fun q h1 h2 => ro_A h1 h2) (fun E ce q9 u t H1 locs ht hvm _ hw hz1 hk1 hS h9 hv9 hc9 => ?_) (fun r u t H1 locs ht hvm hw hB hz1 hk1 hS => hw.elim)
  subst hw
  have hP := ro_P hP hk1
  generalize H1 = H at hP hS h9 ⊢
  refine vx_widen (k := 1) (n := 6) (Nat.le_of_ble_eq_true rfl) (Nat.le_of_ble_eq_true rfl) ?_
  refine vx_catch (E := eISE) (name := eISE) hown [⟨0, 9, 12, 21⟩] ⟨0, 9, 15, 13⟩ [] (htab.trans rfl) (fun z h => by rcases List.mem_singleton.mp h with rfl; exact Or.inr ⟨by decide, eIAE, (hts (.classLink RL 21 eIAE) (by decide +kernel)), hE.2.2.1.2.2.2.2.2.2.1⟩) (by decide) (by decide) (hts (.classLink RL 13 eISE) (by decide +kernel)) (va_Nw.use rfl hE.1.2.2.2.2.1) h9 hv9 hc9 ?_
  refine W.eq (g2 := F0 m 15 ls [.ref q9]) rfl ?_
  refine lv_astore_n (lv' := [(3, .ref q9), (0, .ref h0), (1, .int p0), (2, .ref ho)]) hx hb dL_shortList_15 rfl hl (by decide) rfl (fun ls hl => ?_)
  refine lv_iconst (v := 2) hx hb dL_shortList_16 (by decide) ?_
  have hP9 := hP.sub (ws' := [(ho, .inl (cO, 1, .inr (.inl fo)))]) [1] rfl
  have hD9 := hD.sub (ws' := [(ho, .inl (cO, 1, .inr (.inl fo)))]) [1] (by decide) rfl
  have hK9 := hK.sub (tys' := []) [] rfl
  exact W.iret (v := 2) hx hb hr (fun t ht hW => ⟨⟨2, (), rfl, rfl, ⟨by rw [ht]; exact hP9, va_K.moved hW.alike hK9, hD9⟩⟩, hS.F ht⟩) hS.2.2 dL_shortList_17
set_option maxHeartbeats 4000000 in
set_option maxRecDepth 100000 in
theorem w_judge_f (l : Launch) (hl0 : l.stackTraces = false) (D : va_G) (eT : Nat) (h0 : Nat) (aH : Nat) (aB : Nat) (aJ : Nat) (rN : Nat) (rX : Nat) (aV : Nat) (ho : Nat) (cO : ClassId) (fo : Nat → Int64) (p0 : Int32) (p1 : Int32) (p2 : Int32) (sz : Nat) (hn : ¬ ((20 ≤ p0 ∧ p0 ≤ 200) ∧ (0 ≤ p1 ∧ p1 ≤ 9) ∧ ((-10) ≤ p2 ∧ p2 ≤ 10))) : Met l yL_judge wsL_judge ({ frames := 7, cells := 1, slots := 6, locals := 105 }) (va_Pc [.ref h0, .int p0, .int p1, .int p2, .ref ho] (pc D eT sz [(h0, .inr (7, [.ref aH, .ref aB, .ref aJ, .int 0, .int 0, .int 0, .ref rN, .ref rX, .int 0, .int 0, .int 0, .int 0, .int 0, .int 0, .int (-1), .int (-1), .int 0, .int 0, .ref aV])), (ho, .inl (cO, 1, .inr (.inl fo)))] [(cO, .long)])) (va_Qi (fun (r : Int32) (_ : Unit) => r = 1) (fun _ t => va_P D vwCl [(ho, .inl (cO, 1, .inr (.inl fo)))] t.heap ∧ va_K D vwCl [] t ∧ va_D (va_A [(h0, .inr (7, [.ref aH, .ref aB, .ref aJ, .int 0, .int 0, .int 0, .ref rN, .ref rX, .int 0, .int 0, .int 0, .int 0, .int 0, .int 0, .int (-1), .int (-1), .int 0, .int 0, .ref aV])), (ho, .inl (cO, 1, .inr (.inl fo)))] sz) [(ho, .inl (cO, 1, .inr (.inl fo)))]) (va_A [(h0, .inr (7, [.ref aH, .ref aB, .ref aJ, .int 0, .int 0, .int 0, .ref rN, .ref rX, .int 0, .int 0, .int 0, .int 0, .int 0, .int 0, .int (-1), .int (-1), .int 0, .int 0, .ref aV])), (ho, .inl (cO, 1, .inr (.inl fo)))] sz)) 1 6 (va_A [(h0, .inr (7, [.ref aH, .ref aB, .ref aJ, .int 0, .int 0, .int 0, .ref rN, .ref rX, .int 0, .int 0, .int 0, .int 0, .int 0, .int 0, .int (-1), .int (-1), .int 0, .int 0, .ref aV])), (ho, .inl (cO, 1, .inr (.inl fo)))] sz) := by
  refine va_MetW (cc := cL_judge) (maxL := 6) (ret := (some .int)) (by decide +kernel) rfl ?_
  intro p e s m args below meth c s₁ B hml hv
  obtain ⟨rfl, hsz, hP, hK, hD0, hE⟩ := hv
  have hx := B.exec
  have hb := B.bytes
  have hr := B.returns
  have hts := atoms_spec (ws := wsL_judge) B.pre
  have hown : s.vm.findClass RL = some m.cls := findClass_of_methodNamed B.named
  have hlocks := B.notSynchronized
  have htab := vx_table (x := yL_judge) B (hts _ List.mem_cons_self)
  subst hsz
  have hD := hD0.self (sz := s.heap.size)
  generalize hAe : va_A [(h0, .inr (7, [.ref aH, .ref aB, .ref aJ, .int 0, .int 0, .int 0, .ref rN, .ref rX, .int 0, .int 0, .int 0, .int 0, .int 0, .int 0, .int (-1), .int (-1), .int 0, .int 0, .ref aV])), (ho, .inl (cO, 1, .inr (.inl fo)))] s.heap.size = A at hD hE ⊢
  have hA : ∀ q : Nat, s.heap.size ≤ q → A q := fun q h => by rw [← hAe]; exact Or.inr h
  have hS : va_S A s.heap s.heap [] := va_S.rf
  have hP : va_P D vwCl [(h0, .inr (7, [.ref aH, .ref aB, .ref aJ, .int 0, .int 0, .int 0, .ref rN, .ref rX, .int 0, .int 0, .int 0, .int 0, .int 0, .int 0, .int (-1), .int (-1), .int 0, .int 0, .ref aV])), (ho, .inl (cO, 1, .inr (.inl fo)))] s.heap := hP
  have hl := lv_entry ([.ref h0, .int p0, .int p1, .int p2, .ref ho]) (n := 6) (Nat.le_of_ble_eq_true rfl)
  rw [lg_entry_eq]
  generalize (lg_sl ([.ref h0, .int p0, .int p1, .int p2, .ref ho]) ++ List.replicate (6 - (lg_sl ([.ref h0, .int p0, .int p1, .int p2, .ref ho])).length) Slot.unset).toArray = ls at hl ⊢
  have hl : lv_has ls 6 [(0, .ref h0), (1, .int p0), (2, .int p1), (3, .int p2), (4, .ref ho)] := hl
  refine lv_aload hx hb dL_judge_0 (lv_at hl 4 rfl) ?_
  refine lv_iconst (v := 0) hx hb dL_judge_2 (by decide) ?_
  refine lv_aload_n hx hb dL_judge_3 rfl (lv_at hl 0 rfl) ?_
  refine lv_iload_n hx hb dL_judge_4 rfl (lv_at hl 1 rfl) ?_
  refine lv_iload_n hx hb dL_judge_5 rfl (lv_at hl 2 rfl) ?_
  refine lv_iload_n hx hb dL_judge_6 rfl (lv_at hl 3 rfl) ?_
  have hPc := hP.sub (ws' := [(h0, .inr (7, [.ref aH, .ref aB, .ref aJ, .int 0, .int 0, .int 0, .ref rN, .ref rX, .int 0, .int 0, .int 0, .int 0, .int 0, .int 0, .int (-1), .int (-1), .int 0, .int 0, .ref aV]))]) [0] rfl
  have hKc := hK.sub (tys' := []) [] rfl
  refine vx_calli (vx_runV (As := [.int p0, .int p1, .int p2]) (rest := [.int 0, .ref ho]) ⟨hx, hb, hml, hown, hts⟩ (t_judge l hl0 D eT h0 aH aB aJ rN rX aV p0 p1 p2 s.heap.size hn) (cwV 3 hts gL_judge_X4_judge rfl rfl rfl (by decide +kernel) ⟨Nat.le_of_ble_eq_true rfl, Nat.le_of_ble_eq_true rfl⟩) (pr_v (ci := 7) (q0 := 0) rfl rfl hPc hKc hE hS hA) rfl rfl hl.1 rfl (lv_room (Nat.le_of_ble_eq_true rfl)) dL_judge_7 ⟨Nat.le_of_ble_eq_true rfl, Nat.le_of_ble_eq_true rfl⟩) hS (fun q h1 h2 => ro_A h1 h2) (fun q h => ro_F hS hA q h) (fun q h1 h2 => ro_A h1 h2) (fun E ce q9 u t H1 locs ht hvm _ hw hz1 hk1 hS h9 hv9 hc9 => ?_) (fun r u t H1 locs ht hvm hw hB hz1 hk1 hS => hw.elim)
  subst hw
  have hP := ro_P hP hk1
  generalize H1 = H at hP hS h9 ⊢
  refine vx_widen (k := 1) (n := 6) (Nat.le_of_ble_eq_true rfl) (Nat.le_of_ble_eq_true rfl) ?_
  refine vx_catch (E := eIAE) (name := eIAE) hown [] ⟨0, 12, 15, 21⟩ [⟨0, 12, 19, 13⟩] (htab.trans rfl) (fun z h => absurd h List.not_mem_nil) (by decide) (by decide) (hts (.classLink RL 21 eIAE) (by decide +kernel)) (va_Nw.use rfl hE.1.2.2.2.2.2.2.1) h9 hv9 hc9 ?_
  refine W.eq (g2 := F0 m 15 ls [.ref q9]) rfl ?_
  refine lv_astore (lv' := [(5, .ref q9), (0, .ref h0), (1, .int p0), (2, .int p1), (3, .int p2), (4, .ref ho)]) hx hb dL_judge_15 hl (by decide) rfl (fun ls hl => ?_)
  refine lv_iconst (v := 1) hx hb dL_judge_17 (by decide) ?_
  have hP9 := hP.sub (ws' := [(ho, .inl (cO, 1, .inr (.inl fo)))]) [1] rfl
  have hD9 := hD.sub (ws' := [(ho, .inl (cO, 1, .inr (.inl fo)))]) [1] (by decide) rfl
  have hK9 := hK.sub (tys' := []) [] rfl
  exact W.iret (v := 1) hx hb hr (fun t ht hW => ⟨⟨1, (), rfl, rfl, ⟨by rw [ht]; exact hP9, va_K.moved hW.alike hK9, hD9⟩⟩, hS.F ht⟩) hS.2.2 dL_judge_18
set_option maxHeartbeats 4000000 in
set_option maxRecDepth 100000 in
theorem w_rules_f (l : Launch) (hl0 : l.stackTraces = false) (D : va_G) (eT : Nat) (h0 : Nat) (aH : Nat) (aB : Nat) (aJ : Nat) (rN : Nat) (rX : Nat) (aV : Nat) (ho : Nat) (cO : ClassId) (fo : Nat → Int64) (p0 : Int32) (p1 : Int32) (p2 : Int32) (p3 : Int32) (sz : Nat) (hn : ¬ ((1 ≤ p0 ∧ p0 ≤ 7) ∧ (50 ≤ p1 ∧ p1 ≤ p2) ∧ p2 ≤ 900 ∧ (0 ≤ p3 ∧ p3 ≤ 50))) : Met l yL_rules wsL_rules ({ frames := 7, cells := 1, slots := 6, locals := 106 }) (va_Pc [.ref h0, .int p0, .int p1, .int p2, .int p3, .ref ho] (pc D eT sz [(h0, .inr (7, [.ref aH, .ref aB, .ref aJ, .int 0, .int 0, .int 0, .ref rN, .ref rX, .int 0, .int 0, .int 0, .int 0, .int 0, .int 0, .int (-1), .int (-1), .int 0, .int 0, .ref aV])), (ho, .inl (cO, 1, .inr (.inl fo)))] [(cO, .long)])) (va_Qi (fun (r : Int32) (_ : Unit) => r = 1) (fun _ t => va_P D vwCl [(ho, .inl (cO, 1, .inr (.inl fo)))] t.heap ∧ va_K D vwCl [] t ∧ va_D (va_A [(h0, .inr (7, [.ref aH, .ref aB, .ref aJ, .int 0, .int 0, .int 0, .ref rN, .ref rX, .int 0, .int 0, .int 0, .int 0, .int 0, .int 0, .int (-1), .int (-1), .int 0, .int 0, .ref aV])), (ho, .inl (cO, 1, .inr (.inl fo)))] sz) [(ho, .inl (cO, 1, .inr (.inl fo)))]) (va_A [(h0, .inr (7, [.ref aH, .ref aB, .ref aJ, .int 0, .int 0, .int 0, .ref rN, .ref rX, .int 0, .int 0, .int 0, .int 0, .int 0, .int 0, .int (-1), .int (-1), .int 0, .int 0, .ref aV])), (ho, .inl (cO, 1, .inr (.inl fo)))] sz)) 1 6 (va_A [(h0, .inr (7, [.ref aH, .ref aB, .ref aJ, .int 0, .int 0, .int 0, .ref rN, .ref rX, .int 0, .int 0, .int 0, .int 0, .int 0, .int 0, .int (-1), .int (-1), .int 0, .int 0, .ref aV])), (ho, .inl (cO, 1, .inr (.inl fo)))] sz) := by
  refine va_MetW (cc := cL_rules) (maxL := 7) (ret := (some .int)) (by decide +kernel) rfl ?_
  intro p e s m args below meth c s₁ B hml hv
  obtain ⟨rfl, hsz, hP, hK, hD0, hE⟩ := hv
  have hx := B.exec
  have hb := B.bytes
  have hr := B.returns
  have hts := atoms_spec (ws := wsL_rules) B.pre
  have hown : s.vm.findClass RL = some m.cls := findClass_of_methodNamed B.named
  have hlocks := B.notSynchronized
  have htab := vx_table (x := yL_rules) B (hts _ List.mem_cons_self)
  subst hsz
  have hD := hD0.self (sz := s.heap.size)
  generalize hAe : va_A [(h0, .inr (7, [.ref aH, .ref aB, .ref aJ, .int 0, .int 0, .int 0, .ref rN, .ref rX, .int 0, .int 0, .int 0, .int 0, .int 0, .int 0, .int (-1), .int (-1), .int 0, .int 0, .ref aV])), (ho, .inl (cO, 1, .inr (.inl fo)))] s.heap.size = A at hD hE ⊢
  have hA : ∀ q : Nat, s.heap.size ≤ q → A q := fun q h => by rw [← hAe]; exact Or.inr h
  have hS : va_S A s.heap s.heap [] := va_S.rf
  have hP : va_P D vwCl [(h0, .inr (7, [.ref aH, .ref aB, .ref aJ, .int 0, .int 0, .int 0, .ref rN, .ref rX, .int 0, .int 0, .int 0, .int 0, .int 0, .int 0, .int (-1), .int (-1), .int 0, .int 0, .ref aV])), (ho, .inl (cO, 1, .inr (.inl fo)))] s.heap := hP
  have hl := lv_entry ([.ref h0, .int p0, .int p1, .int p2, .int p3, .ref ho]) (n := 7) (Nat.le_of_ble_eq_true rfl)
  rw [lg_entry_eq]
  generalize (lg_sl ([.ref h0, .int p0, .int p1, .int p2, .int p3, .ref ho]) ++ List.replicate (7 - (lg_sl ([.ref h0, .int p0, .int p1, .int p2, .int p3, .ref ho])).length) Slot.unset).toArray = ls at hl ⊢
  have hl : lv_has ls 7 [(0, .ref h0), (1, .int p0), (2, .int p1), (3, .int p2), (4, .int p3), (5, .ref ho)] := hl
  refine lv_aload hx hb dL_rules_0 (lv_at hl 5 rfl) ?_
  refine lv_iconst (v := 0) hx hb dL_rules_2 (by decide) ?_
  refine lv_aload_n hx hb dL_rules_3 rfl (lv_at hl 0 rfl) ?_
  refine lv_iload_n hx hb dL_rules_4 rfl (lv_at hl 1 rfl) ?_
  refine lv_iload_n hx hb dL_rules_5 rfl (lv_at hl 2 rfl) ?_
  refine lv_iload_n hx hb dL_rules_6 rfl (lv_at hl 3 rfl) ?_
  refine lv_iload hx hb dL_rules_7 (lv_at hl 4 rfl) ?_
  have hPc := hP.sub (ws' := [(h0, .inr (7, [.ref aH, .ref aB, .ref aJ, .int 0, .int 0, .int 0, .ref rN, .ref rX, .int 0, .int 0, .int 0, .int 0, .int 0, .int 0, .int (-1), .int (-1), .int 0, .int 0, .ref aV]))]) [0] rfl
  have hKc := hK.sub (tys' := []) [] rfl
  refine vx_calli (vx_runV (As := [.int p0, .int p1, .int p2, .int p3]) (rest := [.int 0, .ref ho]) ⟨hx, hb, hml, hown, hts⟩ (t_rules l hl0 D eT h0 aH aB aJ rN rX aV p0 p1 p2 p3 s.heap.size hn) (cwV 4 hts gL_rules_X4_rules rfl rfl rfl (by decide +kernel) ⟨Nat.le_of_ble_eq_true rfl, Nat.le_of_ble_eq_true rfl⟩) (pr_v (ci := 7) (q0 := 0) rfl rfl hPc hKc hE hS hA) rfl rfl hl.1 rfl (lv_room (Nat.le_of_ble_eq_true rfl)) dL_rules_9 ⟨Nat.le_of_ble_eq_true rfl, Nat.le_of_ble_eq_true rfl⟩) hS (fun q h1 h2 => ro_A h1 h2) (fun q h => ro_F hS hA q h) (fun q h1 h2 => ro_A h1 h2) (fun E ce q9 u t H1 locs ht hvm _ hw hz1 hk1 hS h9 hv9 hc9 => ?_) (fun r u t H1 locs ht hvm hw hB hz1 hk1 hS => hw.elim)
  subst hw
  have hP := ro_P hP hk1
  generalize H1 = H at hP hS h9 ⊢
  refine vx_widen (k := 1) (n := 6) (Nat.le_of_ble_eq_true rfl) (Nat.le_of_ble_eq_true rfl) ?_
  refine vx_catch (E := eIAE) (name := eIAE) hown [] ⟨0, 14, 17, 21⟩ [] (htab.trans rfl) (fun z h => absurd h List.not_mem_nil) (by decide) (by decide) (hts (.classLink RL 21 eIAE) (by decide +kernel)) (va_Nw.use rfl hE.1.2.2.2.2.2.2.1) h9 hv9 hc9 ?_
  refine W.eq (g2 := F0 m 17 ls [.ref q9]) rfl ?_
  refine lv_astore (lv' := [(6, .ref q9), (0, .ref h0), (1, .int p0), (2, .int p1), (3, .int p2), (4, .int p3), (5, .ref ho)]) hx hb dL_rules_17 hl (by decide) rfl (fun ls hl => ?_)
  refine lv_iconst (v := 1) hx hb dL_rules_19 (by decide) ?_
  have hP9 := hP.sub (ws' := [(ho, .inl (cO, 1, .inr (.inl fo)))]) [1] rfl
  have hD9 := hD.sub (ws' := [(ho, .inl (cO, 1, .inr (.inl fo)))]) [1] (by decide) rfl
  have hK9 := hK.sub (tys' := []) [] rfl
  exact W.iret (v := 1) hx hb hr (fun t ht hW => ⟨⟨1, (), rfl, rfl, ⟨by rw [ht]; exact hP9, va_K.moved hW.alike hK9, hD9⟩⟩, hS.F ht⟩) hS.2.2 dL_rules_20
set_option maxHeartbeats 4000000 in
set_option maxRecDepth 100000 in
theorem w_many_f (l : Launch) (hl0 : l.stackTraces = false) (D : va_G) (eT : Nat) (h0 : Nat) (aH : Nat) (aB : Nat) (aJ : Nat) (rN : Nat) (rX : Nat) (aV : Nat) (ho : Nat) (cO : ClassId) (fo : Nat → Int64) (p0 : Int32) (sz : Nat) (hn : p0.toInt < 0 ∨ 14 < p0.toInt) : Met l yL_many wsL_many ({ frames := 7, cells := 1, slots := 6, locals := 103 }) (va_Pc [.ref h0, .int p0, .ref ho] (pc D eT sz [(h0, .inr (7, [.ref aH, .ref aB, .ref aJ, .int 0, .int 0, .int 0, .ref rN, .ref rX, .int 0, .int 0, .int 0, .int 0, .int 0, .int 0, .int (-1), .int (-1), .int 0, .int 0, .ref aV])), (ho, .inl (cO, 1, .inr (.inl fo)))] [(cO, .long)])) (va_Qi (fun (r : Int32) (_ : Unit) => r = 1) (fun _ t => va_P D vwCl [(ho, .inl (cO, 1, .inr (.inl fo)))] t.heap ∧ va_K D vwCl [] t ∧ va_D (va_A [(h0, .inr (7, [.ref aH, .ref aB, .ref aJ, .int 0, .int 0, .int 0, .ref rN, .ref rX, .int 0, .int 0, .int 0, .int 0, .int 0, .int 0, .int (-1), .int (-1), .int 0, .int 0, .ref aV])), (ho, .inl (cO, 1, .inr (.inl fo)))] sz) [(ho, .inl (cO, 1, .inr (.inl fo)))]) (va_A [(h0, .inr (7, [.ref aH, .ref aB, .ref aJ, .int 0, .int 0, .int 0, .ref rN, .ref rX, .int 0, .int 0, .int 0, .int 0, .int 0, .int 0, .int (-1), .int (-1), .int 0, .int 0, .ref aV])), (ho, .inl (cO, 1, .inr (.inl fo)))] sz)) 1 6 (va_A [(h0, .inr (7, [.ref aH, .ref aB, .ref aJ, .int 0, .int 0, .int 0, .ref rN, .ref rX, .int 0, .int 0, .int 0, .int 0, .int 0, .int 0, .int (-1), .int (-1), .int 0, .int 0, .ref aV])), (ho, .inl (cO, 1, .inr (.inl fo)))] sz) := by
  refine va_MetW (cc := cL_many) (maxL := 4) (ret := (some .int)) (by decide +kernel) rfl ?_
  intro p e s m args below meth c s₁ B hml hv
  obtain ⟨rfl, hsz, hP, hK, hD0, hE⟩ := hv
  have hx := B.exec
  have hb := B.bytes
  have hr := B.returns
  have hts := atoms_spec (ws := wsL_many) B.pre
  have hown : s.vm.findClass RL = some m.cls := findClass_of_methodNamed B.named
  have hlocks := B.notSynchronized
  have htab := vx_table (x := yL_many) B (hts _ List.mem_cons_self)
  subst hsz
  have hD := hD0.self (sz := s.heap.size)
  generalize hAe : va_A [(h0, .inr (7, [.ref aH, .ref aB, .ref aJ, .int 0, .int 0, .int 0, .ref rN, .ref rX, .int 0, .int 0, .int 0, .int 0, .int 0, .int 0, .int (-1), .int (-1), .int 0, .int 0, .ref aV])), (ho, .inl (cO, 1, .inr (.inl fo)))] s.heap.size = A at hD hE ⊢
  have hA : ∀ q : Nat, s.heap.size ≤ q → A q := fun q h => by rw [← hAe]; exact Or.inr h
  have hS : va_S A s.heap s.heap [] := va_S.rf
  have hP : va_P D vwCl [(h0, .inr (7, [.ref aH, .ref aB, .ref aJ, .int 0, .int 0, .int 0, .ref rN, .ref rX, .int 0, .int 0, .int 0, .int 0, .int 0, .int 0, .int (-1), .int (-1), .int 0, .int 0, .ref aV])), (ho, .inl (cO, 1, .inr (.inl fo)))] s.heap := hP
  have hl := lv_entry ([.ref h0, .int p0, .ref ho]) (n := 4) (Nat.le_of_ble_eq_true rfl)
  rw [lg_entry_eq]
  generalize (lg_sl ([.ref h0, .int p0, .ref ho]) ++ List.replicate (4 - (lg_sl ([.ref h0, .int p0, .ref ho])).length) Slot.unset).toArray = ls at hl ⊢
  have hl : lv_has ls 4 [(0, .ref h0), (1, .int p0), (2, .ref ho)] := hl
  refine lv_aload_n hx hb dL_many_0 rfl (lv_at hl 2 rfl) ?_
  refine lv_iconst (v := 0) hx hb dL_many_1 (by decide) ?_
  refine lv_aload_n hx hb dL_many_2 rfl (lv_at hl 0 rfl) ?_
  refine lv_iload_n hx hb dL_many_3 rfl (lv_at hl 1 rfl) ?_
  have hPc := hP.sub (ws' := [(h0, .inr (7, [.ref aH, .ref aB, .ref aJ, .int 0, .int 0, .int 0, .ref rN, .ref rX, .int 0, .int 0, .int 0, .int 0, .int 0, .int 0, .int (-1), .int (-1), .int 0, .int 0, .ref aV]))]) [0] rfl
  have hKc := hK.sub (tys' := []) [] rfl
  refine vx_calli (vx_runV (As := [.int p0]) (rest := [.int 0, .ref ho]) ⟨hx, hb, hml, hown, hts⟩ (t_many l hl0 D eT h0 aH aB aJ rN rX aV p0 s.heap.size hn) (cwV 1 hts gL_many_X4_many rfl rfl rfl (by decide +kernel) ⟨Nat.le_of_ble_eq_true rfl, Nat.le_of_ble_eq_true rfl⟩) (pr_v (ci := 7) (q0 := 0) rfl rfl hPc hKc hE hS hA) rfl rfl hl.1 rfl (lv_room (Nat.le_of_ble_eq_true rfl)) dL_many_4 ⟨Nat.le_of_ble_eq_true rfl, Nat.le_of_ble_eq_true rfl⟩) hS (fun q h1 h2 => ro_A h1 h2) (fun q h => ro_F hS hA q h) (fun q h1 h2 => ro_A h1 h2) (fun E ce q9 u t H1 locs ht hvm _ hw hz1 hk1 hS h9 hv9 hc9 => ?_) (fun r u t H1 locs ht hvm hw hB hz1 hk1 hS => hw.elim)
  subst hw
  have hP := ro_P hP hk1
  generalize H1 = H at hP hS h9 ⊢
  refine vx_widen (k := 1) (n := 6) (Nat.le_of_ble_eq_true rfl) (Nat.le_of_ble_eq_true rfl) ?_
  refine vx_catch (E := eIAE) (name := eIAE) hown [] ⟨0, 9, 12, 21⟩ [] (htab.trans rfl) (fun z h => absurd h List.not_mem_nil) (by decide) (by decide) (hts (.classLink RL 21 eIAE) (by decide +kernel)) (va_Nw.use rfl hE.1.2.2.2.2.2.2.1) h9 hv9 hc9 ?_
  refine W.eq (g2 := F0 m 12 ls [.ref q9]) rfl ?_
  refine lv_astore_n (lv' := [(3, .ref q9), (0, .ref h0), (1, .int p0), (2, .ref ho)]) hx hb dL_many_12 rfl hl (by decide) rfl (fun ls hl => ?_)
  refine lv_iconst (v := 1) hx hb dL_many_13 (by decide) ?_
  have hP9 := hP.sub (ws' := [(ho, .inl (cO, 1, .inr (.inl fo)))]) [1] rfl
  have hD9 := hD.sub (ws' := [(ho, .inl (cO, 1, .inr (.inl fo)))]) [1] (by decide) rfl
  have hK9 := hK.sub (tys' := []) [] rfl
  exact W.iret (v := 1) hx hb hr (fun t ht hW => ⟨⟨1, (), rfl, rfl, ⟨by rw [ht]; exact hP9, va_K.moved hW.alike hK9, hD9⟩⟩, hS.F ht⟩) hS.2.2 dL_many_14
set_option maxHeartbeats 4000000 in
set_option maxRecDepth 100000 in
theorem w_house (l : Launch) (D : va_G) (eT : Nat) (h0 : Nat) (aH : Nat) (aB : Nat) (aJ : Nat) (rN : Nat) (rX : Nat) (aV : Nat) (ho : Nat) (cO : ClassId) (fo : Nat → Int64) (sz : Nat) : Met l yL_house wsL_house ({ frames := 1, cells := 0, slots := 0, locals := 20 }) (va_Pc [.ref h0, .ref ho] (pc D eT sz [(h0, .inr (7, [.ref aH, .ref aB, .ref aJ, .int 0, .int 0, .int 0, .ref rN, .ref rX, .int 0, .int 0, .int 0, .int 0, .int 0, .int 0, .int (-1), .int (-1), .int 0, .int 0, .ref aV])), (ho, .inl (cO, 1, .inr (.inl fo)))] [(cO, .long)])) (va_Qi (fun (r : Int32) (_ : Unit) => r = 0) (fun _ t => va_P D vwCl [(ho, .inl (cO, 1, .inr (.inl (vp_updL fo (Int32.toNatClampNeg 0) 0))))] t.heap ∧ va_K D vwCl [] t ∧ va_D (va_A [(h0, .inr (7, [.ref aH, .ref aB, .ref aJ, .int 0, .int 0, .int 0, .ref rN, .ref rX, .int 0, .int 0, .int 0, .int 0, .int 0, .int 0, .int (-1), .int (-1), .int 0, .int 0, .ref aV])), (ho, .inl (cO, 1, .inr (.inl fo)))] sz) [(ho, .inl (cO, 1, .inr (.inl (vp_updL fo (Int32.toNatClampNeg 0) 0))))]) (va_A [(h0, .inr (7, [.ref aH, .ref aB, .ref aJ, .int 0, .int 0, .int 0, .ref rN, .ref rX, .int 0, .int 0, .int 0, .int 0, .int 0, .int 0, .int (-1), .int (-1), .int 0, .int 0, .ref aV])), (ho, .inl (cO, 1, .inr (.inl fo)))] sz)) 0 0 (va_A [(h0, .inr (7, [.ref aH, .ref aB, .ref aJ, .int 0, .int 0, .int 0, .ref rN, .ref rX, .int 0, .int 0, .int 0, .int 0, .int 0, .int 0, .int (-1), .int (-1), .int 0, .int 0, .ref aV])), (ho, .inl (cO, 1, .inr (.inl fo)))] sz) := by
  refine va_MetW (cc := cL_house) (maxL := 3) (ret := (some .int)) (by decide +kernel) rfl ?_
  intro p e s m args below meth c s₁ B hml hv
  obtain ⟨rfl, hsz, hP, hK, hD0, hE⟩ := hv
  have hx := B.exec
  have hb := B.bytes
  have hr := B.returns
  have hts := atoms_spec (ws := wsL_house) B.pre
  have hown : s.vm.findClass RL = some m.cls := findClass_of_methodNamed B.named
  have hlocks := B.notSynchronized
  have htab := vx_table (x := yL_house) B (hts _ List.mem_cons_self)
  subst hsz
  have hD := hD0.self (sz := s.heap.size)
  generalize hAe : va_A [(h0, .inr (7, [.ref aH, .ref aB, .ref aJ, .int 0, .int 0, .int 0, .ref rN, .ref rX, .int 0, .int 0, .int 0, .int 0, .int 0, .int 0, .int (-1), .int (-1), .int 0, .int 0, .ref aV])), (ho, .inl (cO, 1, .inr (.inl fo)))] s.heap.size = A at hD hE ⊢
  have hA : ∀ q : Nat, s.heap.size ≤ q → A q := fun q h => by rw [← hAe]; exact Or.inr h
  have hS : va_S A s.heap s.heap [] := va_S.rf
  have hP : va_P D vwCl [(h0, .inr (7, [.ref aH, .ref aB, .ref aJ, .int 0, .int 0, .int 0, .ref rN, .ref rX, .int 0, .int 0, .int 0, .int 0, .int 0, .int 0, .int (-1), .int (-1), .int 0, .int 0, .ref aV])), (ho, .inl (cO, 1, .inr (.inl fo)))] s.heap := hP
  have hl := lv_entry ([.ref h0, .ref ho]) (n := 3) (Nat.le_of_ble_eq_true rfl)
  rw [lg_entry_eq]
  generalize (lg_sl ([.ref h0, .ref ho]) ++ List.replicate (3 - (lg_sl ([.ref h0, .ref ho])).length) Slot.unset).toArray = ls at hl ⊢
  have hl : lv_has ls 3 [(0, .ref h0), (1, .ref ho)] := hl
  refine lv_aload_n hx hb dL_house_0 rfl (lv_at hl 1 rfl) ?_
  refine lv_iconst (v := 0) hx hb dL_house_1 (by decide) ?_
  refine lv_aload_n hx hb dL_house_2 rfl (lv_at hl 0 rfl) ?_
  have hPc := hP.sub (ws' := [(h0, .inr (7, [.ref aH, .ref aB, .ref aJ, .int 0, .int 0, .int 0, .ref rN, .ref rX, .int 0, .int 0, .int 0, .int 0, .int 0, .int 0, .int (-1), .int (-1), .int 0, .int 0, .ref aV]))]) [0] rfl
  have hKc := hK.sub (tys' := []) [] rfl
  have hDc := hD.sub (ws' := [(h0, .inr (7, [.ref aH, .ref aB, .ref aJ, .int 0, .int 0, .int 0, .ref rN, .ref rX, .int 0, .int 0, .int 0, .int 0, .int 0, .int 0, .int (-1), .int (-1), .int 0, .int 0, .ref aV]))]) [0] (by decide) rfl
  have hFc := va_free (wc := [(h0, .inr (7, [.ref aH, .ref aB, .ref aJ, .int 0, .int 0, .int 0, .ref rN, .ref rX, .int 0, .int 0, .int 0, .int 0, .int 0, .int 0, .int (-1), .int (-1), .int 0, .int 0, .ref aV]))]) hD hS hA [0] rfl
  refine va_calli (va_runV (As := []) (rest := [.int 0, .ref ho]) ⟨hx, hb, hml, hown, hts⟩ (k_house l D eT h0 aH aB aJ rN rX aV s.heap.size ) (cwV 0 hts gL_house_X4_house rfl rfl rfl (by decide +kernel) ⟨Nat.le_of_ble_eq_true rfl, Nat.le_of_ble_eq_true rfl⟩) (pc_v (ci := 7) (q0 := 0) rfl rfl hPc hDc hKc hE hS hFc) rfl rfl hl.1 rfl (lv_room (Nat.le_of_ble_eq_true rfl)) dL_house_3 ⟨Nat.le_of_ble_eq_true rfl, Nat.le_of_ble_eq_true rfl⟩) hS (fun q _ h => hFc q h) hFc (fun r u t H1 locs ht hvm hw hB hz1 hk1 hS => ?_)
  have hw : r = 0 := hw
  rw [hw]
  have hP1 : va_P D vwCl [] H1 := fun k q h => by simp at h
  have hD1 : va_D (va_A [(h0, .inr (7, [.ref aH, .ref aB, .ref aJ, .int 0, .int 0, .int 0, .ref rN, .ref rX, .int 0, .int 0, .int 0, .int 0, .int 0, .int 0, .int (-1), .int (-1), .int 0, .int 0, .ref aV]))] s.heap.size) [] := ⟨fun i j p q h => by simp at h, fun k q h => by simp at h⟩
  obtain ⟨hP, hD⟩ := va_join (wr := [(ho, .inl (cO, 1, .inr (.inl fo)))]) (w1 := []) hP hD [0] [1] rfl rfl (by decide) (by decide) hk1 hFc hP1 hD1
  generalize H1 = H at hP hS ⊢
  have hP : va_P D vwCl [(ho, .inl (cO, 1, .inr (.inl fo)))] H := hP
  have hD : va_D A [(ho, .inl (cO, 1, .inr (.inl fo)))] := hD
  refine lv_i2l (v := 0) hx hb dL_house_6 (by decide) ?_
  refine va_last hx hb hK hP hD hS 0 0 rfl rfl (by unfold vp_in; decide +kernel) dL_house_7 (fun H locs hP hD hS => ?_)
  have hP : va_P D vwCl [(ho, .inl (cO, 1, .inr (.inl (vp_updL fo (Int32.toNatClampNeg 0) 0))))] H := hP
  have hD : va_D A [(ho, .inl (cO, 1, .inr (.inl (vp_updL fo (Int32.toNatClampNeg 0) 0))))] := hD
  refine lv_goto (tgt := 14) hx hb dL_house_8 (by decide) ?_
  refine lv_iconst (v := 0) hx hb dL_house_14 (by decide) ?_
  have hP9 := hP.sub (ws' := [(ho, .inl (cO, 1, .inr (.inl (vp_updL fo (Int32.toNatClampNeg 0) 0))))]) [0] rfl
  have hD9 := hD.sub (ws' := [(ho, .inl (cO, 1, .inr (.inl (vp_updL fo (Int32.toNatClampNeg 0) 0))))]) [0] (by decide) rfl
  have hK9 := hK.sub (tys' := []) [] rfl
  exact W.iret (v := 0) hx hb hr (fun t ht hW => ⟨⟨0, (), rfl, rfl, ⟨by rw [ht]; exact hP9, va_K.moved hW.alike hK9, hD9⟩⟩, hS.F ht⟩) hS.2.2 dL_house_15
set_option maxHeartbeats 4000000 in
set_option maxRecDepth 100000 in
theorem w_judge (l : Launch) (D : va_G) (eT : Nat) (h0 : Nat) (aH : Nat) (aB : Nat) (aJ : Nat) (rN : Nat) (rX : Nat) (aV : Nat) (j0 : Nat) (c1 : Nat) (c2 : Nat) (c3 : Nat) (c4 : Nat) (c5 : Nat) (cJ : ClassId) (fJ : Nat → Option Nat) (ho : Nat) (cO : ClassId) (fo : Nat → Int64) (p0 : Int32) (p1 : Int32) (p2 : Int32) (sz : Nat) (hJ : fJ 0 = some j0) (a1 : 20 ≤ p0) (a2 : p0 ≤ 200) (b1 : 0 ≤ p1) (b2 : p1 ≤ 9) (d1 : (-10) ≤ p2) (d2 : p2 ≤ 10) : Met l yL_judge wsL_judge ({ frames := 2, cells := 0, slots := 0, locals := 46 }) (va_Pc [.ref h0, .int p0, .int p1, .int p2, .ref ho] (pc D eT sz [(h0, .inr (7, [.ref aH, .ref aB, .ref aJ, .int 0, .int 0, .int 0, .ref rN, .ref rX, .int 0, .int 0, .int 0, .int 0, .int 0, .int 0, .int (-1), .int (-1), .int 0, .int 0, .ref aV])), (aJ, .inl (cJ, 5, .inr (.inr (.inr (.inr fJ))))), (j0, .inr (5, [.int 0, .int 0, .int 0, .int 0, .int 0, .ref c1, .ref c2, .int 0, .int 0, .int 0, .int 0, .ref c3, .int 0, .ref c4, .ref c5, .int 0])), (ho, .inl (cO, 1, .inr (.inl fo)))] [(cJ, .object RX2), (cO, .long)])) (va_Qi (fun (r : Int32) (_ : Unit) => r = 0) (fun _ t => va_P D vwCl [(ho, .inl (cO, 1, .inr (.inl (vp_updL fo (Int32.toNatClampNeg 0) 0))))] t.heap ∧ va_K D vwCl [] t ∧ va_D (va_A [(h0, .inr (7, [.ref aH, .ref aB, .ref aJ, .int 0, .int 0, .int 0, .ref rN, .ref rX, .int 0, .int 0, .int 0, .int 0, .int 0, .int 0, .int (-1), .int (-1), .int 0, .int 0, .ref aV])), (aJ, .inl (cJ, 5, .inr (.inr (.inr (.inr fJ))))), (j0, .inr (5, [.int 0, .int 0, .int 0, .int 0, .int 0, .ref c1, .ref c2, .int 0, .int 0, .int 0, .int 0, .ref c3, .int 0, .ref c4, .ref c5, .int 0])), (ho, .inl (cO, 1, .inr (.inl fo)))] sz) [(ho, .inl (cO, 1, .inr (.inl (vp_updL fo (Int32.toNatClampNeg 0) 0))))]) (va_A [(h0, .inr (7, [.ref aH, .ref aB, .ref aJ, .int 0, .int 0, .int 0, .ref rN, .ref rX, .int 0, .int 0, .int 0, .int 0, .int 0, .int 0, .int (-1), .int (-1), .int 0, .int 0, .ref aV])), (aJ, .inl (cJ, 5, .inr (.inr (.inr (.inr fJ))))), (j0, .inr (5, [.int 0, .int 0, .int 0, .int 0, .int 0, .ref c1, .ref c2, .int 0, .int 0, .int 0, .int 0, .ref c3, .int 0, .ref c4, .ref c5, .int 0])), (ho, .inl (cO, 1, .inr (.inl fo)))] sz)) 0 0 (va_A [(h0, .inr (7, [.ref aH, .ref aB, .ref aJ, .int 0, .int 0, .int 0, .ref rN, .ref rX, .int 0, .int 0, .int 0, .int 0, .int 0, .int 0, .int (-1), .int (-1), .int 0, .int 0, .ref aV])), (aJ, .inl (cJ, 5, .inr (.inr (.inr (.inr fJ))))), (j0, .inr (5, [.int 0, .int 0, .int 0, .int 0, .int 0, .ref c1, .ref c2, .int 0, .int 0, .int 0, .int 0, .ref c3, .int 0, .ref c4, .ref c5, .int 0])), (ho, .inl (cO, 1, .inr (.inl fo)))] sz) := by
  refine va_MetW (cc := cL_judge) (maxL := 6) (ret := (some .int)) (by decide +kernel) rfl ?_
  intro p e s m args below meth c s₁ B hml hv
  obtain ⟨rfl, hsz, hP, hK, hD0, hE⟩ := hv
  have hx := B.exec
  have hb := B.bytes
  have hr := B.returns
  have hts := atoms_spec (ws := wsL_judge) B.pre
  have hown : s.vm.findClass RL = some m.cls := findClass_of_methodNamed B.named
  have hlocks := B.notSynchronized
  have htab := vx_table (x := yL_judge) B (hts _ List.mem_cons_self)
  subst hsz
  have hD := hD0.self (sz := s.heap.size)
  generalize hAe : va_A [(h0, .inr (7, [.ref aH, .ref aB, .ref aJ, .int 0, .int 0, .int 0, .ref rN, .ref rX, .int 0, .int 0, .int 0, .int 0, .int 0, .int 0, .int (-1), .int (-1), .int 0, .int 0, .ref aV])), (aJ, .inl (cJ, 5, .inr (.inr (.inr (.inr fJ))))), (j0, .inr (5, [.int 0, .int 0, .int 0, .int 0, .int 0, .ref c1, .ref c2, .int 0, .int 0, .int 0, .int 0, .ref c3, .int 0, .ref c4, .ref c5, .int 0])), (ho, .inl (cO, 1, .inr (.inl fo)))] s.heap.size = A at hD hE ⊢
  have hA : ∀ q : Nat, s.heap.size ≤ q → A q := fun q h => by rw [← hAe]; exact Or.inr h
  have hS : va_S A s.heap s.heap [] := va_S.rf
  have hP : va_P D vwCl [(h0, .inr (7, [.ref aH, .ref aB, .ref aJ, .int 0, .int 0, .int 0, .ref rN, .ref rX, .int 0, .int 0, .int 0, .int 0, .int 0, .int 0, .int (-1), .int (-1), .int 0, .int 0, .ref aV])), (aJ, .inl (cJ, 5, .inr (.inr (.inr (.inr fJ))))), (j0, .inr (5, [.int 0, .int 0, .int 0, .int 0, .int 0, .ref c1, .ref c2, .int 0, .int 0, .int 0, .int 0, .ref c3, .int 0, .ref c4, .ref c5, .int 0])), (ho, .inl (cO, 1, .inr (.inl fo)))] s.heap := hP
  have hl := lv_entry ([.ref h0, .int p0, .int p1, .int p2, .ref ho]) (n := 6) (Nat.le_of_ble_eq_true rfl)
  rw [lg_entry_eq]
  generalize (lg_sl ([.ref h0, .int p0, .int p1, .int p2, .ref ho]) ++ List.replicate (6 - (lg_sl ([.ref h0, .int p0, .int p1, .int p2, .ref ho])).length) Slot.unset).toArray = ls at hl ⊢
  have hl : lv_has ls 6 [(0, .ref h0), (1, .int p0), (2, .int p1), (3, .int p2), (4, .ref ho)] := hl
  refine lv_aload hx hb dL_judge_0 (lv_at hl 4 rfl) ?_
  refine lv_iconst (v := 0) hx hb dL_judge_2 (by decide) ?_
  refine lv_aload_n hx hb dL_judge_3 rfl (lv_at hl 0 rfl) ?_
  refine lv_iload_n hx hb dL_judge_4 rfl (lv_at hl 1 rfl) ?_
  refine lv_iload_n hx hb dL_judge_5 rfl (lv_at hl 2 rfl) ?_
  refine lv_iload_n hx hb dL_judge_6 rfl (lv_at hl 3 rfl) ?_
  have hPc := hP.sub (ws' := [(h0, .inr (7, [.ref aH, .ref aB, .ref aJ, .int 0, .int 0, .int 0, .ref rN, .ref rX, .int 0, .int 0, .int 0, .int 0, .int 0, .int 0, .int (-1), .int (-1), .int 0, .int 0, .ref aV])), (aJ, .inl (cJ, 5, .inr (.inr (.inr (.inr fJ))))), (j0, .inr (5, [.int 0, .int 0, .int 0, .int 0, .int 0, .ref c1, .ref c2, .int 0, .int 0, .int 0, .int 0, .ref c3, .int 0, .ref c4, .ref c5, .int 0]))]) [0, 1, 2] rfl
  have hKc := hK.sub (tys' := [(cJ, .object RX2)]) [0] rfl
  have hDc := hD.sub (ws' := [(h0, .inr (7, [.ref aH, .ref aB, .ref aJ, .int 0, .int 0, .int 0, .ref rN, .ref rX, .int 0, .int 0, .int 0, .int 0, .int 0, .int 0, .int (-1), .int (-1), .int 0, .int 0, .ref aV])), (aJ, .inl (cJ, 5, .inr (.inr (.inr (.inr fJ))))), (j0, .inr (5, [.int 0, .int 0, .int 0, .int 0, .int 0, .ref c1, .ref c2, .int 0, .int 0, .int 0, .int 0, .ref c3, .int 0, .ref c4, .ref c5, .int 0]))]) [0, 1, 2] (by decide) rfl
  have hFc := va_free (wc := [(h0, .inr (7, [.ref aH, .ref aB, .ref aJ, .int 0, .int 0, .int 0, .ref rN, .ref rX, .int 0, .int 0, .int 0, .int 0, .int 0, .int 0, .int (-1), .int (-1), .int 0, .int 0, .ref aV])), (aJ, .inl (cJ, 5, .inr (.inr (.inr (.inr fJ))))), (j0, .inr (5, [.int 0, .int 0, .int 0, .int 0, .int 0, .ref c1, .ref c2, .int 0, .int 0, .int 0, .int 0, .ref c3, .int 0, .ref c4, .ref c5, .int 0]))]) hD hS hA [0, 1, 2] rfl
  refine va_calli (va_runV (As := [.int p0, .int p1, .int p2]) (rest := [.int 0, .ref ho]) ⟨hx, hb, hml, hown, hts⟩ (k_judge l D eT h0 aH aB aJ rN rX aV j0 c1 c2 c3 c4 c5 cJ fJ p0 p1 p2 s.heap.size hJ a1 a2 b1 b2 d1 d2) (cwV 3 hts gL_judge_X4_judge rfl rfl rfl (by decide +kernel) ⟨Nat.le_of_ble_eq_true rfl, Nat.le_of_ble_eq_true rfl⟩) (pc_v (ci := 7) (q0 := 0) rfl rfl hPc hDc hKc hE hS hFc) rfl rfl hl.1 rfl (lv_room (Nat.le_of_ble_eq_true rfl)) dL_judge_7 ⟨Nat.le_of_ble_eq_true rfl, Nat.le_of_ble_eq_true rfl⟩) hS (fun q _ h => hFc q h) hFc (fun r u t H1 locs ht hvm hw hB hz1 hk1 hS => ?_)
  have hw : r = 0 := hw
  rw [hw]
  have hP1 : va_P D vwCl [] H1 := fun k q h => by simp at h
  have hD1 : va_D (va_A [(h0, .inr (7, [.ref aH, .ref aB, .ref aJ, .int 0, .int 0, .int 0, .ref rN, .ref rX, .int 0, .int 0, .int 0, .int 0, .int 0, .int 0, .int (-1), .int (-1), .int 0, .int 0, .ref aV])), (aJ, .inl (cJ, 5, .inr (.inr (.inr (.inr fJ))))), (j0, .inr (5, [.int 0, .int 0, .int 0, .int 0, .int 0, .ref c1, .ref c2, .int 0, .int 0, .int 0, .int 0, .ref c3, .int 0, .ref c4, .ref c5, .int 0]))] s.heap.size) [] := ⟨fun i j p q h => by simp at h, fun k q h => by simp at h⟩
  obtain ⟨hP, hD⟩ := va_join (wr := [(ho, .inl (cO, 1, .inr (.inl fo)))]) (w1 := []) hP hD [0, 1, 2] [3] rfl rfl (by decide) (by decide) hk1 hFc hP1 hD1
  generalize H1 = H at hP hS ⊢
  have hP : va_P D vwCl [(ho, .inl (cO, 1, .inr (.inl fo)))] H := hP
  have hD : va_D A [(ho, .inl (cO, 1, .inr (.inl fo)))] := hD
  refine lv_i2l (v := 0) hx hb dL_judge_10 (by decide) ?_
  refine va_last hx hb hK hP hD hS 0 1 rfl rfl (by unfold vp_in; decide +kernel) dL_judge_11 (fun H locs hP hD hS => ?_)
  have hP : va_P D vwCl [(ho, .inl (cO, 1, .inr (.inl (vp_updL fo (Int32.toNatClampNeg 0) 0))))] H := hP
  have hD : va_D A [(ho, .inl (cO, 1, .inr (.inl (vp_updL fo (Int32.toNatClampNeg 0) 0))))] := hD
  refine lv_goto (tgt := 23) hx hb dL_judge_12 (by decide) ?_
  refine lv_iconst (v := 0) hx hb dL_judge_23 (by decide) ?_
  have hP9 := hP.sub (ws' := [(ho, .inl (cO, 1, .inr (.inl (vp_updL fo (Int32.toNatClampNeg 0) 0))))]) [0] rfl
  have hD9 := hD.sub (ws' := [(ho, .inl (cO, 1, .inr (.inl (vp_updL fo (Int32.toNatClampNeg 0) 0))))]) [0] (by decide) rfl
  have hK9 := hK.sub (tys' := []) [] rfl
  exact W.iret (v := 0) hx hb hr (fun t ht hW => ⟨⟨0, (), rfl, rfl, ⟨by rw [ht]; exact hP9, va_K.moved hW.alike hK9, hD9⟩⟩, hS.F ht⟩) hS.2.2 dL_judge_24
set_option maxHeartbeats 4000000 in
set_option maxRecDepth 100000 in
theorem w_rules (l : Launch) (D : va_G) (eT : Nat) (h0 : Nat) (aH : Nat) (aB : Nat) (aJ : Nat) (rN : Nat) (rX : Nat) (aV : Nat) (ho : Nat) (cO : ClassId) (fo : Nat → Int64) (p0 : Int32) (p1 : Int32) (p2 : Int32) (p3 : Int32) (sz : Nat) (a1 : 1 ≤ p0) (a2 : p0 ≤ 7) (b1 : 50 ≤ p1) (b2 : p1 ≤ p2) (c2 : p2 ≤ 900) (d1 : 0 ≤ p3) (d2 : p3 ≤ 50) : Met l yL_rules wsL_rules ({ frames := 2, cells := 0, slots := 0, locals := 48 }) (va_Pc [.ref h0, .int p0, .int p1, .int p2, .int p3, .ref ho] (pc D eT sz [(h0, .inr (7, [.ref aH, .ref aB, .ref aJ, .int 0, .int 0, .int 0, .ref rN, .ref rX, .int 0, .int 0, .int 0, .int 0, .int 0, .int 0, .int (-1), .int (-1), .int 0, .int 0, .ref aV])), (rN, .inr (6, [.int 7, .int 100, .int 800, .int 10])), (rX, .inr (6, [.int 7, .int 100, .int 800, .int 10])), (ho, .inl (cO, 1, .inr (.inl fo)))] [(cO, .long)])) (va_Qi (fun (r : Int32) (_ : Unit) => r = 0) (fun _ t => va_P D vwCl [(ho, .inl (cO, 1, .inr (.inl (vp_updL fo (Int32.toNatClampNeg 0) 10))))] t.heap ∧ va_K D vwCl [] t ∧ va_D (va_A [(h0, .inr (7, [.ref aH, .ref aB, .ref aJ, .int 0, .int 0, .int 0, .ref rN, .ref rX, .int 0, .int 0, .int 0, .int 0, .int 0, .int 0, .int (-1), .int (-1), .int 0, .int 0, .ref aV])), (rN, .inr (6, [.int 7, .int 100, .int 800, .int 10])), (rX, .inr (6, [.int 7, .int 100, .int 800, .int 10])), (ho, .inl (cO, 1, .inr (.inl fo)))] sz) [(ho, .inl (cO, 1, .inr (.inl (vp_updL fo (Int32.toNatClampNeg 0) 10))))]) (va_A [(h0, .inr (7, [.ref aH, .ref aB, .ref aJ, .int 0, .int 0, .int 0, .ref rN, .ref rX, .int 0, .int 0, .int 0, .int 0, .int 0, .int 0, .int (-1), .int (-1), .int 0, .int 0, .ref aV])), (rN, .inr (6, [.int 7, .int 100, .int 800, .int 10])), (rX, .inr (6, [.int 7, .int 100, .int 800, .int 10])), (ho, .inl (cO, 1, .inr (.inl fo)))] sz)) 0 0 (va_A [(h0, .inr (7, [.ref aH, .ref aB, .ref aJ, .int 0, .int 0, .int 0, .ref rN, .ref rX, .int 0, .int 0, .int 0, .int 0, .int 0, .int 0, .int (-1), .int (-1), .int 0, .int 0, .ref aV])), (rN, .inr (6, [.int 7, .int 100, .int 800, .int 10])), (rX, .inr (6, [.int 7, .int 100, .int 800, .int 10])), (ho, .inl (cO, 1, .inr (.inl fo)))] sz) := by
  refine va_MetW (cc := cL_rules) (maxL := 7) (ret := (some .int)) (by decide +kernel) rfl ?_
  intro p e s m args below meth c s₁ B hml hv
  obtain ⟨rfl, hsz, hP, hK, hD0, hE⟩ := hv
  have hx := B.exec
  have hb := B.bytes
  have hr := B.returns
  have hts := atoms_spec (ws := wsL_rules) B.pre
  have hown : s.vm.findClass RL = some m.cls := findClass_of_methodNamed B.named
  have hlocks := B.notSynchronized
  have htab := vx_table (x := yL_rules) B (hts _ List.mem_cons_self)
  subst hsz
  have hD := hD0.self (sz := s.heap.size)
  generalize hAe : va_A [(h0, .inr (7, [.ref aH, .ref aB, .ref aJ, .int 0, .int 0, .int 0, .ref rN, .ref rX, .int 0, .int 0, .int 0, .int 0, .int 0, .int 0, .int (-1), .int (-1), .int 0, .int 0, .ref aV])), (rN, .inr (6, [.int 7, .int 100, .int 800, .int 10])), (rX, .inr (6, [.int 7, .int 100, .int 800, .int 10])), (ho, .inl (cO, 1, .inr (.inl fo)))] s.heap.size = A at hD hE ⊢
  have hA : ∀ q : Nat, s.heap.size ≤ q → A q := fun q h => by rw [← hAe]; exact Or.inr h
  have hS : va_S A s.heap s.heap [] := va_S.rf
  have hP : va_P D vwCl [(h0, .inr (7, [.ref aH, .ref aB, .ref aJ, .int 0, .int 0, .int 0, .ref rN, .ref rX, .int 0, .int 0, .int 0, .int 0, .int 0, .int 0, .int (-1), .int (-1), .int 0, .int 0, .ref aV])), (rN, .inr (6, [.int 7, .int 100, .int 800, .int 10])), (rX, .inr (6, [.int 7, .int 100, .int 800, .int 10])), (ho, .inl (cO, 1, .inr (.inl fo)))] s.heap := hP
  have hl := lv_entry ([.ref h0, .int p0, .int p1, .int p2, .int p3, .ref ho]) (n := 7) (Nat.le_of_ble_eq_true rfl)
  rw [lg_entry_eq]
  generalize (lg_sl ([.ref h0, .int p0, .int p1, .int p2, .int p3, .ref ho]) ++ List.replicate (7 - (lg_sl ([.ref h0, .int p0, .int p1, .int p2, .int p3, .ref ho])).length) Slot.unset).toArray = ls at hl ⊢
  have hl : lv_has ls 7 [(0, .ref h0), (1, .int p0), (2, .int p1), (3, .int p2), (4, .int p3), (5, .ref ho)] := hl
  refine lv_aload hx hb dL_rules_0 (lv_at hl 5 rfl) ?_
  refine lv_iconst (v := 0) hx hb dL_rules_2 (by decide) ?_
  refine lv_aload_n hx hb dL_rules_3 rfl (lv_at hl 0 rfl) ?_
  refine lv_iload_n hx hb dL_rules_4 rfl (lv_at hl 1 rfl) ?_
  refine lv_iload_n hx hb dL_rules_5 rfl (lv_at hl 2 rfl) ?_
  refine lv_iload_n hx hb dL_rules_6 rfl (lv_at hl 3 rfl) ?_
  refine lv_iload hx hb dL_rules_7 (lv_at hl 4 rfl) ?_
  have hPc := hP.sub (ws' := [(h0, .inr (7, [.ref aH, .ref aB, .ref aJ, .int 0, .int 0, .int 0, .ref rN, .ref rX, .int 0, .int 0, .int 0, .int 0, .int 0, .int 0, .int (-1), .int (-1), .int 0, .int 0, .ref aV])), (rN, .inr (6, [.int 7, .int 100, .int 800, .int 10])), (rX, .inr (6, [.int 7, .int 100, .int 800, .int 10]))]) [0, 1, 2] rfl
  have hKc := hK.sub (tys' := []) [] rfl
  have hDc := hD.sub (ws' := [(h0, .inr (7, [.ref aH, .ref aB, .ref aJ, .int 0, .int 0, .int 0, .ref rN, .ref rX, .int 0, .int 0, .int 0, .int 0, .int 0, .int 0, .int (-1), .int (-1), .int 0, .int 0, .ref aV])), (rN, .inr (6, [.int 7, .int 100, .int 800, .int 10])), (rX, .inr (6, [.int 7, .int 100, .int 800, .int 10]))]) [0, 1, 2] (by decide) rfl
  have hFc := va_free (wc := [(h0, .inr (7, [.ref aH, .ref aB, .ref aJ, .int 0, .int 0, .int 0, .ref rN, .ref rX, .int 0, .int 0, .int 0, .int 0, .int 0, .int 0, .int (-1), .int (-1), .int 0, .int 0, .ref aV])), (rN, .inr (6, [.int 7, .int 100, .int 800, .int 10])), (rX, .inr (6, [.int 7, .int 100, .int 800, .int 10]))]) hD hS hA [0, 1, 2] rfl
  refine va_calli (va_runV (As := [.int p0, .int p1, .int p2, .int p3]) (rest := [.int 0, .ref ho]) ⟨hx, hb, hml, hown, hts⟩ (k_rules l D eT h0 aH aB aJ rN rX aV p0 p1 p2 p3 s.heap.size a1 a2 b1 b2 c2 d1 d2) (cwV 4 hts gL_rules_X4_rules rfl rfl rfl (by decide +kernel) ⟨Nat.le_of_ble_eq_true rfl, Nat.le_of_ble_eq_true rfl⟩) (pc_v (ci := 7) (q0 := 0) rfl rfl hPc hDc hKc hE hS hFc) rfl rfl hl.1 rfl (lv_room (Nat.le_of_ble_eq_true rfl)) dL_rules_9 ⟨Nat.le_of_ble_eq_true rfl, Nat.le_of_ble_eq_true rfl⟩) hS (fun q _ h => hFc q h) hFc (fun r u t H1 locs ht hvm hw hB hz1 hk1 hS => ?_)
  have hw : r = 10 := hw
  rw [hw]
  have hP1 : va_P D vwCl [] H1 := fun k q h => by simp at h
  have hD1 : va_D (va_A [(h0, .inr (7, [.ref aH, .ref aB, .ref aJ, .int 0, .int 0, .int 0, .ref rN, .ref rX, .int 0, .int 0, .int 0, .int 0, .int 0, .int 0, .int (-1), .int (-1), .int 0, .int 0, .ref aV])), (rN, .inr (6, [.int 7, .int 100, .int 800, .int 10])), (rX, .inr (6, [.int 7, .int 100, .int 800, .int 10]))] s.heap.size) [] := ⟨fun i j p q h => by simp at h, fun k q h => by simp at h⟩
  obtain ⟨hP, hD⟩ := va_join (wr := [(ho, .inl (cO, 1, .inr (.inl fo)))]) (w1 := []) hP hD [0, 1, 2] [3] rfl rfl (by decide) (by decide) hk1 hFc hP1 hD1
  generalize H1 = H at hP hS ⊢
  have hP : va_P D vwCl [(ho, .inl (cO, 1, .inr (.inl fo)))] H := hP
  have hD : va_D A [(ho, .inl (cO, 1, .inr (.inl fo)))] := hD
  refine lv_i2l (v := 10) hx hb dL_rules_12 (by decide) ?_
  refine va_last hx hb hK hP hD hS 0 0 rfl rfl (by unfold vp_in; decide +kernel) dL_rules_13 (fun H locs hP hD hS => ?_)
  have hP : va_P D vwCl [(ho, .inl (cO, 1, .inr (.inl (vp_updL fo (Int32.toNatClampNeg 0) 10))))] H := hP
  have hD : va_D A [(ho, .inl (cO, 1, .inr (.inl (vp_updL fo (Int32.toNatClampNeg 0) 10))))] := hD
  refine lv_goto (tgt := 21) hx hb dL_rules_14 (by decide) ?_
  refine lv_iconst (v := 0) hx hb dL_rules_21 (by decide) ?_
  have hP9 := hP.sub (ws' := [(ho, .inl (cO, 1, .inr (.inl (vp_updL fo (Int32.toNatClampNeg 0) 10))))]) [0] rfl
  have hD9 := hD.sub (ws' := [(ho, .inl (cO, 1, .inr (.inl (vp_updL fo (Int32.toNatClampNeg 0) 10))))]) [0] (by decide) rfl
  have hK9 := hK.sub (tys' := []) [] rfl
  exact W.iret (v := 0) hx hb hr (fun t ht hW => ⟨⟨0, (), rfl, rfl, ⟨by rw [ht]; exact hP9, va_K.moved hW.alike hK9, hD9⟩⟩, hS.F ht⟩) hS.2.2 dL_rules_22
set_option maxHeartbeats 4000000 in
set_option maxRecDepth 100000 in
theorem w_pass (l : Launch) (D : va_G) (eT : Nat) (h0 : Nat) (aH : Nat) (aB : Nat) (aJ : Nat) (rN : Nat) (rX : Nat) (aV : Nat) (ho : Nat) (cO : ClassId) (fo : Nat → Int64) (p0 : Int32) (sz : Nat) (h1 : 1 ≤ p0) (h2 : p0 ≤ 60) : Met l yL_pass wsL_pass ({ frames := 2, cells := 0, slots := 0, locals := 46 }) (va_Pc [.ref h0, .int p0, .ref ho] (pc D eT sz [(h0, .inr (7, [.ref aH, .ref aB, .ref aJ, .int 0, .int 0, .int 0, .ref rN, .ref rX, .int 0, .int 0, .int 0, .int 0, .int 0, .int 0, .int (-1), .int (-1), .int 0, .int 0, .ref aV])), (ho, .inl (cO, 1, .inr (.inl fo)))] [(cO, .long)])) (va_Qi (fun (r : Int32) (_ : Unit) => r = 0) (fun _ t => va_P D vwCl [(ho, .inl (cO, 1, .inr (.inl (vp_updL fo (Int32.toNatClampNeg 0) 0))))] t.heap ∧ va_K D vwCl [] t ∧ va_D (va_A [(h0, .inr (7, [.ref aH, .ref aB, .ref aJ, .int 0, .int 0, .int 0, .ref rN, .ref rX, .int 0, .int 0, .int 0, .int 0, .int 0, .int 0, .int (-1), .int (-1), .int 0, .int 0, .ref aV])), (ho, .inl (cO, 1, .inr (.inl fo)))] sz) [(ho, .inl (cO, 1, .inr (.inl (vp_updL fo (Int32.toNatClampNeg 0) 0))))]) (va_A [(h0, .inr (7, [.ref aH, .ref aB, .ref aJ, .int 0, .int 0, .int 0, .ref rN, .ref rX, .int 0, .int 0, .int 0, .int 0, .int 0, .int 0, .int (-1), .int (-1), .int 0, .int 0, .ref aV])), (ho, .inl (cO, 1, .inr (.inl fo)))] sz)) 0 0 (va_A [(h0, .inr (7, [.ref aH, .ref aB, .ref aJ, .int 0, .int 0, .int 0, .ref rN, .ref rX, .int 0, .int 0, .int 0, .int 0, .int 0, .int 0, .int (-1), .int (-1), .int 0, .int 0, .ref aV])), (ho, .inl (cO, 1, .inr (.inl fo)))] sz) := by
  refine va_MetW (cc := cL_pass) (maxL := 4) (ret := (some .int)) (by decide +kernel) rfl ?_
  intro p e s m args below meth c s₁ B hml hv
  obtain ⟨rfl, hsz, hP, hK, hD0, hE⟩ := hv
  have hx := B.exec
  have hb := B.bytes
  have hr := B.returns
  have hts := atoms_spec (ws := wsL_pass) B.pre
  have hown : s.vm.findClass RL = some m.cls := findClass_of_methodNamed B.named
  have hlocks := B.notSynchronized
  have htab := vx_table (x := yL_pass) B (hts _ List.mem_cons_self)
  subst hsz
  have hD := hD0.self (sz := s.heap.size)
  generalize hAe : va_A [(h0, .inr (7, [.ref aH, .ref aB, .ref aJ, .int 0, .int 0, .int 0, .ref rN, .ref rX, .int 0, .int 0, .int 0, .int 0, .int 0, .int 0, .int (-1), .int (-1), .int 0, .int 0, .ref aV])), (ho, .inl (cO, 1, .inr (.inl fo)))] s.heap.size = A at hD hE ⊢
  have hA : ∀ q : Nat, s.heap.size ≤ q → A q := fun q h => by rw [← hAe]; exact Or.inr h
  have hS : va_S A s.heap s.heap [] := va_S.rf
  have hP : va_P D vwCl [(h0, .inr (7, [.ref aH, .ref aB, .ref aJ, .int 0, .int 0, .int 0, .ref rN, .ref rX, .int 0, .int 0, .int 0, .int 0, .int 0, .int 0, .int (-1), .int (-1), .int 0, .int 0, .ref aV])), (ho, .inl (cO, 1, .inr (.inl fo)))] s.heap := hP
  have hl := lv_entry ([.ref h0, .int p0, .ref ho]) (n := 4) (Nat.le_of_ble_eq_true rfl)
  rw [lg_entry_eq]
  generalize (lg_sl ([.ref h0, .int p0, .ref ho]) ++ List.replicate (4 - (lg_sl ([.ref h0, .int p0, .ref ho])).length) Slot.unset).toArray = ls at hl ⊢
  have hl : lv_has ls 4 [(0, .ref h0), (1, .int p0), (2, .ref ho)] := hl
  refine lv_aload_n hx hb dL_pass_0 rfl (lv_at hl 2 rfl) ?_
  refine lv_iconst (v := 0) hx hb dL_pass_1 (by decide) ?_
  refine lv_aload_n hx hb dL_pass_2 rfl (lv_at hl 0 rfl) ?_
  refine lv_iload_n hx hb dL_pass_3 rfl (lv_at hl 1 rfl) ?_
  have hPc := hP.sub (ws' := [(h0, .inr (7, [.ref aH, .ref aB, .ref aJ, .int 0, .int 0, .int 0, .ref rN, .ref rX, .int 0, .int 0, .int 0, .int 0, .int 0, .int 0, .int (-1), .int (-1), .int 0, .int 0, .ref aV]))]) [0] rfl
  have hKc := hK.sub (tys' := []) [] rfl
  have hDc := hD.sub (ws' := [(h0, .inr (7, [.ref aH, .ref aB, .ref aJ, .int 0, .int 0, .int 0, .ref rN, .ref rX, .int 0, .int 0, .int 0, .int 0, .int 0, .int 0, .int (-1), .int (-1), .int 0, .int 0, .ref aV]))]) [0] (by decide) rfl
  have hFc := va_free (wc := [(h0, .inr (7, [.ref aH, .ref aB, .ref aJ, .int 0, .int 0, .int 0, .ref rN, .ref rX, .int 0, .int 0, .int 0, .int 0, .int 0, .int 0, .int (-1), .int (-1), .int 0, .int 0, .ref aV]))]) hD hS hA [0] rfl
  refine va_calli (va_runV (As := [.int p0]) (rest := [.int 0, .ref ho]) ⟨hx, hb, hml, hown, hts⟩ (k_pass l D eT h0 aH aB aJ rN rX aV p0 s.heap.size h1 h2) (cwV 1 hts gL_pass_X4_pass rfl rfl rfl (by decide +kernel) ⟨Nat.le_of_ble_eq_true rfl, Nat.le_of_ble_eq_true rfl⟩) (pc_v (ci := 7) (q0 := 0) rfl rfl hPc hDc hKc hE hS hFc) rfl rfl hl.1 rfl (lv_room (Nat.le_of_ble_eq_true rfl)) dL_pass_4 ⟨Nat.le_of_ble_eq_true rfl, Nat.le_of_ble_eq_true rfl⟩) hS (fun q _ h => hFc q h) hFc (fun r u t H1 locs ht hvm hw hB hz1 hk1 hS => ?_)
  have hw : r = 0 := hw
  rw [hw]
  have hP1 : va_P D vwCl [] H1 := fun k q h => by simp at h
  have hD1 : va_D (va_A [(h0, .inr (7, [.ref aH, .ref aB, .ref aJ, .int 0, .int 0, .int 0, .ref rN, .ref rX, .int 0, .int 0, .int 0, .int 0, .int 0, .int 0, .int (-1), .int (-1), .int 0, .int 0, .ref aV]))] s.heap.size) [] := ⟨fun i j p q h => by simp at h, fun k q h => by simp at h⟩
  obtain ⟨hP, hD⟩ := va_join (wr := [(ho, .inl (cO, 1, .inr (.inl fo)))]) (w1 := []) hP hD [0] [1] rfl rfl (by decide) (by decide) hk1 hFc hP1 hD1
  generalize H1 = H at hP hS ⊢
  have hP : va_P D vwCl [(ho, .inl (cO, 1, .inr (.inl fo)))] H := hP
  have hD : va_D A [(ho, .inl (cO, 1, .inr (.inl fo)))] := hD
  refine lv_i2l (v := 0) hx hb dL_pass_7 (by decide) ?_
  refine va_last hx hb hK hP hD hS 0 0 rfl rfl (by unfold vp_in; decide +kernel) dL_pass_8 (fun H locs hP hD hS => ?_)
  have hP : va_P D vwCl [(ho, .inl (cO, 1, .inr (.inl (vp_updL fo (Int32.toNatClampNeg 0) 0))))] H := hP
  have hD : va_D A [(ho, .inl (cO, 1, .inr (.inl (vp_updL fo (Int32.toNatClampNeg 0) 0))))] := hD
  refine lv_goto (tgt := 18) hx hb dL_pass_9 (by decide) ?_
  refine lv_iconst (v := 0) hx hb dL_pass_18 (by decide) ?_
  have hP9 := hP.sub (ws' := [(ho, .inl (cO, 1, .inr (.inl (vp_updL fo (Int32.toNatClampNeg 0) 0))))]) [0] rfl
  have hD9 := hD.sub (ws' := [(ho, .inl (cO, 1, .inr (.inl (vp_updL fo (Int32.toNatClampNeg 0) 0))))]) [0] (by decide) rfl
  have hK9 := hK.sub (tys' := []) [] rfl
  exact W.iret (v := 0) hx hb hr (fun t ht hW => ⟨⟨0, (), rfl, rfl, ⟨by rw [ht]; exact hP9, va_K.moved hW.alike hK9, hD9⟩⟩, hS.F ht⟩) hS.2.2 dL_pass_19
set_option maxHeartbeats 4000000 in
set_option maxRecDepth 100000 in
theorem w_wins (l : Launch) (D : va_G) (eT : Nat) (h0 : Nat) (aH : Nat) (aB : Nat) (aJ : Nat) (rN : Nat) (rX : Nat) (aV : Nat) (ho : Nat) (cO : ClassId) (fo : Nat → Int64) (p0 : Int32) (sz : Nat) (h1 : 0 ≤ p0) (h2 : p0 ≤ 31) : Met l yL_wins wsL_wins ({ frames := 2, cells := 0, slots := 0, locals := 48 }) (va_Pc [.ref h0, .int p0, .ref ho] (pc D eT sz [(h0, .inr (7, [.ref aH, .ref aB, .ref aJ, .int 0, .int 0, .int 0, .ref rN, .ref rX, .int 0, .int 0, .int 0, .int 0, .int 0, .int 0, .int (-1), .int (-1), .int 0, .int 0, .ref aV])), (ho, .inl (cO, 1, .inr (.inl fo)))] [(cO, .long)])) (va_Qi (fun (r : Int32) (_ : Unit) => r = 0) (fun _ t => va_P D vwCl [(ho, .inl (cO, 1, .inr (.inl (vp_updL fo (Int32.toNatClampNeg 0) (-1)))))] t.heap ∧ va_K D vwCl [] t ∧ va_D (va_A [(h0, .inr (7, [.ref aH, .ref aB, .ref aJ, .int 0, .int 0, .int 0, .ref rN, .ref rX, .int 0, .int 0, .int 0, .int 0, .int 0, .int 0, .int (-1), .int (-1), .int 0, .int 0, .ref aV])), (ho, .inl (cO, 1, .inr (.inl fo)))] sz) [(ho, .inl (cO, 1, .inr (.inl (vp_updL fo (Int32.toNatClampNeg 0) (-1)))))]) (va_A [(h0, .inr (7, [.ref aH, .ref aB, .ref aJ, .int 0, .int 0, .int 0, .ref rN, .ref rX, .int 0, .int 0, .int 0, .int 0, .int 0, .int 0, .int (-1), .int (-1), .int 0, .int 0, .ref aV])), (ho, .inl (cO, 1, .inr (.inl fo)))] sz)) 0 0 (va_A [(h0, .inr (7, [.ref aH, .ref aB, .ref aJ, .int 0, .int 0, .int 0, .ref rN, .ref rX, .int 0, .int 0, .int 0, .int 0, .int 0, .int 0, .int (-1), .int (-1), .int 0, .int 0, .ref aV])), (ho, .inl (cO, 1, .inr (.inl fo)))] sz) := by
  refine va_MetW (cc := cL_wins) (maxL := 4) (ret := (some .int)) (by decide +kernel) rfl ?_
  intro p e s m args below meth c s₁ B hml hv
  obtain ⟨rfl, hsz, hP, hK, hD0, hE⟩ := hv
  have hx := B.exec
  have hb := B.bytes
  have hr := B.returns
  have hts := atoms_spec (ws := wsL_wins) B.pre
  have hown : s.vm.findClass RL = some m.cls := findClass_of_methodNamed B.named
  have hlocks := B.notSynchronized
  have htab := vx_table (x := yL_wins) B (hts _ List.mem_cons_self)
  subst hsz
  have hD := hD0.self (sz := s.heap.size)
  generalize hAe : va_A [(h0, .inr (7, [.ref aH, .ref aB, .ref aJ, .int 0, .int 0, .int 0, .ref rN, .ref rX, .int 0, .int 0, .int 0, .int 0, .int 0, .int 0, .int (-1), .int (-1), .int 0, .int 0, .ref aV])), (ho, .inl (cO, 1, .inr (.inl fo)))] s.heap.size = A at hD hE ⊢
  have hA : ∀ q : Nat, s.heap.size ≤ q → A q := fun q h => by rw [← hAe]; exact Or.inr h
  have hS : va_S A s.heap s.heap [] := va_S.rf
  have hP : va_P D vwCl [(h0, .inr (7, [.ref aH, .ref aB, .ref aJ, .int 0, .int 0, .int 0, .ref rN, .ref rX, .int 0, .int 0, .int 0, .int 0, .int 0, .int 0, .int (-1), .int (-1), .int 0, .int 0, .ref aV])), (ho, .inl (cO, 1, .inr (.inl fo)))] s.heap := hP
  have hl := lv_entry ([.ref h0, .int p0, .ref ho]) (n := 4) (Nat.le_of_ble_eq_true rfl)
  rw [lg_entry_eq]
  generalize (lg_sl ([.ref h0, .int p0, .ref ho]) ++ List.replicate (4 - (lg_sl ([.ref h0, .int p0, .ref ho])).length) Slot.unset).toArray = ls at hl ⊢
  have hl : lv_has ls 4 [(0, .ref h0), (1, .int p0), (2, .ref ho)] := hl
  refine lv_aload_n hx hb dL_wins_0 rfl (lv_at hl 2 rfl) ?_
  refine lv_iconst (v := 0) hx hb dL_wins_1 (by decide) ?_
  refine lv_aload_n hx hb dL_wins_2 rfl (lv_at hl 0 rfl) ?_
  refine lv_iload_n hx hb dL_wins_3 rfl (lv_at hl 1 rfl) ?_
  have hPc := hP.sub (ws' := [(h0, .inr (7, [.ref aH, .ref aB, .ref aJ, .int 0, .int 0, .int 0, .ref rN, .ref rX, .int 0, .int 0, .int 0, .int 0, .int 0, .int 0, .int (-1), .int (-1), .int 0, .int 0, .ref aV]))]) [0] rfl
  have hKc := hK.sub (tys' := []) [] rfl
  refine va_calli (va_runV (As := [.int p0]) (rest := [.int 0, .ref ho]) ⟨hx, hb, hml, hown, hts⟩ (k_wins l D eT h0 aH aB aJ rN rX aV p0 s.heap.size h1 h2) (cwV 1 hts gL_wins_X4_wins rfl rfl rfl (by decide +kernel) ⟨Nat.le_of_ble_eq_true rfl, Nat.le_of_ble_eq_true rfl⟩) (pr_v (ci := 7) (q0 := 0) rfl rfl hPc hKc hE hS hA) rfl rfl hl.1 rfl (lv_room (Nat.le_of_ble_eq_true rfl)) dL_wins_4 ⟨Nat.le_of_ble_eq_true rfl, Nat.le_of_ble_eq_true rfl⟩) hS (fun q h1 h2 => ro_A h1 h2) (fun q h => ro_F hS hA q h) (fun r u t H1 locs ht hvm hw hB hz1 hk1 hS => ?_)
  have hw : r = (-1) := hw
  rw [hw]
  have hP := ro_P hP hk1
  generalize H1 = H at hP hS ⊢
  refine lv_i2l (v := (-1)) hx hb dL_wins_7 (by decide) ?_
  refine va_last hx hb hK hP hD hS 1 0 rfl rfl (by unfold vp_in; decide +kernel) dL_wins_8 (fun H locs hP hD hS => ?_)
  have hP : va_P D vwCl [(h0, .inr (7, [.ref aH, .ref aB, .ref aJ, .int 0, .int 0, .int 0, .ref rN, .ref rX, .int 0, .int 0, .int 0, .int 0, .int 0, .int 0, .int (-1), .int (-1), .int 0, .int 0, .ref aV])), (ho, .inl (cO, 1, .inr (.inl (vp_updL fo (Int32.toNatClampNeg 0) (-1)))))] H := hP
  have hD : va_D A [(h0, .inr (7, [.ref aH, .ref aB, .ref aJ, .int 0, .int 0, .int 0, .ref rN, .ref rX, .int 0, .int 0, .int 0, .int 0, .int 0, .int 0, .int (-1), .int (-1), .int 0, .int 0, .ref aV])), (ho, .inl (cO, 1, .inr (.inl (vp_updL fo (Int32.toNatClampNeg 0) (-1)))))] := hD
  refine lv_goto (tgt := 15) hx hb dL_wins_9 (by decide) ?_
  refine lv_iconst (v := 0) hx hb dL_wins_15 (by decide) ?_
  have hP9 := hP.sub (ws' := [(ho, .inl (cO, 1, .inr (.inl (vp_updL fo (Int32.toNatClampNeg 0) (-1)))))]) [1] rfl
  have hD9 := hD.sub (ws' := [(ho, .inl (cO, 1, .inr (.inl (vp_updL fo (Int32.toNatClampNeg 0) (-1)))))]) [1] (by decide) rfl
  have hK9 := hK.sub (tys' := []) [] rfl
  exact W.iret (v := 0) hx hb hr (fun t ht hW => ⟨⟨0, (), rfl, rfl, ⟨by rw [ht]; exact hP9, va_K.moved hW.alike hK9, hD9⟩⟩, hS.F ht⟩) hS.2.2 dL_wins_16
set_option maxHeartbeats 4000000 in
set_option maxRecDepth 100000 in
theorem w_wouldMiss (l : Launch) (D : va_G) (eT : Nat) (h0 : Nat) (aH : Nat) (aB : Nat) (aJ : Nat) (rN : Nat) (rX : Nat) (aV : Nat) (ho : Nat) (cO : ClassId) (fo : Nat → Int64) (p0 : Int32) (sz : Nat) (h1 : 1 ≤ p0) (h2 : p0 ≤ 60) : Met l yL_wouldMiss wsL_wouldMiss ({ frames := 2, cells := 0, slots := 0, locals := 45 }) (va_Pc [.ref h0, .int p0, .ref ho] (pc D eT sz [(h0, .inr (7, [.ref aH, .ref aB, .ref aJ, .int 0, .int 0, .int 0, .ref rN, .ref rX, .int 0, .int 0, .int 0, .int 0, .int 0, .int 0, .int (-1), .int (-1), .int 0, .int 0, .ref aV])), (ho, .inl (cO, 1, .inr (.inl fo)))] [(cO, .long)])) (va_Qi (fun (r : Int32) (_ : Unit) => r = 0) (fun _ t => va_P D vwCl [(ho, .inl (cO, 1, .inr (.inl (vp_updL fo (Int32.toNatClampNeg 0) 0))))] t.heap ∧ va_K D vwCl [] t ∧ va_D (va_A [(h0, .inr (7, [.ref aH, .ref aB, .ref aJ, .int 0, .int 0, .int 0, .ref rN, .ref rX, .int 0, .int 0, .int 0, .int 0, .int 0, .int 0, .int (-1), .int (-1), .int 0, .int 0, .ref aV])), (ho, .inl (cO, 1, .inr (.inl fo)))] sz) [(ho, .inl (cO, 1, .inr (.inl (vp_updL fo (Int32.toNatClampNeg 0) 0))))]) (va_A [(h0, .inr (7, [.ref aH, .ref aB, .ref aJ, .int 0, .int 0, .int 0, .ref rN, .ref rX, .int 0, .int 0, .int 0, .int 0, .int 0, .int 0, .int (-1), .int (-1), .int 0, .int 0, .ref aV])), (ho, .inl (cO, 1, .inr (.inl fo)))] sz)) 0 0 (va_A [(h0, .inr (7, [.ref aH, .ref aB, .ref aJ, .int 0, .int 0, .int 0, .ref rN, .ref rX, .int 0, .int 0, .int 0, .int 0, .int 0, .int 0, .int (-1), .int (-1), .int 0, .int 0, .ref aV])), (ho, .inl (cO, 1, .inr (.inl fo)))] sz) := by
  refine va_MetW (cc := cL_wouldMiss) (maxL := 4) (ret := (some .int)) (by decide +kernel) rfl ?_
  intro p e s m args below meth c s₁ B hml hv
  obtain ⟨rfl, hsz, hP, hK, hD0, hE⟩ := hv
  have hx := B.exec
  have hb := B.bytes
  have hr := B.returns
  have hts := atoms_spec (ws := wsL_wouldMiss) B.pre
  have hown : s.vm.findClass RL = some m.cls := findClass_of_methodNamed B.named
  have hlocks := B.notSynchronized
  have htab := vx_table (x := yL_wouldMiss) B (hts _ List.mem_cons_self)
  subst hsz
  have hD := hD0.self (sz := s.heap.size)
  generalize hAe : va_A [(h0, .inr (7, [.ref aH, .ref aB, .ref aJ, .int 0, .int 0, .int 0, .ref rN, .ref rX, .int 0, .int 0, .int 0, .int 0, .int 0, .int 0, .int (-1), .int (-1), .int 0, .int 0, .ref aV])), (ho, .inl (cO, 1, .inr (.inl fo)))] s.heap.size = A at hD hE ⊢
  have hA : ∀ q : Nat, s.heap.size ≤ q → A q := fun q h => by rw [← hAe]; exact Or.inr h
  have hS : va_S A s.heap s.heap [] := va_S.rf
  have hP : va_P D vwCl [(h0, .inr (7, [.ref aH, .ref aB, .ref aJ, .int 0, .int 0, .int 0, .ref rN, .ref rX, .int 0, .int 0, .int 0, .int 0, .int 0, .int 0, .int (-1), .int (-1), .int 0, .int 0, .ref aV])), (ho, .inl (cO, 1, .inr (.inl fo)))] s.heap := hP
  have hl := lv_entry ([.ref h0, .int p0, .ref ho]) (n := 4) (Nat.le_of_ble_eq_true rfl)
  rw [lg_entry_eq]
  generalize (lg_sl ([.ref h0, .int p0, .ref ho]) ++ List.replicate (4 - (lg_sl ([.ref h0, .int p0, .ref ho])).length) Slot.unset).toArray = ls at hl ⊢
  have hl : lv_has ls 4 [(0, .ref h0), (1, .int p0), (2, .ref ho)] := hl
  refine lv_aload_n hx hb dL_wouldMiss_0 rfl (lv_at hl 2 rfl) ?_
  refine lv_iconst (v := 0) hx hb dL_wouldMiss_1 (by decide) ?_
  refine lv_aload_n hx hb dL_wouldMiss_2 rfl (lv_at hl 0 rfl) ?_
  refine lv_iload_n hx hb dL_wouldMiss_3 rfl (lv_at hl 1 rfl) ?_
  have hPc := hP.sub (ws' := [(h0, .inr (7, [.ref aH, .ref aB, .ref aJ, .int 0, .int 0, .int 0, .ref rN, .ref rX, .int 0, .int 0, .int 0, .int 0, .int 0, .int 0, .int (-1), .int (-1), .int 0, .int 0, .ref aV]))]) [0] rfl
  have hKc := hK.sub (tys' := []) [] rfl
  refine va_calli (va_runV (As := [.int p0]) (rest := [.int 0, .ref ho]) ⟨hx, hb, hml, hown, hts⟩ (k_wouldMiss l D eT h0 aH aB aJ rN rX aV p0 s.heap.size h1 h2) (cwV 1 hts gL_wouldMiss_X4_wouldMiss rfl rfl rfl (by decide +kernel) ⟨Nat.le_of_ble_eq_true rfl, Nat.le_of_ble_eq_true rfl⟩) (pr_v (ci := 7) (q0 := 0) rfl rfl hPc hKc hE hS hA) rfl rfl hl.1 rfl (lv_room (Nat.le_of_ble_eq_true rfl)) dL_wouldMiss_4 ⟨Nat.le_of_ble_eq_true rfl, Nat.le_of_ble_eq_true rfl⟩) hS (fun q h1 h2 => ro_A h1 h2) (fun q h => ro_F hS hA q h) (fun r u t H1 locs ht hvm hw hB hz1 hk1 hS => ?_)
  have hw : r = 0 := hw
  rw [hw]
  have hP := ro_P hP hk1
  generalize H1 = H at hP hS ⊢
  refine lv_i2l (v := 0) hx hb dL_wouldMiss_7 (by decide) ?_
  refine va_last hx hb hK hP hD hS 1 0 rfl rfl (by unfold vp_in; decide +kernel) dL_wouldMiss_8 (fun H locs hP hD hS => ?_)
  have hP : va_P D vwCl [(h0, .inr (7, [.ref aH, .ref aB, .ref aJ, .int 0, .int 0, .int 0, .ref rN, .ref rX, .int 0, .int 0, .int 0, .int 0, .int 0, .int 0, .int (-1), .int (-1), .int 0, .int 0, .ref aV])), (ho, .inl (cO, 1, .inr (.inl (vp_updL fo (Int32.toNatClampNeg 0) 0))))] H := hP
  have hD : va_D A [(h0, .inr (7, [.ref aH, .ref aB, .ref aJ, .int 0, .int 0, .int 0, .ref rN, .ref rX, .int 0, .int 0, .int 0, .int 0, .int 0, .int 0, .int (-1), .int (-1), .int 0, .int 0, .ref aV])), (ho, .inl (cO, 1, .inr (.inl (vp_updL fo (Int32.toNatClampNeg 0) 0))))] := hD
  refine lv_goto (tgt := 15) hx hb dL_wouldMiss_9 (by decide) ?_
  refine lv_iconst (v := 0) hx hb dL_wouldMiss_15 (by decide) ?_
  have hP9 := hP.sub (ws' := [(ho, .inl (cO, 1, .inr (.inl (vp_updL fo (Int32.toNatClampNeg 0) 0))))]) [1] rfl
  have hD9 := hD.sub (ws' := [(ho, .inl (cO, 1, .inr (.inl (vp_updL fo (Int32.toNatClampNeg 0) 0))))]) [1] (by decide) rfl
  have hK9 := hK.sub (tys' := []) [] rfl
  exact W.iret (v := 0) hx hb hr (fun t ht hW => ⟨⟨0, (), rfl, rfl, ⟨by rw [ht]; exact hP9, va_K.moved hW.alike hK9, hD9⟩⟩, hS.F ht⟩) hS.2.2 dL_wouldMiss_16
set_option maxHeartbeats 4000000 in
set_option maxRecDepth 100000 in
theorem w_many_0 (l : Launch) (D : va_G) (eT : Nat) (h0 : Nat) (aH : Nat) (aB : Nat) (aJ : Nat) (rN : Nat) (rX : Nat) (aV : Nat) (ho : Nat) (cO : ClassId) (fo : Nat → Int64) (sz : Nat) : Met l yL_many wsL_many ({ frames := 1, cells := 0, slots := 0, locals := 21 }) (va_Pc [.ref h0, .int 0, .ref ho] (pc D eT sz [(h0, .inr (7, [.ref aH, .ref aB, .ref aJ, .int 0, .int 0, .int 0, .ref rN, .ref rX, .int 0, .int 0, .int 0, .int 0, .int 0, .int 0, .int (-1), .int (-1), .int 0, .int 0, .ref aV])), (rN, .inr (6, [.int 7, .int 100, .int 800, .int 10])), (ho, .inl (cO, 1, .inr (.inl fo)))] [(cO, .long)])) (va_Qi (fun (r : Int32) (_ : Unit) => r = 0) (fun _ t => va_P D vwCl [(ho, .inl (cO, 1, .inr (.inl (vp_updL fo (Int32.toNatClampNeg 0) 0))))] t.heap ∧ va_K D vwCl [] t ∧ va_D (va_A [(h0, .inr (7, [.ref aH, .ref aB, .ref aJ, .int 0, .int 0, .int 0, .ref rN, .ref rX, .int 0, .int 0, .int 0, .int 0, .int 0, .int 0, .int (-1), .int (-1), .int 0, .int 0, .ref aV])), (rN, .inr (6, [.int 7, .int 100, .int 800, .int 10])), (ho, .inl (cO, 1, .inr (.inl fo)))] sz) [(ho, .inl (cO, 1, .inr (.inl (vp_updL fo (Int32.toNatClampNeg 0) 0))))]) (va_A [(h0, .inr (7, [.ref aH, .ref aB, .ref aJ, .int 0, .int 0, .int 0, .ref rN, .ref rX, .int 0, .int 0, .int 0, .int 0, .int 0, .int 0, .int (-1), .int (-1), .int 0, .int 0, .ref aV])), (rN, .inr (6, [.int 7, .int 100, .int 800, .int 10])), (ho, .inl (cO, 1, .inr (.inl fo)))] sz)) 0 0 (va_A [(h0, .inr (7, [.ref aH, .ref aB, .ref aJ, .int 0, .int 0, .int 0, .ref rN, .ref rX, .int 0, .int 0, .int 0, .int 0, .int 0, .int 0, .int (-1), .int (-1), .int 0, .int 0, .ref aV])), (rN, .inr (6, [.int 7, .int 100, .int 800, .int 10])), (ho, .inl (cO, 1, .inr (.inl fo)))] sz) := by
  refine va_MetW (cc := cL_many) (maxL := 4) (ret := (some .int)) (by decide +kernel) rfl ?_
  intro p e s m args below meth c s₁ B hml hv
  obtain ⟨rfl, hsz, hP, hK, hD0, hE⟩ := hv
  have hx := B.exec
  have hb := B.bytes
  have hr := B.returns
  have hts := atoms_spec (ws := wsL_many) B.pre
  have hown : s.vm.findClass RL = some m.cls := findClass_of_methodNamed B.named
  have hlocks := B.notSynchronized
  have htab := vx_table (x := yL_many) B (hts _ List.mem_cons_self)
  subst hsz
  have hD := hD0.self (sz := s.heap.size)
  generalize hAe : va_A [(h0, .inr (7, [.ref aH, .ref aB, .ref aJ, .int 0, .int 0, .int 0, .ref rN, .ref rX, .int 0, .int 0, .int 0, .int 0, .int 0, .int 0, .int (-1), .int (-1), .int 0, .int 0, .ref aV])), (rN, .inr (6, [.int 7, .int 100, .int 800, .int 10])), (ho, .inl (cO, 1, .inr (.inl fo)))] s.heap.size = A at hD hE ⊢
  have hA : ∀ q : Nat, s.heap.size ≤ q → A q := fun q h => by rw [← hAe]; exact Or.inr h
  have hS : va_S A s.heap s.heap [] := va_S.rf
  have hP : va_P D vwCl [(h0, .inr (7, [.ref aH, .ref aB, .ref aJ, .int 0, .int 0, .int 0, .ref rN, .ref rX, .int 0, .int 0, .int 0, .int 0, .int 0, .int 0, .int (-1), .int (-1), .int 0, .int 0, .ref aV])), (rN, .inr (6, [.int 7, .int 100, .int 800, .int 10])), (ho, .inl (cO, 1, .inr (.inl fo)))] s.heap := hP
  have hl := lv_entry ([.ref h0, .int 0, .ref ho]) (n := 4) (Nat.le_of_ble_eq_true rfl)
  rw [lg_entry_eq]
  generalize (lg_sl ([.ref h0, .int 0, .ref ho]) ++ List.replicate (4 - (lg_sl ([.ref h0, .int 0, .ref ho])).length) Slot.unset).toArray = ls at hl ⊢
  have hl : lv_has ls 4 [(0, .ref h0), (1, .int 0), (2, .ref ho)] := hl
  refine lv_aload_n hx hb dL_many_0 rfl (lv_at hl 2 rfl) ?_
  refine lv_iconst (v := 0) hx hb dL_many_1 (by decide) ?_
  refine lv_aload_n hx hb dL_many_2 rfl (lv_at hl 0 rfl) ?_
  refine lv_iload_n hx hb dL_many_3 rfl (lv_at hl 1 rfl) ?_
  have hPc := hP.sub (ws' := [(h0, .inr (7, [.ref aH, .ref aB, .ref aJ, .int 0, .int 0, .int 0, .ref rN, .ref rX, .int 0, .int 0, .int 0, .int 0, .int 0, .int 0, .int (-1), .int (-1), .int 0, .int 0, .ref aV])), (rN, .inr (6, [.int 7, .int 100, .int 800, .int 10]))]) [0, 1] rfl
  have hKc := hK.sub (tys' := []) [] rfl
  refine va_calli (va_runV (As := [.int 0]) (rest := [.int 0, .ref ho]) ⟨hx, hb, hml, hown, hts⟩ (k_many_0 l D eT h0 aH aB aJ rN rX aV s.heap.size ) (cwV 1 hts gL_many_X4_many rfl rfl rfl (by decide +kernel) ⟨Nat.le_of_ble_eq_true rfl, Nat.le_of_ble_eq_true rfl⟩) (pr_v (ci := 7) (q0 := 0) rfl rfl hPc hKc hE hS hA) rfl rfl hl.1 rfl (lv_room (Nat.le_of_ble_eq_true rfl)) dL_many_4 ⟨Nat.le_of_ble_eq_true rfl, Nat.le_of_ble_eq_true rfl⟩) hS (fun q h1 h2 => ro_A h1 h2) (fun q h => ro_F hS hA q h) (fun r u t H1 locs ht hvm hw hB hz1 hk1 hS => ?_)
  have hw : r = 0 := hw
  rw [hw]
  have hP := ro_P hP hk1
  generalize H1 = H at hP hS ⊢
  refine lv_i2l (v := 0) hx hb dL_many_7 (by decide) ?_
  refine va_last hx hb hK hP hD hS 2 0 rfl rfl (by unfold vp_in; decide +kernel) dL_many_8 (fun H locs hP hD hS => ?_)
  have hP : va_P D vwCl [(h0, .inr (7, [.ref aH, .ref aB, .ref aJ, .int 0, .int 0, .int 0, .ref rN, .ref rX, .int 0, .int 0, .int 0, .int 0, .int 0, .int 0, .int (-1), .int (-1), .int 0, .int 0, .ref aV])), (rN, .inr (6, [.int 7, .int 100, .int 800, .int 10])), (ho, .inl (cO, 1, .inr (.inl (vp_updL fo (Int32.toNatClampNeg 0) 0))))] H := hP
  have hD : va_D A [(h0, .inr (7, [.ref aH, .ref aB, .ref aJ, .int 0, .int 0, .int 0, .ref rN, .ref rX, .int 0, .int 0, .int 0, .int 0, .int 0, .int 0, .int (-1), .int (-1), .int 0, .int 0, .ref aV])), (rN, .inr (6, [.int 7, .int 100, .int 800, .int 10])), (ho, .inl (cO, 1, .inr (.inl (vp_updL fo (Int32.toNatClampNeg 0) 0))))] := hD
  refine lv_goto (tgt := 15) hx hb dL_many_9 (by decide) ?_
  refine lv_iconst (v := 0) hx hb dL_many_15 (by decide) ?_
  have hP9 := hP.sub (ws' := [(ho, .inl (cO, 1, .inr (.inl (vp_updL fo (Int32.toNatClampNeg 0) 0))))]) [2] rfl
  have hD9 := hD.sub (ws' := [(ho, .inl (cO, 1, .inr (.inl (vp_updL fo (Int32.toNatClampNeg 0) 0))))]) [2] (by decide) rfl
  have hK9 := hK.sub (tys' := []) [] rfl
  exact W.iret (v := 0) hx hb hr (fun t ht hW => ⟨⟨0, (), rfl, rfl, ⟨by rw [ht]; exact hP9, va_K.moved hW.alike hK9, hD9⟩⟩, hS.F ht⟩) hS.2.2 dL_many_16
set_option maxHeartbeats 4000000 in
set_option maxRecDepth 100000 in
theorem w_many_1 (l : Launch) (D : va_G) (eT : Nat) (h0 : Nat) (aH : Nat) (aB : Nat) (aJ : Nat) (rN : Nat) (rX : Nat) (aV : Nat) (ho : Nat) (cO : ClassId) (fo : Nat → Int64) (sz : Nat) : Met l yL_many wsL_many ({ frames := 1, cells := 0, slots := 0, locals := 21 }) (va_Pc [.ref h0, .int 1, .ref ho] (pc D eT sz [(h0, .inr (7, [.ref aH, .ref aB, .ref aJ, .int 0, .int 0, .int 0, .ref rN, .ref rX, .int 0, .int 0, .int 0, .int 0, .int 0, .int 0, .int (-1), .int (-1), .int 0, .int 0, .ref aV])), (rN, .inr (6, [.int 7, .int 100, .int 800, .int 10])), (ho, .inl (cO, 1, .inr (.inl fo)))] [(cO, .long)])) (va_Qi (fun (r : Int32) (_ : Unit) => r = 0) (fun _ t => va_P D vwCl [(ho, .inl (cO, 1, .inr (.inl (vp_updL fo (Int32.toNatClampNeg 0) 0))))] t.heap ∧ va_K D vwCl [] t ∧ va_D (va_A [(h0, .inr (7, [.ref aH, .ref aB, .ref aJ, .int 0, .int 0, .int 0, .ref rN, .ref rX, .int 0, .int 0, .int 0, .int 0, .int 0, .int 0, .int (-1), .int (-1), .int 0, .int 0, .ref aV])), (rN, .inr (6, [.int 7, .int 100, .int 800, .int 10])), (ho, .inl (cO, 1, .inr (.inl fo)))] sz) [(ho, .inl (cO, 1, .inr (.inl (vp_updL fo (Int32.toNatClampNeg 0) 0))))]) (va_A [(h0, .inr (7, [.ref aH, .ref aB, .ref aJ, .int 0, .int 0, .int 0, .ref rN, .ref rX, .int 0, .int 0, .int 0, .int 0, .int 0, .int 0, .int (-1), .int (-1), .int 0, .int 0, .ref aV])), (rN, .inr (6, [.int 7, .int 100, .int 800, .int 10])), (ho, .inl (cO, 1, .inr (.inl fo)))] sz)) 0 0 (va_A [(h0, .inr (7, [.ref aH, .ref aB, .ref aJ, .int 0, .int 0, .int 0, .ref rN, .ref rX, .int 0, .int 0, .int 0, .int 0, .int 0, .int 0, .int (-1), .int (-1), .int 0, .int 0, .ref aV])), (rN, .inr (6, [.int 7, .int 100, .int 800, .int 10])), (ho, .inl (cO, 1, .inr (.inl fo)))] sz) := by
  refine va_MetW (cc := cL_many) (maxL := 4) (ret := (some .int)) (by decide +kernel) rfl ?_
  intro p e s m args below meth c s₁ B hml hv
  obtain ⟨rfl, hsz, hP, hK, hD0, hE⟩ := hv
  have hx := B.exec
  have hb := B.bytes
  have hr := B.returns
  have hts := atoms_spec (ws := wsL_many) B.pre
  have hown : s.vm.findClass RL = some m.cls := findClass_of_methodNamed B.named
  have hlocks := B.notSynchronized
  have htab := vx_table (x := yL_many) B (hts _ List.mem_cons_self)
  subst hsz
  have hD := hD0.self (sz := s.heap.size)
  generalize hAe : va_A [(h0, .inr (7, [.ref aH, .ref aB, .ref aJ, .int 0, .int 0, .int 0, .ref rN, .ref rX, .int 0, .int 0, .int 0, .int 0, .int 0, .int 0, .int (-1), .int (-1), .int 0, .int 0, .ref aV])), (rN, .inr (6, [.int 7, .int 100, .int 800, .int 10])), (ho, .inl (cO, 1, .inr (.inl fo)))] s.heap.size = A at hD hE ⊢
  have hA : ∀ q : Nat, s.heap.size ≤ q → A q := fun q h => by rw [← hAe]; exact Or.inr h
  have hS : va_S A s.heap s.heap [] := va_S.rf
  have hP : va_P D vwCl [(h0, .inr (7, [.ref aH, .ref aB, .ref aJ, .int 0, .int 0, .int 0, .ref rN, .ref rX, .int 0, .int 0, .int 0, .int 0, .int 0, .int 0, .int (-1), .int (-1), .int 0, .int 0, .ref aV])), (rN, .inr (6, [.int 7, .int 100, .int 800, .int 10])), (ho, .inl (cO, 1, .inr (.inl fo)))] s.heap := hP
  have hl := lv_entry ([.ref h0, .int 1, .ref ho]) (n := 4) (Nat.le_of_ble_eq_true rfl)
  rw [lg_entry_eq]
  generalize (lg_sl ([.ref h0, .int 1, .ref ho]) ++ List.replicate (4 - (lg_sl ([.ref h0, .int 1, .ref ho])).length) Slot.unset).toArray = ls at hl ⊢
  have hl : lv_has ls 4 [(0, .ref h0), (1, .int 1), (2, .ref ho)] := hl
  refine lv_aload_n hx hb dL_many_0 rfl (lv_at hl 2 rfl) ?_
  refine lv_iconst (v := 0) hx hb dL_many_1 (by decide) ?_
  refine lv_aload_n hx hb dL_many_2 rfl (lv_at hl 0 rfl) ?_
  refine lv_iload_n hx hb dL_many_3 rfl (lv_at hl 1 rfl) ?_
  have hPc := hP.sub (ws' := [(h0, .inr (7, [.ref aH, .ref aB, .ref aJ, .int 0, .int 0, .int 0, .ref rN, .ref rX, .int 0, .int 0, .int 0, .int 0, .int 0, .int 0, .int (-1), .int (-1), .int 0, .int 0, .ref aV])), (rN, .inr (6, [.int 7, .int 100, .int 800, .int 10]))]) [0, 1] rfl
  have hKc := hK.sub (tys' := []) [] rfl
  refine va_calli (va_runV (As := [.int 1]) (rest := [.int 0, .ref ho]) ⟨hx, hb, hml, hown, hts⟩ (k_many_1 l D eT h0 aH aB aJ rN rX aV s.heap.size ) (cwV 1 hts gL_many_X4_many rfl rfl rfl (by decide +kernel) ⟨Nat.le_of_ble_eq_true rfl, Nat.le_of_ble_eq_true rfl⟩) (pr_v (ci := 7) (q0 := 0) rfl rfl hPc hKc hE hS hA) rfl rfl hl.1 rfl (lv_room (Nat.le_of_ble_eq_true rfl)) dL_many_4 ⟨Nat.le_of_ble_eq_true rfl, Nat.le_of_ble_eq_true rfl⟩) hS (fun q h1 h2 => ro_A h1 h2) (fun q h => ro_F hS hA q h) (fun r u t H1 locs ht hvm hw hB hz1 hk1 hS => ?_)
  have hw : r = 0 := hw
  rw [hw]
  have hP := ro_P hP hk1
  generalize H1 = H at hP hS ⊢
  refine lv_i2l (v := 0) hx hb dL_many_7 (by decide) ?_
  refine va_last hx hb hK hP hD hS 2 0 rfl rfl (by unfold vp_in; decide +kernel) dL_many_8 (fun H locs hP hD hS => ?_)
  have hP : va_P D vwCl [(h0, .inr (7, [.ref aH, .ref aB, .ref aJ, .int 0, .int 0, .int 0, .ref rN, .ref rX, .int 0, .int 0, .int 0, .int 0, .int 0, .int 0, .int (-1), .int (-1), .int 0, .int 0, .ref aV])), (rN, .inr (6, [.int 7, .int 100, .int 800, .int 10])), (ho, .inl (cO, 1, .inr (.inl (vp_updL fo (Int32.toNatClampNeg 0) 0))))] H := hP
  have hD : va_D A [(h0, .inr (7, [.ref aH, .ref aB, .ref aJ, .int 0, .int 0, .int 0, .ref rN, .ref rX, .int 0, .int 0, .int 0, .int 0, .int 0, .int 0, .int (-1), .int (-1), .int 0, .int 0, .ref aV])), (rN, .inr (6, [.int 7, .int 100, .int 800, .int 10])), (ho, .inl (cO, 1, .inr (.inl (vp_updL fo (Int32.toNatClampNeg 0) 0))))] := hD
  refine lv_goto (tgt := 15) hx hb dL_many_9 (by decide) ?_
  refine lv_iconst (v := 0) hx hb dL_many_15 (by decide) ?_
  have hP9 := hP.sub (ws' := [(ho, .inl (cO, 1, .inr (.inl (vp_updL fo (Int32.toNatClampNeg 0) 0))))]) [2] rfl
  have hD9 := hD.sub (ws' := [(ho, .inl (cO, 1, .inr (.inl (vp_updL fo (Int32.toNatClampNeg 0) 0))))]) [2] (by decide) rfl
  have hK9 := hK.sub (tys' := []) [] rfl
  exact W.iret (v := 0) hx hb hr (fun t ht hW => ⟨⟨0, (), rfl, rfl, ⟨by rw [ht]; exact hP9, va_K.moved hW.alike hK9, hD9⟩⟩, hS.F ht⟩) hS.2.2 dL_many_16
set_option maxHeartbeats 4000000 in
set_option maxRecDepth 100000 in
theorem w_many_2 (l : Launch) (D : va_G) (eT : Nat) (h0 : Nat) (aH : Nat) (aB : Nat) (aJ : Nat) (rN : Nat) (rX : Nat) (aV : Nat) (ho : Nat) (cO : ClassId) (fo : Nat → Int64) (sz : Nat) : Met l yL_many wsL_many ({ frames := 1, cells := 0, slots := 0, locals := 21 }) (va_Pc [.ref h0, .int 2, .ref ho] (pc D eT sz [(h0, .inr (7, [.ref aH, .ref aB, .ref aJ, .int 0, .int 0, .int 0, .ref rN, .ref rX, .int 0, .int 0, .int 0, .int 0, .int 0, .int 0, .int (-1), .int (-1), .int 0, .int 0, .ref aV])), (rN, .inr (6, [.int 7, .int 100, .int 800, .int 10])), (ho, .inl (cO, 1, .inr (.inl fo)))] [(cO, .long)])) (va_Qi (fun (r : Int32) (_ : Unit) => r = 0) (fun _ t => va_P D vwCl [(ho, .inl (cO, 1, .inr (.inl (vp_updL fo (Int32.toNatClampNeg 0) 0))))] t.heap ∧ va_K D vwCl [] t ∧ va_D (va_A [(h0, .inr (7, [.ref aH, .ref aB, .ref aJ, .int 0, .int 0, .int 0, .ref rN, .ref rX, .int 0, .int 0, .int 0, .int 0, .int 0, .int 0, .int (-1), .int (-1), .int 0, .int 0, .ref aV])), (rN, .inr (6, [.int 7, .int 100, .int 800, .int 10])), (ho, .inl (cO, 1, .inr (.inl fo)))] sz) [(ho, .inl (cO, 1, .inr (.inl (vp_updL fo (Int32.toNatClampNeg 0) 0))))]) (va_A [(h0, .inr (7, [.ref aH, .ref aB, .ref aJ, .int 0, .int 0, .int 0, .ref rN, .ref rX, .int 0, .int 0, .int 0, .int 0, .int 0, .int 0, .int (-1), .int (-1), .int 0, .int 0, .ref aV])), (rN, .inr (6, [.int 7, .int 100, .int 800, .int 10])), (ho, .inl (cO, 1, .inr (.inl fo)))] sz)) 0 0 (va_A [(h0, .inr (7, [.ref aH, .ref aB, .ref aJ, .int 0, .int 0, .int 0, .ref rN, .ref rX, .int 0, .int 0, .int 0, .int 0, .int 0, .int 0, .int (-1), .int (-1), .int 0, .int 0, .ref aV])), (rN, .inr (6, [.int 7, .int 100, .int 800, .int 10])), (ho, .inl (cO, 1, .inr (.inl fo)))] sz) := by
  refine va_MetW (cc := cL_many) (maxL := 4) (ret := (some .int)) (by decide +kernel) rfl ?_
  intro p e s m args below meth c s₁ B hml hv
  obtain ⟨rfl, hsz, hP, hK, hD0, hE⟩ := hv
  have hx := B.exec
  have hb := B.bytes
  have hr := B.returns
  have hts := atoms_spec (ws := wsL_many) B.pre
  have hown : s.vm.findClass RL = some m.cls := findClass_of_methodNamed B.named
  have hlocks := B.notSynchronized
  have htab := vx_table (x := yL_many) B (hts _ List.mem_cons_self)
  subst hsz
  have hD := hD0.self (sz := s.heap.size)
  generalize hAe : va_A [(h0, .inr (7, [.ref aH, .ref aB, .ref aJ, .int 0, .int 0, .int 0, .ref rN, .ref rX, .int 0, .int 0, .int 0, .int 0, .int 0, .int 0, .int (-1), .int (-1), .int 0, .int 0, .ref aV])), (rN, .inr (6, [.int 7, .int 100, .int 800, .int 10])), (ho, .inl (cO, 1, .inr (.inl fo)))] s.heap.size = A at hD hE ⊢
  have hA : ∀ q : Nat, s.heap.size ≤ q → A q := fun q h => by rw [← hAe]; exact Or.inr h
  have hS : va_S A s.heap s.heap [] := va_S.rf
  have hP : va_P D vwCl [(h0, .inr (7, [.ref aH, .ref aB, .ref aJ, .int 0, .int 0, .int 0, .ref rN, .ref rX, .int 0, .int 0, .int 0, .int 0, .int 0, .int 0, .int (-1), .int (-1), .int 0, .int 0, .ref aV])), (rN, .inr (6, [.int 7, .int 100, .int 800, .int 10])), (ho, .inl (cO, 1, .inr (.inl fo)))] s.heap := hP
  have hl := lv_entry ([.ref h0, .int 2, .ref ho]) (n := 4) (Nat.le_of_ble_eq_true rfl)
  rw [lg_entry_eq]
  generalize (lg_sl ([.ref h0, .int 2, .ref ho]) ++ List.replicate (4 - (lg_sl ([.ref h0, .int 2, .ref ho])).length) Slot.unset).toArray = ls at hl ⊢
  have hl : lv_has ls 4 [(0, .ref h0), (1, .int 2), (2, .ref ho)] := hl
  refine lv_aload_n hx hb dL_many_0 rfl (lv_at hl 2 rfl) ?_
  refine lv_iconst (v := 0) hx hb dL_many_1 (by decide) ?_
  refine lv_aload_n hx hb dL_many_2 rfl (lv_at hl 0 rfl) ?_
  refine lv_iload_n hx hb dL_many_3 rfl (lv_at hl 1 rfl) ?_
  have hPc := hP.sub (ws' := [(h0, .inr (7, [.ref aH, .ref aB, .ref aJ, .int 0, .int 0, .int 0, .ref rN, .ref rX, .int 0, .int 0, .int 0, .int 0, .int 0, .int 0, .int (-1), .int (-1), .int 0, .int 0, .ref aV])), (rN, .inr (6, [.int 7, .int 100, .int 800, .int 10]))]) [0, 1] rfl
  have hKc := hK.sub (tys' := []) [] rfl
  refine va_calli (va_runV (As := [.int 2]) (rest := [.int 0, .ref ho]) ⟨hx, hb, hml, hown, hts⟩ (k_many_2 l D eT h0 aH aB aJ rN rX aV s.heap.size ) (cwV 1 hts gL_many_X4_many rfl rfl rfl (by decide +kernel) ⟨Nat.le_of_ble_eq_true rfl, Nat.le_of_ble_eq_true rfl⟩) (pr_v (ci := 7) (q0 := 0) rfl rfl hPc hKc hE hS hA) rfl rfl hl.1 rfl (lv_room (Nat.le_of_ble_eq_true rfl)) dL_many_4 ⟨Nat.le_of_ble_eq_true rfl, Nat.le_of_ble_eq_true rfl⟩) hS (fun q h1 h2 => ro_A h1 h2) (fun q h => ro_F hS hA q h) (fun r u t H1 locs ht hvm hw hB hz1 hk1 hS => ?_)
  have hw : r = 0 := hw
  rw [hw]
  have hP := ro_P hP hk1
  generalize H1 = H at hP hS ⊢
  refine lv_i2l (v := 0) hx hb dL_many_7 (by decide) ?_
  refine va_last hx hb hK hP hD hS 2 0 rfl rfl (by unfold vp_in; decide +kernel) dL_many_8 (fun H locs hP hD hS => ?_)
  have hP : va_P D vwCl [(h0, .inr (7, [.ref aH, .ref aB, .ref aJ, .int 0, .int 0, .int 0, .ref rN, .ref rX, .int 0, .int 0, .int 0, .int 0, .int 0, .int 0, .int (-1), .int (-1), .int 0, .int 0, .ref aV])), (rN, .inr (6, [.int 7, .int 100, .int 800, .int 10])), (ho, .inl (cO, 1, .inr (.inl (vp_updL fo (Int32.toNatClampNeg 0) 0))))] H := hP
  have hD : va_D A [(h0, .inr (7, [.ref aH, .ref aB, .ref aJ, .int 0, .int 0, .int 0, .ref rN, .ref rX, .int 0, .int 0, .int 0, .int 0, .int 0, .int 0, .int (-1), .int (-1), .int 0, .int 0, .ref aV])), (rN, .inr (6, [.int 7, .int 100, .int 800, .int 10])), (ho, .inl (cO, 1, .inr (.inl (vp_updL fo (Int32.toNatClampNeg 0) 0))))] := hD
  refine lv_goto (tgt := 15) hx hb dL_many_9 (by decide) ?_
  refine lv_iconst (v := 0) hx hb dL_many_15 (by decide) ?_
  have hP9 := hP.sub (ws' := [(ho, .inl (cO, 1, .inr (.inl (vp_updL fo (Int32.toNatClampNeg 0) 0))))]) [2] rfl
  have hD9 := hD.sub (ws' := [(ho, .inl (cO, 1, .inr (.inl (vp_updL fo (Int32.toNatClampNeg 0) 0))))]) [2] (by decide) rfl
  have hK9 := hK.sub (tys' := []) [] rfl
  exact W.iret (v := 0) hx hb hr (fun t ht hW => ⟨⟨0, (), rfl, rfl, ⟨by rw [ht]; exact hP9, va_K.moved hW.alike hK9, hD9⟩⟩, hS.F ht⟩) hS.2.2 dL_many_16
set_option maxHeartbeats 4000000 in
set_option maxRecDepth 100000 in
theorem w_many_3 (l : Launch) (D : va_G) (eT : Nat) (h0 : Nat) (aH : Nat) (aB : Nat) (aJ : Nat) (rN : Nat) (rX : Nat) (aV : Nat) (ho : Nat) (cO : ClassId) (fo : Nat → Int64) (sz : Nat) : Met l yL_many wsL_many ({ frames := 1, cells := 0, slots := 0, locals := 21 }) (va_Pc [.ref h0, .int 3, .ref ho] (pc D eT sz [(h0, .inr (7, [.ref aH, .ref aB, .ref aJ, .int 0, .int 0, .int 0, .ref rN, .ref rX, .int 0, .int 0, .int 0, .int 0, .int 0, .int 0, .int (-1), .int (-1), .int 0, .int 0, .ref aV])), (rN, .inr (6, [.int 7, .int 100, .int 800, .int 10])), (ho, .inl (cO, 1, .inr (.inl fo)))] [(cO, .long)])) (va_Qi (fun (r : Int32) (_ : Unit) => r = 0) (fun _ t => va_P D vwCl [(ho, .inl (cO, 1, .inr (.inl (vp_updL fo (Int32.toNatClampNeg 0) 0))))] t.heap ∧ va_K D vwCl [] t ∧ va_D (va_A [(h0, .inr (7, [.ref aH, .ref aB, .ref aJ, .int 0, .int 0, .int 0, .ref rN, .ref rX, .int 0, .int 0, .int 0, .int 0, .int 0, .int 0, .int (-1), .int (-1), .int 0, .int 0, .ref aV])), (rN, .inr (6, [.int 7, .int 100, .int 800, .int 10])), (ho, .inl (cO, 1, .inr (.inl fo)))] sz) [(ho, .inl (cO, 1, .inr (.inl (vp_updL fo (Int32.toNatClampNeg 0) 0))))]) (va_A [(h0, .inr (7, [.ref aH, .ref aB, .ref aJ, .int 0, .int 0, .int 0, .ref rN, .ref rX, .int 0, .int 0, .int 0, .int 0, .int 0, .int 0, .int (-1), .int (-1), .int 0, .int 0, .ref aV])), (rN, .inr (6, [.int 7, .int 100, .int 800, .int 10])), (ho, .inl (cO, 1, .inr (.inl fo)))] sz)) 0 0 (va_A [(h0, .inr (7, [.ref aH, .ref aB, .ref aJ, .int 0, .int 0, .int 0, .ref rN, .ref rX, .int 0, .int 0, .int 0, .int 0, .int 0, .int 0, .int (-1), .int (-1), .int 0, .int 0, .ref aV])), (rN, .inr (6, [.int 7, .int 100, .int 800, .int 10])), (ho, .inl (cO, 1, .inr (.inl fo)))] sz) := by
  refine va_MetW (cc := cL_many) (maxL := 4) (ret := (some .int)) (by decide +kernel) rfl ?_
  intro p e s m args below meth c s₁ B hml hv
  obtain ⟨rfl, hsz, hP, hK, hD0, hE⟩ := hv
  have hx := B.exec
  have hb := B.bytes
  have hr := B.returns
  have hts := atoms_spec (ws := wsL_many) B.pre
  have hown : s.vm.findClass RL = some m.cls := findClass_of_methodNamed B.named
  have hlocks := B.notSynchronized
  have htab := vx_table (x := yL_many) B (hts _ List.mem_cons_self)
  subst hsz
  have hD := hD0.self (sz := s.heap.size)
  generalize hAe : va_A [(h0, .inr (7, [.ref aH, .ref aB, .ref aJ, .int 0, .int 0, .int 0, .ref rN, .ref rX, .int 0, .int 0, .int 0, .int 0, .int 0, .int 0, .int (-1), .int (-1), .int 0, .int 0, .ref aV])), (rN, .inr (6, [.int 7, .int 100, .int 800, .int 10])), (ho, .inl (cO, 1, .inr (.inl fo)))] s.heap.size = A at hD hE ⊢
  have hA : ∀ q : Nat, s.heap.size ≤ q → A q := fun q h => by rw [← hAe]; exact Or.inr h
  have hS : va_S A s.heap s.heap [] := va_S.rf
  have hP : va_P D vwCl [(h0, .inr (7, [.ref aH, .ref aB, .ref aJ, .int 0, .int 0, .int 0, .ref rN, .ref rX, .int 0, .int 0, .int 0, .int 0, .int 0, .int 0, .int (-1), .int (-1), .int 0, .int 0, .ref aV])), (rN, .inr (6, [.int 7, .int 100, .int 800, .int 10])), (ho, .inl (cO, 1, .inr (.inl fo)))] s.heap := hP
  have hl := lv_entry ([.ref h0, .int 3, .ref ho]) (n := 4) (Nat.le_of_ble_eq_true rfl)
  rw [lg_entry_eq]
  generalize (lg_sl ([.ref h0, .int 3, .ref ho]) ++ List.replicate (4 - (lg_sl ([.ref h0, .int 3, .ref ho])).length) Slot.unset).toArray = ls at hl ⊢
  have hl : lv_has ls 4 [(0, .ref h0), (1, .int 3), (2, .ref ho)] := hl
  refine lv_aload_n hx hb dL_many_0 rfl (lv_at hl 2 rfl) ?_
  refine lv_iconst (v := 0) hx hb dL_many_1 (by decide) ?_
  refine lv_aload_n hx hb dL_many_2 rfl (lv_at hl 0 rfl) ?_
  refine lv_iload_n hx hb dL_many_3 rfl (lv_at hl 1 rfl) ?_
  have hPc := hP.sub (ws' := [(h0, .inr (7, [.ref aH, .ref aB, .ref aJ, .int 0, .int 0, .int 0, .ref rN, .ref rX, .int 0, .int 0, .int 0, .int 0, .int 0, .int 0, .int (-1), .int (-1), .int 0, .int 0, .ref aV])), (rN, .inr (6, [.int 7, .int 100, .int 800, .int 10]))]) [0, 1] rfl
  have hKc := hK.sub (tys' := []) [] rfl
  refine va_calli (va_runV (As := [.int 3]) (rest := [.int 0, .ref ho]) ⟨hx, hb, hml, hown, hts⟩ (k_many_3 l D eT h0 aH aB aJ rN rX aV s.heap.size ) (cwV 1 hts gL_many_X4_many rfl rfl rfl (by decide +kernel) ⟨Nat.le_of_ble_eq_true rfl, Nat.le_of_ble_eq_true rfl⟩) (pr_v (ci := 7) (q0 := 0) rfl rfl hPc hKc hE hS hA) rfl rfl hl.1 rfl (lv_room (Nat.le_of_ble_eq_true rfl)) dL_many_4 ⟨Nat.le_of_ble_eq_true rfl, Nat.le_of_ble_eq_true rfl⟩) hS (fun q h1 h2 => ro_A h1 h2) (fun q h => ro_F hS hA q h) (fun r u t H1 locs ht hvm hw hB hz1 hk1 hS => ?_)
  have hw : r = 0 := hw
  rw [hw]
  have hP := ro_P hP hk1
  generalize H1 = H at hP hS ⊢
  refine lv_i2l (v := 0) hx hb dL_many_7 (by decide) ?_
  refine va_last hx hb hK hP hD hS 2 0 rfl rfl (by unfold vp_in; decide +kernel) dL_many_8 (fun H locs hP hD hS => ?_)
  have hP : va_P D vwCl [(h0, .inr (7, [.ref aH, .ref aB, .ref aJ, .int 0, .int 0, .int 0, .ref rN, .ref rX, .int 0, .int 0, .int 0, .int 0, .int 0, .int 0, .int (-1), .int (-1), .int 0, .int 0, .ref aV])), (rN, .inr (6, [.int 7, .int 100, .int 800, .int 10])), (ho, .inl (cO, 1, .inr (.inl (vp_updL fo (Int32.toNatClampNeg 0) 0))))] H := hP
  have hD : va_D A [(h0, .inr (7, [.ref aH, .ref aB, .ref aJ, .int 0, .int 0, .int 0, .ref rN, .ref rX, .int 0, .int 0, .int 0, .int 0, .int 0, .int 0, .int (-1), .int (-1), .int 0, .int 0, .ref aV])), (rN, .inr (6, [.int 7, .int 100, .int 800, .int 10])), (ho, .inl (cO, 1, .inr (.inl (vp_updL fo (Int32.toNatClampNeg 0) 0))))] := hD
  refine lv_goto (tgt := 15) hx hb dL_many_9 (by decide) ?_
  refine lv_iconst (v := 0) hx hb dL_many_15 (by decide) ?_
  have hP9 := hP.sub (ws' := [(ho, .inl (cO, 1, .inr (.inl (vp_updL fo (Int32.toNatClampNeg 0) 0))))]) [2] rfl
  have hD9 := hD.sub (ws' := [(ho, .inl (cO, 1, .inr (.inl (vp_updL fo (Int32.toNatClampNeg 0) 0))))]) [2] (by decide) rfl
  have hK9 := hK.sub (tys' := []) [] rfl
  exact W.iret (v := 0) hx hb hr (fun t ht hW => ⟨⟨0, (), rfl, rfl, ⟨by rw [ht]; exact hP9, va_K.moved hW.alike hK9, hD9⟩⟩, hS.F ht⟩) hS.2.2 dL_many_16
set_option maxHeartbeats 4000000 in
set_option maxRecDepth 100000 in
theorem w_many_4 (l : Launch) (D : va_G) (eT : Nat) (h0 : Nat) (aH : Nat) (aB : Nat) (aJ : Nat) (rN : Nat) (rX : Nat) (aV : Nat) (ho : Nat) (cO : ClassId) (fo : Nat → Int64) (sz : Nat) : Met l yL_many wsL_many ({ frames := 1, cells := 0, slots := 0, locals := 21 }) (va_Pc [.ref h0, .int 4, .ref ho] (pc D eT sz [(h0, .inr (7, [.ref aH, .ref aB, .ref aJ, .int 0, .int 0, .int 0, .ref rN, .ref rX, .int 0, .int 0, .int 0, .int 0, .int 0, .int 0, .int (-1), .int (-1), .int 0, .int 0, .ref aV])), (rN, .inr (6, [.int 7, .int 100, .int 800, .int 10])), (ho, .inl (cO, 1, .inr (.inl fo)))] [(cO, .long)])) (va_Qi (fun (r : Int32) (_ : Unit) => r = 0) (fun _ t => va_P D vwCl [(ho, .inl (cO, 1, .inr (.inl (vp_updL fo (Int32.toNatClampNeg 0) 0))))] t.heap ∧ va_K D vwCl [] t ∧ va_D (va_A [(h0, .inr (7, [.ref aH, .ref aB, .ref aJ, .int 0, .int 0, .int 0, .ref rN, .ref rX, .int 0, .int 0, .int 0, .int 0, .int 0, .int 0, .int (-1), .int (-1), .int 0, .int 0, .ref aV])), (rN, .inr (6, [.int 7, .int 100, .int 800, .int 10])), (ho, .inl (cO, 1, .inr (.inl fo)))] sz) [(ho, .inl (cO, 1, .inr (.inl (vp_updL fo (Int32.toNatClampNeg 0) 0))))]) (va_A [(h0, .inr (7, [.ref aH, .ref aB, .ref aJ, .int 0, .int 0, .int 0, .ref rN, .ref rX, .int 0, .int 0, .int 0, .int 0, .int 0, .int 0, .int (-1), .int (-1), .int 0, .int 0, .ref aV])), (rN, .inr (6, [.int 7, .int 100, .int 800, .int 10])), (ho, .inl (cO, 1, .inr (.inl fo)))] sz)) 0 0 (va_A [(h0, .inr (7, [.ref aH, .ref aB, .ref aJ, .int 0, .int 0, .int 0, .ref rN, .ref rX, .int 0, .int 0, .int 0, .int 0, .int 0, .int 0, .int (-1), .int (-1), .int 0, .int 0, .ref aV])), (rN, .inr (6, [.int 7, .int 100, .int 800, .int 10])), (ho, .inl (cO, 1, .inr (.inl fo)))] sz) := by
  refine va_MetW (cc := cL_many) (maxL := 4) (ret := (some .int)) (by decide +kernel) rfl ?_
  intro p e s m args below meth c s₁ B hml hv
  obtain ⟨rfl, hsz, hP, hK, hD0, hE⟩ := hv
  have hx := B.exec
  have hb := B.bytes
  have hr := B.returns
  have hts := atoms_spec (ws := wsL_many) B.pre
  have hown : s.vm.findClass RL = some m.cls := findClass_of_methodNamed B.named
  have hlocks := B.notSynchronized
  have htab := vx_table (x := yL_many) B (hts _ List.mem_cons_self)
  subst hsz
  have hD := hD0.self (sz := s.heap.size)
  generalize hAe : va_A [(h0, .inr (7, [.ref aH, .ref aB, .ref aJ, .int 0, .int 0, .int 0, .ref rN, .ref rX, .int 0, .int 0, .int 0, .int 0, .int 0, .int 0, .int (-1), .int (-1), .int 0, .int 0, .ref aV])), (rN, .inr (6, [.int 7, .int 100, .int 800, .int 10])), (ho, .inl (cO, 1, .inr (.inl fo)))] s.heap.size = A at hD hE ⊢
  have hA : ∀ q : Nat, s.heap.size ≤ q → A q := fun q h => by rw [← hAe]; exact Or.inr h
  have hS : va_S A s.heap s.heap [] := va_S.rf
  have hP : va_P D vwCl [(h0, .inr (7, [.ref aH, .ref aB, .ref aJ, .int 0, .int 0, .int 0, .ref rN, .ref rX, .int 0, .int 0, .int 0, .int 0, .int 0, .int 0, .int (-1), .int (-1), .int 0, .int 0, .ref aV])), (rN, .inr (6, [.int 7, .int 100, .int 800, .int 10])), (ho, .inl (cO, 1, .inr (.inl fo)))] s.heap := hP
  have hl := lv_entry ([.ref h0, .int 4, .ref ho]) (n := 4) (Nat.le_of_ble_eq_true rfl)
  rw [lg_entry_eq]
  generalize (lg_sl ([.ref h0, .int 4, .ref ho]) ++ List.replicate (4 - (lg_sl ([.ref h0, .int 4, .ref ho])).length) Slot.unset).toArray = ls at hl ⊢
  have hl : lv_has ls 4 [(0, .ref h0), (1, .int 4), (2, .ref ho)] := hl
  refine lv_aload_n hx hb dL_many_0 rfl (lv_at hl 2 rfl) ?_
  refine lv_iconst (v := 0) hx hb dL_many_1 (by decide) ?_
  refine lv_aload_n hx hb dL_many_2 rfl (lv_at hl 0 rfl) ?_
  refine lv_iload_n hx hb dL_many_3 rfl (lv_at hl 1 rfl) ?_
  have hPc := hP.sub (ws' := [(h0, .inr (7, [.ref aH, .ref aB, .ref aJ, .int 0, .int 0, .int 0, .ref rN, .ref rX, .int 0, .int 0, .int 0, .int 0, .int 0, .int 0, .int (-1), .int (-1), .int 0, .int 0, .ref aV])), (rN, .inr (6, [.int 7, .int 100, .int 800, .int 10]))]) [0, 1] rfl
  have hKc := hK.sub (tys' := []) [] rfl
  refine va_calli (va_runV (As := [.int 4]) (rest := [.int 0, .ref ho]) ⟨hx, hb, hml, hown, hts⟩ (k_many_4 l D eT h0 aH aB aJ rN rX aV s.heap.size ) (cwV 1 hts gL_many_X4_many rfl rfl rfl (by decide +kernel) ⟨Nat.le_of_ble_eq_true rfl, Nat.le_of_ble_eq_true rfl⟩) (pr_v (ci := 7) (q0 := 0) rfl rfl hPc hKc hE hS hA) rfl rfl hl.1 rfl (lv_room (Nat.le_of_ble_eq_true rfl)) dL_many_4 ⟨Nat.le_of_ble_eq_true rfl, Nat.le_of_ble_eq_true rfl⟩) hS (fun q h1 h2 => ro_A h1 h2) (fun q h => ro_F hS hA q h) (fun r u t H1 locs ht hvm hw hB hz1 hk1 hS => ?_)
  have hw : r = 0 := hw
  rw [hw]
  have hP := ro_P hP hk1
  generalize H1 = H at hP hS ⊢
  refine lv_i2l (v := 0) hx hb dL_many_7 (by decide) ?_
  refine va_last hx hb hK hP hD hS 2 0 rfl rfl (by unfold vp_in; decide +kernel) dL_many_8 (fun H locs hP hD hS => ?_)
  have hP : va_P D vwCl [(h0, .inr (7, [.ref aH, .ref aB, .ref aJ, .int 0, .int 0, .int 0, .ref rN, .ref rX, .int 0, .int 0, .int 0, .int 0, .int 0, .int 0, .int (-1), .int (-1), .int 0, .int 0, .ref aV])), (rN, .inr (6, [.int 7, .int 100, .int 800, .int 10])), (ho, .inl (cO, 1, .inr (.inl (vp_updL fo (Int32.toNatClampNeg 0) 0))))] H := hP
  have hD : va_D A [(h0, .inr (7, [.ref aH, .ref aB, .ref aJ, .int 0, .int 0, .int 0, .ref rN, .ref rX, .int 0, .int 0, .int 0, .int 0, .int 0, .int 0, .int (-1), .int (-1), .int 0, .int 0, .ref aV])), (rN, .inr (6, [.int 7, .int 100, .int 800, .int 10])), (ho, .inl (cO, 1, .inr (.inl (vp_updL fo (Int32.toNatClampNeg 0) 0))))] := hD
  refine lv_goto (tgt := 15) hx hb dL_many_9 (by decide) ?_
  refine lv_iconst (v := 0) hx hb dL_many_15 (by decide) ?_
  have hP9 := hP.sub (ws' := [(ho, .inl (cO, 1, .inr (.inl (vp_updL fo (Int32.toNatClampNeg 0) 0))))]) [2] rfl
  have hD9 := hD.sub (ws' := [(ho, .inl (cO, 1, .inr (.inl (vp_updL fo (Int32.toNatClampNeg 0) 0))))]) [2] (by decide) rfl
  have hK9 := hK.sub (tys' := []) [] rfl
  exact W.iret (v := 0) hx hb hr (fun t ht hW => ⟨⟨0, (), rfl, rfl, ⟨by rw [ht]; exact hP9, va_K.moved hW.alike hK9, hD9⟩⟩, hS.F ht⟩) hS.2.2 dL_many_16
set_option maxHeartbeats 4000000 in
set_option maxRecDepth 100000 in
theorem w_many_5 (l : Launch) (D : va_G) (eT : Nat) (h0 : Nat) (aH : Nat) (aB : Nat) (aJ : Nat) (rN : Nat) (rX : Nat) (aV : Nat) (ho : Nat) (cO : ClassId) (fo : Nat → Int64) (sz : Nat) : Met l yL_many wsL_many ({ frames := 1, cells := 0, slots := 0, locals := 21 }) (va_Pc [.ref h0, .int 5, .ref ho] (pc D eT sz [(h0, .inr (7, [.ref aH, .ref aB, .ref aJ, .int 0, .int 0, .int 0, .ref rN, .ref rX, .int 0, .int 0, .int 0, .int 0, .int 0, .int 0, .int (-1), .int (-1), .int 0, .int 0, .ref aV])), (rN, .inr (6, [.int 7, .int 100, .int 800, .int 10])), (ho, .inl (cO, 1, .inr (.inl fo)))] [(cO, .long)])) (va_Qi (fun (r : Int32) (_ : Unit) => r = 0) (fun _ t => va_P D vwCl [(ho, .inl (cO, 1, .inr (.inl (vp_updL fo (Int32.toNatClampNeg 0) 0))))] t.heap ∧ va_K D vwCl [] t ∧ va_D (va_A [(h0, .inr (7, [.ref aH, .ref aB, .ref aJ, .int 0, .int 0, .int 0, .ref rN, .ref rX, .int 0, .int 0, .int 0, .int 0, .int 0, .int 0, .int (-1), .int (-1), .int 0, .int 0, .ref aV])), (rN, .inr (6, [.int 7, .int 100, .int 800, .int 10])), (ho, .inl (cO, 1, .inr (.inl fo)))] sz) [(ho, .inl (cO, 1, .inr (.inl (vp_updL fo (Int32.toNatClampNeg 0) 0))))]) (va_A [(h0, .inr (7, [.ref aH, .ref aB, .ref aJ, .int 0, .int 0, .int 0, .ref rN, .ref rX, .int 0, .int 0, .int 0, .int 0, .int 0, .int 0, .int (-1), .int (-1), .int 0, .int 0, .ref aV])), (rN, .inr (6, [.int 7, .int 100, .int 800, .int 10])), (ho, .inl (cO, 1, .inr (.inl fo)))] sz)) 0 0 (va_A [(h0, .inr (7, [.ref aH, .ref aB, .ref aJ, .int 0, .int 0, .int 0, .ref rN, .ref rX, .int 0, .int 0, .int 0, .int 0, .int 0, .int 0, .int (-1), .int (-1), .int 0, .int 0, .ref aV])), (rN, .inr (6, [.int 7, .int 100, .int 800, .int 10])), (ho, .inl (cO, 1, .inr (.inl fo)))] sz) := by
  refine va_MetW (cc := cL_many) (maxL := 4) (ret := (some .int)) (by decide +kernel) rfl ?_
  intro p e s m args below meth c s₁ B hml hv
  obtain ⟨rfl, hsz, hP, hK, hD0, hE⟩ := hv
  have hx := B.exec
  have hb := B.bytes
  have hr := B.returns
  have hts := atoms_spec (ws := wsL_many) B.pre
  have hown : s.vm.findClass RL = some m.cls := findClass_of_methodNamed B.named
  have hlocks := B.notSynchronized
  have htab := vx_table (x := yL_many) B (hts _ List.mem_cons_self)
  subst hsz
  have hD := hD0.self (sz := s.heap.size)
  generalize hAe : va_A [(h0, .inr (7, [.ref aH, .ref aB, .ref aJ, .int 0, .int 0, .int 0, .ref rN, .ref rX, .int 0, .int 0, .int 0, .int 0, .int 0, .int 0, .int (-1), .int (-1), .int 0, .int 0, .ref aV])), (rN, .inr (6, [.int 7, .int 100, .int 800, .int 10])), (ho, .inl (cO, 1, .inr (.inl fo)))] s.heap.size = A at hD hE ⊢
  have hA : ∀ q : Nat, s.heap.size ≤ q → A q := fun q h => by rw [← hAe]; exact Or.inr h
  have hS : va_S A s.heap s.heap [] := va_S.rf
  have hP : va_P D vwCl [(h0, .inr (7, [.ref aH, .ref aB, .ref aJ, .int 0, .int 0, .int 0, .ref rN, .ref rX, .int 0, .int 0, .int 0, .int 0, .int 0, .int 0, .int (-1), .int (-1), .int 0, .int 0, .ref aV])), (rN, .inr (6, [.int 7, .int 100, .int 800, .int 10])), (ho, .inl (cO, 1, .inr (.inl fo)))] s.heap := hP
  have hl := lv_entry ([.ref h0, .int 5, .ref ho]) (n := 4) (Nat.le_of_ble_eq_true rfl)
  rw [lg_entry_eq]
  generalize (lg_sl ([.ref h0, .int 5, .ref ho]) ++ List.replicate (4 - (lg_sl ([.ref h0, .int 5, .ref ho])).length) Slot.unset).toArray = ls at hl ⊢
  have hl : lv_has ls 4 [(0, .ref h0), (1, .int 5), (2, .ref ho)] := hl
  refine lv_aload_n hx hb dL_many_0 rfl (lv_at hl 2 rfl) ?_
  refine lv_iconst (v := 0) hx hb dL_many_1 (by decide) ?_
  refine lv_aload_n hx hb dL_many_2 rfl (lv_at hl 0 rfl) ?_
  refine lv_iload_n hx hb dL_many_3 rfl (lv_at hl 1 rfl) ?_
  have hPc := hP.sub (ws' := [(h0, .inr (7, [.ref aH, .ref aB, .ref aJ, .int 0, .int 0, .int 0, .ref rN, .ref rX, .int 0, .int 0, .int 0, .int 0, .int 0, .int 0, .int (-1), .int (-1), .int 0, .int 0, .ref aV])), (rN, .inr (6, [.int 7, .int 100, .int 800, .int 10]))]) [0, 1] rfl
  have hKc := hK.sub (tys' := []) [] rfl
  refine va_calli (va_runV (As := [.int 5]) (rest := [.int 0, .ref ho]) ⟨hx, hb, hml, hown, hts⟩ (k_many_5 l D eT h0 aH aB aJ rN rX aV s.heap.size ) (cwV 1 hts gL_many_X4_many rfl rfl rfl (by decide +kernel) ⟨Nat.le_of_ble_eq_true rfl, Nat.le_of_ble_eq_true rfl⟩) (pr_v (ci := 7) (q0 := 0) rfl rfl hPc hKc hE hS hA) rfl rfl hl.1 rfl (lv_room (Nat.le_of_ble_eq_true rfl)) dL_many_4 ⟨Nat.le_of_ble_eq_true rfl, Nat.le_of_ble_eq_true rfl⟩) hS (fun q h1 h2 => ro_A h1 h2) (fun q h => ro_F hS hA q h) (fun r u t H1 locs ht hvm hw hB hz1 hk1 hS => ?_)
  have hw : r = 0 := hw
  rw [hw]
  have hP := ro_P hP hk1
  generalize H1 = H at hP hS ⊢
  refine lv_i2l (v := 0) hx hb dL_many_7 (by decide) ?_
  refine va_last hx hb hK hP hD hS 2 0 rfl rfl (by unfold vp_in; decide +kernel) dL_many_8 (fun H locs hP hD hS => ?_)
  have hP : va_P D vwCl [(h0, .inr (7, [.ref aH, .ref aB, .ref aJ, .int 0, .int 0, .int 0, .ref rN, .ref rX, .int 0, .int 0, .int 0, .int 0, .int 0, .int 0, .int (-1), .int (-1), .int 0, .int 0, .ref aV])), (rN, .inr (6, [.int 7, .int 100, .int 800, .int 10])), (ho, .inl (cO, 1, .inr (.inl (vp_updL fo (Int32.toNatClampNeg 0) 0))))] H := hP
  have hD : va_D A [(h0, .inr (7, [.ref aH, .ref aB, .ref aJ, .int 0, .int 0, .int 0, .ref rN, .ref rX, .int 0, .int 0, .int 0, .int 0, .int 0, .int 0, .int (-1), .int (-1), .int 0, .int 0, .ref aV])), (rN, .inr (6, [.int 7, .int 100, .int 800, .int 10])), (ho, .inl (cO, 1, .inr (.inl (vp_updL fo (Int32.toNatClampNeg 0) 0))))] := hD
  refine lv_goto (tgt := 15) hx hb dL_many_9 (by decide) ?_
  refine lv_iconst (v := 0) hx hb dL_many_15 (by decide) ?_
  have hP9 := hP.sub (ws' := [(ho, .inl (cO, 1, .inr (.inl (vp_updL fo (Int32.toNatClampNeg 0) 0))))]) [2] rfl
  have hD9 := hD.sub (ws' := [(ho, .inl (cO, 1, .inr (.inl (vp_updL fo (Int32.toNatClampNeg 0) 0))))]) [2] (by decide) rfl
  have hK9 := hK.sub (tys' := []) [] rfl
  exact W.iret (v := 0) hx hb hr (fun t ht hW => ⟨⟨0, (), rfl, rfl, ⟨by rw [ht]; exact hP9, va_K.moved hW.alike hK9, hD9⟩⟩, hS.F ht⟩) hS.2.2 dL_many_16
set_option maxHeartbeats 4000000 in
set_option maxRecDepth 100000 in
theorem w_many_6 (l : Launch) (D : va_G) (eT : Nat) (h0 : Nat) (aH : Nat) (aB : Nat) (aJ : Nat) (rN : Nat) (rX : Nat) (aV : Nat) (ho : Nat) (cO : ClassId) (fo : Nat → Int64) (sz : Nat) : Met l yL_many wsL_many ({ frames := 2, cells := 0, slots := 0, locals := 43 }) (va_Pc [.ref h0, .int 6, .ref ho] (pc D eT sz [(h0, .inr (7, [.ref aH, .ref aB, .ref aJ, .int 0, .int 0, .int 0, .ref rN, .ref rX, .int 0, .int 0, .int 0, .int 0, .int 0, .int 0, .int (-1), .int (-1), .int 0, .int 0, .ref aV])), (rN, .inr (6, [.int 7, .int 100, .int 800, .int 10])), (ho, .inl (cO, 1, .inr (.inl fo)))] [(cO, .long)])) (va_Qi (fun (r : Int32) (_ : Unit) => r = 0) (fun _ t => va_P D vwCl [(ho, .inl (cO, 1, .inr (.inl (vp_updL fo (Int32.toNatClampNeg 0) 0))))] t.heap ∧ va_K D vwCl [] t ∧ va_D (va_A [(h0, .inr (7, [.ref aH, .ref aB, .ref aJ, .int 0, .int 0, .int 0, .ref rN, .ref rX, .int 0, .int 0, .int 0, .int 0, .int 0, .int 0, .int (-1), .int (-1), .int 0, .int 0, .ref aV])), (rN, .inr (6, [.int 7, .int 100, .int 800, .int 10])), (ho, .inl (cO, 1, .inr (.inl fo)))] sz) [(ho, .inl (cO, 1, .inr (.inl (vp_updL fo (Int32.toNatClampNeg 0) 0))))]) (va_A [(h0, .inr (7, [.ref aH, .ref aB, .ref aJ, .int 0, .int 0, .int 0, .ref rN, .ref rX, .int 0, .int 0, .int 0, .int 0, .int 0, .int 0, .int (-1), .int (-1), .int 0, .int 0, .ref aV])), (rN, .inr (6, [.int 7, .int 100, .int 800, .int 10])), (ho, .inl (cO, 1, .inr (.inl fo)))] sz)) 0 0 (va_A [(h0, .inr (7, [.ref aH, .ref aB, .ref aJ, .int 0, .int 0, .int 0, .ref rN, .ref rX, .int 0, .int 0, .int 0, .int 0, .int 0, .int 0, .int (-1), .int (-1), .int 0, .int 0, .ref aV])), (rN, .inr (6, [.int 7, .int 100, .int 800, .int 10])), (ho, .inl (cO, 1, .inr (.inl fo)))] sz) := by
  refine va_MetW (cc := cL_many) (maxL := 4) (ret := (some .int)) (by decide +kernel) rfl ?_
  intro p e s m args below meth c s₁ B hml hv
  obtain ⟨rfl, hsz, hP, hK, hD0, hE⟩ := hv
  have hx := B.exec
  have hb := B.bytes
  have hr := B.returns
  have hts := atoms_spec (ws := wsL_many) B.pre
  have hown : s.vm.findClass RL = some m.cls := findClass_of_methodNamed B.named
  have hlocks := B.notSynchronized
  have htab := vx_table (x := yL_many) B (hts _ List.mem_cons_self)
  subst hsz
  have hD := hD0.self (sz := s.heap.size)
  generalize hAe : va_A [(h0, .inr (7, [.ref aH, .ref aB, .ref aJ, .int 0, .int 0, .int 0, .ref rN, .ref rX, .int 0, .int 0, .int 0, .int 0, .int 0, .int 0, .int (-1), .int (-1), .int 0, .int 0, .ref aV])), (rN, .inr (6, [.int 7, .int 100, .int 800, .int 10])), (ho, .inl (cO, 1, .inr (.inl fo)))] s.heap.size = A at hD hE ⊢
  have hA : ∀ q : Nat, s.heap.size ≤ q → A q := fun q h => by rw [← hAe]; exact Or.inr h
  have hS : va_S A s.heap s.heap [] := va_S.rf
  have hP : va_P D vwCl [(h0, .inr (7, [.ref aH, .ref aB, .ref aJ, .int 0, .int 0, .int 0, .ref rN, .ref rX, .int 0, .int 0, .int 0, .int 0, .int 0, .int 0, .int (-1), .int (-1), .int 0, .int 0, .ref aV])), (rN, .inr (6, [.int 7, .int 100, .int 800, .int 10])), (ho, .inl (cO, 1, .inr (.inl fo)))] s.heap := hP
  have hl := lv_entry ([.ref h0, .int 6, .ref ho]) (n := 4) (Nat.le_of_ble_eq_true rfl)
  rw [lg_entry_eq]
  generalize (lg_sl ([.ref h0, .int 6, .ref ho]) ++ List.replicate (4 - (lg_sl ([.ref h0, .int 6, .ref ho])).length) Slot.unset).toArray = ls at hl ⊢
  have hl : lv_has ls 4 [(0, .ref h0), (1, .int 6), (2, .ref ho)] := hl
  refine lv_aload_n hx hb dL_many_0 rfl (lv_at hl 2 rfl) ?_
  refine lv_iconst (v := 0) hx hb dL_many_1 (by decide) ?_
  refine lv_aload_n hx hb dL_many_2 rfl (lv_at hl 0 rfl) ?_
  refine lv_iload_n hx hb dL_many_3 rfl (lv_at hl 1 rfl) ?_
  have hPc := hP.sub (ws' := [(h0, .inr (7, [.ref aH, .ref aB, .ref aJ, .int 0, .int 0, .int 0, .ref rN, .ref rX, .int 0, .int 0, .int 0, .int 0, .int 0, .int 0, .int (-1), .int (-1), .int 0, .int 0, .ref aV])), (rN, .inr (6, [.int 7, .int 100, .int 800, .int 10]))]) [0, 1] rfl
  have hKc := hK.sub (tys' := []) [] rfl
  refine va_calli (va_runV (As := [.int 6]) (rest := [.int 0, .ref ho]) ⟨hx, hb, hml, hown, hts⟩ (k_many_6 l D eT h0 aH aB aJ rN rX aV s.heap.size ) (cwV 1 hts gL_many_X4_many rfl rfl rfl (by decide +kernel) ⟨Nat.le_of_ble_eq_true rfl, Nat.le_of_ble_eq_true rfl⟩) (pr_v (ci := 7) (q0 := 0) rfl rfl hPc hKc hE hS hA) rfl rfl hl.1 rfl (lv_room (Nat.le_of_ble_eq_true rfl)) dL_many_4 ⟨Nat.le_of_ble_eq_true rfl, Nat.le_of_ble_eq_true rfl⟩) hS (fun q h1 h2 => ro_A h1 h2) (fun q h => ro_F hS hA q h) (fun r u t H1 locs ht hvm hw hB hz1 hk1 hS => ?_)
  have hw : r = 0 := hw
  rw [hw]
  have hP := ro_P hP hk1
  generalize H1 = H at hP hS ⊢
  refine lv_i2l (v := 0) hx hb dL_many_7 (by decide) ?_
  refine va_last hx hb hK hP hD hS 2 0 rfl rfl (by unfold vp_in; decide +kernel) dL_many_8 (fun H locs hP hD hS => ?_)
  have hP : va_P D vwCl [(h0, .inr (7, [.ref aH, .ref aB, .ref aJ, .int 0, .int 0, .int 0, .ref rN, .ref rX, .int 0, .int 0, .int 0, .int 0, .int 0, .int 0, .int (-1), .int (-1), .int 0, .int 0, .ref aV])), (rN, .inr (6, [.int 7, .int 100, .int 800, .int 10])), (ho, .inl (cO, 1, .inr (.inl (vp_updL fo (Int32.toNatClampNeg 0) 0))))] H := hP
  have hD : va_D A [(h0, .inr (7, [.ref aH, .ref aB, .ref aJ, .int 0, .int 0, .int 0, .ref rN, .ref rX, .int 0, .int 0, .int 0, .int 0, .int 0, .int 0, .int (-1), .int (-1), .int 0, .int 0, .ref aV])), (rN, .inr (6, [.int 7, .int 100, .int 800, .int 10])), (ho, .inl (cO, 1, .inr (.inl (vp_updL fo (Int32.toNatClampNeg 0) 0))))] := hD
  refine lv_goto (tgt := 15) hx hb dL_many_9 (by decide) ?_
  refine lv_iconst (v := 0) hx hb dL_many_15 (by decide) ?_
  have hP9 := hP.sub (ws' := [(ho, .inl (cO, 1, .inr (.inl (vp_updL fo (Int32.toNatClampNeg 0) 0))))]) [2] rfl
  have hD9 := hD.sub (ws' := [(ho, .inl (cO, 1, .inr (.inl (vp_updL fo (Int32.toNatClampNeg 0) 0))))]) [2] (by decide) rfl
  have hK9 := hK.sub (tys' := []) [] rfl
  exact W.iret (v := 0) hx hb hr (fun t ht hW => ⟨⟨0, (), rfl, rfl, ⟨by rw [ht]; exact hP9, va_K.moved hW.alike hK9, hD9⟩⟩, hS.F ht⟩) hS.2.2 dL_many_16
set_option maxHeartbeats 4000000 in
set_option maxRecDepth 100000 in
theorem w_many_7 (l : Launch) (D : va_G) (eT : Nat) (h0 : Nat) (aH : Nat) (aB : Nat) (aJ : Nat) (rN : Nat) (rX : Nat) (aV : Nat) (ho : Nat) (cO : ClassId) (fo : Nat → Int64) (sz : Nat) : Met l yL_many wsL_many ({ frames := 1, cells := 0, slots := 0, locals := 21 }) (va_Pc [.ref h0, .int 7, .ref ho] (pc D eT sz [(h0, .inr (7, [.ref aH, .ref aB, .ref aJ, .int 0, .int 0, .int 0, .ref rN, .ref rX, .int 0, .int 0, .int 0, .int 0, .int 0, .int 0, .int (-1), .int (-1), .int 0, .int 0, .ref aV])), (rN, .inr (6, [.int 7, .int 100, .int 800, .int 10])), (ho, .inl (cO, 1, .inr (.inl fo)))] [(cO, .long)])) (va_Qi (fun (r : Int32) (_ : Unit) => r = 0) (fun _ t => va_P D vwCl [(ho, .inl (cO, 1, .inr (.inl (vp_updL fo (Int32.toNatClampNeg 0) 0))))] t.heap ∧ va_K D vwCl [] t ∧ va_D (va_A [(h0, .inr (7, [.ref aH, .ref aB, .ref aJ, .int 0, .int 0, .int 0, .ref rN, .ref rX, .int 0, .int 0, .int 0, .int 0, .int 0, .int 0, .int (-1), .int (-1), .int 0, .int 0, .ref aV])), (rN, .inr (6, [.int 7, .int 100, .int 800, .int 10])), (ho, .inl (cO, 1, .inr (.inl fo)))] sz) [(ho, .inl (cO, 1, .inr (.inl (vp_updL fo (Int32.toNatClampNeg 0) 0))))]) (va_A [(h0, .inr (7, [.ref aH, .ref aB, .ref aJ, .int 0, .int 0, .int 0, .ref rN, .ref rX, .int 0, .int 0, .int 0, .int 0, .int 0, .int 0, .int (-1), .int (-1), .int 0, .int 0, .ref aV])), (rN, .inr (6, [.int 7, .int 100, .int 800, .int 10])), (ho, .inl (cO, 1, .inr (.inl fo)))] sz)) 0 0 (va_A [(h0, .inr (7, [.ref aH, .ref aB, .ref aJ, .int 0, .int 0, .int 0, .ref rN, .ref rX, .int 0, .int 0, .int 0, .int 0, .int 0, .int 0, .int (-1), .int (-1), .int 0, .int 0, .ref aV])), (rN, .inr (6, [.int 7, .int 100, .int 800, .int 10])), (ho, .inl (cO, 1, .inr (.inl fo)))] sz) := by
  refine va_MetW (cc := cL_many) (maxL := 4) (ret := (some .int)) (by decide +kernel) rfl ?_
  intro p e s m args below meth c s₁ B hml hv
  obtain ⟨rfl, hsz, hP, hK, hD0, hE⟩ := hv
  have hx := B.exec
  have hb := B.bytes
  have hr := B.returns
  have hts := atoms_spec (ws := wsL_many) B.pre
  have hown : s.vm.findClass RL = some m.cls := findClass_of_methodNamed B.named
  have hlocks := B.notSynchronized
  have htab := vx_table (x := yL_many) B (hts _ List.mem_cons_self)
  subst hsz
  have hD := hD0.self (sz := s.heap.size)
  generalize hAe : va_A [(h0, .inr (7, [.ref aH, .ref aB, .ref aJ, .int 0, .int 0, .int 0, .ref rN, .ref rX, .int 0, .int 0, .int 0, .int 0, .int 0, .int 0, .int (-1), .int (-1), .int 0, .int 0, .ref aV])), (rN, .inr (6, [.int 7, .int 100, .int 800, .int 10])), (ho, .inl (cO, 1, .inr (.inl fo)))] s.heap.size = A at hD hE ⊢
  have hA : ∀ q : Nat, s.heap.size ≤ q → A q := fun q h => by rw [← hAe]; exact Or.inr h
  have hS : va_S A s.heap s.heap [] := va_S.rf
  have hP : va_P D vwCl [(h0, .inr (7, [.ref aH, .ref aB, .ref aJ, .int 0, .int 0, .int 0, .ref rN, .ref rX, .int 0, .int 0, .int 0, .int 0, .int 0, .int 0, .int (-1), .int (-1), .int 0, .int 0, .ref aV])), (rN, .inr (6, [.int 7, .int 100, .int 800, .int 10])), (ho, .inl (cO, 1, .inr (.inl fo)))] s.heap := hP
  have hl := lv_entry ([.ref h0, .int 7, .ref ho]) (n := 4) (Nat.le_of_ble_eq_true rfl)
  rw [lg_entry_eq]
  generalize (lg_sl ([.ref h0, .int 7, .ref ho]) ++ List.replicate (4 - (lg_sl ([.ref h0, .int 7, .ref ho])).length) Slot.unset).toArray = ls at hl ⊢
  have hl : lv_has ls 4 [(0, .ref h0), (1, .int 7), (2, .ref ho)] := hl
  refine lv_aload_n hx hb dL_many_0 rfl (lv_at hl 2 rfl) ?_
  refine lv_iconst (v := 0) hx hb dL_many_1 (by decide) ?_
  refine lv_aload_n hx hb dL_many_2 rfl (lv_at hl 0 rfl) ?_
  refine lv_iload_n hx hb dL_many_3 rfl (lv_at hl 1 rfl) ?_
  have hPc := hP.sub (ws' := [(h0, .inr (7, [.ref aH, .ref aB, .ref aJ, .int 0, .int 0, .int 0, .ref rN, .ref rX, .int 0, .int 0, .int 0, .int 0, .int 0, .int 0, .int (-1), .int (-1), .int 0, .int 0, .ref aV])), (rN, .inr (6, [.int 7, .int 100, .int 800, .int 10]))]) [0, 1] rfl
  have hKc := hK.sub (tys' := []) [] rfl
  refine va_calli (va_runV (As := [.int 7]) (rest := [.int 0, .ref ho]) ⟨hx, hb, hml, hown, hts⟩ (k_many_7 l D eT h0 aH aB aJ rN rX aV s.heap.size ) (cwV 1 hts gL_many_X4_many rfl rfl rfl (by decide +kernel) ⟨Nat.le_of_ble_eq_true rfl, Nat.le_of_ble_eq_true rfl⟩) (pr_v (ci := 7) (q0 := 0) rfl rfl hPc hKc hE hS hA) rfl rfl hl.1 rfl (lv_room (Nat.le_of_ble_eq_true rfl)) dL_many_4 ⟨Nat.le_of_ble_eq_true rfl, Nat.le_of_ble_eq_true rfl⟩) hS (fun q h1 h2 => ro_A h1 h2) (fun q h => ro_F hS hA q h) (fun r u t H1 locs ht hvm hw hB hz1 hk1 hS => ?_)
  have hw : r = 0 := hw
  rw [hw]
  have hP := ro_P hP hk1
  generalize H1 = H at hP hS ⊢
  refine lv_i2l (v := 0) hx hb dL_many_7 (by decide) ?_
  refine va_last hx hb hK hP hD hS 2 0 rfl rfl (by unfold vp_in; decide +kernel) dL_many_8 (fun H locs hP hD hS => ?_)
  have hP : va_P D vwCl [(h0, .inr (7, [.ref aH, .ref aB, .ref aJ, .int 0, .int 0, .int 0, .ref rN, .ref rX, .int 0, .int 0, .int 0, .int 0, .int 0, .int 0, .int (-1), .int (-1), .int 0, .int 0, .ref aV])), (rN, .inr (6, [.int 7, .int 100, .int 800, .int 10])), (ho, .inl (cO, 1, .inr (.inl (vp_updL fo (Int32.toNatClampNeg 0) 0))))] H := hP
  have hD : va_D A [(h0, .inr (7, [.ref aH, .ref aB, .ref aJ, .int 0, .int 0, .int 0, .ref rN, .ref rX, .int 0, .int 0, .int 0, .int 0, .int 0, .int 0, .int (-1), .int (-1), .int 0, .int 0, .ref aV])), (rN, .inr (6, [.int 7, .int 100, .int 800, .int 10])), (ho, .inl (cO, 1, .inr (.inl (vp_updL fo (Int32.toNatClampNeg 0) 0))))] := hD
  refine lv_goto (tgt := 15) hx hb dL_many_9 (by decide) ?_
  refine lv_iconst (v := 0) hx hb dL_many_15 (by decide) ?_
  have hP9 := hP.sub (ws' := [(ho, .inl (cO, 1, .inr (.inl (vp_updL fo (Int32.toNatClampNeg 0) 0))))]) [2] rfl
  have hD9 := hD.sub (ws' := [(ho, .inl (cO, 1, .inr (.inl (vp_updL fo (Int32.toNatClampNeg 0) 0))))]) [2] (by decide) rfl
  have hK9 := hK.sub (tys' := []) [] rfl
  exact W.iret (v := 0) hx hb hr (fun t ht hW => ⟨⟨0, (), rfl, rfl, ⟨by rw [ht]; exact hP9, va_K.moved hW.alike hK9, hD9⟩⟩, hS.F ht⟩) hS.2.2 dL_many_16
set_option maxHeartbeats 4000000 in
set_option maxRecDepth 100000 in
theorem w_many_8 (l : Launch) (D : va_G) (eT : Nat) (h0 : Nat) (aH : Nat) (aB : Nat) (aJ : Nat) (rN : Nat) (rX : Nat) (aV : Nat) (ho : Nat) (cO : ClassId) (fo : Nat → Int64) (sz : Nat) : Met l yL_many wsL_many ({ frames := 1, cells := 0, slots := 0, locals := 21 }) (va_Pc [.ref h0, .int 8, .ref ho] (pc D eT sz [(h0, .inr (7, [.ref aH, .ref aB, .ref aJ, .int 0, .int 0, .int 0, .ref rN, .ref rX, .int 0, .int 0, .int 0, .int 0, .int 0, .int 0, .int (-1), .int (-1), .int 0, .int 0, .ref aV])), (rN, .inr (6, [.int 7, .int 100, .int 800, .int 10])), (ho, .inl (cO, 1, .inr (.inl fo)))] [(cO, .long)])) (va_Qi (fun (r : Int32) (_ : Unit) => r = 0) (fun _ t => va_P D vwCl [(ho, .inl (cO, 1, .inr (.inl (vp_updL fo (Int32.toNatClampNeg 0) 0))))] t.heap ∧ va_K D vwCl [] t ∧ va_D (va_A [(h0, .inr (7, [.ref aH, .ref aB, .ref aJ, .int 0, .int 0, .int 0, .ref rN, .ref rX, .int 0, .int 0, .int 0, .int 0, .int 0, .int 0, .int (-1), .int (-1), .int 0, .int 0, .ref aV])), (rN, .inr (6, [.int 7, .int 100, .int 800, .int 10])), (ho, .inl (cO, 1, .inr (.inl fo)))] sz) [(ho, .inl (cO, 1, .inr (.inl (vp_updL fo (Int32.toNatClampNeg 0) 0))))]) (va_A [(h0, .inr (7, [.ref aH, .ref aB, .ref aJ, .int 0, .int 0, .int 0, .ref rN, .ref rX, .int 0, .int 0, .int 0, .int 0, .int 0, .int 0, .int (-1), .int (-1), .int 0, .int 0, .ref aV])), (rN, .inr (6, [.int 7, .int 100, .int 800, .int 10])), (ho, .inl (cO, 1, .inr (.inl fo)))] sz)) 0 0 (va_A [(h0, .inr (7, [.ref aH, .ref aB, .ref aJ, .int 0, .int 0, .int 0, .ref rN, .ref rX, .int 0, .int 0, .int 0, .int 0, .int 0, .int 0, .int (-1), .int (-1), .int 0, .int 0, .ref aV])), (rN, .inr (6, [.int 7, .int 100, .int 800, .int 10])), (ho, .inl (cO, 1, .inr (.inl fo)))] sz) := by
  refine va_MetW (cc := cL_many) (maxL := 4) (ret := (some .int)) (by decide +kernel) rfl ?_
  intro p e s m args below meth c s₁ B hml hv
  obtain ⟨rfl, hsz, hP, hK, hD0, hE⟩ := hv
  have hx := B.exec
  have hb := B.bytes
  have hr := B.returns
  have hts := atoms_spec (ws := wsL_many) B.pre
  have hown : s.vm.findClass RL = some m.cls := findClass_of_methodNamed B.named
  have hlocks := B.notSynchronized
  have htab := vx_table (x := yL_many) B (hts _ List.mem_cons_self)
  subst hsz
  have hD := hD0.self (sz := s.heap.size)
  generalize hAe : va_A [(h0, .inr (7, [.ref aH, .ref aB, .ref aJ, .int 0, .int 0, .int 0, .ref rN, .ref rX, .int 0, .int 0, .int 0, .int 0, .int 0, .int 0, .int (-1), .int (-1), .int 0, .int 0, .ref aV])), (rN, .inr (6, [.int 7, .int 100, .int 800, .int 10])), (ho, .inl (cO, 1, .inr (.inl fo)))] s.heap.size = A at hD hE ⊢
  have hA : ∀ q : Nat, s.heap.size ≤ q → A q := fun q h => by rw [← hAe]; exact Or.inr h
  have hS : va_S A s.heap s.heap [] := va_S.rf
  have hP : va_P D vwCl [(h0, .inr (7, [.ref aH, .ref aB, .ref aJ, .int 0, .int 0, .int 0, .ref rN, .ref rX, .int 0, .int 0, .int 0, .int 0, .int 0, .int 0, .int (-1), .int (-1), .int 0, .int 0, .ref aV])), (rN, .inr (6, [.int 7, .int 100, .int 800, .int 10])), (ho, .inl (cO, 1, .inr (.inl fo)))] s.heap := hP
  have hl := lv_entry ([.ref h0, .int 8, .ref ho]) (n := 4) (Nat.le_of_ble_eq_true rfl)
  rw [lg_entry_eq]
  generalize (lg_sl ([.ref h0, .int 8, .ref ho]) ++ List.replicate (4 - (lg_sl ([.ref h0, .int 8, .ref ho])).length) Slot.unset).toArray = ls at hl ⊢
  have hl : lv_has ls 4 [(0, .ref h0), (1, .int 8), (2, .ref ho)] := hl
  refine lv_aload_n hx hb dL_many_0 rfl (lv_at hl 2 rfl) ?_
  refine lv_iconst (v := 0) hx hb dL_many_1 (by decide) ?_
  refine lv_aload_n hx hb dL_many_2 rfl (lv_at hl 0 rfl) ?_
  refine lv_iload_n hx hb dL_many_3 rfl (lv_at hl 1 rfl) ?_
  have hPc := hP.sub (ws' := [(h0, .inr (7, [.ref aH, .ref aB, .ref aJ, .int 0, .int 0, .int 0, .ref rN, .ref rX, .int 0, .int 0, .int 0, .int 0, .int 0, .int 0, .int (-1), .int (-1), .int 0, .int 0, .ref aV])), (rN, .inr (6, [.int 7, .int 100, .int 800, .int 10]))]) [0, 1] rfl
  have hKc := hK.sub (tys' := []) [] rfl
  refine va_calli (va_runV (As := [.int 8]) (rest := [.int 0, .ref ho]) ⟨hx, hb, hml, hown, hts⟩ (k_many_8 l D eT h0 aH aB aJ rN rX aV s.heap.size ) (cwV 1 hts gL_many_X4_many rfl rfl rfl (by decide +kernel) ⟨Nat.le_of_ble_eq_true rfl, Nat.le_of_ble_eq_true rfl⟩) (pr_v (ci := 7) (q0 := 0) rfl rfl hPc hKc hE hS hA) rfl rfl hl.1 rfl (lv_room (Nat.le_of_ble_eq_true rfl)) dL_many_4 ⟨Nat.le_of_ble_eq_true rfl, Nat.le_of_ble_eq_true rfl⟩) hS (fun q h1 h2 => ro_A h1 h2) (fun q h => ro_F hS hA q h) (fun r u t H1 locs ht hvm hw hB hz1 hk1 hS => ?_)
  have hw : r = 0 := hw
  rw [hw]
  have hP := ro_P hP hk1
  generalize H1 = H at hP hS ⊢
  refine lv_i2l (v := 0) hx hb dL_many_7 (by decide) ?_
  refine va_last hx hb hK hP hD hS 2 0 rfl rfl (by unfold vp_in; decide +kernel) dL_many_8 (fun H locs hP hD hS => ?_)
  have hP : va_P D vwCl [(h0, .inr (7, [.ref aH, .ref aB, .ref aJ, .int 0, .int 0, .int 0, .ref rN, .ref rX, .int 0, .int 0, .int 0, .int 0, .int 0, .int 0, .int (-1), .int (-1), .int 0, .int 0, .ref aV])), (rN, .inr (6, [.int 7, .int 100, .int 800, .int 10])), (ho, .inl (cO, 1, .inr (.inl (vp_updL fo (Int32.toNatClampNeg 0) 0))))] H := hP
  have hD : va_D A [(h0, .inr (7, [.ref aH, .ref aB, .ref aJ, .int 0, .int 0, .int 0, .ref rN, .ref rX, .int 0, .int 0, .int 0, .int 0, .int 0, .int 0, .int (-1), .int (-1), .int 0, .int 0, .ref aV])), (rN, .inr (6, [.int 7, .int 100, .int 800, .int 10])), (ho, .inl (cO, 1, .inr (.inl (vp_updL fo (Int32.toNatClampNeg 0) 0))))] := hD
  refine lv_goto (tgt := 15) hx hb dL_many_9 (by decide) ?_
  refine lv_iconst (v := 0) hx hb dL_many_15 (by decide) ?_
  have hP9 := hP.sub (ws' := [(ho, .inl (cO, 1, .inr (.inl (vp_updL fo (Int32.toNatClampNeg 0) 0))))]) [2] rfl
  have hD9 := hD.sub (ws' := [(ho, .inl (cO, 1, .inr (.inl (vp_updL fo (Int32.toNatClampNeg 0) 0))))]) [2] (by decide) rfl
  have hK9 := hK.sub (tys' := []) [] rfl
  exact W.iret (v := 0) hx hb hr (fun t ht hW => ⟨⟨0, (), rfl, rfl, ⟨by rw [ht]; exact hP9, va_K.moved hW.alike hK9, hD9⟩⟩, hS.F ht⟩) hS.2.2 dL_many_16
set_option maxHeartbeats 4000000 in
set_option maxRecDepth 100000 in
theorem w_many_9 (l : Launch) (D : va_G) (eT : Nat) (h0 : Nat) (aH : Nat) (aB : Nat) (aJ : Nat) (rN : Nat) (rX : Nat) (aV : Nat) (ho : Nat) (cO : ClassId) (fo : Nat → Int64) (sz : Nat) : Met l yL_many wsL_many ({ frames := 1, cells := 0, slots := 0, locals := 21 }) (va_Pc [.ref h0, .int 9, .ref ho] (pc D eT sz [(h0, .inr (7, [.ref aH, .ref aB, .ref aJ, .int 0, .int 0, .int 0, .ref rN, .ref rX, .int 0, .int 0, .int 0, .int 0, .int 0, .int 0, .int (-1), .int (-1), .int 0, .int 0, .ref aV])), (rN, .inr (6, [.int 7, .int 100, .int 800, .int 10])), (ho, .inl (cO, 1, .inr (.inl fo)))] [(cO, .long)])) (va_Qi (fun (r : Int32) (_ : Unit) => r = 0) (fun _ t => va_P D vwCl [(ho, .inl (cO, 1, .inr (.inl (vp_updL fo (Int32.toNatClampNeg 0) (-1)))))] t.heap ∧ va_K D vwCl [] t ∧ va_D (va_A [(h0, .inr (7, [.ref aH, .ref aB, .ref aJ, .int 0, .int 0, .int 0, .ref rN, .ref rX, .int 0, .int 0, .int 0, .int 0, .int 0, .int 0, .int (-1), .int (-1), .int 0, .int 0, .ref aV])), (rN, .inr (6, [.int 7, .int 100, .int 800, .int 10])), (ho, .inl (cO, 1, .inr (.inl fo)))] sz) [(ho, .inl (cO, 1, .inr (.inl (vp_updL fo (Int32.toNatClampNeg 0) (-1)))))]) (va_A [(h0, .inr (7, [.ref aH, .ref aB, .ref aJ, .int 0, .int 0, .int 0, .ref rN, .ref rX, .int 0, .int 0, .int 0, .int 0, .int 0, .int 0, .int (-1), .int (-1), .int 0, .int 0, .ref aV])), (rN, .inr (6, [.int 7, .int 100, .int 800, .int 10])), (ho, .inl (cO, 1, .inr (.inl fo)))] sz)) 0 0 (va_A [(h0, .inr (7, [.ref aH, .ref aB, .ref aJ, .int 0, .int 0, .int 0, .ref rN, .ref rX, .int 0, .int 0, .int 0, .int 0, .int 0, .int 0, .int (-1), .int (-1), .int 0, .int 0, .ref aV])), (rN, .inr (6, [.int 7, .int 100, .int 800, .int 10])), (ho, .inl (cO, 1, .inr (.inl fo)))] sz) := by
  refine va_MetW (cc := cL_many) (maxL := 4) (ret := (some .int)) (by decide +kernel) rfl ?_
  intro p e s m args below meth c s₁ B hml hv
  obtain ⟨rfl, hsz, hP, hK, hD0, hE⟩ := hv
  have hx := B.exec
  have hb := B.bytes
  have hr := B.returns
  have hts := atoms_spec (ws := wsL_many) B.pre
  have hown : s.vm.findClass RL = some m.cls := findClass_of_methodNamed B.named
  have hlocks := B.notSynchronized
  have htab := vx_table (x := yL_many) B (hts _ List.mem_cons_self)
  subst hsz
  have hD := hD0.self (sz := s.heap.size)
  generalize hAe : va_A [(h0, .inr (7, [.ref aH, .ref aB, .ref aJ, .int 0, .int 0, .int 0, .ref rN, .ref rX, .int 0, .int 0, .int 0, .int 0, .int 0, .int 0, .int (-1), .int (-1), .int 0, .int 0, .ref aV])), (rN, .inr (6, [.int 7, .int 100, .int 800, .int 10])), (ho, .inl (cO, 1, .inr (.inl fo)))] s.heap.size = A at hD hE ⊢
  have hA : ∀ q : Nat, s.heap.size ≤ q → A q := fun q h => by rw [← hAe]; exact Or.inr h
  have hS : va_S A s.heap s.heap [] := va_S.rf
  have hP : va_P D vwCl [(h0, .inr (7, [.ref aH, .ref aB, .ref aJ, .int 0, .int 0, .int 0, .ref rN, .ref rX, .int 0, .int 0, .int 0, .int 0, .int 0, .int 0, .int (-1), .int (-1), .int 0, .int 0, .ref aV])), (rN, .inr (6, [.int 7, .int 100, .int 800, .int 10])), (ho, .inl (cO, 1, .inr (.inl fo)))] s.heap := hP
  have hl := lv_entry ([.ref h0, .int 9, .ref ho]) (n := 4) (Nat.le_of_ble_eq_true rfl)
  rw [lg_entry_eq]
  generalize (lg_sl ([.ref h0, .int 9, .ref ho]) ++ List.replicate (4 - (lg_sl ([.ref h0, .int 9, .ref ho])).length) Slot.unset).toArray = ls at hl ⊢
  have hl : lv_has ls 4 [(0, .ref h0), (1, .int 9), (2, .ref ho)] := hl
  refine lv_aload_n hx hb dL_many_0 rfl (lv_at hl 2 rfl) ?_
  refine lv_iconst (v := 0) hx hb dL_many_1 (by decide) ?_
  refine lv_aload_n hx hb dL_many_2 rfl (lv_at hl 0 rfl) ?_
  refine lv_iload_n hx hb dL_many_3 rfl (lv_at hl 1 rfl) ?_
  have hPc := hP.sub (ws' := [(h0, .inr (7, [.ref aH, .ref aB, .ref aJ, .int 0, .int 0, .int 0, .ref rN, .ref rX, .int 0, .int 0, .int 0, .int 0, .int 0, .int 0, .int (-1), .int (-1), .int 0, .int 0, .ref aV])), (rN, .inr (6, [.int 7, .int 100, .int 800, .int 10]))]) [0, 1] rfl
  have hKc := hK.sub (tys' := []) [] rfl
  refine va_calli (va_runV (As := [.int 9]) (rest := [.int 0, .ref ho]) ⟨hx, hb, hml, hown, hts⟩ (k_many_9 l D eT h0 aH aB aJ rN rX aV s.heap.size ) (cwV 1 hts gL_many_X4_many rfl rfl rfl (by decide +kernel) ⟨Nat.le_of_ble_eq_true rfl, Nat.le_of_ble_eq_true rfl⟩) (pr_v (ci := 7) (q0 := 0) rfl rfl hPc hKc hE hS hA) rfl rfl hl.1 rfl (lv_room (Nat.le_of_ble_eq_true rfl)) dL_many_4 ⟨Nat.le_of_ble_eq_true rfl, Nat.le_of_ble_eq_true rfl⟩) hS (fun q h1 h2 => ro_A h1 h2) (fun q h => ro_F hS hA q h) (fun r u t H1 locs ht hvm hw hB hz1 hk1 hS => ?_)
  have hw : r = (-1) := hw
  rw [hw]
  have hP := ro_P hP hk1
  generalize H1 = H at hP hS ⊢
  refine lv_i2l (v := (-1)) hx hb dL_many_7 (by decide) ?_
  refine va_last hx hb hK hP hD hS 2 0 rfl rfl (by unfold vp_in; decide +kernel) dL_many_8 (fun H locs hP hD hS => ?_)
  have hP : va_P D vwCl [(h0, .inr (7, [.ref aH, .ref aB, .ref aJ, .int 0, .int 0, .int 0, .ref rN, .ref rX, .int 0, .int 0, .int 0, .int 0, .int 0, .int 0, .int (-1), .int (-1), .int 0, .int 0, .ref aV])), (rN, .inr (6, [.int 7, .int 100, .int 800, .int 10])), (ho, .inl (cO, 1, .inr (.inl (vp_updL fo (Int32.toNatClampNeg 0) (-1)))))] H := hP
  have hD : va_D A [(h0, .inr (7, [.ref aH, .ref aB, .ref aJ, .int 0, .int 0, .int 0, .ref rN, .ref rX, .int 0, .int 0, .int 0, .int 0, .int 0, .int 0, .int (-1), .int (-1), .int 0, .int 0, .ref aV])), (rN, .inr (6, [.int 7, .int 100, .int 800, .int 10])), (ho, .inl (cO, 1, .inr (.inl (vp_updL fo (Int32.toNatClampNeg 0) (-1)))))] := hD
  refine lv_goto (tgt := 15) hx hb dL_many_9 (by decide) ?_
  refine lv_iconst (v := 0) hx hb dL_many_15 (by decide) ?_
  have hP9 := hP.sub (ws' := [(ho, .inl (cO, 1, .inr (.inl (vp_updL fo (Int32.toNatClampNeg 0) (-1)))))]) [2] rfl
  have hD9 := hD.sub (ws' := [(ho, .inl (cO, 1, .inr (.inl (vp_updL fo (Int32.toNatClampNeg 0) (-1)))))]) [2] (by decide) rfl
  have hK9 := hK.sub (tys' := []) [] rfl
  exact W.iret (v := 0) hx hb hr (fun t ht hW => ⟨⟨0, (), rfl, rfl, ⟨by rw [ht]; exact hP9, va_K.moved hW.alike hK9, hD9⟩⟩, hS.F ht⟩) hS.2.2 dL_many_16
set_option maxHeartbeats 4000000 in
set_option maxRecDepth 100000 in
theorem w_many_10 (l : Launch) (D : va_G) (eT : Nat) (h0 : Nat) (aH : Nat) (aB : Nat) (aJ : Nat) (rN : Nat) (rX : Nat) (aV : Nat) (ho : Nat) (cO : ClassId) (fo : Nat → Int64) (sz : Nat) : Met l yL_many wsL_many ({ frames := 1, cells := 0, slots := 0, locals := 21 }) (va_Pc [.ref h0, .int 10, .ref ho] (pc D eT sz [(h0, .inr (7, [.ref aH, .ref aB, .ref aJ, .int 0, .int 0, .int 0, .ref rN, .ref rX, .int 0, .int 0, .int 0, .int 0, .int 0, .int 0, .int (-1), .int (-1), .int 0, .int 0, .ref aV])), (rN, .inr (6, [.int 7, .int 100, .int 800, .int 10])), (ho, .inl (cO, 1, .inr (.inl fo)))] [(cO, .long)])) (va_Qi (fun (r : Int32) (_ : Unit) => r = 0) (fun _ t => va_P D vwCl [(ho, .inl (cO, 1, .inr (.inl (vp_updL fo (Int32.toNatClampNeg 0) (-1)))))] t.heap ∧ va_K D vwCl [] t ∧ va_D (va_A [(h0, .inr (7, [.ref aH, .ref aB, .ref aJ, .int 0, .int 0, .int 0, .ref rN, .ref rX, .int 0, .int 0, .int 0, .int 0, .int 0, .int 0, .int (-1), .int (-1), .int 0, .int 0, .ref aV])), (rN, .inr (6, [.int 7, .int 100, .int 800, .int 10])), (ho, .inl (cO, 1, .inr (.inl fo)))] sz) [(ho, .inl (cO, 1, .inr (.inl (vp_updL fo (Int32.toNatClampNeg 0) (-1)))))]) (va_A [(h0, .inr (7, [.ref aH, .ref aB, .ref aJ, .int 0, .int 0, .int 0, .ref rN, .ref rX, .int 0, .int 0, .int 0, .int 0, .int 0, .int 0, .int (-1), .int (-1), .int 0, .int 0, .ref aV])), (rN, .inr (6, [.int 7, .int 100, .int 800, .int 10])), (ho, .inl (cO, 1, .inr (.inl fo)))] sz)) 0 0 (va_A [(h0, .inr (7, [.ref aH, .ref aB, .ref aJ, .int 0, .int 0, .int 0, .ref rN, .ref rX, .int 0, .int 0, .int 0, .int 0, .int 0, .int 0, .int (-1), .int (-1), .int 0, .int 0, .ref aV])), (rN, .inr (6, [.int 7, .int 100, .int 800, .int 10])), (ho, .inl (cO, 1, .inr (.inl fo)))] sz) := by
  refine va_MetW (cc := cL_many) (maxL := 4) (ret := (some .int)) (by decide +kernel) rfl ?_
  intro p e s m args below meth c s₁ B hml hv
  obtain ⟨rfl, hsz, hP, hK, hD0, hE⟩ := hv
  have hx := B.exec
  have hb := B.bytes
  have hr := B.returns
  have hts := atoms_spec (ws := wsL_many) B.pre
  have hown : s.vm.findClass RL = some m.cls := findClass_of_methodNamed B.named
  have hlocks := B.notSynchronized
  have htab := vx_table (x := yL_many) B (hts _ List.mem_cons_self)
  subst hsz
  have hD := hD0.self (sz := s.heap.size)
  generalize hAe : va_A [(h0, .inr (7, [.ref aH, .ref aB, .ref aJ, .int 0, .int 0, .int 0, .ref rN, .ref rX, .int 0, .int 0, .int 0, .int 0, .int 0, .int 0, .int (-1), .int (-1), .int 0, .int 0, .ref aV])), (rN, .inr (6, [.int 7, .int 100, .int 800, .int 10])), (ho, .inl (cO, 1, .inr (.inl fo)))] s.heap.size = A at hD hE ⊢
  have hA : ∀ q : Nat, s.heap.size ≤ q → A q := fun q h => by rw [← hAe]; exact Or.inr h
  have hS : va_S A s.heap s.heap [] := va_S.rf
  have hP : va_P D vwCl [(h0, .inr (7, [.ref aH, .ref aB, .ref aJ, .int 0, .int 0, .int 0, .ref rN, .ref rX, .int 0, .int 0, .int 0, .int 0, .int 0, .int 0, .int (-1), .int (-1), .int 0, .int 0, .ref aV])), (rN, .inr (6, [.int 7, .int 100, .int 800, .int 10])), (ho, .inl (cO, 1, .inr (.inl fo)))] s.heap := hP
  have hl := lv_entry ([.ref h0, .int 10, .ref ho]) (n := 4) (Nat.le_of_ble_eq_true rfl)
  rw [lg_entry_eq]
  generalize (lg_sl ([.ref h0, .int 10, .ref ho]) ++ List.replicate (4 - (lg_sl ([.ref h0, .int 10, .ref ho])).length) Slot.unset).toArray = ls at hl ⊢
  have hl : lv_has ls 4 [(0, .ref h0), (1, .int 10), (2, .ref ho)] := hl
  refine lv_aload_n hx hb dL_many_0 rfl (lv_at hl 2 rfl) ?_
  refine lv_iconst (v := 0) hx hb dL_many_1 (by decide) ?_
  refine lv_aload_n hx hb dL_many_2 rfl (lv_at hl 0 rfl) ?_
  refine lv_iload_n hx hb dL_many_3 rfl (lv_at hl 1 rfl) ?_
  have hPc := hP.sub (ws' := [(h0, .inr (7, [.ref aH, .ref aB, .ref aJ, .int 0, .int 0, .int 0, .ref rN, .ref rX, .int 0, .int 0, .int 0, .int 0, .int 0, .int 0, .int (-1), .int (-1), .int 0, .int 0, .ref aV])), (rN, .inr (6, [.int 7, .int 100, .int 800, .int 10]))]) [0, 1] rfl
  have hKc := hK.sub (tys' := []) [] rfl
  refine va_calli (va_runV (As := [.int 10]) (rest := [.int 0, .ref ho]) ⟨hx, hb, hml, hown, hts⟩ (k_many_10 l D eT h0 aH aB aJ rN rX aV s.heap.size ) (cwV 1 hts gL_many_X4_many rfl rfl rfl (by decide +kernel) ⟨Nat.le_of_ble_eq_true rfl, Nat.le_of_ble_eq_true rfl⟩) (pr_v (ci := 7) (q0 := 0) rfl rfl hPc hKc hE hS hA) rfl rfl hl.1 rfl (lv_room (Nat.le_of_ble_eq_true rfl)) dL_many_4 ⟨Nat.le_of_ble_eq_true rfl, Nat.le_of_ble_eq_true rfl⟩) hS (fun q h1 h2 => ro_A h1 h2) (fun q h => ro_F hS hA q h) (fun r u t H1 locs ht hvm hw hB hz1 hk1 hS => ?_)
  have hw : r = (-1) := hw
  rw [hw]
  have hP := ro_P hP hk1
  generalize H1 = H at hP hS ⊢
  refine lv_i2l (v := (-1)) hx hb dL_many_7 (by decide) ?_
  refine va_last hx hb hK hP hD hS 2 0 rfl rfl (by unfold vp_in; decide +kernel) dL_many_8 (fun H locs hP hD hS => ?_)
  have hP : va_P D vwCl [(h0, .inr (7, [.ref aH, .ref aB, .ref aJ, .int 0, .int 0, .int 0, .ref rN, .ref rX, .int 0, .int 0, .int 0, .int 0, .int 0, .int 0, .int (-1), .int (-1), .int 0, .int 0, .ref aV])), (rN, .inr (6, [.int 7, .int 100, .int 800, .int 10])), (ho, .inl (cO, 1, .inr (.inl (vp_updL fo (Int32.toNatClampNeg 0) (-1)))))] H := hP
  have hD : va_D A [(h0, .inr (7, [.ref aH, .ref aB, .ref aJ, .int 0, .int 0, .int 0, .ref rN, .ref rX, .int 0, .int 0, .int 0, .int 0, .int 0, .int 0, .int (-1), .int (-1), .int 0, .int 0, .ref aV])), (rN, .inr (6, [.int 7, .int 100, .int 800, .int 10])), (ho, .inl (cO, 1, .inr (.inl (vp_updL fo (Int32.toNatClampNeg 0) (-1)))))] := hD
  refine lv_goto (tgt := 15) hx hb dL_many_9 (by decide) ?_
  refine lv_iconst (v := 0) hx hb dL_many_15 (by decide) ?_
  have hP9 := hP.sub (ws' := [(ho, .inl (cO, 1, .inr (.inl (vp_updL fo (Int32.toNatClampNeg 0) (-1)))))]) [2] rfl
  have hD9 := hD.sub (ws' := [(ho, .inl (cO, 1, .inr (.inl (vp_updL fo (Int32.toNatClampNeg 0) (-1)))))]) [2] (by decide) rfl
  have hK9 := hK.sub (tys' := []) [] rfl
  exact W.iret (v := 0) hx hb hr (fun t ht hW => ⟨⟨0, (), rfl, rfl, ⟨by rw [ht]; exact hP9, va_K.moved hW.alike hK9, hD9⟩⟩, hS.F ht⟩) hS.2.2 dL_many_16
set_option maxHeartbeats 4000000 in
set_option maxRecDepth 100000 in
theorem w_many_11 (l : Launch) (D : va_G) (eT : Nat) (h0 : Nat) (aH : Nat) (aB : Nat) (aJ : Nat) (rN : Nat) (rX : Nat) (aV : Nat) (ho : Nat) (cO : ClassId) (fo : Nat → Int64) (sz : Nat) : Met l yL_many wsL_many ({ frames := 2, cells := 0, slots := 0, locals := 41 }) (va_Pc [.ref h0, .int 11, .ref ho] (pc D eT sz [(h0, .inr (7, [.ref aH, .ref aB, .ref aJ, .int 0, .int 0, .int 0, .ref rN, .ref rX, .int 0, .int 0, .int 0, .int 0, .int 0, .int 0, .int (-1), .int (-1), .int 0, .int 0, .ref aV])), (rN, .inr (6, [.int 7, .int 100, .int 800, .int 10])), (ho, .inl (cO, 1, .inr (.inl fo)))] [(cO, .long)])) (va_Qi (fun (r : Int32) (_ : Unit) => r = 0) (fun _ t => va_P D vwCl [(ho, .inl (cO, 1, .inr (.inl (vp_updL fo (Int32.toNatClampNeg 0) 0))))] t.heap ∧ va_K D vwCl [] t ∧ va_D (va_A [(h0, .inr (7, [.ref aH, .ref aB, .ref aJ, .int 0, .int 0, .int 0, .ref rN, .ref rX, .int 0, .int 0, .int 0, .int 0, .int 0, .int 0, .int (-1), .int (-1), .int 0, .int 0, .ref aV])), (rN, .inr (6, [.int 7, .int 100, .int 800, .int 10])), (ho, .inl (cO, 1, .inr (.inl fo)))] sz) [(ho, .inl (cO, 1, .inr (.inl (vp_updL fo (Int32.toNatClampNeg 0) 0))))]) (va_A [(h0, .inr (7, [.ref aH, .ref aB, .ref aJ, .int 0, .int 0, .int 0, .ref rN, .ref rX, .int 0, .int 0, .int 0, .int 0, .int 0, .int 0, .int (-1), .int (-1), .int 0, .int 0, .ref aV])), (rN, .inr (6, [.int 7, .int 100, .int 800, .int 10])), (ho, .inl (cO, 1, .inr (.inl fo)))] sz)) 0 0 (va_A [(h0, .inr (7, [.ref aH, .ref aB, .ref aJ, .int 0, .int 0, .int 0, .ref rN, .ref rX, .int 0, .int 0, .int 0, .int 0, .int 0, .int 0, .int (-1), .int (-1), .int 0, .int 0, .ref aV])), (rN, .inr (6, [.int 7, .int 100, .int 800, .int 10])), (ho, .inl (cO, 1, .inr (.inl fo)))] sz) := by
  refine va_MetW (cc := cL_many) (maxL := 4) (ret := (some .int)) (by decide +kernel) rfl ?_
  intro p e s m args below meth c s₁ B hml hv
  obtain ⟨rfl, hsz, hP, hK, hD0, hE⟩ := hv
  have hx := B.exec
  have hb := B.bytes
  have hr := B.returns
  have hts := atoms_spec (ws := wsL_many) B.pre
  have hown : s.vm.findClass RL = some m.cls := findClass_of_methodNamed B.named
  have hlocks := B.notSynchronized
  have htab := vx_table (x := yL_many) B (hts _ List.mem_cons_self)
  subst hsz
  have hD := hD0.self (sz := s.heap.size)
  generalize hAe : va_A [(h0, .inr (7, [.ref aH, .ref aB, .ref aJ, .int 0, .int 0, .int 0, .ref rN, .ref rX, .int 0, .int 0, .int 0, .int 0, .int 0, .int 0, .int (-1), .int (-1), .int 0, .int 0, .ref aV])), (rN, .inr (6, [.int 7, .int 100, .int 800, .int 10])), (ho, .inl (cO, 1, .inr (.inl fo)))] s.heap.size = A at hD hE ⊢
  have hA : ∀ q : Nat, s.heap.size ≤ q → A q := fun q h => by rw [← hAe]; exact Or.inr h
  have hS : va_S A s.heap s.heap [] := va_S.rf
  have hP : va_P D vwCl [(h0, .inr (7, [.ref aH, .ref aB, .ref aJ, .int 0, .int 0, .int 0, .ref rN, .ref rX, .int 0, .int 0, .int 0, .int 0, .int 0, .int 0, .int (-1), .int (-1), .int 0, .int 0, .ref aV])), (rN, .inr (6, [.int 7, .int 100, .int 800, .int 10])), (ho, .inl (cO, 1, .inr (.inl fo)))] s.heap := hP
  have hl := lv_entry ([.ref h0, .int 11, .ref ho]) (n := 4) (Nat.le_of_ble_eq_true rfl)
  rw [lg_entry_eq]
  generalize (lg_sl ([.ref h0, .int 11, .ref ho]) ++ List.replicate (4 - (lg_sl ([.ref h0, .int 11, .ref ho])).length) Slot.unset).toArray = ls at hl ⊢
  have hl : lv_has ls 4 [(0, .ref h0), (1, .int 11), (2, .ref ho)] := hl
  refine lv_aload_n hx hb dL_many_0 rfl (lv_at hl 2 rfl) ?_
  refine lv_iconst (v := 0) hx hb dL_many_1 (by decide) ?_
  refine lv_aload_n hx hb dL_many_2 rfl (lv_at hl 0 rfl) ?_
  refine lv_iload_n hx hb dL_many_3 rfl (lv_at hl 1 rfl) ?_
  have hPc := hP.sub (ws' := [(h0, .inr (7, [.ref aH, .ref aB, .ref aJ, .int 0, .int 0, .int 0, .ref rN, .ref rX, .int 0, .int 0, .int 0, .int 0, .int 0, .int 0, .int (-1), .int (-1), .int 0, .int 0, .ref aV])), (rN, .inr (6, [.int 7, .int 100, .int 800, .int 10]))]) [0, 1] rfl
  have hKc := hK.sub (tys' := []) [] rfl
  refine va_calli (va_runV (As := [.int 11]) (rest := [.int 0, .ref ho]) ⟨hx, hb, hml, hown, hts⟩ (k_many_11 l D eT h0 aH aB aJ rN rX aV s.heap.size ) (cwV 1 hts gL_many_X4_many rfl rfl rfl (by decide +kernel) ⟨Nat.le_of_ble_eq_true rfl, Nat.le_of_ble_eq_true rfl⟩) (pr_v (ci := 7) (q0 := 0) rfl rfl hPc hKc hE hS hA) rfl rfl hl.1 rfl (lv_room (Nat.le_of_ble_eq_true rfl)) dL_many_4 ⟨Nat.le_of_ble_eq_true rfl, Nat.le_of_ble_eq_true rfl⟩) hS (fun q h1 h2 => ro_A h1 h2) (fun q h => ro_F hS hA q h) (fun r u t H1 locs ht hvm hw hB hz1 hk1 hS => ?_)
  have hw : r = 0 := hw
  rw [hw]
  have hP := ro_P hP hk1
  generalize H1 = H at hP hS ⊢
  refine lv_i2l (v := 0) hx hb dL_many_7 (by decide) ?_
  refine va_last hx hb hK hP hD hS 2 0 rfl rfl (by unfold vp_in; decide +kernel) dL_many_8 (fun H locs hP hD hS => ?_)
  have hP : va_P D vwCl [(h0, .inr (7, [.ref aH, .ref aB, .ref aJ, .int 0, .int 0, .int 0, .ref rN, .ref rX, .int 0, .int 0, .int 0, .int 0, .int 0, .int 0, .int (-1), .int (-1), .int 0, .int 0, .ref aV])), (rN, .inr (6, [.int 7, .int 100, .int 800, .int 10])), (ho, .inl (cO, 1, .inr (.inl (vp_updL fo (Int32.toNatClampNeg 0) 0))))] H := hP
  have hD : va_D A [(h0, .inr (7, [.ref aH, .ref aB, .ref aJ, .int 0, .int 0, .int 0, .ref rN, .ref rX, .int 0, .int 0, .int 0, .int 0, .int 0, .int 0, .int (-1), .int (-1), .int 0, .int 0, .ref aV])), (rN, .inr (6, [.int 7, .int 100, .int 800, .int 10])), (ho, .inl (cO, 1, .inr (.inl (vp_updL fo (Int32.toNatClampNeg 0) 0))))] := hD
  refine lv_goto (tgt := 15) hx hb dL_many_9 (by decide) ?_
  refine lv_iconst (v := 0) hx hb dL_many_15 (by decide) ?_
  have hP9 := hP.sub (ws' := [(ho, .inl (cO, 1, .inr (.inl (vp_updL fo (Int32.toNatClampNeg 0) 0))))]) [2] rfl
  have hD9 := hD.sub (ws' := [(ho, .inl (cO, 1, .inr (.inl (vp_updL fo (Int32.toNatClampNeg 0) 0))))]) [2] (by decide) rfl
  have hK9 := hK.sub (tys' := []) [] rfl
  exact W.iret (v := 0) hx hb hr (fun t ht hW => ⟨⟨0, (), rfl, rfl, ⟨by rw [ht]; exact hP9, va_K.moved hW.alike hK9, hD9⟩⟩, hS.F ht⟩) hS.2.2 dL_many_16
set_option maxHeartbeats 4000000 in
set_option maxRecDepth 100000 in
theorem w_many_12 (l : Launch) (D : va_G) (eT : Nat) (h0 : Nat) (aH : Nat) (aB : Nat) (aJ : Nat) (rN : Nat) (rX : Nat) (aV : Nat) (ho : Nat) (cO : ClassId) (fo : Nat → Int64) (sz : Nat) : Met l yL_many wsL_many ({ frames := 2, cells := 0, slots := 0, locals := 43 }) (va_Pc [.ref h0, .int 12, .ref ho] (pc D eT sz [(h0, .inr (7, [.ref aH, .ref aB, .ref aJ, .int 0, .int 0, .int 0, .ref rN, .ref rX, .int 0, .int 0, .int 0, .int 0, .int 0, .int 0, .int (-1), .int (-1), .int 0, .int 0, .ref aV])), (rN, .inr (6, [.int 7, .int 100, .int 800, .int 10])), (ho, .inl (cO, 1, .inr (.inl fo)))] [(cO, .long)])) (va_Qi (fun (r : Int32) (_ : Unit) => r = 0) (fun _ t => va_P D vwCl [(ho, .inl (cO, 1, .inr (.inl (vp_updL fo (Int32.toNatClampNeg 0) 0))))] t.heap ∧ va_K D vwCl [] t ∧ va_D (va_A [(h0, .inr (7, [.ref aH, .ref aB, .ref aJ, .int 0, .int 0, .int 0, .ref rN, .ref rX, .int 0, .int 0, .int 0, .int 0, .int 0, .int 0, .int (-1), .int (-1), .int 0, .int 0, .ref aV])), (rN, .inr (6, [.int 7, .int 100, .int 800, .int 10])), (ho, .inl (cO, 1, .inr (.inl fo)))] sz) [(ho, .inl (cO, 1, .inr (.inl (vp_updL fo (Int32.toNatClampNeg 0) 0))))]) (va_A [(h0, .inr (7, [.ref aH, .ref aB, .ref aJ, .int 0, .int 0, .int 0, .ref rN, .ref rX, .int 0, .int 0, .int 0, .int 0, .int 0, .int 0, .int (-1), .int (-1), .int 0, .int 0, .ref aV])), (rN, .inr (6, [.int 7, .int 100, .int 800, .int 10])), (ho, .inl (cO, 1, .inr (.inl fo)))] sz)) 0 0 (va_A [(h0, .inr (7, [.ref aH, .ref aB, .ref aJ, .int 0, .int 0, .int 0, .ref rN, .ref rX, .int 0, .int 0, .int 0, .int 0, .int 0, .int 0, .int (-1), .int (-1), .int 0, .int 0, .ref aV])), (rN, .inr (6, [.int 7, .int 100, .int 800, .int 10])), (ho, .inl (cO, 1, .inr (.inl fo)))] sz) := by
  refine va_MetW (cc := cL_many) (maxL := 4) (ret := (some .int)) (by decide +kernel) rfl ?_
  intro p e s m args below meth c s₁ B hml hv
  obtain ⟨rfl, hsz, hP, hK, hD0, hE⟩ := hv
  have hx := B.exec
  have hb := B.bytes
  have hr := B.returns
  have hts := atoms_spec (ws := wsL_many) B.pre
  have hown : s.vm.findClass RL = some m.cls := findClass_of_methodNamed B.named
  have hlocks := B.notSynchronized
  have htab := vx_table (x := yL_many) B (hts _ List.mem_cons_self)
  subst hsz
  have hD := hD0.self (sz := s.heap.size)
  generalize hAe : va_A [(h0, .inr (7, [.ref aH, .ref aB, .ref aJ, .int 0, .int 0, .int 0, .ref rN, .ref rX, .int 0, .int 0, .int 0, .int 0, .int 0, .int 0, .int (-1), .int (-1), .int 0, .int 0, .ref aV])), (rN, .inr (6, [.int 7, .int 100, .int 800, .int 10])), (ho, .inl (cO, 1, .inr (.inl fo)))] s.heap.size = A at hD hE ⊢
  have hA : ∀ q : Nat, s.heap.size ≤ q → A q := fun q h => by rw [← hAe]; exact Or.inr h
  have hS : va_S A s.heap s.heap [] := va_S.rf
  have hP : va_P D vwCl [(h0, .inr (7, [.ref aH, .ref aB, .ref aJ, .int 0, .int 0, .int 0, .ref rN, .ref rX, .int 0, .int 0, .int 0, .int 0, .int 0, .int 0, .int (-1), .int (-1), .int 0, .int 0, .ref aV])), (rN, .inr (6, [.int 7, .int 100, .int 800, .int 10])), (ho, .inl (cO, 1, .inr (.inl fo)))] s.heap := hP
  have hl := lv_entry ([.ref h0, .int 12, .ref ho]) (n := 4) (Nat.le_of_ble_eq_true rfl)
  rw [lg_entry_eq]
  generalize (lg_sl ([.ref h0, .int 12, .ref ho]) ++ List.replicate (4 - (lg_sl ([.ref h0, .int 12, .ref ho])).length) Slot.unset).toArray = ls at hl ⊢
  have hl : lv_has ls 4 [(0, .ref h0), (1, .int 12), (2, .ref ho)] := hl
  refine lv_aload_n hx hb dL_many_0 rfl (lv_at hl 2 rfl) ?_
  refine lv_iconst (v := 0) hx hb dL_many_1 (by decide) ?_
  refine lv_aload_n hx hb dL_many_2 rfl (lv_at hl 0 rfl) ?_
  refine lv_iload_n hx hb dL_many_3 rfl (lv_at hl 1 rfl) ?_
  have hPc := hP.sub (ws' := [(h0, .inr (7, [.ref aH, .ref aB, .ref aJ, .int 0, .int 0, .int 0, .ref rN, .ref rX, .int 0, .int 0, .int 0, .int 0, .int 0, .int 0, .int (-1), .int (-1), .int 0, .int 0, .ref aV])), (rN, .inr (6, [.int 7, .int 100, .int 800, .int 10]))]) [0, 1] rfl
  have hKc := hK.sub (tys' := []) [] rfl
  refine va_calli (va_runV (As := [.int 12]) (rest := [.int 0, .ref ho]) ⟨hx, hb, hml, hown, hts⟩ (k_many_12 l D eT h0 aH aB aJ rN rX aV s.heap.size ) (cwV 1 hts gL_many_X4_many rfl rfl rfl (by decide +kernel) ⟨Nat.le_of_ble_eq_true rfl, Nat.le_of_ble_eq_true rfl⟩) (pr_v (ci := 7) (q0 := 0) rfl rfl hPc hKc hE hS hA) rfl rfl hl.1 rfl (lv_room (Nat.le_of_ble_eq_true rfl)) dL_many_4 ⟨Nat.le_of_ble_eq_true rfl, Nat.le_of_ble_eq_true rfl⟩) hS (fun q h1 h2 => ro_A h1 h2) (fun q h => ro_F hS hA q h) (fun r u t H1 locs ht hvm hw hB hz1 hk1 hS => ?_)
  have hw : r = 0 := hw
  rw [hw]
  have hP := ro_P hP hk1
  generalize H1 = H at hP hS ⊢
  refine lv_i2l (v := 0) hx hb dL_many_7 (by decide) ?_
  refine va_last hx hb hK hP hD hS 2 0 rfl rfl (by unfold vp_in; decide +kernel) dL_many_8 (fun H locs hP hD hS => ?_)
  have hP : va_P D vwCl [(h0, .inr (7, [.ref aH, .ref aB, .ref aJ, .int 0, .int 0, .int 0, .ref rN, .ref rX, .int 0, .int 0, .int 0, .int 0, .int 0, .int 0, .int (-1), .int (-1), .int 0, .int 0, .ref aV])), (rN, .inr (6, [.int 7, .int 100, .int 800, .int 10])), (ho, .inl (cO, 1, .inr (.inl (vp_updL fo (Int32.toNatClampNeg 0) 0))))] H := hP
  have hD : va_D A [(h0, .inr (7, [.ref aH, .ref aB, .ref aJ, .int 0, .int 0, .int 0, .ref rN, .ref rX, .int 0, .int 0, .int 0, .int 0, .int 0, .int 0, .int (-1), .int (-1), .int 0, .int 0, .ref aV])), (rN, .inr (6, [.int 7, .int 100, .int 800, .int 10])), (ho, .inl (cO, 1, .inr (.inl (vp_updL fo (Int32.toNatClampNeg 0) 0))))] := hD
  refine lv_goto (tgt := 15) hx hb dL_many_9 (by decide) ?_
  refine lv_iconst (v := 0) hx hb dL_many_15 (by decide) ?_
  have hP9 := hP.sub (ws' := [(ho, .inl (cO, 1, .inr (.inl (vp_updL fo (Int32.toNatClampNeg 0) 0))))]) [2] rfl
  have hD9 := hD.sub (ws' := [(ho, .inl (cO, 1, .inr (.inl (vp_updL fo (Int32.toNatClampNeg 0) 0))))]) [2] (by decide) rfl
  have hK9 := hK.sub (tys' := []) [] rfl
  exact W.iret (v := 0) hx hb hr (fun t ht hW => ⟨⟨0, (), rfl, rfl, ⟨by rw [ht]; exact hP9, va_K.moved hW.alike hK9, hD9⟩⟩, hS.F ht⟩) hS.2.2 dL_many_16
set_option maxHeartbeats 4000000 in
set_option maxRecDepth 100000 in
theorem w_many_13 (l : Launch) (D : va_G) (eT : Nat) (h0 : Nat) (aH : Nat) (aB : Nat) (aJ : Nat) (rN : Nat) (rX : Nat) (aV : Nat) (ho : Nat) (cO : ClassId) (fo : Nat → Int64) (sz : Nat) : Met l yL_many wsL_many ({ frames := 2, cells := 0, slots := 0, locals := 43 }) (va_Pc [.ref h0, .int 13, .ref ho] (pc D eT sz [(h0, .inr (7, [.ref aH, .ref aB, .ref aJ, .int 0, .int 0, .int 0, .ref rN, .ref rX, .int 0, .int 0, .int 0, .int 0, .int 0, .int 0, .int (-1), .int (-1), .int 0, .int 0, .ref aV])), (rN, .inr (6, [.int 7, .int 100, .int 800, .int 10])), (ho, .inl (cO, 1, .inr (.inl fo)))] [(cO, .long)])) (va_Qi (fun (r : Int32) (_ : Unit) => r = 0) (fun _ t => va_P D vwCl [(ho, .inl (cO, 1, .inr (.inl (vp_updL fo (Int32.toNatClampNeg 0) 0))))] t.heap ∧ va_K D vwCl [] t ∧ va_D (va_A [(h0, .inr (7, [.ref aH, .ref aB, .ref aJ, .int 0, .int 0, .int 0, .ref rN, .ref rX, .int 0, .int 0, .int 0, .int 0, .int 0, .int 0, .int (-1), .int (-1), .int 0, .int 0, .ref aV])), (rN, .inr (6, [.int 7, .int 100, .int 800, .int 10])), (ho, .inl (cO, 1, .inr (.inl fo)))] sz) [(ho, .inl (cO, 1, .inr (.inl (vp_updL fo (Int32.toNatClampNeg 0) 0))))]) (va_A [(h0, .inr (7, [.ref aH, .ref aB, .ref aJ, .int 0, .int 0, .int 0, .ref rN, .ref rX, .int 0, .int 0, .int 0, .int 0, .int 0, .int 0, .int (-1), .int (-1), .int 0, .int 0, .ref aV])), (rN, .inr (6, [.int 7, .int 100, .int 800, .int 10])), (ho, .inl (cO, 1, .inr (.inl fo)))] sz)) 0 0 (va_A [(h0, .inr (7, [.ref aH, .ref aB, .ref aJ, .int 0, .int 0, .int 0, .ref rN, .ref rX, .int 0, .int 0, .int 0, .int 0, .int 0, .int 0, .int (-1), .int (-1), .int 0, .int 0, .ref aV])), (rN, .inr (6, [.int 7, .int 100, .int 800, .int 10])), (ho, .inl (cO, 1, .inr (.inl fo)))] sz) := by
  refine va_MetW (cc := cL_many) (maxL := 4) (ret := (some .int)) (by decide +kernel) rfl ?_
  intro p e s m args below meth c s₁ B hml hv
  obtain ⟨rfl, hsz, hP, hK, hD0, hE⟩ := hv
  have hx := B.exec
  have hb := B.bytes
  have hr := B.returns
  have hts := atoms_spec (ws := wsL_many) B.pre
  have hown : s.vm.findClass RL = some m.cls := findClass_of_methodNamed B.named
  have hlocks := B.notSynchronized
  have htab := vx_table (x := yL_many) B (hts _ List.mem_cons_self)
  subst hsz
  have hD := hD0.self (sz := s.heap.size)
  generalize hAe : va_A [(h0, .inr (7, [.ref aH, .ref aB, .ref aJ, .int 0, .int 0, .int 0, .ref rN, .ref rX, .int 0, .int 0, .int 0, .int 0, .int 0, .int 0, .int (-1), .int (-1), .int 0, .int 0, .ref aV])), (rN, .inr (6, [.int 7, .int 100, .int 800, .int 10])), (ho, .inl (cO, 1, .inr (.inl fo)))] s.heap.size = A at hD hE ⊢
  have hA : ∀ q : Nat, s.heap.size ≤ q → A q := fun q h => by rw [← hAe]; exact Or.inr h
  have hS : va_S A s.heap s.heap [] := va_S.rf
  have hP : va_P D vwCl [(h0, .inr (7, [.ref aH, .ref aB, .ref aJ, .int 0, .int 0, .int 0, .ref rN, .ref rX, .int 0, .int 0, .int 0, .int 0, .int 0, .int 0, .int (-1), .int (-1), .int 0, .int 0, .ref aV])), (rN, .inr (6, [.int 7, .int 100, .int 800, .int 10])), (ho, .inl (cO, 1, .inr (.inl fo)))] s.heap := hP
  have hl := lv_entry ([.ref h0, .int 13, .ref ho]) (n := 4) (Nat.le_of_ble_eq_true rfl)
  rw [lg_entry_eq]
  generalize (lg_sl ([.ref h0, .int 13, .ref ho]) ++ List.replicate (4 - (lg_sl ([.ref h0, .int 13, .ref ho])).length) Slot.unset).toArray = ls at hl ⊢
  have hl : lv_has ls 4 [(0, .ref h0), (1, .int 13), (2, .ref ho)] := hl
  refine lv_aload_n hx hb dL_many_0 rfl (lv_at hl 2 rfl) ?_
  refine lv_iconst (v := 0) hx hb dL_many_1 (by decide) ?_
  refine lv_aload_n hx hb dL_many_2 rfl (lv_at hl 0 rfl) ?_
  refine lv_iload_n hx hb dL_many_3 rfl (lv_at hl 1 rfl) ?_
  have hPc := hP.sub (ws' := [(h0, .inr (7, [.ref aH, .ref aB, .ref aJ, .int 0, .int 0, .int 0, .ref rN, .ref rX, .int 0, .int 0, .int 0, .int 0, .int 0, .int 0, .int (-1), .int (-1), .int 0, .int 0, .ref aV])), (rN, .inr (6, [.int 7, .int 100, .int 800, .int 10]))]) [0, 1] rfl
  have hKc := hK.sub (tys' := []) [] rfl
  refine va_calli (va_runV (As := [.int 13]) (rest := [.int 0, .ref ho]) ⟨hx, hb, hml, hown, hts⟩ (k_many_13 l D eT h0 aH aB aJ rN rX aV s.heap.size ) (cwV 1 hts gL_many_X4_many rfl rfl rfl (by decide +kernel) ⟨Nat.le_of_ble_eq_true rfl, Nat.le_of_ble_eq_true rfl⟩) (pr_v (ci := 7) (q0 := 0) rfl rfl hPc hKc hE hS hA) rfl rfl hl.1 rfl (lv_room (Nat.le_of_ble_eq_true rfl)) dL_many_4 ⟨Nat.le_of_ble_eq_true rfl, Nat.le_of_ble_eq_true rfl⟩) hS (fun q h1 h2 => ro_A h1 h2) (fun q h => ro_F hS hA q h) (fun r u t H1 locs ht hvm hw hB hz1 hk1 hS => ?_)
  have hw : r = 0 := hw
  rw [hw]
  have hP := ro_P hP hk1
  generalize H1 = H at hP hS ⊢
  refine lv_i2l (v := 0) hx hb dL_many_7 (by decide) ?_
  refine va_last hx hb hK hP hD hS 2 0 rfl rfl (by unfold vp_in; decide +kernel) dL_many_8 (fun H locs hP hD hS => ?_)
  have hP : va_P D vwCl [(h0, .inr (7, [.ref aH, .ref aB, .ref aJ, .int 0, .int 0, .int 0, .ref rN, .ref rX, .int 0, .int 0, .int 0, .int 0, .int 0, .int 0, .int (-1), .int (-1), .int 0, .int 0, .ref aV])), (rN, .inr (6, [.int 7, .int 100, .int 800, .int 10])), (ho, .inl (cO, 1, .inr (.inl (vp_updL fo (Int32.toNatClampNeg 0) 0))))] H := hP
  have hD : va_D A [(h0, .inr (7, [.ref aH, .ref aB, .ref aJ, .int 0, .int 0, .int 0, .ref rN, .ref rX, .int 0, .int 0, .int 0, .int 0, .int 0, .int 0, .int (-1), .int (-1), .int 0, .int 0, .ref aV])), (rN, .inr (6, [.int 7, .int 100, .int 800, .int 10])), (ho, .inl (cO, 1, .inr (.inl (vp_updL fo (Int32.toNatClampNeg 0) 0))))] := hD
  refine lv_goto (tgt := 15) hx hb dL_many_9 (by decide) ?_
  refine lv_iconst (v := 0) hx hb dL_many_15 (by decide) ?_
  have hP9 := hP.sub (ws' := [(ho, .inl (cO, 1, .inr (.inl (vp_updL fo (Int32.toNatClampNeg 0) 0))))]) [2] rfl
  have hD9 := hD.sub (ws' := [(ho, .inl (cO, 1, .inr (.inl (vp_updL fo (Int32.toNatClampNeg 0) 0))))]) [2] (by decide) rfl
  have hK9 := hK.sub (tys' := []) [] rfl
  exact W.iret (v := 0) hx hb hr (fun t ht hW => ⟨⟨0, (), rfl, rfl, ⟨by rw [ht]; exact hP9, va_K.moved hW.alike hK9, hD9⟩⟩, hS.F ht⟩) hS.2.2 dL_many_16
set_option maxHeartbeats 4000000 in
set_option maxRecDepth 100000 in
theorem w_many_14 (l : Launch) (D : va_G) (eT : Nat) (h0 : Nat) (aH : Nat) (aB : Nat) (aJ : Nat) (rN : Nat) (rX : Nat) (aV : Nat) (ho : Nat) (cO : ClassId) (fo : Nat → Int64) (sz : Nat) : Met l yL_many wsL_many ({ frames := 1, cells := 0, slots := 0, locals := 21 }) (va_Pc [.ref h0, .int 14, .ref ho] (pc D eT sz [(h0, .inr (7, [.ref aH, .ref aB, .ref aJ, .int 0, .int 0, .int 0, .ref rN, .ref rX, .int 0, .int 0, .int 0, .int 0, .int 0, .int 0, .int (-1), .int (-1), .int 0, .int 0, .ref aV])), (rN, .inr (6, [.int 7, .int 100, .int 800, .int 10])), (ho, .inl (cO, 1, .inr (.inl fo)))] [(cO, .long)])) (va_Qi (fun (r : Int32) (_ : Unit) => r = 0) (fun _ t => va_P D vwCl [(ho, .inl (cO, 1, .inr (.inl (vp_updL fo (Int32.toNatClampNeg 0) 10))))] t.heap ∧ va_K D vwCl [] t ∧ va_D (va_A [(h0, .inr (7, [.ref aH, .ref aB, .ref aJ, .int 0, .int 0, .int 0, .ref rN, .ref rX, .int 0, .int 0, .int 0, .int 0, .int 0, .int 0, .int (-1), .int (-1), .int 0, .int 0, .ref aV])), (rN, .inr (6, [.int 7, .int 100, .int 800, .int 10])), (ho, .inl (cO, 1, .inr (.inl fo)))] sz) [(ho, .inl (cO, 1, .inr (.inl (vp_updL fo (Int32.toNatClampNeg 0) 10))))]) (va_A [(h0, .inr (7, [.ref aH, .ref aB, .ref aJ, .int 0, .int 0, .int 0, .ref rN, .ref rX, .int 0, .int 0, .int 0, .int 0, .int 0, .int 0, .int (-1), .int (-1), .int 0, .int 0, .ref aV])), (rN, .inr (6, [.int 7, .int 100, .int 800, .int 10])), (ho, .inl (cO, 1, .inr (.inl fo)))] sz)) 0 0 (va_A [(h0, .inr (7, [.ref aH, .ref aB, .ref aJ, .int 0, .int 0, .int 0, .ref rN, .ref rX, .int 0, .int 0, .int 0, .int 0, .int 0, .int 0, .int (-1), .int (-1), .int 0, .int 0, .ref aV])), (rN, .inr (6, [.int 7, .int 100, .int 800, .int 10])), (ho, .inl (cO, 1, .inr (.inl fo)))] sz) := by
  refine va_MetW (cc := cL_many) (maxL := 4) (ret := (some .int)) (by decide +kernel) rfl ?_
  intro p e s m args below meth c s₁ B hml hv
  obtain ⟨rfl, hsz, hP, hK, hD0, hE⟩ := hv
  have hx := B.exec
  have hb := B.bytes
  have hr := B.returns
  have hts := atoms_spec (ws := wsL_many) B.pre
  have hown : s.vm.findClass RL = some m.cls := findClass_of_methodNamed B.named
  have hlocks := B.notSynchronized
  have htab := vx_table (x := yL_many) B (hts _ List.mem_cons_self)
  subst hsz
  have hD := hD0.self (sz := s.heap.size)
  generalize hAe : va_A [(h0, .inr (7, [.ref aH, .ref aB, .ref aJ, .int 0, .int 0, .int 0, .ref rN, .ref rX, .int 0, .int 0, .int 0, .int 0, .int 0, .int 0, .int (-1), .int (-1), .int 0, .int 0, .ref aV])), (rN, .inr (6, [.int 7, .int 100, .int 800, .int 10])), (ho, .inl (cO, 1, .inr (.inl fo)))] s.heap.size = A at hD hE ⊢
  have hA : ∀ q : Nat, s.heap.size ≤ q → A q := fun q h => by rw [← hAe]; exact Or.inr h
  have hS : va_S A s.heap s.heap [] := va_S.rf
  have hP : va_P D vwCl [(h0, .inr (7, [.ref aH, .ref aB, .ref aJ, .int 0, .int 0, .int 0, .ref rN, .ref rX, .int 0, .int 0, .int 0, .int 0, .int 0, .int 0, .int (-1), .int (-1), .int 0, .int 0, .ref aV])), (rN, .inr (6, [.int 7, .int 100, .int 800, .int 10])), (ho, .inl (cO, 1, .inr (.inl fo)))] s.heap := hP
  have hl := lv_entry ([.ref h0, .int 14, .ref ho]) (n := 4) (Nat.le_of_ble_eq_true rfl)
  rw [lg_entry_eq]
  generalize (lg_sl ([.ref h0, .int 14, .ref ho]) ++ List.replicate (4 - (lg_sl ([.ref h0, .int 14, .ref ho])).length) Slot.unset).toArray = ls at hl ⊢
  have hl : lv_has ls 4 [(0, .ref h0), (1, .int 14), (2, .ref ho)] := hl
  refine lv_aload_n hx hb dL_many_0 rfl (lv_at hl 2 rfl) ?_
  refine lv_iconst (v := 0) hx hb dL_many_1 (by decide) ?_
  refine lv_aload_n hx hb dL_many_2 rfl (lv_at hl 0 rfl) ?_
  refine lv_iload_n hx hb dL_many_3 rfl (lv_at hl 1 rfl) ?_
  have hPc := hP.sub (ws' := [(h0, .inr (7, [.ref aH, .ref aB, .ref aJ, .int 0, .int 0, .int 0, .ref rN, .ref rX, .int 0, .int 0, .int 0, .int 0, .int 0, .int 0, .int (-1), .int (-1), .int 0, .int 0, .ref aV])), (rN, .inr (6, [.int 7, .int 100, .int 800, .int 10]))]) [0, 1] rfl
  have hKc := hK.sub (tys' := []) [] rfl
  refine va_calli (va_runV (As := [.int 14]) (rest := [.int 0, .ref ho]) ⟨hx, hb, hml, hown, hts⟩ (k_many_14 l D eT h0 aH aB aJ rN rX aV s.heap.size ) (cwV 1 hts gL_many_X4_many rfl rfl rfl (by decide +kernel) ⟨Nat.le_of_ble_eq_true rfl, Nat.le_of_ble_eq_true rfl⟩) (pr_v (ci := 7) (q0 := 0) rfl rfl hPc hKc hE hS hA) rfl rfl hl.1 rfl (lv_room (Nat.le_of_ble_eq_true rfl)) dL_many_4 ⟨Nat.le_of_ble_eq_true rfl, Nat.le_of_ble_eq_true rfl⟩) hS (fun q h1 h2 => ro_A h1 h2) (fun q h => ro_F hS hA q h) (fun r u t H1 locs ht hvm hw hB hz1 hk1 hS => ?_)
  have hw : r = 10 := hw
  rw [hw]
  have hP := ro_P hP hk1
  generalize H1 = H at hP hS ⊢
  refine lv_i2l (v := 10) hx hb dL_many_7 (by decide) ?_
  refine va_last hx hb hK hP hD hS 2 0 rfl rfl (by unfold vp_in; decide +kernel) dL_many_8 (fun H locs hP hD hS => ?_)
  have hP : va_P D vwCl [(h0, .inr (7, [.ref aH, .ref aB, .ref aJ, .int 0, .int 0, .int 0, .ref rN, .ref rX, .int 0, .int 0, .int 0, .int 0, .int 0, .int 0, .int (-1), .int (-1), .int 0, .int 0, .ref aV])), (rN, .inr (6, [.int 7, .int 100, .int 800, .int 10])), (ho, .inl (cO, 1, .inr (.inl (vp_updL fo (Int32.toNatClampNeg 0) 10))))] H := hP
  have hD : va_D A [(h0, .inr (7, [.ref aH, .ref aB, .ref aJ, .int 0, .int 0, .int 0, .ref rN, .ref rX, .int 0, .int 0, .int 0, .int 0, .int 0, .int 0, .int (-1), .int (-1), .int 0, .int 0, .ref aV])), (rN, .inr (6, [.int 7, .int 100, .int 800, .int 10])), (ho, .inl (cO, 1, .inr (.inl (vp_updL fo (Int32.toNatClampNeg 0) 10))))] := hD
  refine lv_goto (tgt := 15) hx hb dL_many_9 (by decide) ?_
  refine lv_iconst (v := 0) hx hb dL_many_15 (by decide) ?_
  have hP9 := hP.sub (ws' := [(ho, .inl (cO, 1, .inr (.inl (vp_updL fo (Int32.toNatClampNeg 0) 10))))]) [2] rfl
  have hD9 := hD.sub (ws' := [(ho, .inl (cO, 1, .inr (.inl (vp_updL fo (Int32.toNatClampNeg 0) 10))))]) [2] (by decide) rfl
  have hK9 := hK.sub (tys' := []) [] rfl
  exact W.iret (v := 0) hx hb hr (fun t ht hW => ⟨⟨0, (), rfl, rfl, ⟨by rw [ht]; exact hP9, va_K.moved hW.alike hK9, hD9⟩⟩, hS.F ht⟩) hS.2.2 dL_many_16
