set_option maxHeartbeats 4000000 in
set_option maxRecDepth 100000 in
theorem law_new {p : Program} {l : Launch} {e : Env} {s : State} {m : MethodId} {args : Array Value} {below : List Frame} {meth : Method} {c : Code} {Q : State → Prop} {b : Nat} {D : va_G} (hx : p.tables.exec = Jvm.exec) (hb : c.code = cL_law) (hml : c.maxLocals = 23) (hown : s.vm.findClass RL = some m.cls) (hw : ∀ w ∈ wsL_law0, w.before args s = true) (hK : va_K D vwCl [] s) (hE : ec s) {ls : Array Slot} (hl : lv_has ls 23 [(0, .ref b)]) (kx : ∀ (a : Nat → Nat) (cH cB cJ cI : ClassId) (H : Heap) (locs : List Loc) (ls : Array Slot), pj a → (∀ k, k < 58 → s.heap.size ≤ a k) → va_K D vwCl (pT cH cB cJ cI) s → va_P D vwCl (pw a cH cB cJ cI m_g0 (fun _ => 0)) H → va_S (fun q => s.heap.size ≤ q) s.heap H locs → lv_has ls 23 [(1, .ref (a 0)), (0, .ref b)] → W p l e room_1 s m args below meth c H locs 58 680 Q (F0 m 8 ls [])) : W p l e room_1 s m args below meth c s.heap [] 0 0 Q (F0 m 0 ls []) := by
  have hP : va_P D vwCl [] s.heap := fun k q h => by simp at h
  have hD : va_D (fun q => s.heap.size ≤ q) [] := ⟨fun i j p q h => by simp at h, fun k q h => by simp at h⟩
  have hS : va_S (fun q => s.heap.size ≤ q) s.heap s.heap [] := va_S.rf
  have hA : ∀ q : Nat, s.heap.size ≤ q → (fun q : Nat => s.heap.size ≤ q) q := fun _ h => h
  refine va_new (ci := 4) (fs := [.null, .null, .null, .int (iI 0), .int (iI 0), .int (iI 0), .null, .null, .int (iI 0), .int (iI 0), .int (iI 0), .int (iI 0), .int (iI 0), .int (iI 0), .int (iI 0), .int (iI 0), .int (iI 0), .int (iI 0), .null]) (C := RX4) (T := TX4) (N := 19) hx hb hw hin_wsX40 tyX4 tyX4_ok hown (hw _ kw_0) (hw _ kw_1) (hw _ kw_2) hK hP hD hS hA rfl (fun j hj => by rcases (show j = 0 ∨ j = 1 ∨ j = 2 ∨ j = 3 ∨ j = 4 ∨ j = 5 ∨ j = 6 ∨ j = 7 ∨ j = 8 ∨ j = 9 ∨ j = 10 ∨ j = 11 ∨ j = 12 ∨ j = 13 ∨ j = 14 ∨ j = 15 ∨ j = 16 ∨ j = 17 ∨ j = 18 by omega) with rfl | rfl | rfl | rfl | rfl | rfl | rfl | rfl | rfl | rfl | rfl | rfl | rfl | rfl | rfl | rfl | rfl | rfl | rfl <;> rfl) (Nat.le_of_ble_eq_true rfl) (Nat.le_of_ble_eq_true rfl) dL_law_0 (fun h0 H hP hD hS => ?_)
  have hP : va_P D vwCl [(h0, .inr (4, [.null, .null, .null, .int (iI 0), .int (iI 0), .int (iI 0), .null, .null, .int (iI 0), .int (iI 0), .int (iI 0), .int (iI 0), .int (iI 0), .int (iI 0), .int (iI 0), .int (iI 0), .int (iI 0), .int (iI 0), .null]))] H := hP
  have hD : va_D (fun q => s.heap.size ≤ q) [(h0, .inr (4, [.null, .null, .null, .int (iI 0), .int (iI 0), .int (iI 0), .null, .null, .int (iI 0), .int (iI 0), .int (iI 0), .int (iI 0), .int (iI 0), .int (iI 0), .int (iI 0), .int (iI 0), .int (iI 0), .int (iI 0), .null]))] := hD
  refine lv_dup hx hb dL_law_3 rfl ?_
  have hs0 : s.heap.size ≤ H.size := hS.1
  have hh0 : s.heap.size ≤ h0 := hD.2 0 _ rfl
  have hFc := va_free (wc := [(h0, .inr (4, [.null, .null, .null, .int (iI 0), .int (iI 0), .int (iI 0), .null, .null, .int (iI 0), .int (iI 0), .int (iI 0), .int (iI 0), .int (iI 0), .int (iI 0), .int (iI 0), .int (iI 0), .int (iI 0), .int (iI 0), .null]))]) hD hS hA [0] rfl
  refine va_callv (va_runI (As := []) (rest := [.ref h0]) ⟨hx, hb, hml, hown, hw⟩ (n_PrizeHouse l D h0 H.size) (cwI 0 hw (gA_c kw_10) rfl rfl rfl (hw _ kw_2) (hw _ kw_8) (hw _ kw_9) rfl (by decide +kernel) ⟨Nat.le_of_ble_eq_true rfl, Nat.le_of_ble_eq_true rfl⟩) (cS_s (As := [.ref h0]) hP hD hK hE) rfl rfl hl.1 rfl (lv_room (Nat.le_of_ble_eq_true rfl)) dL_law_4 ⟨Nat.le_of_ble_eq_true rfl, Nat.le_of_ble_eq_true rfl⟩) hS (fun q _ h => hFc q h) hFc (fun u t H1 locs ht hvm hw9 hB9 hz1 hk1 hS => ?_)
  obtain ⟨a, cH, cB, cJ, cI, ha0, ha, haA, hP1, hK1⟩ := hB9
  rw [ht] at hP1
  have hK1 := va_K.moved hvm.symm hK1
  have hB : ∀ k, k < 58 → s.heap.size ≤ a k := fun k hk => by rcases haA k hk with h | h <;> omega
  refine W.widen (k := 58) (n := 680) (Nat.le_of_ble_eq_true rfl) (Nat.le_of_ble_eq_true rfl) ?_
  rw [← ha0]
  refine lv_astore_n (lv' := [(1, .ref (a 0)), (0, .ref b)]) hx hb dL_law_7 rfl hl (by decide) rfl (fun ls hl => ?_)
  exact kx a cH cB cJ cI H1 locs ls ha hB hK1 hP1 hS hl
