set_option maxHeartbeats 8000000 in
set_option maxRecDepth 100000 in
theorem law_c0 {p : Program} {l : Launch} {e : Env} {s : State} {m : MethodId} {args : Array Value} {below : List Frame} {meth : Method} {c : Code} {Q : State → Prop} {b : Nat} {xs : Nat → Int32} {D : va_G} {eT : Nat} {x0 aH aB aJ rN rX aV j0 c1 c2 c3 c4 c5 y0 lH lB lJ aR aL lC aM aP m0 m1 m2 m3 m4 ho : Nat} {cJ cI cL cM cR cO : ClassId} {fJ : Nat → Option Nat} {fR : Nat → Int32} {fL : Nat → Int32} {gM : Nat → Option Nat} {f0 : Nat → Int32} {f1 : Nat → Int32} {f2 : Nat → Int32} {f3 : Nat → Int32} {f4 : Nat → Int32} {fo : Nat → Int64} (hl0 : l.stackTraces = false) (hx : p.tables.exec = Jvm.exec) (hb : c.code = cL_law) (hml : c.maxLocals = 9) (hown : s.vm.findClass RL = some m.cls) (hts : ∀ w ∈ wsL_law, w.before args s = true) (hX : va_X b 7 xs s s.heap) (hbl : b < s.heap.size) (hE : ev eT (fun q : Nat => s.heap.size ≤ q) s s.heap) (hJ : fJ 0 = some j0) (hR : fR 3 = 10) (hg0 : gM 0 = some m0) (hg1 : gM 1 = some m1) (hg2 : gM 2 = some m2) (hg3 : gM 3 = some m3) (hg4 : gM 4 = some m4) (hm0 : ∀ k, k < 16 → f0 k = -1) (hm1 : ∀ k, k < 16 → f1 k = -1) (hm2 : ∀ k, k < 16 → f2 k = -1) (hm3 : ∀ k, k < 16 → f3 k = -1) (hm4 : ∀ k, k < 16 → f4 k = -1) (hK : va_K D vwCl [(cJ, .object RX2), (cI, .int), (cL, .int), (cM, .array .int), (cR, .int), (cO, .long)] s) {H : Heap} {locs : List Loc} (hP : va_P D vwCl [(x0, .inr (7, [.ref aH, .ref aB, .ref aJ, .int 0, .int 0, .int 0, .ref rN, .ref rX, .int 0, .int 0, .int 0, .int 0, .int 0, .int 0, .int (-1), .int (-1), .int 0, .int 0, .ref aV])), (aJ, .inl (cJ, 5, .inr (.inr (.inr (.inr fJ))))), (j0, .inr (5, [.int 0, .int 0, .int 0, .int 0, .int 0, .ref c1, .ref c2, .int 0, .int 0, .int 0, .int 0, .ref c3, .int 0, .ref c4, .ref c5, .int 0])), (rN, .inr (6, [.int 7, .int 100, .int 800, .int 10])), (rX, .inr (6, [.int 7, .int 100, .int 800, .int 10])), (y0, .inr (8, [.int 0, .ref lH, .ref lB, .ref lJ, .ref aR, .ref aL, .int 0, .int 0, .int 0, .ref lC, .ref aM, .ref aP, .int 0, .int 0, .int 0, .int (-1), .int (-1), .int 0, .int 0, .long 0])), (lH, .inr (2, [.int 0, .ref eT, .int 0])), (lB, .inr (2, [.int 0, .ref eT, .int 0])), (lJ, .inr (2, [.int 0, .ref eT, .int 0])), (lC, .inr (2, [.int 0, .ref eT, .int 0])), (aR, .inl (cI, 4, .inl fR)), (aL, .inl (cL, 4, .inl fL)), (aM, .inl (cM, 5, .inr (.inr (.inr (.inr gM))))), (m0, .inl (cR, 16, .inl f0)), (m1, .inl (cR, 16, .inl f1)), (m2, .inl (cR, 16, .inl f2)), (m3, .inl (cR, 16, .inl f3)), (m4, .inl (cR, 16, .inl f4)), (ho, .inl (cO, 1, .inr (.inl fo)))] H) (hD : va_D (fun q : Nat => s.heap.size ≤ q) [(x0, .inr (7, [.ref aH, .ref aB, .ref aJ, .int 0, .int 0, .int 0, .ref rN, .ref rX, .int 0, .int 0, .int 0, .int 0, .int 0, .int 0, .int (-1), .int (-1), .int 0, .int 0, .ref aV])), (aJ, .inl (cJ, 5, .inr (.inr (.inr (.inr fJ))))), (j0, .inr (5, [.int 0, .int 0, .int 0, .int 0, .int 0, .ref c1, .ref c2, .int 0, .int 0, .int 0, .int 0, .ref c3, .int 0, .ref c4, .ref c5, .int 0])), (rN, .inr (6, [.int 7, .int 100, .int 800, .int 10])), (rX, .inr (6, [.int 7, .int 100, .int 800, .int 10])), (y0, .inr (8, [.int 0, .ref lH, .ref lB, .ref lJ, .ref aR, .ref aL, .int 0, .int 0, .int 0, .ref lC, .ref aM, .ref aP, .int 0, .int 0, .int 0, .int (-1), .int (-1), .int 0, .int 0, .long 0])), (lH, .inr (2, [.int 0, .ref eT, .int 0])), (lB, .inr (2, [.int 0, .ref eT, .int 0])), (lJ, .inr (2, [.int 0, .ref eT, .int 0])), (lC, .inr (2, [.int 0, .ref eT, .int 0])), (aR, .inl (cI, 4, .inl fR)), (aL, .inl (cL, 4, .inl fL)), (aM, .inl (cM, 5, .inr (.inr (.inr (.inr gM))))), (m0, .inl (cR, 16, .inl f0)), (m1, .inl (cR, 16, .inl f1)), (m2, .inl (cR, 16, .inl f2)), (m3, .inl (cR, 16, .inl f3)), (m4, .inl (cR, 16, .inl f4)), (ho, .inl (cO, 1, .inr (.inl fo)))]) (hS : va_S (fun q : Nat => s.heap.size ≤ q) s.heap H locs) {ls : Array Slot} (hl : lv_has ls 9 [(0, .ref b), (1, .ref x0), (2, .ref y0), (3, .ref ho), (4, .int 0)]) (kx : ∀ (H : Heap) (locs : List Loc) (ls : Array Slot), va_S (fun q : Nat => s.heap.size ≤ q) s.heap H locs → lv_has ls 9 [(0, .ref b), (1, .ref x0), (2, .ref y0), (3, .ref ho), (4, .int 0)] → W p l e room_1 s m args below meth c H locs 2000 20000 Q (F0 m 1835 ls [])) : W p l e room_1 s m args below meth c H locs 81 903 Q (F0 m 172 ls []) := by
  have hA : ∀ q : Nat, s.heap.size ≤ q → (fun q : Nat => s.heap.size ≤ q) q := fun _ h => h
  have hbA : ¬ (fun q : Nat => s.heap.size ≤ q) b := Nat.not_le.mpr hbl
  · skip
    refine lv_aload_n hx hb dL_law_172 rfl (lv_at hl 1 rfl) ?_
    refine lv_aload_n hx hb dL_law_173 rfl (lv_at hl 3 rfl) ?_
    have hPc := hP.sub (ws' := [(x0, .inr (7, [.ref aH, .ref aB, .ref aJ, .int 0, .int 0, .int 0, .ref rN, .ref rX, .int 0, .int 0, .int 0, .int 0, .int 0, .int 0, .int (-1), .int (-1), .int 0, .int 0, .ref aV])), (ho, .inl (cO, 1, .inr (.inl fo)))]) [0, 18] rfl
    have hKc := hK.sub (tys' := [(cO, .long)]) [5] rfl
    have hDc := hD.sub (ws' := [(x0, .inr (7, [.ref aH, .ref aB, .ref aJ, .int 0, .int 0, .int 0, .ref rN, .ref rX, .int 0, .int 0, .int 0, .int 0, .int 0, .int 0, .int (-1), .int (-1), .int 0, .int 0, .ref aV])), (ho, .inl (cO, 1, .inr (.inl fo)))]) [0, 18] (by decide) rfl
    have hFc := va_free (wc := [(x0, .inr (7, [.ref aH, .ref aB, .ref aJ, .int 0, .int 0, .int 0, .ref rN, .ref rX, .int 0, .int 0, .int 0, .int 0, .int 0, .int 0, .int (-1), .int (-1), .int 0, .int 0, .ref aV])), (ho, .inl (cO, 1, .inr (.inl fo)))]) hD hS hA [0, 18] rfl
    refine va_calli (vx_runSW (As := [.ref x0, .ref ho]) (rest := []) ⟨hx, hb, hml, hown, hts⟩ (w_house l D eT x0 aH aB aJ rN rX aV ho cO fo H.size ) (vx_cwSW 2 hts gL_law_L_house rfl rfl rfl (by decide +kernel) ⟨Nat.le_of_ble_eq_true rfl, Nat.le_of_ble_eq_true rfl⟩) (pc_s hPc hDc hKc hE hS hFc) rfl rfl hl.1 rfl (lv_room (Nat.le_of_ble_eq_true rfl)) dL_law_174 ⟨Nat.le_of_ble_eq_true rfl, Nat.le_of_ble_eq_true rfl⟩) hS (fun q _ h => hFc q h) hFc (fun r u t H1 locs ht hvm hw hB hz1 hk1 hS => ?_)
    have hw : r = 0 := hw
    rw [hw]
    obtain ⟨hP1, hK1, hD1⟩ := hB
    rw [ht] at hP1
    have hK1 := va_K.moved hvm.symm hK1
    obtain ⟨hP, hD⟩ := va_join (wr := [(aJ, .inl (cJ, 5, .inr (.inr (.inr (.inr fJ))))), (j0, .inr (5, [.int 0, .int 0, .int 0, .int 0, .int 0, .ref c1, .ref c2, .int 0, .int 0, .int 0, .int 0, .ref c3, .int 0, .ref c4, .ref c5, .int 0])), (rN, .inr (6, [.int 7, .int 100, .int 800, .int 10])), (rX, .inr (6, [.int 7, .int 100, .int 800, .int 10])), (y0, .inr (8, [.int 0, .ref lH, .ref lB, .ref lJ, .ref aR, .ref aL, .int 0, .int 0, .int 0, .ref lC, .ref aM, .ref aP, .int 0, .int 0, .int 0, .int (-1), .int (-1), .int 0, .int 0, .long 0])), (lH, .inr (2, [.int 0, .ref eT, .int 0])), (lB, .inr (2, [.int 0, .ref eT, .int 0])), (lJ, .inr (2, [.int 0, .ref eT, .int 0])), (lC, .inr (2, [.int 0, .ref eT, .int 0])), (aR, .inl (cI, 4, .inl fR)), (aL, .inl (cL, 4, .inl fL)), (aM, .inl (cM, 5, .inr (.inr (.inr (.inr gM))))), (m0, .inl (cR, 16, .inl f0)), (m1, .inl (cR, 16, .inl f1)), (m2, .inl (cR, 16, .inl f2)), (m3, .inl (cR, 16, .inl f3)), (m4, .inl (cR, 16, .inl f4))]) (w1 := [(ho, .inl (cO, 1, .inr (.inl (vp_updL fo (Int32.toNatClampNeg 0) 0))))]) hP hD [0, 18] [1, 2, 3, 4, 5, 6, 7, 8, 9, 10, 11, 12, 13, 14, 15, 16, 17] rfl rfl (by decide) (by decide) hk1 hFc hP1 hD1
    generalize H1 = H at hP hS ⊢
    have hP : va_P D vwCl [(aJ, .inl (cJ, 5, .inr (.inr (.inr (.inr fJ))))), (j0, .inr (5, [.int 0, .int 0, .int 0, .int 0, .int 0, .ref c1, .ref c2, .int 0, .int 0, .int 0, .int 0, .ref c3, .int 0, .ref c4, .ref c5, .int 0])), (rN, .inr (6, [.int 7, .int 100, .int 800, .int 10])), (rX, .inr (6, [.int 7, .int 100, .int 800, .int 10])), (y0, .inr (8, [.int 0, .ref lH, .ref lB, .ref lJ, .ref aR, .ref aL, .int 0, .int 0, .int 0, .ref lC, .ref aM, .ref aP, .int 0, .int 0, .int 0, .int (-1), .int (-1), .int 0, .int 0, .long 0])), (lH, .inr (2, [.int 0, .ref eT, .int 0])), (lB, .inr (2, [.int 0, .ref eT, .int 0])), (lJ, .inr (2, [.int 0, .ref eT, .int 0])), (lC, .inr (2, [.int 0, .ref eT, .int 0])), (aR, .inl (cI, 4, .inl fR)), (aL, .inl (cL, 4, .inl fL)), (aM, .inl (cM, 5, .inr (.inr (.inr (.inr gM))))), (m0, .inl (cR, 16, .inl f0)), (m1, .inl (cR, 16, .inl f1)), (m2, .inl (cR, 16, .inl f2)), (m3, .inl (cR, 16, .inl f3)), (m4, .inl (cR, 16, .inl f4)), (ho, .inl (cO, 1, .inr (.inl (vp_updL fo (Int32.toNatClampNeg 0) 0))))] H := hP
    have hD : va_D (fun q : Nat => s.heap.size ≤ q) [(aJ, .inl (cJ, 5, .inr (.inr (.inr (.inr fJ))))), (j0, .inr (5, [.int 0, .int 0, .int 0, .int 0, .int 0, .ref c1, .ref c2, .int 0, .int 0, .int 0, .int 0, .ref c3, .int 0, .ref c4, .ref c5, .int 0])), (rN, .inr (6, [.int 7, .int 100, .int 800, .int 10])), (rX, .inr (6, [.int 7, .int 100, .int 800, .int 10])), (y0, .inr (8, [.int 0, .ref lH, .ref lB, .ref lJ, .ref aR, .ref aL, .int 0, .int 0, .int 0, .ref lC, .ref aM, .ref aP, .int 0, .int 0, .int 0, .int (-1), .int (-1), .int 0, .int 0, .long 0])), (lH, .inr (2, [.int 0, .ref eT, .int 0])), (lB, .inr (2, [.int 0, .ref eT, .int 0])), (lJ, .inr (2, [.int 0, .ref eT, .int 0])), (lC, .inr (2, [.int 0, .ref eT, .int 0])), (aR, .inl (cI, 4, .inl fR)), (aL, .inl (cL, 4, .inl fL)), (aM, .inl (cM, 5, .inr (.inr (.inr (.inr gM))))), (m0, .inl (cR, 16, .inl f0)), (m1, .inl (cR, 16, .inl f1)), (m2, .inl (cR, 16, .inl f2)), (m3, .inl (cR, 16, .inl f3)), (m4, .inl (cR, 16, .inl f4)), (ho, .inl (cO, 1, .inr (.inl (vp_updL fo (Int32.toNatClampNeg 0) 0))))] := hD
    refine lv_istore (lv' := [(5, .int 0), (0, .ref b), (1, .ref x0), (2, .ref y0), (3, .ref ho), (4, .int 0)]) hx hb dL_law_177 hl (by decide) rfl (fun ls hl => ?_)
    refine lv_aload_n hx hb dL_law_179 rfl (lv_at hl 3 rfl) ?_
    have hPc := hP.sub (ws' := [(y0, .inr (8, [.int 0, .ref lH, .ref lB, .ref lJ, .ref aR, .ref aL, .int 0, .int 0, .int 0, .ref lC, .ref aM, .ref aP, .int 0, .int 0, .int 0, .int (-1), .int (-1), .int 0, .int 0, .long 0])), (lH, .inr (2, [.int 0, .ref eT, .int 0]))]) [4, 5] rfl
    have hKc := hK.sub (tys' := []) [] rfl
    have hDc := hD.sub (ws' := [(y0, .inr (8, [.int 0, .ref lH, .ref lB, .ref lJ, .ref aR, .ref aL, .int 0, .int 0, .int 0, .ref lC, .ref aM, .ref aP, .int 0, .int 0, .int 0, .int (-1), .int (-1), .int 0, .int 0, .long 0])), (lH, .inr (2, [.int 0, .ref eT, .int 0]))]) [4, 5] (by decide) rfl
    have hFc := va_free (wc := [(y0, .inr (8, [.int 0, .ref lH, .ref lB, .ref lJ, .ref aR, .ref aL, .int 0, .int 0, .int 0, .ref lC, .ref aM, .ref aP, .int 0, .int 0, .int 0, .int (-1), .int (-1), .int 0, .int 0, .long 0])), (lH, .inr (2, [.int 0, .ref eT, .int 0]))]) hD hS hA [4, 5] rfl
    refine va_calli (va_runV (As := []) (rest := []) ⟨hx, hb, hml, hown, hts⟩ (r_house l D eT y0 lH lB lJ aR aL lC aM aP 0 H.size ) (cwV 0 hts gL_law_X5_house rfl rfl rfl (by decide +kernel) ⟨Nat.le_of_ble_eq_true rfl, Nat.le_of_ble_eq_true rfl⟩) (pc_v (ci := 8) (q0 := 0) rfl rfl hPc hDc hKc hE hS hFc) rfl rfl hl.1 rfl (lv_room (Nat.le_of_ble_eq_true rfl)) dL_law_180 ⟨Nat.le_of_ble_eq_true rfl, Nat.le_of_ble_eq_true rfl⟩) hS (fun q _ h => hFc q h) hFc (fun r u t H1 locs ht hvm hw hB hz1 hk1 hS => ?_)
    have hw : r = 0 := hw
    rw [hw]
    obtain ⟨hP1, hK1, hD1⟩ := hB
    rw [ht] at hP1
    have hK1 := va_K.moved hvm.symm hK1
    obtain ⟨hP, hD⟩ := va_join (wr := [(aJ, .inl (cJ, 5, .inr (.inr (.inr (.inr fJ))))), (j0, .inr (5, [.int 0, .int 0, .int 0, .int 0, .int 0, .ref c1, .ref c2, .int 0, .int 0, .int 0, .int 0, .ref c3, .int 0, .ref c4, .ref c5, .int 0])), (rN, .inr (6, [.int 7, .int 100, .int 800, .int 10])), (rX, .inr (6, [.int 7, .int 100, .int 800, .int 10])), (lB, .inr (2, [.int 0, .ref eT, .int 0])), (lJ, .inr (2, [.int 0, .ref eT, .int 0])), (lC, .inr (2, [.int 0, .ref eT, .int 0])), (aR, .inl (cI, 4, .inl fR)), (aL, .inl (cL, 4, .inl fL)), (aM, .inl (cM, 5, .inr (.inr (.inr (.inr gM))))), (m0, .inl (cR, 16, .inl f0)), (m1, .inl (cR, 16, .inl f1)), (m2, .inl (cR, 16, .inl f2)), (m3, .inl (cR, 16, .inl f3)), (m4, .inl (cR, 16, .inl f4)), (ho, .inl (cO, 1, .inr (.inl (vp_updL fo (Int32.toNatClampNeg 0) 0))))]) (w1 := [(y0, .inr (8, [.int 0, .ref lH, .ref lB, .ref lJ, .ref aR, .ref aL, .int 0, .int 0, .int 0, .ref lC, .ref aM, .ref aP, .int 0, .int 0, .int 0, .int (-1), .int (-1), .int 0, .int 0, .long 0]))]) hP hD [4, 5] [0, 1, 2, 3, 6, 7, 8, 9, 10, 11, 12, 13, 14, 15, 16, 17] rfl rfl (by decide) (by decide) hk1 hFc hP1 hD1
    generalize H1 = H at hP hS ⊢
    have hP : va_P D vwCl [(aJ, .inl (cJ, 5, .inr (.inr (.inr (.inr fJ))))), (j0, .inr (5, [.int 0, .int 0, .int 0, .int 0, .int 0, .ref c1, .ref c2, .int 0, .int 0, .int 0, .int 0, .ref c3, .int 0, .ref c4, .ref c5, .int 0])), (rN, .inr (6, [.int 7, .int 100, .int 800, .int 10])), (rX, .inr (6, [.int 7, .int 100, .int 800, .int 10])), (lB, .inr (2, [.int 0, .ref eT, .int 0])), (lJ, .inr (2, [.int 0, .ref eT, .int 0])), (lC, .inr (2, [.int 0, .ref eT, .int 0])), (aR, .inl (cI, 4, .inl fR)), (aL, .inl (cL, 4, .inl fL)), (aM, .inl (cM, 5, .inr (.inr (.inr (.inr gM))))), (m0, .inl (cR, 16, .inl f0)), (m1, .inl (cR, 16, .inl f1)), (m2, .inl (cR, 16, .inl f2)), (m3, .inl (cR, 16, .inl f3)), (m4, .inl (cR, 16, .inl f4)), (ho, .inl (cO, 1, .inr (.inl (vp_updL fo (Int32.toNatClampNeg 0) 0)))), (y0, .inr (8, [.int 0, .ref lH, .ref lB, .ref lJ, .ref aR, .ref aL, .int 0, .int 0, .int 0, .ref lC, .ref aM, .ref aP, .int 0, .int 0, .int 0, .int (-1), .int (-1), .int 0, .int 0, .long 0]))] H := hP
    have hD : va_D (fun q : Nat => s.heap.size ≤ q) [(aJ, .inl (cJ, 5, .inr (.inr (.inr (.inr fJ))))), (j0, .inr (5, [.int 0, .int 0, .int 0, .int 0, .int 0, .ref c1, .ref c2, .int 0, .int 0, .int 0, .int 0, .ref c3, .int 0, .ref c4, .ref c5, .int 0])), (rN, .inr (6, [.int 7, .int 100, .int 800, .int 10])), (rX, .inr (6, [.int 7, .int 100, .int 800, .int 10])), (lB, .inr (2, [.int 0, .ref eT, .int 0])), (lJ, .inr (2, [.int 0, .ref eT, .int 0])), (lC, .inr (2, [.int 0, .ref eT, .int 0])), (aR, .inl (cI, 4, .inl fR)), (aL, .inl (cL, 4, .inl fL)), (aM, .inl (cM, 5, .inr (.inr (.inr (.inr gM))))), (m0, .inl (cR, 16, .inl f0)), (m1, .inl (cR, 16, .inl f1)), (m2, .inl (cR, 16, .inl f2)), (m3, .inl (cR, 16, .inl f3)), (m4, .inl (cR, 16, .inl f4)), (ho, .inl (cO, 1, .inr (.inl (vp_updL fo (Int32.toNatClampNeg 0) 0)))), (y0, .inr (8, [.int 0, .ref lH, .ref lB, .ref lJ, .ref aR, .ref aL, .int 0, .int 0, .int 0, .ref lC, .ref aM, .ref aP, .int 0, .int 0, .int 0, .int (-1), .int (-1), .int 0, .int 0, .long 0]))] := hD
    refine W.widen (k := 83) (n := 916) (Nat.le_of_ble_eq_true rfl) (Nat.le_of_ble_eq_true rfl) ?_
    refine lv_istore (lv' := [(6, .int 0), (5, .int 0), (0, .ref b), (1, .ref x0), (2, .ref y0), (3, .ref ho), (4, .int 0)]) hx hb dL_law_183 hl (by decide) rfl (fun ls hl => ?_)
    refine lv_aload_n hx hb dL_law_185 rfl (lv_at hl 4 rfl) ?_
    have hPc := hP.sub (ws' := [(y0, .inr (8, [.int 0, .ref lH, .ref lB, .ref lJ, .ref aR, .ref aL, .int 0, .int 0, .int 0, .ref lC, .ref aM, .ref aP, .int 0, .int 0, .int 0, .int (-1), .int (-1), .int 0, .int 0, .long 0]))]) [16] rfl
    have hKc := hK.sub (tys' := []) [] rfl
    refine va_calli (va_runV (As := []) (rest := []) ⟨hx, hb, hml, hown, hts⟩ (r_thrown l D eT y0 lH lB lJ aR aL lC aM aP 0 0 0 H.size ) (cwV 0 hts gL_law_X5_thrown rfl rfl rfl (by decide +kernel) ⟨Nat.le_of_ble_eq_true rfl, Nat.le_of_ble_eq_true rfl⟩) (pr_v (ci := 8) (q0 := 0) rfl rfl hPc hKc hE hS hA) rfl rfl hl.1 rfl (lv_room (Nat.le_of_ble_eq_true rfl)) dL_law_186 ⟨Nat.le_of_ble_eq_true rfl, Nat.le_of_ble_eq_true rfl⟩) hS (fun q h1 h2 => ro_A h1 h2) (fun q h => ro_F hS hA q h) (fun r u t H1 locs ht hvm hw hB hz1 hk1 hS => ?_)
    have hw : r = 0 := hw
    rw [hw]
    have hP := ro_P hP hk1
    generalize H1 = H at hP hS ⊢
    refine lv_iload hx hb dL_law_189 (lv_at hl 1 rfl) ?_
    refine lv_icmp_eq (tgt := 196) hx hb dL_law_191 (by decide) (fun _ => ?_) (fun h => absurd (by decide) h)
    refine lv_iload hx hb dL_law_196 (lv_at hl 1 rfl) ?_
    refine lv_if_ne (tgt := 213) hx hb dL_law_198 (by decide) (fun h => absurd (by decide) h) (fun _ => ?_)
    refine lv_aload_n hx hb dL_law_201 rfl (lv_at hl 5 rfl) ?_
    refine lv_iconst (v := 0) hx hb dL_law_202 (by decide) ?_
    refine va_lald hx hb hK hP 15 5 rfl rfl (by unfold vp_in; decide +kernel) dL_law_203 ?_
    refine lv_topl (fun z_1 ez_1 => ?_)
    have ez_1 : z_1 = 0 := ez_1.trans pk_uLs
    rw [ez_1]
    refine lv_iload hx hb dL_law_204 (lv_at hl 0 rfl) ?_
    refine lv_i2l (v := 0) hx hb dL_law_206 (by decide) ?_
    refine W.lcmp hx hb dL_law_207 ?_
    refine lv_topi (fun z_2 ez_2 => ?_)
    have ez_2 : z_2 = 0 := ez_2.trans (by decide +kernel)
    rw [ez_2]
    refine lv_if_eq (tgt := 213) hx hb dL_law_208 (by decide) (fun _ => ?_) (fun h => absurd (by decide) h)
    refine lv_goto (tgt := 1835) hx hb dL_law_213 (by decide) ?_
    refine W.widen (k := 2000) (n := 20000) (Nat.le_of_ble_eq_true rfl) (Nat.le_of_ble_eq_true rfl) ?_
    exact kx _ _ _ hS (lv_sub hl [2, 3, 4, 5, 6] rfl)
set_option maxHeartbeats 8000000 in
set_option maxRecDepth 100000 in
theorem law_c1 {p : Program} {l : Launch} {e : Env} {s : State} {m : MethodId} {args : Array Value} {below : List Frame} {meth : Method} {c : Code} {Q : State → Prop} {b : Nat} {xs : Nat → Int32} {D : va_G} {eT : Nat} {x0 aH aB aJ rN rX aV j0 c1 c2 c3 c4 c5 y0 lH lB lJ aR aL lC aM aP m0 m1 m2 m3 m4 ho : Nat} {cJ cI cL cM cR cO : ClassId} {fJ : Nat → Option Nat} {fR : Nat → Int32} {fL : Nat → Int32} {gM : Nat → Option Nat} {f0 : Nat → Int32} {f1 : Nat → Int32} {f2 : Nat → Int32} {f3 : Nat → Int32} {f4 : Nat → Int32} {fo : Nat → Int64} (hl0 : l.stackTraces = false) (hx : p.tables.exec = Jvm.exec) (hb : c.code = cL_law) (hml : c.maxLocals = 9) (hown : s.vm.findClass RL = some m.cls) (hts : ∀ w ∈ wsL_law, w.before args s = true) (hX : va_X b 7 xs s s.heap) (hbl : b < s.heap.size) (hE : ev eT (fun q : Nat => s.heap.size ≤ q) s s.heap) (hJ : fJ 0 = some j0) (hR : fR 3 = 10) (hg0 : gM 0 = some m0) (hg1 : gM 1 = some m1) (hg2 : gM 2 = some m2) (hg3 : gM 3 = some m3) (hg4 : gM 4 = some m4) (hm0 : ∀ k, k < 16 → f0 k = -1) (hm1 : ∀ k, k < 16 → f1 k = -1) (hm2 : ∀ k, k < 16 → f2 k = -1) (hm3 : ∀ k, k < 16 → f3 k = -1) (hm4 : ∀ k, k < 16 → f4 k = -1) (hK : va_K D vwCl [(cJ, .object RX2), (cI, .int), (cL, .int), (cM, .array .int), (cR, .int), (cO, .long)] s) {H : Heap} {locs : List Loc} (hP : va_P D vwCl [(x0, .inr (7, [.ref aH, .ref aB, .ref aJ, .int 0, .int 0, .int 0, .ref rN, .ref rX, .int 0, .int 0, .int 0, .int 0, .int 0, .int 0, .int (-1), .int (-1), .int 0, .int 0, .ref aV])), (aJ, .inl (cJ, 5, .inr (.inr (.inr (.inr fJ))))), (j0, .inr (5, [.int 0, .int 0, .int 0, .int 0, .int 0, .ref c1, .ref c2, .int 0, .int 0, .int 0, .int 0, .ref c3, .int 0, .ref c4, .ref c5, .int 0])), (rN, .inr (6, [.int 7, .int 100, .int 800, .int 10])), (rX, .inr (6, [.int 7, .int 100, .int 800, .int 10])), (y0, .inr (8, [.int 0, .ref lH, .ref lB, .ref lJ, .ref aR, .ref aL, .int 0, .int 0, .int 0, .ref lC, .ref aM, .ref aP, .int 0, .int 0, .int 0, .int (-1), .int (-1), .int 0, .int 0, .long 0])), (lH, .inr (2, [.int 0, .ref eT, .int 0])), (lB, .inr (2, [.int 0, .ref eT, .int 0])), (lJ, .inr (2, [.int 0, .ref eT, .int 0])), (lC, .inr (2, [.int 0, .ref eT, .int 0])), (aR, .inl (cI, 4, .inl fR)), (aL, .inl (cL, 4, .inl fL)), (aM, .inl (cM, 5, .inr (.inr (.inr (.inr gM))))), (m0, .inl (cR, 16, .inl f0)), (m1, .inl (cR, 16, .inl f1)), (m2, .inl (cR, 16, .inl f2)), (m3, .inl (cR, 16, .inl f3)), (m4, .inl (cR, 16, .inl f4)), (ho, .inl (cO, 1, .inr (.inl fo)))] H) (hD : va_D (fun q : Nat => s.heap.size ≤ q) [(x0, .inr (7, [.ref aH, .ref aB, .ref aJ, .int 0, .int 0, .int 0, .ref rN, .ref rX, .int 0, .int 0, .int 0, .int 0, .int 0, .int 0, .int (-1), .int (-1), .int 0, .int 0, .ref aV])), (aJ, .inl (cJ, 5, .inr (.inr (.inr (.inr fJ))))), (j0, .inr (5, [.int 0, .int 0, .int 0, .int 0, .int 0, .ref c1, .ref c2, .int 0, .int 0, .int 0, .int 0, .ref c3, .int 0, .ref c4, .ref c5, .int 0])), (rN, .inr (6, [.int 7, .int 100, .int 800, .int 10])), (rX, .inr (6, [.int 7, .int 100, .int 800, .int 10])), (y0, .inr (8, [.int 0, .ref lH, .ref lB, .ref lJ, .ref aR, .ref aL, .int 0, .int 0, .int 0, .ref lC, .ref aM, .ref aP, .int 0, .int 0, .int 0, .int (-1), .int (-1), .int 0, .int 0, .long 0])), (lH, .inr (2, [.int 0, .ref eT, .int 0])), (lB, .inr (2, [.int 0, .ref eT, .int 0])), (lJ, .inr (2, [.int 0, .ref eT, .int 0])), (lC, .inr (2, [.int 0, .ref eT, .int 0])), (aR, .inl (cI, 4, .inl fR)), (aL, .inl (cL, 4, .inl fL)), (aM, .inl (cM, 5, .inr (.inr (.inr (.inr gM))))), (m0, .inl (cR, 16, .inl f0)), (m1, .inl (cR, 16, .inl f1)), (m2, .inl (cR, 16, .inl f2)), (m3, .inl (cR, 16, .inl f3)), (m4, .inl (cR, 16, .inl f4)), (ho, .inl (cO, 1, .inr (.inl fo)))]) (hS : va_S (fun q : Nat => s.heap.size ≤ q) s.heap H locs) {ls : Array Slot} (hl : lv_has ls 9 [(0, .ref b), (1, .ref x0), (2, .ref y0), (3, .ref ho), (4, .int 0)]) (kx : ∀ (H : Heap) (locs : List Loc) (ls : Array Slot), va_S (fun q : Nat => s.heap.size ≤ q) s.heap H locs → lv_has ls 9 [(0, .ref b), (1, .ref x0), (2, .ref y0), (3, .ref ho), (4, .int 0)] → W p l e room_1 s m args below meth c H locs 2000 20000 Q (F0 m 1835 ls [])) : W p l e room_1 s m args below meth c H locs 81 903 Q (F0 m 216 ls []) := by
  have hA : ∀ q : Nat, s.heap.size ≤ q → (fun q : Nat => s.heap.size ≤ q) q := fun _ h => h
  have hbA : ¬ (fun q : Nat => s.heap.size ≤ q) b := Nat.not_le.mpr hbl
  · skip
    refine lv_aload_n hx hb dL_law_216 rfl (lv_at hl 1 rfl) ?_
    refine lv_aload_n hx hb dL_law_217 rfl (lv_at hl 0 rfl) ?_
    refine lv_iload hx hb dL_law_218 (lv_at hl 4 rfl) ?_
    refine lv_iconst (v := 1) hx hb dL_law_220 (by decide) ?_
    refine lv_iadd hx hb dL_law_221 ?_
    refine lv_topi (fun z_1 ez_1 => ?_)
    have ez_1 : z_1 = 1 := ez_1.trans (by decide +kernel)
    rw [ez_1]
    refine va_sld hx hb hX hbl hbA hS (show vp_in 1 7 from by unfold vp_in; decide +kernel) dL_law_222 ?_
    refine lv_topi (fun z_2 ez_2 => ?_)
    have ez_2 : z_2 = (xs 1) := ez_2
    rw [ez_2]
    refine lv_aload_n hx hb dL_law_223 rfl (lv_at hl 0 rfl) ?_
    refine lv_iload hx hb dL_law_224 (lv_at hl 4 rfl) ?_
    refine lv_iconst (v := 2) hx hb dL_law_226 (by decide) ?_
    refine lv_iadd hx hb dL_law_227 ?_
    refine lv_topi (fun z_3 ez_3 => ?_)
    have ez_3 : z_3 = 2 := ez_3.trans (by decide +kernel)
    rw [ez_3]
    refine va_sld hx hb hX hbl hbA hS (show vp_in 2 7 from by unfold vp_in; decide +kernel) dL_law_228 ?_
    refine lv_topi (fun z_4 ez_4 => ?_)
    have ez_4 : z_4 = (xs 2) := ez_4
    rw [ez_4]
    refine lv_aload_n hx hb dL_law_229 rfl (lv_at hl 0 rfl) ?_
    refine lv_iload hx hb dL_law_230 (lv_at hl 4 rfl) ?_
    refine lv_iconst (v := 3) hx hb dL_law_232 (by decide) ?_
    refine lv_iadd hx hb dL_law_233 ?_
    refine lv_topi (fun z_5 ez_5 => ?_)
    have ez_5 : z_5 = 3 := ez_5.trans (by decide +kernel)
    rw [ez_5]
    refine va_sld hx hb hX hbl hbA hS (show vp_in 3 7 from by unfold vp_in; decide +kernel) dL_law_234 ?_
    refine lv_topi (fun z_6 ez_6 => ?_)
    have ez_6 : z_6 = (xs 3) := ez_6
    rw [ez_6]
    refine lv_aload_n hx hb dL_law_235 rfl (lv_at hl 0 rfl) ?_
    refine lv_iload hx hb dL_law_236 (lv_at hl 4 rfl) ?_
    refine lv_iconst (v := 4) hx hb dL_law_238 (by decide) ?_
    refine lv_iadd hx hb dL_law_239 ?_
    refine lv_topi (fun z_7 ez_7 => ?_)
    have ez_7 : z_7 = 4 := ez_7.trans (by decide +kernel)
    rw [ez_7]
    refine va_sld hx hb hX hbl hbA hS (show vp_in 4 7 from by unfold vp_in; decide +kernel) dL_law_240 ?_
    refine lv_topi (fun z_8 ez_8 => ?_)
    have ez_8 : z_8 = (xs 4) := ez_8
    rw [ez_8]
    refine lv_aload_n hx hb dL_law_241 rfl (lv_at hl 0 rfl) ?_
    refine lv_iload hx hb dL_law_242 (lv_at hl 4 rfl) ?_
    refine lv_iconst (v := 5) hx hb dL_law_244 (by decide) ?_
    refine lv_iadd hx hb dL_law_245 ?_
    refine lv_topi (fun z_9 ez_9 => ?_)
    have ez_9 : z_9 = 5 := ez_9.trans (by decide +kernel)
    rw [ez_9]
    refine va_sld hx hb hX hbl hbA hS (show vp_in 5 7 from by unfold vp_in; decide +kernel) dL_law_246 ?_
    refine lv_topi (fun z_10 ez_10 => ?_)
    have ez_10 : z_10 = (xs 5) := ez_10
    rw [ez_10]
    refine lv_aload_n hx hb dL_law_247 rfl (lv_at hl 0 rfl) ?_
    refine lv_iload hx hb dL_law_248 (lv_at hl 4 rfl) ?_
    refine lv_bipush (v := 6) hx hb dL_law_250 (by decide) ?_
    refine lv_iadd hx hb dL_law_252 ?_
    refine lv_topi (fun z_11 ez_11 => ?_)
    have ez_11 : z_11 = 6 := ez_11.trans (by decide +kernel)
    rw [ez_11]
    refine va_sld hx hb hX hbl hbA hS (show vp_in 6 7 from by unfold vp_in; decide +kernel) dL_law_253 ?_
    refine lv_topi (fun z_12 ez_12 => ?_)
    have ez_12 : z_12 = (xs 6) := ez_12
    rw [ez_12]
    refine lv_aload_n hx hb dL_law_254 rfl (lv_at hl 3 rfl) ?_
    have hPc := hP.sub (ws' := [(x0, .inr (7, [.ref aH, .ref aB, .ref aJ, .int 0, .int 0, .int 0, .ref rN, .ref rX, .int 0, .int 0, .int 0, .int 0, .int 0, .int 0, .int (-1), .int (-1), .int 0, .int 0, .ref aV])), (ho, .inl (cO, 1, .inr (.inl fo)))]) [0, 18] rfl
    have hKc := hK.sub (tys' := [(cO, .long)]) [5] rfl
    have hDc := hD.sub (ws' := [(x0, .inr (7, [.ref aH, .ref aB, .ref aJ, .int 0, .int 0, .int 0, .ref rN, .ref rX, .int 0, .int 0, .int 0, .int 0, .int 0, .int 0, .int (-1), .int (-1), .int 0, .int 0, .ref aV])), (ho, .inl (cO, 1, .inr (.inl fo)))]) [0, 18] (by decide) rfl
    have hFc := va_free (wc := [(x0, .inr (7, [.ref aH, .ref aB, .ref aJ, .int 0, .int 0, .int 0, .ref rN, .ref rX, .int 0, .int 0, .int 0, .int 0, .int 0, .int 0, .int (-1), .int (-1), .int 0, .int 0, .ref aV])), (ho, .inl (cO, 1, .inr (.inl fo)))]) hD hS hA [0, 18] rfl
    refine va_calli (vx_runSW (As := [.ref x0, .int (xs 1), .int (xs 2), .int (xs 3), .int (xs 4), .int (xs 5), .int (xs 6), .ref ho]) (rest := []) ⟨hx, hb, hml, hown, hts⟩ (w_book l hl0 D eT x0 aH aB aJ rN rX aV ho cO fo (xs 1) (xs 2) (xs 3) (xs 4) (xs 5) (xs 6) H.size ) (vx_cwSW 8 hts gL_law_L_book rfl rfl rfl (by decide +kernel) ⟨Nat.le_of_ble_eq_true rfl, Nat.le_of_ble_eq_true rfl⟩) (pc_s hPc hDc hKc hE hS hFc) rfl rfl hl.1 rfl (lv_room (Nat.le_of_ble_eq_true rfl)) dL_law_255 ⟨Nat.le_of_ble_eq_true rfl, Nat.le_of_ble_eq_true rfl⟩) hS (fun q _ h => hFc q h) hFc (fun r u t H1 locs ht hvm hw hB hz1 hk1 hS => ?_)
    have hw : r = 1 := hw
    rw [hw]
    obtain ⟨hP1, hK1, hD1⟩ := hB
    rw [ht] at hP1
    have hK1 := va_K.moved hvm.symm hK1
    obtain ⟨hP, hD⟩ := va_join (wr := [(aJ, .inl (cJ, 5, .inr (.inr (.inr (.inr fJ))))), (j0, .inr (5, [.int 0, .int 0, .int 0, .int 0, .int 0, .ref c1, .ref c2, .int 0, .int 0, .int 0, .int 0, .ref c3, .int 0, .ref c4, .ref c5, .int 0])), (rN, .inr (6, [.int 7, .int 100, .int 800, .int 10])), (rX, .inr (6, [.int 7, .int 100, .int 800, .int 10])), (y0, .inr (8, [.int 0, .ref lH, .ref lB, .ref lJ, .ref aR, .ref aL, .int 0, .int 0, .int 0, .ref lC, .ref aM, .ref aP, .int 0, .int 0, .int 0, .int (-1), .int (-1), .int 0, .int 0, .long 0])), (lH, .inr (2, [.int 0, .ref eT, .int 0])), (lB, .inr (2, [.int 0, .ref eT, .int 0])), (lJ, .inr (2, [.int 0, .ref eT, .int 0])), (lC, .inr (2, [.int 0, .ref eT, .int 0])), (aR, .inl (cI, 4, .inl fR)), (aL, .inl (cL, 4, .inl fL)), (aM, .inl (cM, 5, .inr (.inr (.inr (.inr gM))))), (m0, .inl (cR, 16, .inl f0)), (m1, .inl (cR, 16, .inl f1)), (m2, .inl (cR, 16, .inl f2)), (m3, .inl (cR, 16, .inl f3)), (m4, .inl (cR, 16, .inl f4))]) (w1 := [(ho, .inl (cO, 1, .inr (.inl fo)))]) hP hD [0, 18] [1, 2, 3, 4, 5, 6, 7, 8, 9, 10, 11, 12, 13, 14, 15, 16, 17] rfl rfl (by decide) (by decide) hk1 hFc hP1 hD1
    generalize H1 = H at hP hS ⊢
    have hP : va_P D vwCl [(aJ, .inl (cJ, 5, .inr (.inr (.inr (.inr fJ))))), (j0, .inr (5, [.int 0, .int 0, .int 0, .int 0, .int 0, .ref c1, .ref c2, .int 0, .int 0, .int 0, .int 0, .ref c3, .int 0, .ref c4, .ref c5, .int 0])), (rN, .inr (6, [.int 7, .int 100, .int 800, .int 10])), (rX, .inr (6, [.int 7, .int 100, .int 800, .int 10])), (y0, .inr (8, [.int 0, .ref lH, .ref lB, .ref lJ, .ref aR, .ref aL, .int 0, .int 0, .int 0, .ref lC, .ref aM, .ref aP, .int 0, .int 0, .int 0, .int (-1), .int (-1), .int 0, .int 0, .long 0])), (lH, .inr (2, [.int 0, .ref eT, .int 0])), (lB, .inr (2, [.int 0, .ref eT, .int 0])), (lJ, .inr (2, [.int 0, .ref eT, .int 0])), (lC, .inr (2, [.int 0, .ref eT, .int 0])), (aR, .inl (cI, 4, .inl fR)), (aL, .inl (cL, 4, .inl fL)), (aM, .inl (cM, 5, .inr (.inr (.inr (.inr gM))))), (m0, .inl (cR, 16, .inl f0)), (m1, .inl (cR, 16, .inl f1)), (m2, .inl (cR, 16, .inl f2)), (m3, .inl (cR, 16, .inl f3)), (m4, .inl (cR, 16, .inl f4)), (ho, .inl (cO, 1, .inr (.inl fo)))] H := hP
    have hD : va_D (fun q : Nat => s.heap.size ≤ q) [(aJ, .inl (cJ, 5, .inr (.inr (.inr (.inr fJ))))), (j0, .inr (5, [.int 0, .int 0, .int 0, .int 0, .int 0, .ref c1, .ref c2, .int 0, .int 0, .int 0, .int 0, .ref c3, .int 0, .ref c4, .ref c5, .int 0])), (rN, .inr (6, [.int 7, .int 100, .int 800, .int 10])), (rX, .inr (6, [.int 7, .int 100, .int 800, .int 10])), (y0, .inr (8, [.int 0, .ref lH, .ref lB, .ref lJ, .ref aR, .ref aL, .int 0, .int 0, .int 0, .ref lC, .ref aM, .ref aP, .int 0, .int 0, .int 0, .int (-1), .int (-1), .int 0, .int 0, .long 0])), (lH, .inr (2, [.int 0, .ref eT, .int 0])), (lB, .inr (2, [.int 0, .ref eT, .int 0])), (lJ, .inr (2, [.int 0, .ref eT, .int 0])), (lC, .inr (2, [.int 0, .ref eT, .int 0])), (aR, .inl (cI, 4, .inl fR)), (aL, .inl (cL, 4, .inl fL)), (aM, .inl (cM, 5, .inr (.inr (.inr (.inr gM))))), (m0, .inl (cR, 16, .inl f0)), (m1, .inl (cR, 16, .inl f1)), (m2, .inl (cR, 16, .inl f2)), (m3, .inl (cR, 16, .inl f3)), (m4, .inl (cR, 16, .inl f4)), (ho, .inl (cO, 1, .inr (.inl fo)))] := hD
    refine W.widen (k := 82) (n := 909) (Nat.le_of_ble_eq_true rfl) (Nat.le_of_ble_eq_true rfl) ?_
    refine lv_istore (lv' := [(5, .int 1), (0, .ref b), (1, .ref x0), (2, .ref y0), (3, .ref ho), (4, .int 0)]) hx hb dL_law_258 hl (by decide) rfl (fun ls hl => ?_)
    refine lv_aload_n hx hb dL_law_260 rfl (lv_at hl 3 rfl) ?_
    refine lv_aload_n hx hb dL_law_261 rfl (lv_at hl 1 rfl) ?_
    refine lv_iload hx hb dL_law_262 (lv_at hl 5 rfl) ?_
    refine lv_iconst (v := 1) hx hb dL_law_264 (by decide) ?_
    refine lv_iadd hx hb dL_law_265 ?_
    refine lv_topi (fun z_13 ez_13 => ?_)
    have ez_13 : z_13 = 1 := ez_13.trans (by decide +kernel)
    rw [ez_13]
    refine va_sld hx hb hX hbl hbA hS (show vp_in 1 7 from by unfold vp_in; decide +kernel) dL_law_266 ?_
    refine lv_topi (fun z_14 ez_14 => ?_)
    have ez_14 : z_14 = (xs 1) := ez_14
    rw [ez_14]
    refine lv_aload_n hx hb dL_law_267 rfl (lv_at hl 1 rfl) ?_
    refine lv_iload hx hb dL_law_268 (lv_at hl 5 rfl) ?_
    refine lv_iconst (v := 2) hx hb dL_law_270 (by decide) ?_
    refine lv_iadd hx hb dL_law_271 ?_
    refine lv_topi (fun z_15 ez_15 => ?_)
    have ez_15 : z_15 = 2 := ez_15.trans (by decide +kernel)
    rw [ez_15]
    refine va_sld hx hb hX hbl hbA hS (show vp_in 2 7 from by unfold vp_in; decide +kernel) dL_law_272 ?_
    refine lv_topi (fun z_16 ez_16 => ?_)
    have ez_16 : z_16 = (xs 2) := ez_16
    rw [ez_16]
    refine lv_aload_n hx hb dL_law_273 rfl (lv_at hl 1 rfl) ?_
    refine lv_iload hx hb dL_law_274 (lv_at hl 5 rfl) ?_
    refine lv_iconst (v := 3) hx hb dL_law_276 (by decide) ?_
    refine lv_iadd hx hb dL_law_277 ?_
    refine lv_topi (fun z_17 ez_17 => ?_)
    have ez_17 : z_17 = 3 := ez_17.trans (by decide +kernel)
    rw [ez_17]
    refine va_sld hx hb hX hbl hbA hS (show vp_in 3 7 from by unfold vp_in; decide +kernel) dL_law_278 ?_
    refine lv_topi (fun z_18 ez_18 => ?_)
    have ez_18 : z_18 = (xs 3) := ez_18
    rw [ez_18]
    refine lv_aload_n hx hb dL_law_279 rfl (lv_at hl 1 rfl) ?_
    refine lv_iload hx hb dL_law_280 (lv_at hl 5 rfl) ?_
    refine lv_iconst (v := 4) hx hb dL_law_282 (by decide) ?_
    refine lv_iadd hx hb dL_law_283 ?_
    refine lv_topi (fun z_19 ez_19 => ?_)
    have ez_19 : z_19 = 4 := ez_19.trans (by decide +kernel)
    rw [ez_19]
    refine va_sld hx hb hX hbl hbA hS (show vp_in 4 7 from by unfold vp_in; decide +kernel) dL_law_284 ?_
    refine lv_topi (fun z_20 ez_20 => ?_)
    have ez_20 : z_20 = (xs 4) := ez_20
    rw [ez_20]
    refine lv_aload_n hx hb dL_law_285 rfl (lv_at hl 1 rfl) ?_
    refine lv_iload hx hb dL_law_286 (lv_at hl 5 rfl) ?_
    refine lv_iconst (v := 5) hx hb dL_law_288 (by decide) ?_
    refine lv_iadd hx hb dL_law_289 ?_
    refine lv_topi (fun z_21 ez_21 => ?_)
    have ez_21 : z_21 = 5 := ez_21.trans (by decide +kernel)
    rw [ez_21]
    refine va_sld hx hb hX hbl hbA hS (show vp_in 5 7 from by unfold vp_in; decide +kernel) dL_law_290 ?_
    refine lv_topi (fun z_22 ez_22 => ?_)
    have ez_22 : z_22 = (xs 5) := ez_22
    rw [ez_22]
    refine lv_aload_n hx hb dL_law_291 rfl (lv_at hl 1 rfl) ?_
    refine lv_iload hx hb dL_law_292 (lv_at hl 5 rfl) ?_
    refine lv_bipush (v := 6) hx hb dL_law_294 (by decide) ?_
    refine lv_iadd hx hb dL_law_296 ?_
    refine lv_topi (fun z_23 ez_23 => ?_)
    have ez_23 : z_23 = 6 := ez_23.trans (by decide +kernel)
    rw [ez_23]
    refine va_sld hx hb hX hbl hbA hS (show vp_in 6 7 from by unfold vp_in; decide +kernel) dL_law_297 ?_
    refine lv_topi (fun z_24 ez_24 => ?_)
    have ez_24 : z_24 = (xs 6) := ez_24
    rw [ez_24]
    have hPc := hP.sub (ws' := [(y0, .inr (8, [.int 0, .ref lH, .ref lB, .ref lJ, .ref aR, .ref aL, .int 0, .int 0, .int 0, .ref lC, .ref aM, .ref aP, .int 0, .int 0, .int 0, .int (-1), .int (-1), .int 0, .int 0, .long 0])), (lH, .inr (2, [.int 0, .ref eT, .int 0]))]) [4, 5] rfl
    have hKc := hK.sub (tys' := []) [] rfl
    have hDc := hD.sub (ws' := [(y0, .inr (8, [.int 0, .ref lH, .ref lB, .ref lJ, .ref aR, .ref aL, .int 0, .int 0, .int 0, .ref lC, .ref aM, .ref aP, .int 0, .int 0, .int 0, .int (-1), .int (-1), .int 0, .int 0, .long 0])), (lH, .inr (2, [.int 0, .ref eT, .int 0]))]) [4, 5] (by decide) rfl
    have hFc := va_free (wc := [(y0, .inr (8, [.int 0, .ref lH, .ref lB, .ref lJ, .ref aR, .ref aL, .int 0, .int 0, .int 0, .ref lC, .ref aM, .ref aP, .int 0, .int 0, .int 0, .int (-1), .int (-1), .int 0, .int 0, .long 0])), (lH, .inr (2, [.int 0, .ref eT, .int 0]))]) hD hS hA [4, 5] rfl
    refine va_calli (va_runV (As := [.int (xs 1), .int (xs 2), .int (xs 3), .int (xs 4), .int (xs 5), .int (xs 6)]) (rest := []) ⟨hx, hb, hml, hown, hts⟩ (r_book l D eT y0 lH lB lJ aR aL lC aM aP 0 (xs 1) (xs 2) (xs 3) (xs 4) (xs 5) (xs 6) H.size ) (cwV 6 hts gL_law_X5_book rfl rfl rfl (by decide +kernel) ⟨Nat.le_of_ble_eq_true rfl, Nat.le_of_ble_eq_true rfl⟩) (pc_v (ci := 8) (q0 := 0) rfl rfl hPc hDc hKc hE hS hFc) rfl rfl hl.1 rfl (lv_room (Nat.le_of_ble_eq_true rfl)) dL_law_298 ⟨Nat.le_of_ble_eq_true rfl, Nat.le_of_ble_eq_true rfl⟩) hS (fun q _ h => hFc q h) hFc (fun r u t H1 locs ht hvm hw hB hz1 hk1 hS => ?_)
    have hw : r = 0 := hw
    rw [hw]
    obtain ⟨hP1, hK1, hD1⟩ := hB
    rw [ht] at hP1
    have hK1 := va_K.moved hvm.symm hK1
    obtain ⟨hP, hD⟩ := va_join (wr := [(aJ, .inl (cJ, 5, .inr (.inr (.inr (.inr fJ))))), (j0, .inr (5, [.int 0, .int 0, .int 0, .int 0, .int 0, .ref c1, .ref c2, .int 0, .int 0, .int 0, .int 0, .ref c3, .int 0, .ref c4, .ref c5, .int 0])), (rN, .inr (6, [.int 7, .int 100, .int 800, .int 10])), (rX, .inr (6, [.int 7, .int 100, .int 800, .int 10])), (lB, .inr (2, [.int 0, .ref eT, .int 0])), (lJ, .inr (2, [.int 0, .ref eT, .int 0])), (lC, .inr (2, [.int 0, .ref eT, .int 0])), (aR, .inl (cI, 4, .inl fR)), (aL, .inl (cL, 4, .inl fL)), (aM, .inl (cM, 5, .inr (.inr (.inr (.inr gM))))), (m0, .inl (cR, 16, .inl f0)), (m1, .inl (cR, 16, .inl f1)), (m2, .inl (cR, 16, .inl f2)), (m3, .inl (cR, 16, .inl f3)), (m4, .inl (cR, 16, .inl f4)), (ho, .inl (cO, 1, .inr (.inl fo)))]) (w1 := [(y0, .inr (8, [.int 1, .ref lH, .ref lB, .ref lJ, .ref aR, .ref aL, .int 0, .int 0, .int 0, .ref lC, .ref aM, .ref aP, .int 0, .int 0, .int 0, .int (-1), .int (-1), .int 0, .int 0, .long 0]))]) hP hD [4, 5] [0, 1, 2, 3, 6, 7, 8, 9, 10, 11, 12, 13, 14, 15, 16, 17] rfl rfl (by decide) (by decide) hk1 hFc hP1 hD1
    generalize H1 = H at hP hS ⊢
    have hP : va_P D vwCl [(aJ, .inl (cJ, 5, .inr (.inr (.inr (.inr fJ))))), (j0, .inr (5, [.int 0, .int 0, .int 0, .int 0, .int 0, .ref c1, .ref c2, .int 0, .int 0, .int 0, .int 0, .ref c3, .int 0, .ref c4, .ref c5, .int 0])), (rN, .inr (6, [.int 7, .int 100, .int 800, .int 10])), (rX, .inr (6, [.int 7, .int 100, .int 800, .int 10])), (lB, .inr (2, [.int 0, .ref eT, .int 0])), (lJ, .inr (2, [.int 0, .ref eT, .int 0])), (lC, .inr (2, [.int 0, .ref eT, .int 0])), (aR, .inl (cI, 4, .inl fR)), (aL, .inl (cL, 4, .inl fL)), (aM, .inl (cM, 5, .inr (.inr (.inr (.inr gM))))), (m0, .inl (cR, 16, .inl f0)), (m1, .inl (cR, 16, .inl f1)), (m2, .inl (cR, 16, .inl f2)), (m3, .inl (cR, 16, .inl f3)), (m4, .inl (cR, 16, .inl f4)), (ho, .inl (cO, 1, .inr (.inl fo))), (y0, .inr (8, [.int 1, .ref lH, .ref lB, .ref lJ, .ref aR, .ref aL, .int 0, .int 0, .int 0, .ref lC, .ref aM, .ref aP, .int 0, .int 0, .int 0, .int (-1), .int (-1), .int 0, .int 0, .long 0]))] H := hP
    have hD : va_D (fun q : Nat => s.heap.size ≤ q) [(aJ, .inl (cJ, 5, .inr (.inr (.inr (.inr fJ))))), (j0, .inr (5, [.int 0, .int 0, .int 0, .int 0, .int 0, .ref c1, .ref c2, .int 0, .int 0, .int 0, .int 0, .ref c3, .int 0, .ref c4, .ref c5, .int 0])), (rN, .inr (6, [.int 7, .int 100, .int 800, .int 10])), (rX, .inr (6, [.int 7, .int 100, .int 800, .int 10])), (lB, .inr (2, [.int 0, .ref eT, .int 0])), (lJ, .inr (2, [.int 0, .ref eT, .int 0])), (lC, .inr (2, [.int 0, .ref eT, .int 0])), (aR, .inl (cI, 4, .inl fR)), (aL, .inl (cL, 4, .inl fL)), (aM, .inl (cM, 5, .inr (.inr (.inr (.inr gM))))), (m0, .inl (cR, 16, .inl f0)), (m1, .inl (cR, 16, .inl f1)), (m2, .inl (cR, 16, .inl f2)), (m3, .inl (cR, 16, .inl f3)), (m4, .inl (cR, 16, .inl f4)), (ho, .inl (cO, 1, .inr (.inl fo))), (y0, .inr (8, [.int 1, .ref lH, .ref lB, .ref lJ, .ref aR, .ref aL, .int 0, .int 0, .int 0, .ref lC, .ref aM, .ref aP, .int 0, .int 0, .int 0, .int (-1), .int (-1), .int 0, .int 0, .long 0]))] := hD
    refine lv_istore (lv' := [(6, .int 0), (5, .int 1), (0, .ref b), (1, .ref x0), (2, .ref y0), (3, .ref ho), (4, .int 0)]) hx hb dL_law_301 hl (by decide) rfl (fun ls hl => ?_)
    refine lv_aload_n hx hb dL_law_303 rfl (lv_at hl 4 rfl) ?_
    have hPc := hP.sub (ws' := [(y0, .inr (8, [.int 1, .ref lH, .ref lB, .ref lJ, .ref aR, .ref aL, .int 0, .int 0, .int 0, .ref lC, .ref aM, .ref aP, .int 0, .int 0, .int 0, .int (-1), .int (-1), .int 0, .int 0, .long 0]))]) [16] rfl
    have hKc := hK.sub (tys' := []) [] rfl
    refine va_calli (va_runV (As := []) (rest := []) ⟨hx, hb, hml, hown, hts⟩ (r_thrown l D eT y0 lH lB lJ aR aL lC aM aP 0 1 0 H.size ) (cwV 0 hts gL_law_X5_thrown rfl rfl rfl (by decide +kernel) ⟨Nat.le_of_ble_eq_true rfl, Nat.le_of_ble_eq_true rfl⟩) (pr_v (ci := 8) (q0 := 0) rfl rfl hPc hKc hE hS hA) rfl rfl hl.1 rfl (lv_room (Nat.le_of_ble_eq_true rfl)) dL_law_304 ⟨Nat.le_of_ble_eq_true rfl, Nat.le_of_ble_eq_true rfl⟩) hS (fun q h1 h2 => ro_A h1 h2) (fun q h => ro_F hS hA q h) (fun r u t H1 locs ht hvm hw hB hz1 hk1 hS => ?_)
    have hw : r = 1 := hw
    rw [hw]
    have hP := ro_P hP hk1
    generalize H1 = H at hP hS ⊢
    refine lv_iload hx hb dL_law_307 (lv_at hl 1 rfl) ?_
    refine lv_icmp_eq (tgt := 314) hx hb dL_law_309 (by decide) (fun _ => ?_) (fun h => absurd (by decide) h)
    refine lv_iload hx hb dL_law_314 (lv_at hl 1 rfl) ?_
    refine lv_if_ne (tgt := 331) hx hb dL_law_316 (by decide) (fun _ => ?_) (fun h => absurd h (by decide))
    refine lv_goto (tgt := 1835) hx hb dL_law_331 (by decide) ?_
    refine W.widen (k := 2000) (n := 20000) (Nat.le_of_ble_eq_true rfl) (Nat.le_of_ble_eq_true rfl) ?_
    exact kx _ _ _ hS (lv_sub hl [2, 3, 4, 5, 6] rfl)
set_option maxHeartbeats 8000000 in
set_option maxRecDepth 100000 in
theorem law_c2 {p : Program} {l : Launch} {e : Env} {s : State} {m : MethodId} {args : Array Value} {below : List Frame} {meth : Method} {c : Code} {Q : State → Prop} {b : Nat} {xs : Nat → Int32} {D : va_G} {eT : Nat} {x0 aH aB aJ rN rX aV j0 c1 c2 c3 c4 c5 y0 lH lB lJ aR aL lC aM aP m0 m1 m2 m3 m4 ho : Nat} {cJ cI cL cM cR cO : ClassId} {fJ : Nat → Option Nat} {fR : Nat → Int32} {fL : Nat → Int32} {gM : Nat → Option Nat} {f0 : Nat → Int32} {f1 : Nat → Int32} {f2 : Nat → Int32} {f3 : Nat → Int32} {f4 : Nat → Int32} {fo : Nat → Int64} (hl0 : l.stackTraces = false) (hx : p.tables.exec = Jvm.exec) (hb : c.code = cL_law) (hml : c.maxLocals = 9) (hown : s.vm.findClass RL = some m.cls) (hts : ∀ w ∈ wsL_law, w.before args s = true) (hX : va_X b 7 xs s s.heap) (hbl : b < s.heap.size) (hE : ev eT (fun q : Nat => s.heap.size ≤ q) s s.heap) (hJ : fJ 0 = some j0) (hR : fR 3 = 10) (hg0 : gM 0 = some m0) (hg1 : gM 1 = some m1) (hg2 : gM 2 = some m2) (hg3 : gM 3 = some m3) (hg4 : gM 4 = some m4) (hm0 : ∀ k, k < 16 → f0 k = -1) (hm1 : ∀ k, k < 16 → f1 k = -1) (hm2 : ∀ k, k < 16 → f2 k = -1) (hm3 : ∀ k, k < 16 → f3 k = -1) (hm4 : ∀ k, k < 16 → f4 k = -1) (hK : va_K D vwCl [(cJ, .object RX2), (cI, .int), (cL, .int), (cM, .array .int), (cR, .int), (cO, .long)] s) {H : Heap} {locs : List Loc} (hP : va_P D vwCl [(x0, .inr (7, [.ref aH, .ref aB, .ref aJ, .int 0, .int 0, .int 0, .ref rN, .ref rX, .int 0, .int 0, .int 0, .int 0, .int 0, .int 0, .int (-1), .int (-1), .int 0, .int 0, .ref aV])), (aJ, .inl (cJ, 5, .inr (.inr (.inr (.inr fJ))))), (j0, .inr (5, [.int 0, .int 0, .int 0, .int 0, .int 0, .ref c1, .ref c2, .int 0, .int 0, .int 0, .int 0, .ref c3, .int 0, .ref c4, .ref c5, .int 0])), (rN, .inr (6, [.int 7, .int 100, .int 800, .int 10])), (rX, .inr (6, [.int 7, .int 100, .int 800, .int 10])), (y0, .inr (8, [.int 0, .ref lH, .ref lB, .ref lJ, .ref aR, .ref aL, .int 0, .int 0, .int 0, .ref lC, .ref aM, .ref aP, .int 0, .int 0, .int 0, .int (-1), .int (-1), .int 0, .int 0, .long 0])), (lH, .inr (2, [.int 0, .ref eT, .int 0])), (lB, .inr (2, [.int 0, .ref eT, .int 0])), (lJ, .inr (2, [.int 0, .ref eT, .int 0])), (lC, .inr (2, [.int 0, .ref eT, .int 0])), (aR, .inl (cI, 4, .inl fR)), (aL, .inl (cL, 4, .inl fL)), (aM, .inl (cM, 5, .inr (.inr (.inr (.inr gM))))), (m0, .inl (cR, 16, .inl f0)), (m1, .inl (cR, 16, .inl f1)), (m2, .inl (cR, 16, .inl f2)), (m3, .inl (cR, 16, .inl f3)), (m4, .inl (cR, 16, .inl f4)), (ho, .inl (cO, 1, .inr (.inl fo)))] H) (hD : va_D (fun q : Nat => s.heap.size ≤ q) [(x0, .inr (7, [.ref aH, .ref aB, .ref aJ, .int 0, .int 0, .int 0, .ref rN, .ref rX, .int 0, .int 0, .int 0, .int 0, .int 0, .int 0, .int (-1), .int (-1), .int 0, .int 0, .ref aV])), (aJ, .inl (cJ, 5, .inr (.inr (.inr (.inr fJ))))), (j0, .inr (5, [.int 0, .int 0, .int 0, .int 0, .int 0, .ref c1, .ref c2, .int 0, .int 0, .int 0, .int 0, .ref c3, .int 0, .ref c4, .ref c5, .int 0])), (rN, .inr (6, [.int 7, .int 100, .int 800, .int 10])), (rX, .inr (6, [.int 7, .int 100, .int 800, .int 10])), (y0, .inr (8, [.int 0, .ref lH, .ref lB, .ref lJ, .ref aR, .ref aL, .int 0, .int 0, .int 0, .ref lC, .ref aM, .ref aP, .int 0, .int 0, .int 0, .int (-1), .int (-1), .int 0, .int 0, .long 0])), (lH, .inr (2, [.int 0, .ref eT, .int 0])), (lB, .inr (2, [.int 0, .ref eT, .int 0])), (lJ, .inr (2, [.int 0, .ref eT, .int 0])), (lC, .inr (2, [.int 0, .ref eT, .int 0])), (aR, .inl (cI, 4, .inl fR)), (aL, .inl (cL, 4, .inl fL)), (aM, .inl (cM, 5, .inr (.inr (.inr (.inr gM))))), (m0, .inl (cR, 16, .inl f0)), (m1, .inl (cR, 16, .inl f1)), (m2, .inl (cR, 16, .inl f2)), (m3, .inl (cR, 16, .inl f3)), (m4, .inl (cR, 16, .inl f4)), (ho, .inl (cO, 1, .inr (.inl fo)))]) (hS : va_S (fun q : Nat => s.heap.size ≤ q) s.heap H locs) {ls : Array Slot} (hl : lv_has ls 9 [(0, .ref b), (1, .ref x0), (2, .ref y0), (3, .ref ho), (4, .int 0)]) (kx : ∀ (H : Heap) (locs : List Loc) (ls : Array Slot), va_S (fun q : Nat => s.heap.size ≤ q) s.heap H locs → lv_has ls 9 [(0, .ref b), (1, .ref x0), (2, .ref y0), (3, .ref ho), (4, .int 0)] → W p l e room_1 s m args below meth c H locs 2000 20000 Q (F0 m 1835 ls [])) : W p l e room_1 s m args below meth c H locs 81 903 Q (F0 m 334 ls []) := by
  have hA : ∀ q : Nat, s.heap.size ≤ q → (fun q : Nat => s.heap.size ≤ q) q := fun _ h => h
  have hbA : ¬ (fun q : Nat => s.heap.size ≤ q) b := Nat.not_le.mpr hbl
  by_cases hn : (20 ≤ (xs 1) ∧ (xs 1) ≤ 200) ∧ (0 ≤ (xs 2) ∧ (xs 2) ≤ 9) ∧ ((-10) ≤ (xs 3) ∧ (xs 3) ≤ 10)
  · obtain ⟨⟨a1, a2⟩, ⟨b1, b2⟩, d1, d2⟩ := hn
    refine lv_aload_n hx hb dL_law_334 rfl (lv_at hl 1 rfl) ?_
    refine lv_aload_n hx hb dL_law_335 rfl (lv_at hl 0 rfl) ?_
    refine lv_iload hx hb dL_law_336 (lv_at hl 4 rfl) ?_
    refine lv_iconst (v := 1) hx hb dL_law_338 (by decide) ?_
    refine lv_iadd hx hb dL_law_339 ?_
    refine lv_topi (fun z_1 ez_1 => ?_)
    have ez_1 : z_1 = 1 := ez_1.trans (by decide +kernel)
    rw [ez_1]
    refine va_sld hx hb hX hbl hbA hS (show vp_in 1 7 from by unfold vp_in; decide +kernel) dL_law_340 ?_
    refine lv_topi (fun z_2 ez_2 => ?_)
    have ez_2 : z_2 = (xs 1) := ez_2
    rw [ez_2]
    refine lv_aload_n hx hb dL_law_341 rfl (lv_at hl 0 rfl) ?_
    refine lv_iload hx hb dL_law_342 (lv_at hl 4 rfl) ?_
    refine lv_iconst (v := 2) hx hb dL_law_344 (by decide) ?_
    refine lv_iadd hx hb dL_law_345 ?_
    refine lv_topi (fun z_3 ez_3 => ?_)
    have ez_3 : z_3 = 2 := ez_3.trans (by decide +kernel)
    rw [ez_3]
    refine va_sld hx hb hX hbl hbA hS (show vp_in 2 7 from by unfold vp_in; decide +kernel) dL_law_346 ?_
    refine lv_topi (fun z_4 ez_4 => ?_)
    have ez_4 : z_4 = (xs 2) := ez_4
    rw [ez_4]
    refine lv_aload_n hx hb dL_law_347 rfl (lv_at hl 0 rfl) ?_
    refine lv_iload hx hb dL_law_348 (lv_at hl 4 rfl) ?_
    refine lv_iconst (v := 3) hx hb dL_law_350 (by decide) ?_
    refine lv_iadd hx hb dL_law_351 ?_
    refine lv_topi (fun z_5 ez_5 => ?_)
    have ez_5 : z_5 = 3 := ez_5.trans (by decide +kernel)
    rw [ez_5]
    refine va_sld hx hb hX hbl hbA hS (show vp_in 3 7 from by unfold vp_in; decide +kernel) dL_law_352 ?_
    refine lv_topi (fun z_6 ez_6 => ?_)
    have ez_6 : z_6 = (xs 3) := ez_6
    rw [ez_6]
    refine lv_aload_n hx hb dL_law_353 rfl (lv_at hl 3 rfl) ?_
    have hPc := hP.sub (ws' := [(x0, .inr (7, [.ref aH, .ref aB, .ref aJ, .int 0, .int 0, .int 0, .ref rN, .ref rX, .int 0, .int 0, .int 0, .int 0, .int 0, .int 0, .int (-1), .int (-1), .int 0, .int 0, .ref aV])), (aJ, .inl (cJ, 5, .inr (.inr (.inr (.inr fJ))))), (j0, .inr (5, [.int 0, .int 0, .int 0, .int 0, .int 0, .ref c1, .ref c2, .int 0, .int 0, .int 0, .int 0, .ref c3, .int 0, .ref c4, .ref c5, .int 0])), (ho, .inl (cO, 1, .inr (.inl fo)))]) [0, 1, 2, 18] rfl
    have hKc := hK.sub (tys' := [(cJ, .object RX2), (cO, .long)]) [0, 5] rfl
    have hDc := hD.sub (ws' := [(x0, .inr (7, [.ref aH, .ref aB, .ref aJ, .int 0, .int 0, .int 0, .ref rN, .ref rX, .int 0, .int 0, .int 0, .int 0, .int 0, .int 0, .int (-1), .int (-1), .int 0, .int 0, .ref aV])), (aJ, .inl (cJ, 5, .inr (.inr (.inr (.inr fJ))))), (j0, .inr (5, [.int 0, .int 0, .int 0, .int 0, .int 0, .ref c1, .ref c2, .int 0, .int 0, .int 0, .int 0, .ref c3, .int 0, .ref c4, .ref c5, .int 0])), (ho, .inl (cO, 1, .inr (.inl fo)))]) [0, 1, 2, 18] (by decide) rfl
    have hFc := va_free (wc := [(x0, .inr (7, [.ref aH, .ref aB, .ref aJ, .int 0, .int 0, .int 0, .ref rN, .ref rX, .int 0, .int 0, .int 0, .int 0, .int 0, .int 0, .int (-1), .int (-1), .int 0, .int 0, .ref aV])), (aJ, .inl (cJ, 5, .inr (.inr (.inr (.inr fJ))))), (j0, .inr (5, [.int 0, .int 0, .int 0, .int 0, .int 0, .ref c1, .ref c2, .int 0, .int 0, .int 0, .int 0, .ref c3, .int 0, .ref c4, .ref c5, .int 0])), (ho, .inl (cO, 1, .inr (.inl fo)))]) hD hS hA [0, 1, 2, 18] rfl
    refine va_calli (vx_runSW (As := [.ref x0, .int (xs 1), .int (xs 2), .int (xs 3), .ref ho]) (rest := []) ⟨hx, hb, hml, hown, hts⟩ (w_judge l D eT x0 aH aB aJ rN rX aV j0 c1 c2 c3 c4 c5 cJ fJ ho cO fo (xs 1) (xs 2) (xs 3) H.size hJ a1 a2 b1 b2 d1 d2) (vx_cwSW 5 hts gL_law_L_judge rfl rfl rfl (by decide +kernel) ⟨Nat.le_of_ble_eq_true rfl, Nat.le_of_ble_eq_true rfl⟩) (pc_s hPc hDc hKc hE hS hFc) rfl rfl hl.1 rfl (lv_room (Nat.le_of_ble_eq_true rfl)) dL_law_354 ⟨Nat.le_of_ble_eq_true rfl, Nat.le_of_ble_eq_true rfl⟩) hS (fun q _ h => hFc q h) hFc (fun r u t H1 locs ht hvm hw hB hz1 hk1 hS => ?_)
    have hw : r = 0 := hw
    rw [hw]
    obtain ⟨hP1, hK1, hD1⟩ := hB
    rw [ht] at hP1
    have hK1 := va_K.moved hvm.symm hK1
    obtain ⟨hP, hD⟩ := va_join (wr := [(rN, .inr (6, [.int 7, .int 100, .int 800, .int 10])), (rX, .inr (6, [.int 7, .int 100, .int 800, .int 10])), (y0, .inr (8, [.int 0, .ref lH, .ref lB, .ref lJ, .ref aR, .ref aL, .int 0, .int 0, .int 0, .ref lC, .ref aM, .ref aP, .int 0, .int 0, .int 0, .int (-1), .int (-1), .int 0, .int 0, .long 0])), (lH, .inr (2, [.int 0, .ref eT, .int 0])), (lB, .inr (2, [.int 0, .ref eT, .int 0])), (lJ, .inr (2, [.int 0, .ref eT, .int 0])), (lC, .inr (2, [.int 0, .ref eT, .int 0])), (aR, .inl (cI, 4, .inl fR)), (aL, .inl (cL, 4, .inl fL)), (aM, .inl (cM, 5, .inr (.inr (.inr (.inr gM))))), (m0, .inl (cR, 16, .inl f0)), (m1, .inl (cR, 16, .inl f1)), (m2, .inl (cR, 16, .inl f2)), (m3, .inl (cR, 16, .inl f3)), (m4, .inl (cR, 16, .inl f4))]) (w1 := [(ho, .inl (cO, 1, .inr (.inl (vp_updL fo (Int32.toNatClampNeg 0) 0))))]) hP hD [0, 1, 2, 18] [3, 4, 5, 6, 7, 8, 9, 10, 11, 12, 13, 14, 15, 16, 17] rfl rfl (by decide) (by decide) hk1 hFc hP1 hD1
    generalize H1 = H at hP hS ⊢
    have hP : va_P D vwCl [(rN, .inr (6, [.int 7, .int 100, .int 800, .int 10])), (rX, .inr (6, [.int 7, .int 100, .int 800, .int 10])), (y0, .inr (8, [.int 0, .ref lH, .ref lB, .ref lJ, .ref aR, .ref aL, .int 0, .int 0, .int 0, .ref lC, .ref aM, .ref aP, .int 0, .int 0, .int 0, .int (-1), .int (-1), .int 0, .int 0, .long 0])), (lH, .inr (2, [.int 0, .ref eT, .int 0])), (lB, .inr (2, [.int 0, .ref eT, .int 0])), (lJ, .inr (2, [.int 0, .ref eT, .int 0])), (lC, .inr (2, [.int 0, .ref eT, .int 0])), (aR, .inl (cI, 4, .inl fR)), (aL, .inl (cL, 4, .inl fL)), (aM, .inl (cM, 5, .inr (.inr (.inr (.inr gM))))), (m0, .inl (cR, 16, .inl f0)), (m1, .inl (cR, 16, .inl f1)), (m2, .inl (cR, 16, .inl f2)), (m3, .inl (cR, 16, .inl f3)), (m4, .inl (cR, 16, .inl f4)), (ho, .inl (cO, 1, .inr (.inl (vp_updL fo (Int32.toNatClampNeg 0) 0))))] H := hP
    have hD : va_D (fun q : Nat => s.heap.size ≤ q) [(rN, .inr (6, [.int 7, .int 100, .int 800, .int 10])), (rX, .inr (6, [.int 7, .int 100, .int 800, .int 10])), (y0, .inr (8, [.int 0, .ref lH, .ref lB, .ref lJ, .ref aR, .ref aL, .int 0, .int 0, .int 0, .ref lC, .ref aM, .ref aP, .int 0, .int 0, .int 0, .int (-1), .int (-1), .int 0, .int 0, .long 0])), (lH, .inr (2, [.int 0, .ref eT, .int 0])), (lB, .inr (2, [.int 0, .ref eT, .int 0])), (lJ, .inr (2, [.int 0, .ref eT, .int 0])), (lC, .inr (2, [.int 0, .ref eT, .int 0])), (aR, .inl (cI, 4, .inl fR)), (aL, .inl (cL, 4, .inl fL)), (aM, .inl (cM, 5, .inr (.inr (.inr (.inr gM))))), (m0, .inl (cR, 16, .inl f0)), (m1, .inl (cR, 16, .inl f1)), (m2, .inl (cR, 16, .inl f2)), (m3, .inl (cR, 16, .inl f3)), (m4, .inl (cR, 16, .inl f4)), (ho, .inl (cO, 1, .inr (.inl (vp_updL fo (Int32.toNatClampNeg 0) 0))))] := hD
    refine lv_istore (lv' := [(5, .int 0), (0, .ref b), (1, .ref x0), (2, .ref y0), (3, .ref ho), (4, .int 0)]) hx hb dL_law_357 hl (by decide) rfl (fun ls hl => ?_)
    refine lv_aload_n hx hb dL_law_359 rfl (lv_at hl 3 rfl) ?_
    refine lv_aload_n hx hb dL_law_360 rfl (lv_at hl 1 rfl) ?_
    refine lv_iload hx hb dL_law_361 (lv_at hl 5 rfl) ?_
    refine lv_iconst (v := 1) hx hb dL_law_363 (by decide) ?_
    refine lv_iadd hx hb dL_law_364 ?_
    refine lv_topi (fun z_7 ez_7 => ?_)
    have ez_7 : z_7 = 1 := ez_7.trans (by decide +kernel)
    rw [ez_7]
    refine va_sld hx hb hX hbl hbA hS (show vp_in 1 7 from by unfold vp_in; decide +kernel) dL_law_365 ?_
    refine lv_topi (fun z_8 ez_8 => ?_)
    have ez_8 : z_8 = (xs 1) := ez_8
    rw [ez_8]
    refine lv_aload_n hx hb dL_law_366 rfl (lv_at hl 1 rfl) ?_
    refine lv_iload hx hb dL_law_367 (lv_at hl 5 rfl) ?_
    refine lv_iconst (v := 2) hx hb dL_law_369 (by decide) ?_
    refine lv_iadd hx hb dL_law_370 ?_
    refine lv_topi (fun z_9 ez_9 => ?_)
    have ez_9 : z_9 = 2 := ez_9.trans (by decide +kernel)
    rw [ez_9]
    refine va_sld hx hb hX hbl hbA hS (show vp_in 2 7 from by unfold vp_in; decide +kernel) dL_law_371 ?_
    refine lv_topi (fun z_10 ez_10 => ?_)
    have ez_10 : z_10 = (xs 2) := ez_10
    rw [ez_10]
    refine lv_aload_n hx hb dL_law_372 rfl (lv_at hl 1 rfl) ?_
    refine lv_iload hx hb dL_law_373 (lv_at hl 5 rfl) ?_
    refine lv_iconst (v := 3) hx hb dL_law_375 (by decide) ?_
    refine lv_iadd hx hb dL_law_376 ?_
    refine lv_topi (fun z_11 ez_11 => ?_)
    have ez_11 : z_11 = 3 := ez_11.trans (by decide +kernel)
    rw [ez_11]
    refine va_sld hx hb hX hbl hbA hS (show vp_in 3 7 from by unfold vp_in; decide +kernel) dL_law_377 ?_
    refine lv_topi (fun z_12 ez_12 => ?_)
    have ez_12 : z_12 = (xs 3) := ez_12
    rw [ez_12]
    have hPc := hP.sub (ws' := [(y0, .inr (8, [.int 0, .ref lH, .ref lB, .ref lJ, .ref aR, .ref aL, .int 0, .int 0, .int 0, .ref lC, .ref aM, .ref aP, .int 0, .int 0, .int 0, .int (-1), .int (-1), .int 0, .int 0, .long 0])), (lJ, .inr (2, [.int 0, .ref eT, .int 0])), (lC, .inr (2, [.int 0, .ref eT, .int 0]))]) [2, 5, 6] rfl
    have hKc := hK.sub (tys' := []) [] rfl
    have hDc := hD.sub (ws' := [(y0, .inr (8, [.int 0, .ref lH, .ref lB, .ref lJ, .ref aR, .ref aL, .int 0, .int 0, .int 0, .ref lC, .ref aM, .ref aP, .int 0, .int 0, .int 0, .int (-1), .int (-1), .int 0, .int 0, .long 0])), (lJ, .inr (2, [.int 0, .ref eT, .int 0])), (lC, .inr (2, [.int 0, .ref eT, .int 0]))]) [2, 5, 6] (by decide) rfl
    have hFc := va_free (wc := [(y0, .inr (8, [.int 0, .ref lH, .ref lB, .ref lJ, .ref aR, .ref aL, .int 0, .int 0, .int 0, .ref lC, .ref aM, .ref aP, .int 0, .int 0, .int 0, .int (-1), .int (-1), .int 0, .int 0, .long 0])), (lJ, .inr (2, [.int 0, .ref eT, .int 0])), (lC, .inr (2, [.int 0, .ref eT, .int 0]))]) hD hS hA [2, 5, 6] rfl
    refine va_calli (va_runV (As := [.int (xs 1), .int (xs 2), .int (xs 3)]) (rest := []) ⟨hx, hb, hml, hown, hts⟩ (r_judge l D eT y0 lH lB lJ aR aL lC aM aP 0 (xs 1) (xs 2) (xs 3) H.size a1 a2 b1 b2 d1 d2) (cwV 3 hts gL_law_X5_judge rfl rfl rfl (by decide +kernel) ⟨Nat.le_of_ble_eq_true rfl, Nat.le_of_ble_eq_true rfl⟩) (pc_v (ci := 8) (q0 := 0) rfl rfl hPc hDc hKc hE hS hFc) rfl rfl hl.1 rfl (lv_room (Nat.le_of_ble_eq_true rfl)) dL_law_378 ⟨Nat.le_of_ble_eq_true rfl, Nat.le_of_ble_eq_true rfl⟩) hS (fun q _ h => hFc q h) hFc (fun r u t H1 locs ht hvm hw hB hz1 hk1 hS => ?_)
    have hw : r = 0 := hw
    rw [hw]
    obtain ⟨hP1, hK1, hD1⟩ := hB
    rw [ht] at hP1
    have hK1 := va_K.moved hvm.symm hK1
    obtain ⟨hP, hD⟩ := va_join (wr := [(rN, .inr (6, [.int 7, .int 100, .int 800, .int 10])), (rX, .inr (6, [.int 7, .int 100, .int 800, .int 10])), (lH, .inr (2, [.int 0, .ref eT, .int 0])), (lB, .inr (2, [.int 0, .ref eT, .int 0])), (aR, .inl (cI, 4, .inl fR)), (aL, .inl (cL, 4, .inl fL)), (aM, .inl (cM, 5, .inr (.inr (.inr (.inr gM))))), (m0, .inl (cR, 16, .inl f0)), (m1, .inl (cR, 16, .inl f1)), (m2, .inl (cR, 16, .inl f2)), (m3, .inl (cR, 16, .inl f3)), (m4, .inl (cR, 16, .inl f4)), (ho, .inl (cO, 1, .inr (.inl (vp_updL fo (Int32.toNatClampNeg 0) 0))))]) (w1 := [(y0, .inr (8, [.int 0, .ref lH, .ref lB, .ref lJ, .ref aR, .ref aL, .int 0, .int 0, .int 0, .ref lC, .ref aM, .ref aP, .int 0, .int 0, .int 0, .int (-1), .int (-1), .int 0, .int 0, .long 0]))]) hP hD [2, 5, 6] [0, 1, 3, 4, 7, 8, 9, 10, 11, 12, 13, 14, 15] rfl rfl (by decide) (by decide) hk1 hFc hP1 hD1
    generalize H1 = H at hP hS ⊢
    have hP : va_P D vwCl [(rN, .inr (6, [.int 7, .int 100, .int 800, .int 10])), (rX, .inr (6, [.int 7, .int 100, .int 800, .int 10])), (lH, .inr (2, [.int 0, .ref eT, .int 0])), (lB, .inr (2, [.int 0, .ref eT, .int 0])), (aR, .inl (cI, 4, .inl fR)), (aL, .inl (cL, 4, .inl fL)), (aM, .inl (cM, 5, .inr (.inr (.inr (.inr gM))))), (m0, .inl (cR, 16, .inl f0)), (m1, .inl (cR, 16, .inl f1)), (m2, .inl (cR, 16, .inl f2)), (m3, .inl (cR, 16, .inl f3)), (m4, .inl (cR, 16, .inl f4)), (ho, .inl (cO, 1, .inr (.inl (vp_updL fo (Int32.toNatClampNeg 0) 0)))), (y0, .inr (8, [.int 0, .ref lH, .ref lB, .ref lJ, .ref aR, .ref aL, .int 0, .int 0, .int 0, .ref lC, .ref aM, .ref aP, .int 0, .int 0, .int 0, .int (-1), .int (-1), .int 0, .int 0, .long 0]))] H := hP
    have hD : va_D (fun q : Nat => s.heap.size ≤ q) [(rN, .inr (6, [.int 7, .int 100, .int 800, .int 10])), (rX, .inr (6, [.int 7, .int 100, .int 800, .int 10])), (lH, .inr (2, [.int 0, .ref eT, .int 0])), (lB, .inr (2, [.int 0, .ref eT, .int 0])), (aR, .inl (cI, 4, .inl fR)), (aL, .inl (cL, 4, .inl fL)), (aM, .inl (cM, 5, .inr (.inr (.inr (.inr gM))))), (m0, .inl (cR, 16, .inl f0)), (m1, .inl (cR, 16, .inl f1)), (m2, .inl (cR, 16, .inl f2)), (m3, .inl (cR, 16, .inl f3)), (m4, .inl (cR, 16, .inl f4)), (ho, .inl (cO, 1, .inr (.inl (vp_updL fo (Int32.toNatClampNeg 0) 0)))), (y0, .inr (8, [.int 0, .ref lH, .ref lB, .ref lJ, .ref aR, .ref aL, .int 0, .int 0, .int 0, .ref lC, .ref aM, .ref aP, .int 0, .int 0, .int 0, .int (-1), .int (-1), .int 0, .int 0, .long 0]))] := hD
    refine W.widen (k := 85) (n := 933) (Nat.le_of_ble_eq_true rfl) (Nat.le_of_ble_eq_true rfl) ?_
    refine lv_istore (lv' := [(6, .int 0), (5, .int 0), (0, .ref b), (1, .ref x0), (2, .ref y0), (3, .ref ho), (4, .int 0)]) hx hb dL_law_381 hl (by decide) rfl (fun ls hl => ?_)
    refine lv_aload_n hx hb dL_law_383 rfl (lv_at hl 4 rfl) ?_
    have hPc := hP.sub (ws' := [(y0, .inr (8, [.int 0, .ref lH, .ref lB, .ref lJ, .ref aR, .ref aL, .int 0, .int 0, .int 0, .ref lC, .ref aM, .ref aP, .int 0, .int 0, .int 0, .int (-1), .int (-1), .int 0, .int 0, .long 0]))]) [13] rfl
    have hKc := hK.sub (tys' := []) [] rfl
    refine va_calli (va_runV (As := []) (rest := []) ⟨hx, hb, hml, hown, hts⟩ (r_thrown l D eT y0 lH lB lJ aR aL lC aM aP 0 0 0 H.size ) (cwV 0 hts gL_law_X5_thrown rfl rfl rfl (by decide +kernel) ⟨Nat.le_of_ble_eq_true rfl, Nat.le_of_ble_eq_true rfl⟩) (pr_v (ci := 8) (q0 := 0) rfl rfl hPc hKc hE hS hA) rfl rfl hl.1 rfl (lv_room (Nat.le_of_ble_eq_true rfl)) dL_law_384 ⟨Nat.le_of_ble_eq_true rfl, Nat.le_of_ble_eq_true rfl⟩) hS (fun q h1 h2 => ro_A h1 h2) (fun q h => ro_F hS hA q h) (fun r u t H1 locs ht hvm hw hB hz1 hk1 hS => ?_)
    have hw : r = 0 := hw
    rw [hw]
    have hP := ro_P hP hk1
    generalize H1 = H at hP hS ⊢
    refine lv_iload hx hb dL_law_387 (lv_at hl 1 rfl) ?_
    refine lv_icmp_eq (tgt := 394) hx hb dL_law_389 (by decide) (fun _ => ?_) (fun h => absurd (by decide) h)
    refine lv_iload hx hb dL_law_394 (lv_at hl 1 rfl) ?_
    refine lv_if_ne (tgt := 411) hx hb dL_law_396 (by decide) (fun h => absurd (by decide) h) (fun _ => ?_)
    refine lv_aload_n hx hb dL_law_399 rfl (lv_at hl 5 rfl) ?_
    refine lv_iconst (v := 0) hx hb dL_law_400 (by decide) ?_
    refine va_lald hx hb hK hP 12 5 rfl rfl (by unfold vp_in; decide +kernel) dL_law_401 ?_
    refine lv_topl (fun z_13 ez_13 => ?_)
    have ez_13 : z_13 = 0 := ez_13.trans pk_uLs
    rw [ez_13]
    refine lv_iload hx hb dL_law_402 (lv_at hl 0 rfl) ?_
    refine lv_i2l (v := 0) hx hb dL_law_404 (by decide) ?_
    refine W.lcmp hx hb dL_law_405 ?_
    refine lv_topi (fun z_14 ez_14 => ?_)
    have ez_14 : z_14 = 0 := ez_14.trans (by decide +kernel)
    rw [ez_14]
    refine lv_if_eq (tgt := 411) hx hb dL_law_406 (by decide) (fun _ => ?_) (fun h => absurd (by decide) h)
    refine lv_goto (tgt := 1835) hx hb dL_law_411 (by decide) ?_
    refine W.widen (k := 2000) (n := 20000) (Nat.le_of_ble_eq_true rfl) (Nat.le_of_ble_eq_true rfl) ?_
    exact kx _ _ _ hS (lv_sub hl [2, 3, 4, 5, 6] rfl)
  · skip
    refine lv_aload_n hx hb dL_law_334 rfl (lv_at hl 1 rfl) ?_
    refine lv_aload_n hx hb dL_law_335 rfl (lv_at hl 0 rfl) ?_
    refine lv_iload hx hb dL_law_336 (lv_at hl 4 rfl) ?_
    refine lv_iconst (v := 1) hx hb dL_law_338 (by decide) ?_
    refine lv_iadd hx hb dL_law_339 ?_
    refine lv_topi (fun z_15 ez_15 => ?_)
    have ez_15 : z_15 = 1 := ez_15.trans (by decide +kernel)
    rw [ez_15]
    refine va_sld hx hb hX hbl hbA hS (show vp_in 1 7 from by unfold vp_in; decide +kernel) dL_law_340 ?_
    refine lv_topi (fun z_16 ez_16 => ?_)
    have ez_16 : z_16 = (xs 1) := ez_16
    rw [ez_16]
    refine lv_aload_n hx hb dL_law_341 rfl (lv_at hl 0 rfl) ?_
    refine lv_iload hx hb dL_law_342 (lv_at hl 4 rfl) ?_
    refine lv_iconst (v := 2) hx hb dL_law_344 (by decide) ?_
    refine lv_iadd hx hb dL_law_345 ?_
    refine lv_topi (fun z_17 ez_17 => ?_)
    have ez_17 : z_17 = 2 := ez_17.trans (by decide +kernel)
    rw [ez_17]
    refine va_sld hx hb hX hbl hbA hS (show vp_in 2 7 from by unfold vp_in; decide +kernel) dL_law_346 ?_
    refine lv_topi (fun z_18 ez_18 => ?_)
    have ez_18 : z_18 = (xs 2) := ez_18
    rw [ez_18]
    refine lv_aload_n hx hb dL_law_347 rfl (lv_at hl 0 rfl) ?_
    refine lv_iload hx hb dL_law_348 (lv_at hl 4 rfl) ?_
    refine lv_iconst (v := 3) hx hb dL_law_350 (by decide) ?_
    refine lv_iadd hx hb dL_law_351 ?_
    refine lv_topi (fun z_19 ez_19 => ?_)
    have ez_19 : z_19 = 3 := ez_19.trans (by decide +kernel)
    rw [ez_19]
    refine va_sld hx hb hX hbl hbA hS (show vp_in 3 7 from by unfold vp_in; decide +kernel) dL_law_352 ?_
    refine lv_topi (fun z_20 ez_20 => ?_)
    have ez_20 : z_20 = (xs 3) := ez_20
    rw [ez_20]
    refine lv_aload_n hx hb dL_law_353 rfl (lv_at hl 3 rfl) ?_
    have hPc := hP.sub (ws' := [(x0, .inr (7, [.ref aH, .ref aB, .ref aJ, .int 0, .int 0, .int 0, .ref rN, .ref rX, .int 0, .int 0, .int 0, .int 0, .int 0, .int 0, .int (-1), .int (-1), .int 0, .int 0, .ref aV])), (ho, .inl (cO, 1, .inr (.inl fo)))]) [0, 18] rfl
    have hKc := hK.sub (tys' := [(cO, .long)]) [5] rfl
    have hDc := hD.sub (ws' := [(x0, .inr (7, [.ref aH, .ref aB, .ref aJ, .int 0, .int 0, .int 0, .ref rN, .ref rX, .int 0, .int 0, .int 0, .int 0, .int 0, .int 0, .int (-1), .int (-1), .int 0, .int 0, .ref aV])), (ho, .inl (cO, 1, .inr (.inl fo)))]) [0, 18] (by decide) rfl
    have hFc := va_free (wc := [(x0, .inr (7, [.ref aH, .ref aB, .ref aJ, .int 0, .int 0, .int 0, .ref rN, .ref rX, .int 0, .int 0, .int 0, .int 0, .int 0, .int 0, .int (-1), .int (-1), .int 0, .int 0, .ref aV])), (ho, .inl (cO, 1, .inr (.inl fo)))]) hD hS hA [0, 18] rfl
    refine va_calli (vx_runSW (As := [.ref x0, .int (xs 1), .int (xs 2), .int (xs 3), .ref ho]) (rest := []) ⟨hx, hb, hml, hown, hts⟩ (w_judge_f l hl0 D eT x0 aH aB aJ rN rX aV ho cO fo (xs 1) (xs 2) (xs 3) H.size hn) (vx_cwSW 5 hts gL_law_L_judge rfl rfl rfl (by decide +kernel) ⟨Nat.le_of_ble_eq_true rfl, Nat.le_of_ble_eq_true rfl⟩) (pc_s hPc hDc hKc hE hS hFc) rfl rfl hl.1 rfl (lv_room (Nat.le_of_ble_eq_true rfl)) dL_law_354 ⟨Nat.le_of_ble_eq_true rfl, Nat.le_of_ble_eq_true rfl⟩) hS (fun q _ h => hFc q h) hFc (fun r u t H1 locs ht hvm hw hB hz1 hk1 hS => ?_)
    have hw : r = 1 := hw
    rw [hw]
    obtain ⟨hP1, hK1, hD1⟩ := hB
    rw [ht] at hP1
    have hK1 := va_K.moved hvm.symm hK1
    obtain ⟨hP, hD⟩ := va_join (wr := [(aJ, .inl (cJ, 5, .inr (.inr (.inr (.inr fJ))))), (j0, .inr (5, [.int 0, .int 0, .int 0, .int 0, .int 0, .ref c1, .ref c2, .int 0, .int 0, .int 0, .int 0, .ref c3, .int 0, .ref c4, .ref c5, .int 0])), (rN, .inr (6, [.int 7, .int 100, .int 800, .int 10])), (rX, .inr (6, [.int 7, .int 100, .int 800, .int 10])), (y0, .inr (8, [.int 0, .ref lH, .ref lB, .ref lJ, .ref aR, .ref aL, .int 0, .int 0, .int 0, .ref lC, .ref aM, .ref aP, .int 0, .int 0, .int 0, .int (-1), .int (-1), .int 0, .int 0, .long 0])), (lH, .inr (2, [.int 0, .ref eT, .int 0])), (lB, .inr (2, [.int 0, .ref eT, .int 0])), (lJ, .inr (2, [.int 0, .ref eT, .int 0])), (lC, .inr (2, [.int 0, .ref eT, .int 0])), (aR, .inl (cI, 4, .inl fR)), (aL, .inl (cL, 4, .inl fL)), (aM, .inl (cM, 5, .inr (.inr (.inr (.inr gM))))), (m0, .inl (cR, 16, .inl f0)), (m1, .inl (cR, 16, .inl f1)), (m2, .inl (cR, 16, .inl f2)), (m3, .inl (cR, 16, .inl f3)), (m4, .inl (cR, 16, .inl f4))]) (w1 := [(ho, .inl (cO, 1, .inr (.inl fo)))]) hP hD [0, 18] [1, 2, 3, 4, 5, 6, 7, 8, 9, 10, 11, 12, 13, 14, 15, 16, 17] rfl rfl (by decide) (by decide) hk1 hFc hP1 hD1
    generalize H1 = H at hP hS ⊢
    have hP : va_P D vwCl [(aJ, .inl (cJ, 5, .inr (.inr (.inr (.inr fJ))))), (j0, .inr (5, [.int 0, .int 0, .int 0, .int 0, .int 0, .ref c1, .ref c2, .int 0, .int 0, .int 0, .int 0, .ref c3, .int 0, .ref c4, .ref c5, .int 0])), (rN, .inr (6, [.int 7, .int 100, .int 800, .int 10])), (rX, .inr (6, [.int 7, .int 100, .int 800, .int 10])), (y0, .inr (8, [.int 0, .ref lH, .ref lB, .ref lJ, .ref aR, .ref aL, .int 0, .int 0, .int 0, .ref lC, .ref aM, .ref aP, .int 0, .int 0, .int 0, .int (-1), .int (-1), .int 0, .int 0, .long 0])), (lH, .inr (2, [.int 0, .ref eT, .int 0])), (lB, .inr (2, [.int 0, .ref eT, .int 0])), (lJ, .inr (2, [.int 0, .ref eT, .int 0])), (lC, .inr (2, [.int 0, .ref eT, .int 0])), (aR, .inl (cI, 4, .inl fR)), (aL, .inl (cL, 4, .inl fL)), (aM, .inl (cM, 5, .inr (.inr (.inr (.inr gM))))), (m0, .inl (cR, 16, .inl f0)), (m1, .inl (cR, 16, .inl f1)), (m2, .inl (cR, 16, .inl f2)), (m3, .inl (cR, 16, .inl f3)), (m4, .inl (cR, 16, .inl f4)), (ho, .inl (cO, 1, .inr (.inl fo)))] H := hP
    have hD : va_D (fun q : Nat => s.heap.size ≤ q) [(aJ, .inl (cJ, 5, .inr (.inr (.inr (.inr fJ))))), (j0, .inr (5, [.int 0, .int 0, .int 0, .int 0, .int 0, .ref c1, .ref c2, .int 0, .int 0, .int 0, .int 0, .ref c3, .int 0, .ref c4, .ref c5, .int 0])), (rN, .inr (6, [.int 7, .int 100, .int 800, .int 10])), (rX, .inr (6, [.int 7, .int 100, .int 800, .int 10])), (y0, .inr (8, [.int 0, .ref lH, .ref lB, .ref lJ, .ref aR, .ref aL, .int 0, .int 0, .int 0, .ref lC, .ref aM, .ref aP, .int 0, .int 0, .int 0, .int (-1), .int (-1), .int 0, .int 0, .long 0])), (lH, .inr (2, [.int 0, .ref eT, .int 0])), (lB, .inr (2, [.int 0, .ref eT, .int 0])), (lJ, .inr (2, [.int 0, .ref eT, .int 0])), (lC, .inr (2, [.int 0, .ref eT, .int 0])), (aR, .inl (cI, 4, .inl fR)), (aL, .inl (cL, 4, .inl fL)), (aM, .inl (cM, 5, .inr (.inr (.inr (.inr gM))))), (m0, .inl (cR, 16, .inl f0)), (m1, .inl (cR, 16, .inl f1)), (m2, .inl (cR, 16, .inl f2)), (m3, .inl (cR, 16, .inl f3)), (m4, .inl (cR, 16, .inl f4)), (ho, .inl (cO, 1, .inr (.inl fo)))] := hD
    refine W.widen (k := 82) (n := 909) (Nat.le_of_ble_eq_true rfl) (Nat.le_of_ble_eq_true rfl) ?_
    refine lv_istore (lv' := [(5, .int 1), (0, .ref b), (1, .ref x0), (2, .ref y0), (3, .ref ho), (4, .int 0)]) hx hb dL_law_357 hl (by decide) rfl (fun ls hl => ?_)
    refine lv_aload_n hx hb dL_law_359 rfl (lv_at hl 3 rfl) ?_
    refine lv_aload_n hx hb dL_law_360 rfl (lv_at hl 1 rfl) ?_
    refine lv_iload hx hb dL_law_361 (lv_at hl 5 rfl) ?_
    refine lv_iconst (v := 1) hx hb dL_law_363 (by decide) ?_
    refine lv_iadd hx hb dL_law_364 ?_
    refine lv_topi (fun z_21 ez_21 => ?_)
    have ez_21 : z_21 = 1 := ez_21.trans (by decide +kernel)
    rw [ez_21]
    refine va_sld hx hb hX hbl hbA hS (show vp_in 1 7 from by unfold vp_in; decide +kernel) dL_law_365 ?_
    refine lv_topi (fun z_22 ez_22 => ?_)
    have ez_22 : z_22 = (xs 1) := ez_22
    rw [ez_22]
    refine lv_aload_n hx hb dL_law_366 rfl (lv_at hl 1 rfl) ?_
    refine lv_iload hx hb dL_law_367 (lv_at hl 5 rfl) ?_
    refine lv_iconst (v := 2) hx hb dL_law_369 (by decide) ?_
    refine lv_iadd hx hb dL_law_370 ?_
    refine lv_topi (fun z_23 ez_23 => ?_)
    have ez_23 : z_23 = 2 := ez_23.trans (by decide +kernel)
    rw [ez_23]
    refine va_sld hx hb hX hbl hbA hS (show vp_in 2 7 from by unfold vp_in; decide +kernel) dL_law_371 ?_
    refine lv_topi (fun z_24 ez_24 => ?_)
    have ez_24 : z_24 = (xs 2) := ez_24
    rw [ez_24]
    refine lv_aload_n hx hb dL_law_372 rfl (lv_at hl 1 rfl) ?_
    refine lv_iload hx hb dL_law_373 (lv_at hl 5 rfl) ?_
    refine lv_iconst (v := 3) hx hb dL_law_375 (by decide) ?_
    refine lv_iadd hx hb dL_law_376 ?_
    refine lv_topi (fun z_25 ez_25 => ?_)
    have ez_25 : z_25 = 3 := ez_25.trans (by decide +kernel)
    rw [ez_25]
    refine va_sld hx hb hX hbl hbA hS (show vp_in 3 7 from by unfold vp_in; decide +kernel) dL_law_377 ?_
    refine lv_topi (fun z_26 ez_26 => ?_)
    have ez_26 : z_26 = (xs 3) := ez_26
    rw [ez_26]
    have hPc := hP.sub (ws' := [(y0, .inr (8, [.int 0, .ref lH, .ref lB, .ref lJ, .ref aR, .ref aL, .int 0, .int 0, .int 0, .ref lC, .ref aM, .ref aP, .int 0, .int 0, .int 0, .int (-1), .int (-1), .int 0, .int 0, .long 0]))]) [4] rfl
    have hKc := hK.sub (tys' := []) [] rfl
    have hDc := hD.sub (ws' := [(y0, .inr (8, [.int 0, .ref lH, .ref lB, .ref lJ, .ref aR, .ref aL, .int 0, .int 0, .int 0, .ref lC, .ref aM, .ref aP, .int 0, .int 0, .int 0, .int (-1), .int (-1), .int 0, .int 0, .long 0]))]) [4] (by decide) rfl
    have hFc := va_free (wc := [(y0, .inr (8, [.int 0, .ref lH, .ref lB, .ref lJ, .ref aR, .ref aL, .int 0, .int 0, .int 0, .ref lC, .ref aM, .ref aP, .int 0, .int 0, .int 0, .int (-1), .int (-1), .int 0, .int 0, .long 0]))]) hD hS hA [4] rfl
    refine va_calli (va_runV (As := [.int (xs 1), .int (xs 2), .int (xs 3)]) (rest := []) ⟨hx, hb, hml, hown, hts⟩ (r_judge_f l D eT y0 lH lB lJ aR aL lC aM aP 0 (xs 1) (xs 2) (xs 3) H.size hn) (cwV 3 hts gL_law_X5_judge rfl rfl rfl (by decide +kernel) ⟨Nat.le_of_ble_eq_true rfl, Nat.le_of_ble_eq_true rfl⟩) (pc_v (ci := 8) (q0 := 0) rfl rfl hPc hDc hKc hE hS hFc) rfl rfl hl.1 rfl (lv_room (Nat.le_of_ble_eq_true rfl)) dL_law_378 ⟨Nat.le_of_ble_eq_true rfl, Nat.le_of_ble_eq_true rfl⟩) hS (fun q _ h => hFc q h) hFc (fun r u t H1 locs ht hvm hw hB hz1 hk1 hS => ?_)
    have hw : r = 0 := hw
    rw [hw]
    obtain ⟨hP1, hK1, hD1⟩ := hB
    rw [ht] at hP1
    have hK1 := va_K.moved hvm.symm hK1
    obtain ⟨hP, hD⟩ := va_join (wr := [(aJ, .inl (cJ, 5, .inr (.inr (.inr (.inr fJ))))), (j0, .inr (5, [.int 0, .int 0, .int 0, .int 0, .int 0, .ref c1, .ref c2, .int 0, .int 0, .int 0, .int 0, .ref c3, .int 0, .ref c4, .ref c5, .int 0])), (rN, .inr (6, [.int 7, .int 100, .int 800, .int 10])), (rX, .inr (6, [.int 7, .int 100, .int 800, .int 10])), (lH, .inr (2, [.int 0, .ref eT, .int 0])), (lB, .inr (2, [.int 0, .ref eT, .int 0])), (lJ, .inr (2, [.int 0, .ref eT, .int 0])), (lC, .inr (2, [.int 0, .ref eT, .int 0])), (aR, .inl (cI, 4, .inl fR)), (aL, .inl (cL, 4, .inl fL)), (aM, .inl (cM, 5, .inr (.inr (.inr (.inr gM))))), (m0, .inl (cR, 16, .inl f0)), (m1, .inl (cR, 16, .inl f1)), (m2, .inl (cR, 16, .inl f2)), (m3, .inl (cR, 16, .inl f3)), (m4, .inl (cR, 16, .inl f4)), (ho, .inl (cO, 1, .inr (.inl fo)))]) (w1 := [(y0, .inr (8, [.int 1, .ref lH, .ref lB, .ref lJ, .ref aR, .ref aL, .int 0, .int 0, .int 0, .ref lC, .ref aM, .ref aP, .int 0, .int 0, .int 0, .int (-1), .int (-1), .int 0, .int 0, .long 0]))]) hP hD [4] [0, 1, 2, 3, 5, 6, 7, 8, 9, 10, 11, 12, 13, 14, 15, 16, 17] rfl rfl (by decide) (by decide) hk1 hFc hP1 hD1
    generalize H1 = H at hP hS ⊢
    have hP : va_P D vwCl [(aJ, .inl (cJ, 5, .inr (.inr (.inr (.inr fJ))))), (j0, .inr (5, [.int 0, .int 0, .int 0, .int 0, .int 0, .ref c1, .ref c2, .int 0, .int 0, .int 0, .int 0, .ref c3, .int 0, .ref c4, .ref c5, .int 0])), (rN, .inr (6, [.int 7, .int 100, .int 800, .int 10])), (rX, .inr (6, [.int 7, .int 100, .int 800, .int 10])), (lH, .inr (2, [.int 0, .ref eT, .int 0])), (lB, .inr (2, [.int 0, .ref eT, .int 0])), (lJ, .inr (2, [.int 0, .ref eT, .int 0])), (lC, .inr (2, [.int 0, .ref eT, .int 0])), (aR, .inl (cI, 4, .inl fR)), (aL, .inl (cL, 4, .inl fL)), (aM, .inl (cM, 5, .inr (.inr (.inr (.inr gM))))), (m0, .inl (cR, 16, .inl f0)), (m1, .inl (cR, 16, .inl f1)), (m2, .inl (cR, 16, .inl f2)), (m3, .inl (cR, 16, .inl f3)), (m4, .inl (cR, 16, .inl f4)), (ho, .inl (cO, 1, .inr (.inl fo))), (y0, .inr (8, [.int 1, .ref lH, .ref lB, .ref lJ, .ref aR, .ref aL, .int 0, .int 0, .int 0, .ref lC, .ref aM, .ref aP, .int 0, .int 0, .int 0, .int (-1), .int (-1), .int 0, .int 0, .long 0]))] H := hP
    have hD : va_D (fun q : Nat => s.heap.size ≤ q) [(aJ, .inl (cJ, 5, .inr (.inr (.inr (.inr fJ))))), (j0, .inr (5, [.int 0, .int 0, .int 0, .int 0, .int 0, .ref c1, .ref c2, .int 0, .int 0, .int 0, .int 0, .ref c3, .int 0, .ref c4, .ref c5, .int 0])), (rN, .inr (6, [.int 7, .int 100, .int 800, .int 10])), (rX, .inr (6, [.int 7, .int 100, .int 800, .int 10])), (lH, .inr (2, [.int 0, .ref eT, .int 0])), (lB, .inr (2, [.int 0, .ref eT, .int 0])), (lJ, .inr (2, [.int 0, .ref eT, .int 0])), (lC, .inr (2, [.int 0, .ref eT, .int 0])), (aR, .inl (cI, 4, .inl fR)), (aL, .inl (cL, 4, .inl fL)), (aM, .inl (cM, 5, .inr (.inr (.inr (.inr gM))))), (m0, .inl (cR, 16, .inl f0)), (m1, .inl (cR, 16, .inl f1)), (m2, .inl (cR, 16, .inl f2)), (m3, .inl (cR, 16, .inl f3)), (m4, .inl (cR, 16, .inl f4)), (ho, .inl (cO, 1, .inr (.inl fo))), (y0, .inr (8, [.int 1, .ref lH, .ref lB, .ref lJ, .ref aR, .ref aL, .int 0, .int 0, .int 0, .ref lC, .ref aM, .ref aP, .int 0, .int 0, .int 0, .int (-1), .int (-1), .int 0, .int 0, .long 0]))] := hD
    refine lv_istore (lv' := [(6, .int 0), (5, .int 1), (0, .ref b), (1, .ref x0), (2, .ref y0), (3, .ref ho), (4, .int 0)]) hx hb dL_law_381 hl (by decide) rfl (fun ls hl => ?_)
    refine lv_aload_n hx hb dL_law_383 rfl (lv_at hl 4 rfl) ?_
    have hPc := hP.sub (ws' := [(y0, .inr (8, [.int 1, .ref lH, .ref lB, .ref lJ, .ref aR, .ref aL, .int 0, .int 0, .int 0, .ref lC, .ref aM, .ref aP, .int 0, .int 0, .int 0, .int (-1), .int (-1), .int 0, .int 0, .long 0]))]) [17] rfl
    have hKc := hK.sub (tys' := []) [] rfl
    refine va_calli (va_runV (As := []) (rest := []) ⟨hx, hb, hml, hown, hts⟩ (r_thrown l D eT y0 lH lB lJ aR aL lC aM aP 0 1 0 H.size ) (cwV 0 hts gL_law_X5_thrown rfl rfl rfl (by decide +kernel) ⟨Nat.le_of_ble_eq_true rfl, Nat.le_of_ble_eq_true rfl⟩) (pr_v (ci := 8) (q0 := 0) rfl rfl hPc hKc hE hS hA) rfl rfl hl.1 rfl (lv_room (Nat.le_of_ble_eq_true rfl)) dL_law_384 ⟨Nat.le_of_ble_eq_true rfl, Nat.le_of_ble_eq_true rfl⟩) hS (fun q h1 h2 => ro_A h1 h2) (fun q h => ro_F hS hA q h) (fun r u t H1 locs ht hvm hw hB hz1 hk1 hS => ?_)
    have hw : r = 1 := hw
    rw [hw]
    have hP := ro_P hP hk1
    generalize H1 = H at hP hS ⊢
    refine lv_iload hx hb dL_law_387 (lv_at hl 1 rfl) ?_
    refine lv_icmp_eq (tgt := 394) hx hb dL_law_389 (by decide) (fun _ => ?_) (fun h => absurd (by decide) h)
    refine lv_iload hx hb dL_law_394 (lv_at hl 1 rfl) ?_
    refine lv_if_ne (tgt := 411) hx hb dL_law_396 (by decide) (fun _ => ?_) (fun h => absurd h (by decide))
    refine lv_goto (tgt := 1835) hx hb dL_law_411 (by decide) ?_
    refine W.widen (k := 2000) (n := 20000) (Nat.le_of_ble_eq_true rfl) (Nat.le_of_ble_eq_true rfl) ?_
    exact kx _ _ _ hS (lv_sub hl [2, 3, 4, 5, 6] rfl)
set_option maxHeartbeats 8000000 in
set_option maxRecDepth 100000 in
theorem law_c3 {p : Program} {l : Launch} {e : Env} {s : State} {m : MethodId} {args : Array Value} {below : List Frame} {meth : Method} {c : Code} {Q : State → Prop} {b : Nat} {xs : Nat → Int32} {D : va_G} {eT : Nat} {x0 aH aB aJ rN rX aV j0 c1 c2 c3 c4 c5 y0 lH lB lJ aR aL lC aM aP m0 m1 m2 m3 m4 ho : Nat} {cJ cI cL cM cR cO : ClassId} {fJ : Nat → Option Nat} {fR : Nat → Int32} {fL : Nat → Int32} {gM : Nat → Option Nat} {f0 : Nat → Int32} {f1 : Nat → Int32} {f2 : Nat → Int32} {f3 : Nat → Int32} {f4 : Nat → Int32} {fo : Nat → Int64} (hl0 : l.stackTraces = false) (hx : p.tables.exec = Jvm.exec) (hb : c.code = cL_law) (hml : c.maxLocals = 9) (hown : s.vm.findClass RL = some m.cls) (hts : ∀ w ∈ wsL_law, w.before args s = true) (hX : va_X b 7 xs s s.heap) (hbl : b < s.heap.size) (hE : ev eT (fun q : Nat => s.heap.size ≤ q) s s.heap) (hJ : fJ 0 = some j0) (hR : fR 3 = 10) (hg0 : gM 0 = some m0) (hg1 : gM 1 = some m1) (hg2 : gM 2 = some m2) (hg3 : gM 3 = some m3) (hg4 : gM 4 = some m4) (hm0 : ∀ k, k < 16 → f0 k = -1) (hm1 : ∀ k, k < 16 → f1 k = -1) (hm2 : ∀ k, k < 16 → f2 k = -1) (hm3 : ∀ k, k < 16 → f3 k = -1) (hm4 : ∀ k, k < 16 → f4 k = -1) (hK : va_K D vwCl [(cJ, .object RX2), (cI, .int), (cL, .int), (cM, .array .int), (cR, .int), (cO, .long)] s) {H : Heap} {locs : List Loc} (hP : va_P D vwCl [(x0, .inr (7, [.ref aH, .ref aB, .ref aJ, .int 0, .int 0, .int 0, .ref rN, .ref rX, .int 0, .int 0, .int 0, .int 0, .int 0, .int 0, .int (-1), .int (-1), .int 0, .int 0, .ref aV])), (aJ, .inl (cJ, 5, .inr (.inr (.inr (.inr fJ))))), (j0, .inr (5, [.int 0, .int 0, .int 0, .int 0, .int 0, .ref c1, .ref c2, .int 0, .int 0, .int 0, .int 0, .ref c3, .int 0, .ref c4, .ref c5, .int 0])), (rN, .inr (6, [.int 7, .int 100, .int 800, .int 10])), (rX, .inr (6, [.int 7, .int 100, .int 800, .int 10])), (y0, .inr (8, [.int 0, .ref lH, .ref lB, .ref lJ, .ref aR, .ref aL, .int 0, .int 0, .int 0, .ref lC, .ref aM, .ref aP, .int 0, .int 0, .int 0, .int (-1), .int (-1), .int 0, .int 0, .long 0])), (lH, .inr (2, [.int 0, .ref eT, .int 0])), (lB, .inr (2, [.int 0, .ref eT, .int 0])), (lJ, .inr (2, [.int 0, .ref eT, .int 0])), (lC, .inr (2, [.int 0, .ref eT, .int 0])), (aR, .inl (cI, 4, .inl fR)), (aL, .inl (cL, 4, .inl fL)), (aM, .inl (cM, 5, .inr (.inr (.inr (.inr gM))))), (m0, .inl (cR, 16, .inl f0)), (m1, .inl (cR, 16, .inl f1)), (m2, .inl (cR, 16, .inl f2)), (m3, .inl (cR, 16, .inl f3)), (m4, .inl (cR, 16, .inl f4)), (ho, .inl (cO, 1, .inr (.inl fo)))] H) (hD : va_D (fun q : Nat => s.heap.size ≤ q) [(x0, .inr (7, [.ref aH, .ref aB, .ref aJ, .int 0, .int 0, .int 0, .ref rN, .ref rX, .int 0, .int 0, .int 0, .int 0, .int 0, .int 0, .int (-1), .int (-1), .int 0, .int 0, .ref aV])), (aJ, .inl (cJ, 5, .inr (.inr (.inr (.inr fJ))))), (j0, .inr (5, [.int 0, .int 0, .int 0, .int 0, .int 0, .ref c1, .ref c2, .int 0, .int 0, .int 0, .int 0, .ref c3, .int 0, .ref c4, .ref c5, .int 0])), (rN, .inr (6, [.int 7, .int 100, .int 800, .int 10])), (rX, .inr (6, [.int 7, .int 100, .int 800, .int 10])), (y0, .inr (8, [.int 0, .ref lH, .ref lB, .ref lJ, .ref aR, .ref aL, .int 0, .int 0, .int 0, .ref lC, .ref aM, .ref aP, .int 0, .int 0, .int 0, .int (-1), .int (-1), .int 0, .int 0, .long 0])), (lH, .inr (2, [.int 0, .ref eT, .int 0])), (lB, .inr (2, [.int 0, .ref eT, .int 0])), (lJ, .inr (2, [.int 0, .ref eT, .int 0])), (lC, .inr (2, [.int 0, .ref eT, .int 0])), (aR, .inl (cI, 4, .inl fR)), (aL, .inl (cL, 4, .inl fL)), (aM, .inl (cM, 5, .inr (.inr (.inr (.inr gM))))), (m0, .inl (cR, 16, .inl f0)), (m1, .inl (cR, 16, .inl f1)), (m2, .inl (cR, 16, .inl f2)), (m3, .inl (cR, 16, .inl f3)), (m4, .inl (cR, 16, .inl f4)), (ho, .inl (cO, 1, .inr (.inl fo)))]) (hS : va_S (fun q : Nat => s.heap.size ≤ q) s.heap H locs) {ls : Array Slot} (hl : lv_has ls 9 [(0, .ref b), (1, .ref x0), (2, .ref y0), (3, .ref ho), (4, .int 0)]) (kx : ∀ (H : Heap) (locs : List Loc) (ls : Array Slot), va_S (fun q : Nat => s.heap.size ≤ q) s.heap H locs → lv_has ls 9 [(0, .ref b), (1, .ref x0), (2, .ref y0), (3, .ref ho), (4, .int 0)] → W p l e room_1 s m args below meth c H locs 2000 20000 Q (F0 m 1835 ls [])) : W p l e room_1 s m args below meth c H locs 81 903 Q (F0 m 414 ls []) := by
  have hA : ∀ q : Nat, s.heap.size ≤ q → (fun q : Nat => s.heap.size ≤ q) q := fun _ h => h
  have hbA : ¬ (fun q : Nat => s.heap.size ≤ q) b := Nat.not_le.mpr hbl
  · skip
    refine lv_aload_n hx hb dL_law_414 rfl (lv_at hl 1 rfl) ?_
    refine lv_aload_n hx hb dL_law_415 rfl (lv_at hl 0 rfl) ?_
    refine lv_iload hx hb dL_law_416 (lv_at hl 4 rfl) ?_
    refine lv_iconst (v := 1) hx hb dL_law_418 (by decide) ?_
    refine lv_iadd hx hb dL_law_419 ?_
    refine lv_topi (fun z_1 ez_1 => ?_)
    have ez_1 : z_1 = 1 := ez_1.trans (by decide +kernel)
    rw [ez_1]
    refine va_sld hx hb hX hbl hbA hS (show vp_in 1 7 from by unfold vp_in; decide +kernel) dL_law_420 ?_
    refine lv_topi (fun z_2 ez_2 => ?_)
    have ez_2 : z_2 = (xs 1) := ez_2
    rw [ez_2]
    refine lv_aload_n hx hb dL_law_421 rfl (lv_at hl 0 rfl) ?_
    refine lv_iload hx hb dL_law_422 (lv_at hl 4 rfl) ?_
    refine lv_iconst (v := 2) hx hb dL_law_424 (by decide) ?_
    refine lv_iadd hx hb dL_law_425 ?_
    refine lv_topi (fun z_3 ez_3 => ?_)
    have ez_3 : z_3 = 2 := ez_3.trans (by decide +kernel)
    rw [ez_3]
    refine va_sld hx hb hX hbl hbA hS (show vp_in 2 7 from by unfold vp_in; decide +kernel) dL_law_426 ?_
    refine lv_topi (fun z_4 ez_4 => ?_)
    have ez_4 : z_4 = (xs 2) := ez_4
    rw [ez_4]
    refine lv_aload_n hx hb dL_law_427 rfl (lv_at hl 3 rfl) ?_
    have hPc := hP.sub (ws' := [(x0, .inr (7, [.ref aH, .ref aB, .ref aJ, .int 0, .int 0, .int 0, .ref rN, .ref rX, .int 0, .int 0, .int 0, .int 0, .int 0, .int 0, .int (-1), .int (-1), .int 0, .int 0, .ref aV])), (ho, .inl (cO, 1, .inr (.inl fo)))]) [0, 18] rfl
    have hKc := hK.sub (tys' := [(cO, .long)]) [5] rfl
    have hDc := hD.sub (ws' := [(x0, .inr (7, [.ref aH, .ref aB, .ref aJ, .int 0, .int 0, .int 0, .ref rN, .ref rX, .int 0, .int 0, .int 0, .int 0, .int 0, .int 0, .int (-1), .int (-1), .int 0, .int 0, .ref aV])), (ho, .inl (cO, 1, .inr (.inl fo)))]) [0, 18] (by decide) rfl
    have hFc := va_free (wc := [(x0, .inr (7, [.ref aH, .ref aB, .ref aJ, .int 0, .int 0, .int 0, .ref rN, .ref rX, .int 0, .int 0, .int 0, .int 0, .int 0, .int 0, .int (-1), .int (-1), .int 0, .int 0, .ref aV])), (ho, .inl (cO, 1, .inr (.inl fo)))]) hD hS hA [0, 18] rfl
    refine va_calli (vx_runSW (As := [.ref x0, .int (xs 1), .int (xs 2), .ref ho]) (rest := []) ⟨hx, hb, hml, hown, hts⟩ (w_conflict l hl0 D eT x0 aH aB aJ rN rX aV ho cO fo (xs 1) (xs 2) H.size ) (vx_cwSW 4 hts gL_law_L_conflict rfl rfl rfl (by decide +kernel) ⟨Nat.le_of_ble_eq_true rfl, Nat.le_of_ble_eq_true rfl⟩) (pc_s hPc hDc hKc hE hS hFc) rfl rfl hl.1 rfl (lv_room (Nat.le_of_ble_eq_true rfl)) dL_law_428 ⟨Nat.le_of_ble_eq_true rfl, Nat.le_of_ble_eq_true rfl⟩) hS (fun q _ h => hFc q h) hFc (fun r u t H1 locs ht hvm hw hB hz1 hk1 hS => ?_)
    have hw : r = 1 := hw
    rw [hw]
    obtain ⟨hP1, hK1, hD1⟩ := hB
    rw [ht] at hP1
    have hK1 := va_K.moved hvm.symm hK1
    obtain ⟨hP, hD⟩ := va_join (wr := [(aJ, .inl (cJ, 5, .inr (.inr (.inr (.inr fJ))))), (j0, .inr (5, [.int 0, .int 0, .int 0, .int 0, .int 0, .ref c1, .ref c2, .int 0, .int 0, .int 0, .int 0, .ref c3, .int 0, .ref c4, .ref c5, .int 0])), (rN, .inr (6, [.int 7, .int 100, .int 800, .int 10])), (rX, .inr (6, [.int 7, .int 100, .int 800, .int 10])), (y0, .inr (8, [.int 0, .ref lH, .ref lB, .ref lJ, .ref aR, .ref aL, .int 0, .int 0, .int 0, .ref lC, .ref aM, .ref aP, .int 0, .int 0, .int 0, .int (-1), .int (-1), .int 0, .int 0, .long 0])), (lH, .inr (2, [.int 0, .ref eT, .int 0])), (lB, .inr (2, [.int 0, .ref eT, .int 0])), (lJ, .inr (2, [.int 0, .ref eT, .int 0])), (lC, .inr (2, [.int 0, .ref eT, .int 0])), (aR, .inl (cI, 4, .inl fR)), (aL, .inl (cL, 4, .inl fL)), (aM, .inl (cM, 5, .inr (.inr (.inr (.inr gM))))), (m0, .inl (cR, 16, .inl f0)), (m1, .inl (cR, 16, .inl f1)), (m2, .inl (cR, 16, .inl f2)), (m3, .inl (cR, 16, .inl f3)), (m4, .inl (cR, 16, .inl f4))]) (w1 := [(ho, .inl (cO, 1, .inr (.inl fo)))]) hP hD [0, 18] [1, 2, 3, 4, 5, 6, 7, 8, 9, 10, 11, 12, 13, 14, 15, 16, 17] rfl rfl (by decide) (by decide) hk1 hFc hP1 hD1
    generalize H1 = H at hP hS ⊢
    have hP : va_P D vwCl [(aJ, .inl (cJ, 5, .inr (.inr (.inr (.inr fJ))))), (j0, .inr (5, [.int 0, .int 0, .int 0, .int 0, .int 0, .ref c1, .ref c2, .int 0, .int 0, .int 0, .int 0, .ref c3, .int 0, .ref c4, .ref c5, .int 0])), (rN, .inr (6, [.int 7, .int 100, .int 800, .int 10])), (rX, .inr (6, [.int 7, .int 100, .int 800, .int 10])), (y0, .inr (8, [.int 0, .ref lH, .ref lB, .ref lJ, .ref aR, .ref aL, .int 0, .int 0, .int 0, .ref lC, .ref aM, .ref aP, .int 0, .int 0, .int 0, .int (-1), .int (-1), .int 0, .int 0, .long 0])), (lH, .inr (2, [.int 0, .ref eT, .int 0])), (lB, .inr (2, [.int 0, .ref eT, .int 0])), (lJ, .inr (2, [.int 0, .ref eT, .int 0])), (lC, .inr (2, [.int 0, .ref eT, .int 0])), (aR, .inl (cI, 4, .inl fR)), (aL, .inl (cL, 4, .inl fL)), (aM, .inl (cM, 5, .inr (.inr (.inr (.inr gM))))), (m0, .inl (cR, 16, .inl f0)), (m1, .inl (cR, 16, .inl f1)), (m2, .inl (cR, 16, .inl f2)), (m3, .inl (cR, 16, .inl f3)), (m4, .inl (cR, 16, .inl f4)), (ho, .inl (cO, 1, .inr (.inl fo)))] H := hP
    have hD : va_D (fun q : Nat => s.heap.size ≤ q) [(aJ, .inl (cJ, 5, .inr (.inr (.inr (.inr fJ))))), (j0, .inr (5, [.int 0, .int 0, .int 0, .int 0, .int 0, .ref c1, .ref c2, .int 0, .int 0, .int 0, .int 0, .ref c3, .int 0, .ref c4, .ref c5, .int 0])), (rN, .inr (6, [.int 7, .int 100, .int 800, .int 10])), (rX, .inr (6, [.int 7, .int 100, .int 800, .int 10])), (y0, .inr (8, [.int 0, .ref lH, .ref lB, .ref lJ, .ref aR, .ref aL, .int 0, .int 0, .int 0, .ref lC, .ref aM, .ref aP, .int 0, .int 0, .int 0, .int (-1), .int (-1), .int 0, .int 0, .long 0])), (lH, .inr (2, [.int 0, .ref eT, .int 0])), (lB, .inr (2, [.int 0, .ref eT, .int 0])), (lJ, .inr (2, [.int 0, .ref eT, .int 0])), (lC, .inr (2, [.int 0, .ref eT, .int 0])), (aR, .inl (cI, 4, .inl fR)), (aL, .inl (cL, 4, .inl fL)), (aM, .inl (cM, 5, .inr (.inr (.inr (.inr gM))))), (m0, .inl (cR, 16, .inl f0)), (m1, .inl (cR, 16, .inl f1)), (m2, .inl (cR, 16, .inl f2)), (m3, .inl (cR, 16, .inl f3)), (m4, .inl (cR, 16, .inl f4)), (ho, .inl (cO, 1, .inr (.inl fo)))] := hD
    refine W.widen (k := 82) (n := 909) (Nat.le_of_ble_eq_true rfl) (Nat.le_of_ble_eq_true rfl) ?_
    refine lv_istore (lv' := [(5, .int 1), (0, .ref b), (1, .ref x0), (2, .ref y0), (3, .ref ho), (4, .int 0)]) hx hb dL_law_431 hl (by decide) rfl (fun ls hl => ?_)
    refine lv_aload_n hx hb dL_law_433 rfl (lv_at hl 3 rfl) ?_
    refine lv_aload_n hx hb dL_law_434 rfl (lv_at hl 1 rfl) ?_
    refine lv_iload hx hb dL_law_435 (lv_at hl 5 rfl) ?_
    refine lv_iconst (v := 1) hx hb dL_law_437 (by decide) ?_
    refine lv_iadd hx hb dL_law_438 ?_
    refine lv_topi (fun z_5 ez_5 => ?_)
    have ez_5 : z_5 = 1 := ez_5.trans (by decide +kernel)
    rw [ez_5]
    refine va_sld hx hb hX hbl hbA hS (show vp_in 1 7 from by unfold vp_in; decide +kernel) dL_law_439 ?_
    refine lv_topi (fun z_6 ez_6 => ?_)
    have ez_6 : z_6 = (xs 1) := ez_6
    rw [ez_6]
    refine lv_aload_n hx hb dL_law_440 rfl (lv_at hl 1 rfl) ?_
    refine lv_iload hx hb dL_law_441 (lv_at hl 5 rfl) ?_
    refine lv_iconst (v := 2) hx hb dL_law_443 (by decide) ?_
    refine lv_iadd hx hb dL_law_444 ?_
    refine lv_topi (fun z_7 ez_7 => ?_)
    have ez_7 : z_7 = 2 := ez_7.trans (by decide +kernel)
    rw [ez_7]
    refine va_sld hx hb hX hbl hbA hS (show vp_in 2 7 from by unfold vp_in; decide +kernel) dL_law_445 ?_
    refine lv_topi (fun z_8 ez_8 => ?_)
    have ez_8 : z_8 = (xs 2) := ez_8
    rw [ez_8]
    have hPc := hP.sub (ws' := [(y0, .inr (8, [.int 0, .ref lH, .ref lB, .ref lJ, .ref aR, .ref aL, .int 0, .int 0, .int 0, .ref lC, .ref aM, .ref aP, .int 0, .int 0, .int 0, .int (-1), .int (-1), .int 0, .int 0, .long 0])), (lJ, .inr (2, [.int 0, .ref eT, .int 0]))]) [4, 7] rfl
    have hKc := hK.sub (tys' := []) [] rfl
    have hDc := hD.sub (ws' := [(y0, .inr (8, [.int 0, .ref lH, .ref lB, .ref lJ, .ref aR, .ref aL, .int 0, .int 0, .int 0, .ref lC, .ref aM, .ref aP, .int 0, .int 0, .int 0, .int (-1), .int (-1), .int 0, .int 0, .long 0])), (lJ, .inr (2, [.int 0, .ref eT, .int 0]))]) [4, 7] (by decide) rfl
    have hFc := va_free (wc := [(y0, .inr (8, [.int 0, .ref lH, .ref lB, .ref lJ, .ref aR, .ref aL, .int 0, .int 0, .int 0, .ref lC, .ref aM, .ref aP, .int 0, .int 0, .int 0, .int (-1), .int (-1), .int 0, .int 0, .long 0])), (lJ, .inr (2, [.int 0, .ref eT, .int 0]))]) hD hS hA [4, 7] rfl
    refine va_calli (va_runV (As := [.int (xs 1), .int (xs 2)]) (rest := []) ⟨hx, hb, hml, hown, hts⟩ (r_conflict l D eT y0 lH lB lJ aR aL lC aM aP 0 (xs 1) (xs 2) H.size ) (cwV 2 hts gL_law_X5_conflict rfl rfl rfl (by decide +kernel) ⟨Nat.le_of_ble_eq_true rfl, Nat.le_of_ble_eq_true rfl⟩) (pc_v (ci := 8) (q0 := 0) rfl rfl hPc hDc hKc hE hS hFc) rfl rfl hl.1 rfl (lv_room (Nat.le_of_ble_eq_true rfl)) dL_law_446 ⟨Nat.le_of_ble_eq_true rfl, Nat.le_of_ble_eq_true rfl⟩) hS (fun q _ h => hFc q h) hFc (fun r u t H1 locs ht hvm hw hB hz1 hk1 hS => ?_)
    have hw : r = 0 := hw
    rw [hw]
    obtain ⟨hP1, hK1, hD1⟩ := hB
    rw [ht] at hP1
    have hK1 := va_K.moved hvm.symm hK1
    obtain ⟨hP, hD⟩ := va_join (wr := [(aJ, .inl (cJ, 5, .inr (.inr (.inr (.inr fJ))))), (j0, .inr (5, [.int 0, .int 0, .int 0, .int 0, .int 0, .ref c1, .ref c2, .int 0, .int 0, .int 0, .int 0, .ref c3, .int 0, .ref c4, .ref c5, .int 0])), (rN, .inr (6, [.int 7, .int 100, .int 800, .int 10])), (rX, .inr (6, [.int 7, .int 100, .int 800, .int 10])), (lH, .inr (2, [.int 0, .ref eT, .int 0])), (lB, .inr (2, [.int 0, .ref eT, .int 0])), (lC, .inr (2, [.int 0, .ref eT, .int 0])), (aR, .inl (cI, 4, .inl fR)), (aL, .inl (cL, 4, .inl fL)), (aM, .inl (cM, 5, .inr (.inr (.inr (.inr gM))))), (m0, .inl (cR, 16, .inl f0)), (m1, .inl (cR, 16, .inl f1)), (m2, .inl (cR, 16, .inl f2)), (m3, .inl (cR, 16, .inl f3)), (m4, .inl (cR, 16, .inl f4)), (ho, .inl (cO, 1, .inr (.inl fo)))]) (w1 := [(y0, .inr (8, [.int 1, .ref lH, .ref lB, .ref lJ, .ref aR, .ref aL, .int 0, .int 0, .int 0, .ref lC, .ref aM, .ref aP, .int 0, .int 0, .int 0, .int (-1), .int (-1), .int 0, .int 0, .long 0]))]) hP hD [4, 7] [0, 1, 2, 3, 5, 6, 8, 9, 10, 11, 12, 13, 14, 15, 16, 17] rfl rfl (by decide) (by decide) hk1 hFc hP1 hD1
    generalize H1 = H at hP hS ⊢
    have hP : va_P D vwCl [(aJ, .inl (cJ, 5, .inr (.inr (.inr (.inr fJ))))), (j0, .inr (5, [.int 0, .int 0, .int 0, .int 0, .int 0, .ref c1, .ref c2, .int 0, .int 0, .int 0, .int 0, .ref c3, .int 0, .ref c4, .ref c5, .int 0])), (rN, .inr (6, [.int 7, .int 100, .int 800, .int 10])), (rX, .inr (6, [.int 7, .int 100, .int 800, .int 10])), (lH, .inr (2, [.int 0, .ref eT, .int 0])), (lB, .inr (2, [.int 0, .ref eT, .int 0])), (lC, .inr (2, [.int 0, .ref eT, .int 0])), (aR, .inl (cI, 4, .inl fR)), (aL, .inl (cL, 4, .inl fL)), (aM, .inl (cM, 5, .inr (.inr (.inr (.inr gM))))), (m0, .inl (cR, 16, .inl f0)), (m1, .inl (cR, 16, .inl f1)), (m2, .inl (cR, 16, .inl f2)), (m3, .inl (cR, 16, .inl f3)), (m4, .inl (cR, 16, .inl f4)), (ho, .inl (cO, 1, .inr (.inl fo))), (y0, .inr (8, [.int 1, .ref lH, .ref lB, .ref lJ, .ref aR, .ref aL, .int 0, .int 0, .int 0, .ref lC, .ref aM, .ref aP, .int 0, .int 0, .int 0, .int (-1), .int (-1), .int 0, .int 0, .long 0]))] H := hP
    have hD : va_D (fun q : Nat => s.heap.size ≤ q) [(aJ, .inl (cJ, 5, .inr (.inr (.inr (.inr fJ))))), (j0, .inr (5, [.int 0, .int 0, .int 0, .int 0, .int 0, .ref c1, .ref c2, .int 0, .int 0, .int 0, .int 0, .ref c3, .int 0, .ref c4, .ref c5, .int 0])), (rN, .inr (6, [.int 7, .int 100, .int 800, .int 10])), (rX, .inr (6, [.int 7, .int 100, .int 800, .int 10])), (lH, .inr (2, [.int 0, .ref eT, .int 0])), (lB, .inr (2, [.int 0, .ref eT, .int 0])), (lC, .inr (2, [.int 0, .ref eT, .int 0])), (aR, .inl (cI, 4, .inl fR)), (aL, .inl (cL, 4, .inl fL)), (aM, .inl (cM, 5, .inr (.inr (.inr (.inr gM))))), (m0, .inl (cR, 16, .inl f0)), (m1, .inl (cR, 16, .inl f1)), (m2, .inl (cR, 16, .inl f2)), (m3, .inl (cR, 16, .inl f3)), (m4, .inl (cR, 16, .inl f4)), (ho, .inl (cO, 1, .inr (.inl fo))), (y0, .inr (8, [.int 1, .ref lH, .ref lB, .ref lJ, .ref aR, .ref aL, .int 0, .int 0, .int 0, .ref lC, .ref aM, .ref aP, .int 0, .int 0, .int 0, .int (-1), .int (-1), .int 0, .int 0, .long 0]))] := hD
    refine lv_istore (lv' := [(6, .int 0), (5, .int 1), (0, .ref b), (1, .ref x0), (2, .ref y0), (3, .ref ho), (4, .int 0)]) hx hb dL_law_449 hl (by decide) rfl (fun ls hl => ?_)
    refine lv_aload_n hx hb dL_law_451 rfl (lv_at hl 4 rfl) ?_
    have hPc := hP.sub (ws' := [(y0, .inr (8, [.int 1, .ref lH, .ref lB, .ref lJ, .ref aR, .ref aL, .int 0, .int 0, .int 0, .ref lC, .ref aM, .ref aP, .int 0, .int 0, .int 0, .int (-1), .int (-1), .int 0, .int 0, .long 0]))]) [16] rfl
    have hKc := hK.sub (tys' := []) [] rfl
    refine va_calli (va_runV (As := []) (rest := []) ⟨hx, hb, hml, hown, hts⟩ (r_thrown l D eT y0 lH lB lJ aR aL lC aM aP 0 1 0 H.size ) (cwV 0 hts gL_law_X5_thrown rfl rfl rfl (by decide +kernel) ⟨Nat.le_of_ble_eq_true rfl, Nat.le_of_ble_eq_true rfl⟩) (pr_v (ci := 8) (q0 := 0) rfl rfl hPc hKc hE hS hA) rfl rfl hl.1 rfl (lv_room (Nat.le_of_ble_eq_true rfl)) dL_law_452 ⟨Nat.le_of_ble_eq_true rfl, Nat.le_of_ble_eq_true rfl⟩) hS (fun q h1 h2 => ro_A h1 h2) (fun q h => ro_F hS hA q h) (fun r u t H1 locs ht hvm hw hB hz1 hk1 hS => ?_)
    have hw : r = 1 := hw
    rw [hw]
    have hP := ro_P hP hk1
    generalize H1 = H at hP hS ⊢
    refine lv_iload hx hb dL_law_455 (lv_at hl 1 rfl) ?_
    refine lv_icmp_eq (tgt := 462) hx hb dL_law_457 (by decide) (fun _ => ?_) (fun h => absurd (by decide) h)
    refine lv_iload hx hb dL_law_462 (lv_at hl 1 rfl) ?_
    refine lv_if_ne (tgt := 479) hx hb dL_law_464 (by decide) (fun _ => ?_) (fun h => absurd h (by decide))
    refine lv_goto (tgt := 1835) hx hb dL_law_479 (by decide) ?_
    refine W.widen (k := 2000) (n := 20000) (Nat.le_of_ble_eq_true rfl) (Nat.le_of_ble_eq_true rfl) ?_
    exact kx _ _ _ hS (lv_sub hl [2, 3, 4, 5, 6] rfl)
set_option maxHeartbeats 8000000 in
set_option maxRecDepth 100000 in
theorem law_c4 {p : Program} {l : Launch} {e : Env} {s : State} {m : MethodId} {args : Array Value} {below : List Frame} {meth : Method} {c : Code} {Q : State → Prop} {b : Nat} {xs : Nat → Int32} {D : va_G} {eT : Nat} {x0 aH aB aJ rN rX aV j0 c1 c2 c3 c4 c5 y0 lH lB lJ aR aL lC aM aP m0 m1 m2 m3 m4 ho : Nat} {cJ cI cL cM cR cO : ClassId} {fJ : Nat → Option Nat} {fR : Nat → Int32} {fL : Nat → Int32} {gM : Nat → Option Nat} {f0 : Nat → Int32} {f1 : Nat → Int32} {f2 : Nat → Int32} {f3 : Nat → Int32} {f4 : Nat → Int32} {fo : Nat → Int64} (hl0 : l.stackTraces = false) (hx : p.tables.exec = Jvm.exec) (hb : c.code = cL_law) (hml : c.maxLocals = 9) (hown : s.vm.findClass RL = some m.cls) (hts : ∀ w ∈ wsL_law, w.before args s = true) (hX : va_X b 7 xs s s.heap) (hbl : b < s.heap.size) (hE : ev eT (fun q : Nat => s.heap.size ≤ q) s s.heap) (hJ : fJ 0 = some j0) (hR : fR 3 = 10) (hg0 : gM 0 = some m0) (hg1 : gM 1 = some m1) (hg2 : gM 2 = some m2) (hg3 : gM 3 = some m3) (hg4 : gM 4 = some m4) (hm0 : ∀ k, k < 16 → f0 k = -1) (hm1 : ∀ k, k < 16 → f1 k = -1) (hm2 : ∀ k, k < 16 → f2 k = -1) (hm3 : ∀ k, k < 16 → f3 k = -1) (hm4 : ∀ k, k < 16 → f4 k = -1) (hK : va_K D vwCl [(cJ, .object RX2), (cI, .int), (cL, .int), (cM, .array .int), (cR, .int), (cO, .long)] s) {H : Heap} {locs : List Loc} (hP : va_P D vwCl [(x0, .inr (7, [.ref aH, .ref aB, .ref aJ, .int 0, .int 0, .int 0, .ref rN, .ref rX, .int 0, .int 0, .int 0, .int 0, .int 0, .int 0, .int (-1), .int (-1), .int 0, .int 0, .ref aV])), (aJ, .inl (cJ, 5, .inr (.inr (.inr (.inr fJ))))), (j0, .inr (5, [.int 0, .int 0, .int 0, .int 0, .int 0, .ref c1, .ref c2, .int 0, .int 0, .int 0, .int 0, .ref c3, .int 0, .ref c4, .ref c5, .int 0])), (rN, .inr (6, [.int 7, .int 100, .int 800, .int 10])), (rX, .inr (6, [.int 7, .int 100, .int 800, .int 10])), (y0, .inr (8, [.int 0, .ref lH, .ref lB, .ref lJ, .ref aR, .ref aL, .int 0, .int 0, .int 0, .ref lC, .ref aM, .ref aP, .int 0, .int 0, .int 0, .int (-1), .int (-1), .int 0, .int 0, .long 0])), (lH, .inr (2, [.int 0, .ref eT, .int 0])), (lB, .inr (2, [.int 0, .ref eT, .int 0])), (lJ, .inr (2, [.int 0, .ref eT, .int 0])), (lC, .inr (2, [.int 0, .ref eT, .int 0])), (aR, .inl (cI, 4, .inl fR)), (aL, .inl (cL, 4, .inl fL)), (aM, .inl (cM, 5, .inr (.inr (.inr (.inr gM))))), (m0, .inl (cR, 16, .inl f0)), (m1, .inl (cR, 16, .inl f1)), (m2, .inl (cR, 16, .inl f2)), (m3, .inl (cR, 16, .inl f3)), (m4, .inl (cR, 16, .inl f4)), (ho, .inl (cO, 1, .inr (.inl fo)))] H) (hD : va_D (fun q : Nat => s.heap.size ≤ q) [(x0, .inr (7, [.ref aH, .ref aB, .ref aJ, .int 0, .int 0, .int 0, .ref rN, .ref rX, .int 0, .int 0, .int 0, .int 0, .int 0, .int 0, .int (-1), .int (-1), .int 0, .int 0, .ref aV])), (aJ, .inl (cJ, 5, .inr (.inr (.inr (.inr fJ))))), (j0, .inr (5, [.int 0, .int 0, .int 0, .int 0, .int 0, .ref c1, .ref c2, .int 0, .int 0, .int 0, .int 0, .ref c3, .int 0, .ref c4, .ref c5, .int 0])), (rN, .inr (6, [.int 7, .int 100, .int 800, .int 10])), (rX, .inr (6, [.int 7, .int 100, .int 800, .int 10])), (y0, .inr (8, [.int 0, .ref lH, .ref lB, .ref lJ, .ref aR, .ref aL, .int 0, .int 0, .int 0, .ref lC, .ref aM, .ref aP, .int 0, .int 0, .int 0, .int (-1), .int (-1), .int 0, .int 0, .long 0])), (lH, .inr (2, [.int 0, .ref eT, .int 0])), (lB, .inr (2, [.int 0, .ref eT, .int 0])), (lJ, .inr (2, [.int 0, .ref eT, .int 0])), (lC, .inr (2, [.int 0, .ref eT, .int 0])), (aR, .inl (cI, 4, .inl fR)), (aL, .inl (cL, 4, .inl fL)), (aM, .inl (cM, 5, .inr (.inr (.inr (.inr gM))))), (m0, .inl (cR, 16, .inl f0)), (m1, .inl (cR, 16, .inl f1)), (m2, .inl (cR, 16, .inl f2)), (m3, .inl (cR, 16, .inl f3)), (m4, .inl (cR, 16, .inl f4)), (ho, .inl (cO, 1, .inr (.inl fo)))]) (hS : va_S (fun q : Nat => s.heap.size ≤ q) s.heap H locs) {ls : Array Slot} (hl : lv_has ls 9 [(0, .ref b), (1, .ref x0), (2, .ref y0), (3, .ref ho), (4, .int 0)]) (kx : ∀ (H : Heap) (locs : List Loc) (ls : Array Slot), va_S (fun q : Nat => s.heap.size ≤ q) s.heap H locs → lv_has ls 9 [(0, .ref b), (1, .ref x0), (2, .ref y0), (3, .ref ho), (4, .int 0)] → W p l e room_1 s m args below meth c H locs 2000 20000 Q (F0 m 1835 ls [])) : W p l e room_1 s m args below meth c H locs 81 903 Q (F0 m 482 ls []) := by
  have hA : ∀ q : Nat, s.heap.size ≤ q → (fun q : Nat => s.heap.size ≤ q) q := fun _ h => h
  have hbA : ¬ (fun q : Nat => s.heap.size ≤ q) b := Nat.not_le.mpr hbl
  by_cases hn : (1 ≤ (xs 1) ∧ (xs 1) ≤ 7) ∧ (50 ≤ (xs 2) ∧ (xs 2) ≤ (xs 3)) ∧ (xs 3) ≤ 900 ∧ (0 ≤ (xs 4) ∧ (xs 4) ≤ 50)
  · obtain ⟨⟨a1, a2⟩, ⟨b1, b2⟩, cc2, d1, d2⟩ := hn
    refine lv_aload_n hx hb dL_law_482 rfl (lv_at hl 1 rfl) ?_
    refine lv_aload_n hx hb dL_law_483 rfl (lv_at hl 0 rfl) ?_
    refine lv_iload hx hb dL_law_484 (lv_at hl 4 rfl) ?_
    refine lv_iconst (v := 1) hx hb dL_law_486 (by decide) ?_
    refine lv_iadd hx hb dL_law_487 ?_
    refine lv_topi (fun z_1 ez_1 => ?_)
    have ez_1 : z_1 = 1 := ez_1.trans (by decide +kernel)
    rw [ez_1]
    refine va_sld hx hb hX hbl hbA hS (show vp_in 1 7 from by unfold vp_in; decide +kernel) dL_law_488 ?_
    refine lv_topi (fun z_2 ez_2 => ?_)
    have ez_2 : z_2 = (xs 1) := ez_2
    rw [ez_2]
    refine lv_aload_n hx hb dL_law_489 rfl (lv_at hl 0 rfl) ?_
    refine lv_iload hx hb dL_law_490 (lv_at hl 4 rfl) ?_
    refine lv_iconst (v := 2) hx hb dL_law_492 (by decide) ?_
    refine lv_iadd hx hb dL_law_493 ?_
    refine lv_topi (fun z_3 ez_3 => ?_)
    have ez_3 : z_3 = 2 := ez_3.trans (by decide +kernel)
    rw [ez_3]
    refine va_sld hx hb hX hbl hbA hS (show vp_in 2 7 from by unfold vp_in; decide +kernel) dL_law_494 ?_
    refine lv_topi (fun z_4 ez_4 => ?_)
    have ez_4 : z_4 = (xs 2) := ez_4
    rw [ez_4]
    refine lv_aload_n hx hb dL_law_495 rfl (lv_at hl 0 rfl) ?_
    refine lv_iload hx hb dL_law_496 (lv_at hl 4 rfl) ?_
    refine lv_iconst (v := 3) hx hb dL_law_498 (by decide) ?_
    refine lv_iadd hx hb dL_law_499 ?_
    refine lv_topi (fun z_5 ez_5 => ?_)
    have ez_5 : z_5 = 3 := ez_5.trans (by decide +kernel)
    rw [ez_5]
    refine va_sld hx hb hX hbl hbA hS (show vp_in 3 7 from by unfold vp_in; decide +kernel) dL_law_500 ?_
    refine lv_topi (fun z_6 ez_6 => ?_)
    have ez_6 : z_6 = (xs 3) := ez_6
    rw [ez_6]
    refine lv_aload_n hx hb dL_law_501 rfl (lv_at hl 0 rfl) ?_
    refine lv_iload hx hb dL_law_502 (lv_at hl 4 rfl) ?_
    refine lv_iconst (v := 4) hx hb dL_law_504 (by decide) ?_
    refine lv_iadd hx hb dL_law_505 ?_
    refine lv_topi (fun z_7 ez_7 => ?_)
    have ez_7 : z_7 = 4 := ez_7.trans (by decide +kernel)
    rw [ez_7]
    refine va_sld hx hb hX hbl hbA hS (show vp_in 4 7 from by unfold vp_in; decide +kernel) dL_law_506 ?_
    refine lv_topi (fun z_8 ez_8 => ?_)
    have ez_8 : z_8 = (xs 4) := ez_8
    rw [ez_8]
    refine lv_aload_n hx hb dL_law_507 rfl (lv_at hl 3 rfl) ?_
    have hPc := hP.sub (ws' := [(x0, .inr (7, [.ref aH, .ref aB, .ref aJ, .int 0, .int 0, .int 0, .ref rN, .ref rX, .int 0, .int 0, .int 0, .int 0, .int 0, .int 0, .int (-1), .int (-1), .int 0, .int 0, .ref aV])), (rN, .inr (6, [.int 7, .int 100, .int 800, .int 10])), (rX, .inr (6, [.int 7, .int 100, .int 800, .int 10])), (ho, .inl (cO, 1, .inr (.inl fo)))]) [0, 3, 4, 18] rfl
    have hKc := hK.sub (tys' := [(cO, .long)]) [5] rfl
    have hDc := hD.sub (ws' := [(x0, .inr (7, [.ref aH, .ref aB, .ref aJ, .int 0, .int 0, .int 0, .ref rN, .ref rX, .int 0, .int 0, .int 0, .int 0, .int 0, .int 0, .int (-1), .int (-1), .int 0, .int 0, .ref aV])), (rN, .inr (6, [.int 7, .int 100, .int 800, .int 10])), (rX, .inr (6, [.int 7, .int 100, .int 800, .int 10])), (ho, .inl (cO, 1, .inr (.inl fo)))]) [0, 3, 4, 18] (by decide) rfl
    have hFc := va_free (wc := [(x0, .inr (7, [.ref aH, .ref aB, .ref aJ, .int 0, .int 0, .int 0, .ref rN, .ref rX, .int 0, .int 0, .int 0, .int 0, .int 0, .int 0, .int (-1), .int (-1), .int 0, .int 0, .ref aV])), (rN, .inr (6, [.int 7, .int 100, .int 800, .int 10])), (rX, .inr (6, [.int 7, .int 100, .int 800, .int 10])), (ho, .inl (cO, 1, .inr (.inl fo)))]) hD hS hA [0, 3, 4, 18] rfl
    refine va_calli (vx_runSW (As := [.ref x0, .int (xs 1), .int (xs 2), .int (xs 3), .int (xs 4), .ref ho]) (rest := []) ⟨hx, hb, hml, hown, hts⟩ (w_rules l D eT x0 aH aB aJ rN rX aV ho cO fo (xs 1) (xs 2) (xs 3) (xs 4) H.size a1 a2 b1 b2 cc2 d1 d2) (vx_cwSW 6 hts gL_law_L_rules rfl rfl rfl (by decide +kernel) ⟨Nat.le_of_ble_eq_true rfl, Nat.le_of_ble_eq_true rfl⟩) (pc_s hPc hDc hKc hE hS hFc) rfl rfl hl.1 rfl (lv_room (Nat.le_of_ble_eq_true rfl)) dL_law_508 ⟨Nat.le_of_ble_eq_true rfl, Nat.le_of_ble_eq_true rfl⟩) hS (fun q _ h => hFc q h) hFc (fun r u t H1 locs ht hvm hw hB hz1 hk1 hS => ?_)
    have hw : r = 0 := hw
    rw [hw]
    obtain ⟨hP1, hK1, hD1⟩ := hB
    rw [ht] at hP1
    have hK1 := va_K.moved hvm.symm hK1
    obtain ⟨hP, hD⟩ := va_join (wr := [(aJ, .inl (cJ, 5, .inr (.inr (.inr (.inr fJ))))), (j0, .inr (5, [.int 0, .int 0, .int 0, .int 0, .int 0, .ref c1, .ref c2, .int 0, .int 0, .int 0, .int 0, .ref c3, .int 0, .ref c4, .ref c5, .int 0])), (y0, .inr (8, [.int 0, .ref lH, .ref lB, .ref lJ, .ref aR, .ref aL, .int 0, .int 0, .int 0, .ref lC, .ref aM, .ref aP, .int 0, .int 0, .int 0, .int (-1), .int (-1), .int 0, .int 0, .long 0])), (lH, .inr (2, [.int 0, .ref eT, .int 0])), (lB, .inr (2, [.int 0, .ref eT, .int 0])), (lJ, .inr (2, [.int 0, .ref eT, .int 0])), (lC, .inr (2, [.int 0, .ref eT, .int 0])), (aR, .inl (cI, 4, .inl fR)), (aL, .inl (cL, 4, .inl fL)), (aM, .inl (cM, 5, .inr (.inr (.inr (.inr gM))))), (m0, .inl (cR, 16, .inl f0)), (m1, .inl (cR, 16, .inl f1)), (m2, .inl (cR, 16, .inl f2)), (m3, .inl (cR, 16, .inl f3)), (m4, .inl (cR, 16, .inl f4))]) (w1 := [(ho, .inl (cO, 1, .inr (.inl (vp_updL fo (Int32.toNatClampNeg 0) 10))))]) hP hD [0, 3, 4, 18] [1, 2, 5, 6, 7, 8, 9, 10, 11, 12, 13, 14, 15, 16, 17] rfl rfl (by decide) (by decide) hk1 hFc hP1 hD1
    generalize H1 = H at hP hS ⊢
    have hP : va_P D vwCl [(aJ, .inl (cJ, 5, .inr (.inr (.inr (.inr fJ))))), (j0, .inr (5, [.int 0, .int 0, .int 0, .int 0, .int 0, .ref c1, .ref c2, .int 0, .int 0, .int 0, .int 0, .ref c3, .int 0, .ref c4, .ref c5, .int 0])), (y0, .inr (8, [.int 0, .ref lH, .ref lB, .ref lJ, .ref aR, .ref aL, .int 0, .int 0, .int 0, .ref lC, .ref aM, .ref aP, .int 0, .int 0, .int 0, .int (-1), .int (-1), .int 0, .int 0, .long 0])), (lH, .inr (2, [.int 0, .ref eT, .int 0])), (lB, .inr (2, [.int 0, .ref eT, .int 0])), (lJ, .inr (2, [.int 0, .ref eT, .int 0])), (lC, .inr (2, [.int 0, .ref eT, .int 0])), (aR, .inl (cI, 4, .inl fR)), (aL, .inl (cL, 4, .inl fL)), (aM, .inl (cM, 5, .inr (.inr (.inr (.inr gM))))), (m0, .inl (cR, 16, .inl f0)), (m1, .inl (cR, 16, .inl f1)), (m2, .inl (cR, 16, .inl f2)), (m3, .inl (cR, 16, .inl f3)), (m4, .inl (cR, 16, .inl f4)), (ho, .inl (cO, 1, .inr (.inl (vp_updL fo (Int32.toNatClampNeg 0) 10))))] H := hP
    have hD : va_D (fun q : Nat => s.heap.size ≤ q) [(aJ, .inl (cJ, 5, .inr (.inr (.inr (.inr fJ))))), (j0, .inr (5, [.int 0, .int 0, .int 0, .int 0, .int 0, .ref c1, .ref c2, .int 0, .int 0, .int 0, .int 0, .ref c3, .int 0, .ref c4, .ref c5, .int 0])), (y0, .inr (8, [.int 0, .ref lH, .ref lB, .ref lJ, .ref aR, .ref aL, .int 0, .int 0, .int 0, .ref lC, .ref aM, .ref aP, .int 0, .int 0, .int 0, .int (-1), .int (-1), .int 0, .int 0, .long 0])), (lH, .inr (2, [.int 0, .ref eT, .int 0])), (lB, .inr (2, [.int 0, .ref eT, .int 0])), (lJ, .inr (2, [.int 0, .ref eT, .int 0])), (lC, .inr (2, [.int 0, .ref eT, .int 0])), (aR, .inl (cI, 4, .inl fR)), (aL, .inl (cL, 4, .inl fL)), (aM, .inl (cM, 5, .inr (.inr (.inr (.inr gM))))), (m0, .inl (cR, 16, .inl f0)), (m1, .inl (cR, 16, .inl f1)), (m2, .inl (cR, 16, .inl f2)), (m3, .inl (cR, 16, .inl f3)), (m4, .inl (cR, 16, .inl f4)), (ho, .inl (cO, 1, .inr (.inl (vp_updL fo (Int32.toNatClampNeg 0) 10))))] := hD
    refine lv_istore (lv' := [(5, .int 0), (0, .ref b), (1, .ref x0), (2, .ref y0), (3, .ref ho), (4, .int 0)]) hx hb dL_law_511 hl (by decide) rfl (fun ls hl => ?_)
    refine lv_aload_n hx hb dL_law_513 rfl (lv_at hl 3 rfl) ?_
    refine lv_aload_n hx hb dL_law_514 rfl (lv_at hl 1 rfl) ?_
    refine lv_iload hx hb dL_law_515 (lv_at hl 5 rfl) ?_
    refine lv_iconst (v := 1) hx hb dL_law_517 (by decide) ?_
    refine lv_iadd hx hb dL_law_518 ?_
    refine lv_topi (fun z_9 ez_9 => ?_)
    have ez_9 : z_9 = 1 := ez_9.trans (by decide +kernel)
    rw [ez_9]
    refine va_sld hx hb hX hbl hbA hS (show vp_in 1 7 from by unfold vp_in; decide +kernel) dL_law_519 ?_
    refine lv_topi (fun z_10 ez_10 => ?_)
    have ez_10 : z_10 = (xs 1) := ez_10
    rw [ez_10]
    refine lv_aload_n hx hb dL_law_520 rfl (lv_at hl 1 rfl) ?_
    refine lv_iload hx hb dL_law_521 (lv_at hl 5 rfl) ?_
    refine lv_iconst (v := 2) hx hb dL_law_523 (by decide) ?_
    refine lv_iadd hx hb dL_law_524 ?_
    refine lv_topi (fun z_11 ez_11 => ?_)
    have ez_11 : z_11 = 2 := ez_11.trans (by decide +kernel)
    rw [ez_11]
    refine va_sld hx hb hX hbl hbA hS (show vp_in 2 7 from by unfold vp_in; decide +kernel) dL_law_525 ?_
    refine lv_topi (fun z_12 ez_12 => ?_)
    have ez_12 : z_12 = (xs 2) := ez_12
    rw [ez_12]
    refine lv_aload_n hx hb dL_law_526 rfl (lv_at hl 1 rfl) ?_
    refine lv_iload hx hb dL_law_527 (lv_at hl 5 rfl) ?_
    refine lv_iconst (v := 3) hx hb dL_law_529 (by decide) ?_
    refine lv_iadd hx hb dL_law_530 ?_
    refine lv_topi (fun z_13 ez_13 => ?_)
    have ez_13 : z_13 = 3 := ez_13.trans (by decide +kernel)
    rw [ez_13]
    refine va_sld hx hb hX hbl hbA hS (show vp_in 3 7 from by unfold vp_in; decide +kernel) dL_law_531 ?_
    refine lv_topi (fun z_14 ez_14 => ?_)
    have ez_14 : z_14 = (xs 3) := ez_14
    rw [ez_14]
    refine lv_aload_n hx hb dL_law_532 rfl (lv_at hl 1 rfl) ?_
    refine lv_iload hx hb dL_law_533 (lv_at hl 5 rfl) ?_
    refine lv_iconst (v := 4) hx hb dL_law_535 (by decide) ?_
    refine lv_iadd hx hb dL_law_536 ?_
    refine lv_topi (fun z_15 ez_15 => ?_)
    have ez_15 : z_15 = 4 := ez_15.trans (by decide +kernel)
    rw [ez_15]
    refine va_sld hx hb hX hbl hbA hS (show vp_in 4 7 from by unfold vp_in; decide +kernel) dL_law_537 ?_
    refine lv_topi (fun z_16 ez_16 => ?_)
    have ez_16 : z_16 = (xs 4) := ez_16
    rw [ez_16]
    have hPc := hP.sub (ws' := [(y0, .inr (8, [.int 0, .ref lH, .ref lB, .ref lJ, .ref aR, .ref aL, .int 0, .int 0, .int 0, .ref lC, .ref aM, .ref aP, .int 0, .int 0, .int 0, .int (-1), .int (-1), .int 0, .int 0, .long 0])), (aR, .inl (cI, 4, .inl fR)), (aL, .inl (cL, 4, .inl fL))]) [2, 7, 8] rfl
    have hKc := hK.sub (tys' := [(cI, .int), (cL, .int)]) [1, 2] rfl
    have hDc := hD.sub (ws' := [(y0, .inr (8, [.int 0, .ref lH, .ref lB, .ref lJ, .ref aR, .ref aL, .int 0, .int 0, .int 0, .ref lC, .ref aM, .ref aP, .int 0, .int 0, .int 0, .int (-1), .int (-1), .int 0, .int 0, .long 0])), (aR, .inl (cI, 4, .inl fR)), (aL, .inl (cL, 4, .inl fL))]) [2, 7, 8] (by decide) rfl
    have hFc := va_free (wc := [(y0, .inr (8, [.int 0, .ref lH, .ref lB, .ref lJ, .ref aR, .ref aL, .int 0, .int 0, .int 0, .ref lC, .ref aM, .ref aP, .int 0, .int 0, .int 0, .int (-1), .int (-1), .int 0, .int 0, .long 0])), (aR, .inl (cI, 4, .inl fR)), (aL, .inl (cL, 4, .inl fL))]) hD hS hA [2, 7, 8] rfl
    refine va_calli (va_runV (As := [.int (xs 1), .int (xs 2), .int (xs 3), .int (xs 4)]) (rest := []) ⟨hx, hb, hml, hown, hts⟩ (r_rules l D eT y0 lH lB lJ aR aL lC aM aP 0 cI cL fR fL (xs 1) (xs 2) (xs 3) (xs 4) H.size hR a1 a2 b1 b2 cc2 d1 d2) (cwV 4 hts gL_law_X5_rules rfl rfl rfl (by decide +kernel) ⟨Nat.le_of_ble_eq_true rfl, Nat.le_of_ble_eq_true rfl⟩) (pc_v (ci := 8) (q0 := 0) rfl rfl hPc hDc hKc hE hS hFc) rfl rfl hl.1 rfl (lv_room (Nat.le_of_ble_eq_true rfl)) dL_law_538 ⟨Nat.le_of_ble_eq_true rfl, Nat.le_of_ble_eq_true rfl⟩) hS (fun q _ h => hFc q h) hFc (fun r u t H1 locs ht hvm hw hB hz1 hk1 hS => ?_)
    have hw : r = 10 := hw
    rw [hw]
    obtain ⟨hP1, hK1, hD1⟩ := hB
    rw [ht] at hP1
    have hK1 := va_K.moved hvm.symm hK1
    obtain ⟨hP, hD⟩ := va_join (wr := [(aJ, .inl (cJ, 5, .inr (.inr (.inr (.inr fJ))))), (j0, .inr (5, [.int 0, .int 0, .int 0, .int 0, .int 0, .ref c1, .ref c2, .int 0, .int 0, .int 0, .int 0, .ref c3, .int 0, .ref c4, .ref c5, .int 0])), (lH, .inr (2, [.int 0, .ref eT, .int 0])), (lB, .inr (2, [.int 0, .ref eT, .int 0])), (lJ, .inr (2, [.int 0, .ref eT, .int 0])), (lC, .inr (2, [.int 0, .ref eT, .int 0])), (aM, .inl (cM, 5, .inr (.inr (.inr (.inr gM))))), (m0, .inl (cR, 16, .inl f0)), (m1, .inl (cR, 16, .inl f1)), (m2, .inl (cR, 16, .inl f2)), (m3, .inl (cR, 16, .inl f3)), (m4, .inl (cR, 16, .inl f4)), (ho, .inl (cO, 1, .inr (.inl (vp_updL fo (Int32.toNatClampNeg 0) 10))))]) (w1 := [(y0, .inr (8, [.int 0, .ref lH, .ref lB, .ref lJ, .ref aR, .ref aL, .int 0, .int 0, .int 0, .ref lC, .ref aM, .ref aP, .int 0, .int 0, .int 0, .int (-1), .int (-1), .int 0, .int 0, .long 0]))]) hP hD [2, 7, 8] [0, 1, 3, 4, 5, 6, 9, 10, 11, 12, 13, 14, 15] rfl rfl (by decide) (by decide) hk1 hFc hP1 hD1
    generalize H1 = H at hP hS ⊢
    have hP : va_P D vwCl [(aJ, .inl (cJ, 5, .inr (.inr (.inr (.inr fJ))))), (j0, .inr (5, [.int 0, .int 0, .int 0, .int 0, .int 0, .ref c1, .ref c2, .int 0, .int 0, .int 0, .int 0, .ref c3, .int 0, .ref c4, .ref c5, .int 0])), (lH, .inr (2, [.int 0, .ref eT, .int 0])), (lB, .inr (2, [.int 0, .ref eT, .int 0])), (lJ, .inr (2, [.int 0, .ref eT, .int 0])), (lC, .inr (2, [.int 0, .ref eT, .int 0])), (aM, .inl (cM, 5, .inr (.inr (.inr (.inr gM))))), (m0, .inl (cR, 16, .inl f0)), (m1, .inl (cR, 16, .inl f1)), (m2, .inl (cR, 16, .inl f2)), (m3, .inl (cR, 16, .inl f3)), (m4, .inl (cR, 16, .inl f4)), (ho, .inl (cO, 1, .inr (.inl (vp_updL fo (Int32.toNatClampNeg 0) 10)))), (y0, .inr (8, [.int 0, .ref lH, .ref lB, .ref lJ, .ref aR, .ref aL, .int 0, .int 0, .int 0, .ref lC, .ref aM, .ref aP, .int 0, .int 0, .int 0, .int (-1), .int (-1), .int 0, .int 0, .long 0]))] H := hP
    have hD : va_D (fun q : Nat => s.heap.size ≤ q) [(aJ, .inl (cJ, 5, .inr (.inr (.inr (.inr fJ))))), (j0, .inr (5, [.int 0, .int 0, .int 0, .int 0, .int 0, .ref c1, .ref c2, .int 0, .int 0, .int 0, .int 0, .ref c3, .int 0, .ref c4, .ref c5, .int 0])), (lH, .inr (2, [.int 0, .ref eT, .int 0])), (lB, .inr (2, [.int 0, .ref eT, .int 0])), (lJ, .inr (2, [.int 0, .ref eT, .int 0])), (lC, .inr (2, [.int 0, .ref eT, .int 0])), (aM, .inl (cM, 5, .inr (.inr (.inr (.inr gM))))), (m0, .inl (cR, 16, .inl f0)), (m1, .inl (cR, 16, .inl f1)), (m2, .inl (cR, 16, .inl f2)), (m3, .inl (cR, 16, .inl f3)), (m4, .inl (cR, 16, .inl f4)), (ho, .inl (cO, 1, .inr (.inl (vp_updL fo (Int32.toNatClampNeg 0) 10)))), (y0, .inr (8, [.int 0, .ref lH, .ref lB, .ref lJ, .ref aR, .ref aL, .int 0, .int 0, .int 0, .ref lC, .ref aM, .ref aP, .int 0, .int 0, .int 0, .int (-1), .int (-1), .int 0, .int 0, .long 0]))] := hD
    refine W.widen (k := 82) (n := 907) (Nat.le_of_ble_eq_true rfl) (Nat.le_of_ble_eq_true rfl) ?_
    refine lv_istore (lv' := [(6, .int 10), (5, .int 0), (0, .ref b), (1, .ref x0), (2, .ref y0), (3, .ref ho), (4, .int 0)]) hx hb dL_law_541 hl (by decide) rfl (fun ls hl => ?_)
    refine lv_aload_n hx hb dL_law_543 rfl (lv_at hl 4 rfl) ?_
    have hPc := hP.sub (ws' := [(y0, .inr (8, [.int 0, .ref lH, .ref lB, .ref lJ, .ref aR, .ref aL, .int 0, .int 0, .int 0, .ref lC, .ref aM, .ref aP, .int 0, .int 0, .int 0, .int (-1), .int (-1), .int 0, .int 0, .long 0]))]) [13] rfl
    have hKc := hK.sub (tys' := []) [] rfl
    refine va_calli (va_runV (As := []) (rest := []) ⟨hx, hb, hml, hown, hts⟩ (r_thrown l D eT y0 lH lB lJ aR aL lC aM aP 0 0 0 H.size ) (cwV 0 hts gL_law_X5_thrown rfl rfl rfl (by decide +kernel) ⟨Nat.le_of_ble_eq_true rfl, Nat.le_of_ble_eq_true rfl⟩) (pr_v (ci := 8) (q0 := 0) rfl rfl hPc hKc hE hS hA) rfl rfl hl.1 rfl (lv_room (Nat.le_of_ble_eq_true rfl)) dL_law_544 ⟨Nat.le_of_ble_eq_true rfl, Nat.le_of_ble_eq_true rfl⟩) hS (fun q h1 h2 => ro_A h1 h2) (fun q h => ro_F hS hA q h) (fun r u t H1 locs ht hvm hw hB hz1 hk1 hS => ?_)
    have hw : r = 0 := hw
    rw [hw]
    have hP := ro_P hP hk1
    generalize H1 = H at hP hS ⊢
    refine lv_iload hx hb dL_law_547 (lv_at hl 1 rfl) ?_
    refine lv_icmp_eq (tgt := 554) hx hb dL_law_549 (by decide) (fun _ => ?_) (fun h => absurd (by decide) h)
    refine lv_iload hx hb dL_law_554 (lv_at hl 1 rfl) ?_
    refine lv_if_ne (tgt := 571) hx hb dL_law_556 (by decide) (fun h => absurd (by decide) h) (fun _ => ?_)
    refine lv_aload_n hx hb dL_law_559 rfl (lv_at hl 5 rfl) ?_
    refine lv_iconst (v := 0) hx hb dL_law_560 (by decide) ?_
    refine va_lald hx hb hK hP 12 5 rfl rfl (by unfold vp_in; decide +kernel) dL_law_561 ?_
    refine lv_topl (fun z_17 ez_17 => ?_)
    have ez_17 : z_17 = 10 := ez_17.trans pk_uLs
    rw [ez_17]
    refine lv_iload hx hb dL_law_562 (lv_at hl 0 rfl) ?_
    refine lv_i2l (v := 10) hx hb dL_law_564 (by decide) ?_
    refine W.lcmp hx hb dL_law_565 ?_
    refine lv_topi (fun z_18 ez_18 => ?_)
    have ez_18 : z_18 = 0 := ez_18.trans (by decide +kernel)
    rw [ez_18]
    refine lv_if_eq (tgt := 571) hx hb dL_law_566 (by decide) (fun _ => ?_) (fun h => absurd (by decide) h)
    refine lv_goto (tgt := 1835) hx hb dL_law_571 (by decide) ?_
    refine W.widen (k := 2000) (n := 20000) (Nat.le_of_ble_eq_true rfl) (Nat.le_of_ble_eq_true rfl) ?_
    exact kx _ _ _ hS (lv_sub hl [2, 3, 4, 5, 6] rfl)
  · skip
    refine lv_aload_n hx hb dL_law_482 rfl (lv_at hl 1 rfl) ?_
    refine lv_aload_n hx hb dL_law_483 rfl (lv_at hl 0 rfl) ?_
    refine lv_iload hx hb dL_law_484 (lv_at hl 4 rfl) ?_
    refine lv_iconst (v := 1) hx hb dL_law_486 (by decide) ?_
    refine lv_iadd hx hb dL_law_487 ?_
    refine lv_topi (fun z_19 ez_19 => ?_)
    have ez_19 : z_19 = 1 := ez_19.trans (by decide +kernel)
    rw [ez_19]
    refine va_sld hx hb hX hbl hbA hS (show vp_in 1 7 from by unfold vp_in; decide +kernel) dL_law_488 ?_
    refine lv_topi (fun z_20 ez_20 => ?_)
    have ez_20 : z_20 = (xs 1) := ez_20
    rw [ez_20]
    refine lv_aload_n hx hb dL_law_489 rfl (lv_at hl 0 rfl) ?_
    refine lv_iload hx hb dL_law_490 (lv_at hl 4 rfl) ?_
    refine lv_iconst (v := 2) hx hb dL_law_492 (by decide) ?_
    refine lv_iadd hx hb dL_law_493 ?_
    refine lv_topi (fun z_21 ez_21 => ?_)
    have ez_21 : z_21 = 2 := ez_21.trans (by decide +kernel)
    rw [ez_21]
    refine va_sld hx hb hX hbl hbA hS (show vp_in 2 7 from by unfold vp_in; decide +kernel) dL_law_494 ?_
    refine lv_topi (fun z_22 ez_22 => ?_)
    have ez_22 : z_22 = (xs 2) := ez_22
    rw [ez_22]
    refine lv_aload_n hx hb dL_law_495 rfl (lv_at hl 0 rfl) ?_
    refine lv_iload hx hb dL_law_496 (lv_at hl 4 rfl) ?_
    refine lv_iconst (v := 3) hx hb dL_law_498 (by decide) ?_
    refine lv_iadd hx hb dL_law_499 ?_
    refine lv_topi (fun z_23 ez_23 => ?_)
    have ez_23 : z_23 = 3 := ez_23.trans (by decide +kernel)
    rw [ez_23]
    refine va_sld hx hb hX hbl hbA hS (show vp_in 3 7 from by unfold vp_in; decide +kernel) dL_law_500 ?_
    refine lv_topi (fun z_24 ez_24 => ?_)
    have ez_24 : z_24 = (xs 3) := ez_24
    rw [ez_24]
    refine lv_aload_n hx hb dL_law_501 rfl (lv_at hl 0 rfl) ?_
    refine lv_iload hx hb dL_law_502 (lv_at hl 4 rfl) ?_
    refine lv_iconst (v := 4) hx hb dL_law_504 (by decide) ?_
    refine lv_iadd hx hb dL_law_505 ?_
    refine lv_topi (fun z_25 ez_25 => ?_)
    have ez_25 : z_25 = 4 := ez_25.trans (by decide +kernel)
    rw [ez_25]
    refine va_sld hx hb hX hbl hbA hS (show vp_in 4 7 from by unfold vp_in; decide +kernel) dL_law_506 ?_
    refine lv_topi (fun z_26 ez_26 => ?_)
    have ez_26 : z_26 = (xs 4) := ez_26
    rw [ez_26]
    refine lv_aload_n hx hb dL_law_507 rfl (lv_at hl 3 rfl) ?_
    have hPc := hP.sub (ws' := [(x0, .inr (7, [.ref aH, .ref aB, .ref aJ, .int 0, .int 0, .int 0, .ref rN, .ref rX, .int 0, .int 0, .int 0, .int 0, .int 0, .int 0, .int (-1), .int (-1), .int 0, .int 0, .ref aV])), (ho, .inl (cO, 1, .inr (.inl fo)))]) [0, 18] rfl
    have hKc := hK.sub (tys' := [(cO, .long)]) [5] rfl
    have hDc := hD.sub (ws' := [(x0, .inr (7, [.ref aH, .ref aB, .ref aJ, .int 0, .int 0, .int 0, .ref rN, .ref rX, .int 0, .int 0, .int 0, .int 0, .int 0, .int 0, .int (-1), .int (-1), .int 0, .int 0, .ref aV])), (ho, .inl (cO, 1, .inr (.inl fo)))]) [0, 18] (by decide) rfl
    have hFc := va_free (wc := [(x0, .inr (7, [.ref aH, .ref aB, .ref aJ, .int 0, .int 0, .int 0, .ref rN, .ref rX, .int 0, .int 0, .int 0, .int 0, .int 0, .int 0, .int (-1), .int (-1), .int 0, .int 0, .ref aV])), (ho, .inl (cO, 1, .inr (.inl fo)))]) hD hS hA [0, 18] rfl
    refine va_calli (vx_runSW (As := [.ref x0, .int (xs 1), .int (xs 2), .int (xs 3), .int (xs 4), .ref ho]) (rest := []) ⟨hx, hb, hml, hown, hts⟩ (w_rules_f l hl0 D eT x0 aH aB aJ rN rX aV ho cO fo (xs 1) (xs 2) (xs 3) (xs 4) H.size hn) (vx_cwSW 6 hts gL_law_L_rules rfl rfl rfl (by decide +kernel) ⟨Nat.le_of_ble_eq_true rfl, Nat.le_of_ble_eq_true rfl⟩) (pc_s hPc hDc hKc hE hS hFc) rfl rfl hl.1 rfl (lv_room (Nat.le_of_ble_eq_true rfl)) dL_law_508 ⟨Nat.le_of_ble_eq_true rfl, Nat.le_of_ble_eq_true rfl⟩) hS (fun q _ h => hFc q h) hFc (fun r u t H1 locs ht hvm hw hB hz1 hk1 hS => ?_)
    have hw : r = 1 := hw
    rw [hw]
    obtain ⟨hP1, hK1, hD1⟩ := hB
    rw [ht] at hP1
    have hK1 := va_K.moved hvm.symm hK1
    obtain ⟨hP, hD⟩ := va_join (wr := [(aJ, .inl (cJ, 5, .inr (.inr (.inr (.inr fJ))))), (j0, .inr (5, [.int 0, .int 0, .int 0, .int 0, .int 0, .ref c1, .ref c2, .int 0, .int 0, .int 0, .int 0, .ref c3, .int 0, .ref c4, .ref c5, .int 0])), (rN, .inr (6, [.int 7, .int 100, .int 800, .int 10])), (rX, .inr (6, [.int 7, .int 100, .int 800, .int 10])), (y0, .inr (8, [.int 0, .ref lH, .ref lB, .ref lJ, .ref aR, .ref aL, .int 0, .int 0, .int 0, .ref lC, .ref aM, .ref aP, .int 0, .int 0, .int 0, .int (-1), .int (-1), .int 0, .int 0, .long 0])), (lH, .inr (2, [.int 0, .ref eT, .int 0])), (lB, .inr (2, [.int 0, .ref eT, .int 0])), (lJ, .inr (2, [.int 0, .ref eT, .int 0])), (lC, .inr (2, [.int 0, .ref eT, .int 0])), (aR, .inl (cI, 4, .inl fR)), (aL, .inl (cL, 4, .inl fL)), (aM, .inl (cM, 5, .inr (.inr (.inr (.inr gM))))), (m0, .inl (cR, 16, .inl f0)), (m1, .inl (cR, 16, .inl f1)), (m2, .inl (cR, 16, .inl f2)), (m3, .inl (cR, 16, .inl f3)), (m4, .inl (cR, 16, .inl f4))]) (w1 := [(ho, .inl (cO, 1, .inr (.inl fo)))]) hP hD [0, 18] [1, 2, 3, 4, 5, 6, 7, 8, 9, 10, 11, 12, 13, 14, 15, 16, 17] rfl rfl (by decide) (by decide) hk1 hFc hP1 hD1
    generalize H1 = H at hP hS ⊢
    have hP : va_P D vwCl [(aJ, .inl (cJ, 5, .inr (.inr (.inr (.inr fJ))))), (j0, .inr (5, [.int 0, .int 0, .int 0, .int 0, .int 0, .ref c1, .ref c2, .int 0, .int 0, .int 0, .int 0, .ref c3, .int 0, .ref c4, .ref c5, .int 0])), (rN, .inr (6, [.int 7, .int 100, .int 800, .int 10])), (rX, .inr (6, [.int 7, .int 100, .int 800, .int 10])), (y0, .inr (8, [.int 0, .ref lH, .ref lB, .ref lJ, .ref aR, .ref aL, .int 0, .int 0, .int 0, .ref lC, .ref aM, .ref aP, .int 0, .int 0, .int 0, .int (-1), .int (-1), .int 0, .int 0, .long 0])), (lH, .inr (2, [.int 0, .ref eT, .int 0])), (lB, .inr (2, [.int 0, .ref eT, .int 0])), (lJ, .inr (2, [.int 0, .ref eT, .int 0])), (lC, .inr (2, [.int 0, .ref eT, .int 0])), (aR, .inl (cI, 4, .inl fR)), (aL, .inl (cL, 4, .inl fL)), (aM, .inl (cM, 5, .inr (.inr (.inr (.inr gM))))), (m0, .inl (cR, 16, .inl f0)), (m1, .inl (cR, 16, .inl f1)), (m2, .inl (cR, 16, .inl f2)), (m3, .inl (cR, 16, .inl f3)), (m4, .inl (cR, 16, .inl f4)), (ho, .inl (cO, 1, .inr (.inl fo)))] H := hP
    have hD : va_D (fun q : Nat => s.heap.size ≤ q) [(aJ, .inl (cJ, 5, .inr (.inr (.inr (.inr fJ))))), (j0, .inr (5, [.int 0, .int 0, .int 0, .int 0, .int 0, .ref c1, .ref c2, .int 0, .int 0, .int 0, .int 0, .ref c3, .int 0, .ref c4, .ref c5, .int 0])), (rN, .inr (6, [.int 7, .int 100, .int 800, .int 10])), (rX, .inr (6, [.int 7, .int 100, .int 800, .int 10])), (y0, .inr (8, [.int 0, .ref lH, .ref lB, .ref lJ, .ref aR, .ref aL, .int 0, .int 0, .int 0, .ref lC, .ref aM, .ref aP, .int 0, .int 0, .int 0, .int (-1), .int (-1), .int 0, .int 0, .long 0])), (lH, .inr (2, [.int 0, .ref eT, .int 0])), (lB, .inr (2, [.int 0, .ref eT, .int 0])), (lJ, .inr (2, [.int 0, .ref eT, .int 0])), (lC, .inr (2, [.int 0, .ref eT, .int 0])), (aR, .inl (cI, 4, .inl fR)), (aL, .inl (cL, 4, .inl fL)), (aM, .inl (cM, 5, .inr (.inr (.inr (.inr gM))))), (m0, .inl (cR, 16, .inl f0)), (m1, .inl (cR, 16, .inl f1)), (m2, .inl (cR, 16, .inl f2)), (m3, .inl (cR, 16, .inl f3)), (m4, .inl (cR, 16, .inl f4)), (ho, .inl (cO, 1, .inr (.inl fo)))] := hD
    refine W.widen (k := 82) (n := 909) (Nat.le_of_ble_eq_true rfl) (Nat.le_of_ble_eq_true rfl) ?_
    refine lv_istore (lv' := [(5, .int 1), (0, .ref b), (1, .ref x0), (2, .ref y0), (3, .ref ho), (4, .int 0)]) hx hb dL_law_511 hl (by decide) rfl (fun ls hl => ?_)
    refine lv_aload_n hx hb dL_law_513 rfl (lv_at hl 3 rfl) ?_
    refine lv_aload_n hx hb dL_law_514 rfl (lv_at hl 1 rfl) ?_
    refine lv_iload hx hb dL_law_515 (lv_at hl 5 rfl) ?_
    refine lv_iconst (v := 1) hx hb dL_law_517 (by decide) ?_
    refine lv_iadd hx hb dL_law_518 ?_
    refine lv_topi (fun z_27 ez_27 => ?_)
    have ez_27 : z_27 = 1 := ez_27.trans (by decide +kernel)
    rw [ez_27]
    refine va_sld hx hb hX hbl hbA hS (show vp_in 1 7 from by unfold vp_in; decide +kernel) dL_law_519 ?_
    refine lv_topi (fun z_28 ez_28 => ?_)
    have ez_28 : z_28 = (xs 1) := ez_28
    rw [ez_28]
    refine lv_aload_n hx hb dL_law_520 rfl (lv_at hl 1 rfl) ?_
    refine lv_iload hx hb dL_law_521 (lv_at hl 5 rfl) ?_
    refine lv_iconst (v := 2) hx hb dL_law_523 (by decide) ?_
    refine lv_iadd hx hb dL_law_524 ?_
    refine lv_topi (fun z_29 ez_29 => ?_)
    have ez_29 : z_29 = 2 := ez_29.trans (by decide +kernel)
    rw [ez_29]
    refine va_sld hx hb hX hbl hbA hS (show vp_in 2 7 from by unfold vp_in; decide +kernel) dL_law_525 ?_
    refine lv_topi (fun z_30 ez_30 => ?_)
    have ez_30 : z_30 = (xs 2) := ez_30
    rw [ez_30]
    refine lv_aload_n hx hb dL_law_526 rfl (lv_at hl 1 rfl) ?_
    refine lv_iload hx hb dL_law_527 (lv_at hl 5 rfl) ?_
    refine lv_iconst (v := 3) hx hb dL_law_529 (by decide) ?_
    refine lv_iadd hx hb dL_law_530 ?_
    refine lv_topi (fun z_31 ez_31 => ?_)
    have ez_31 : z_31 = 3 := ez_31.trans (by decide +kernel)
    rw [ez_31]
    refine va_sld hx hb hX hbl hbA hS (show vp_in 3 7 from by unfold vp_in; decide +kernel) dL_law_531 ?_
    refine lv_topi (fun z_32 ez_32 => ?_)
    have ez_32 : z_32 = (xs 3) := ez_32
    rw [ez_32]
    refine lv_aload_n hx hb dL_law_532 rfl (lv_at hl 1 rfl) ?_
    refine lv_iload hx hb dL_law_533 (lv_at hl 5 rfl) ?_
    refine lv_iconst (v := 4) hx hb dL_law_535 (by decide) ?_
    refine lv_iadd hx hb dL_law_536 ?_
    refine lv_topi (fun z_33 ez_33 => ?_)
    have ez_33 : z_33 = 4 := ez_33.trans (by decide +kernel)
    rw [ez_33]
    refine va_sld hx hb hX hbl hbA hS (show vp_in 4 7 from by unfold vp_in; decide +kernel) dL_law_537 ?_
    refine lv_topi (fun z_34 ez_34 => ?_)
    have ez_34 : z_34 = (xs 4) := ez_34
    rw [ez_34]
    have hPc := hP.sub (ws' := [(y0, .inr (8, [.int 0, .ref lH, .ref lB, .ref lJ, .ref aR, .ref aL, .int 0, .int 0, .int 0, .ref lC, .ref aM, .ref aP, .int 0, .int 0, .int 0, .int (-1), .int (-1), .int 0, .int 0, .long 0]))]) [4] rfl
    have hKc := hK.sub (tys' := []) [] rfl
    have hDc := hD.sub (ws' := [(y0, .inr (8, [.int 0, .ref lH, .ref lB, .ref lJ, .ref aR, .ref aL, .int 0, .int 0, .int 0, .ref lC, .ref aM, .ref aP, .int 0, .int 0, .int 0, .int (-1), .int (-1), .int 0, .int 0, .long 0]))]) [4] (by decide) rfl
    have hFc := va_free (wc := [(y0, .inr (8, [.int 0, .ref lH, .ref lB, .ref lJ, .ref aR, .ref aL, .int 0, .int 0, .int 0, .ref lC, .ref aM, .ref aP, .int 0, .int 0, .int 0, .int (-1), .int (-1), .int 0, .int 0, .long 0]))]) hD hS hA [4] rfl
    refine va_calli (va_runV (As := [.int (xs 1), .int (xs 2), .int (xs 3), .int (xs 4)]) (rest := []) ⟨hx, hb, hml, hown, hts⟩ (r_rules_f l D eT y0 lH lB lJ aR aL lC aM aP 0 (xs 1) (xs 2) (xs 3) (xs 4) H.size hn) (cwV 4 hts gL_law_X5_rules rfl rfl rfl (by decide +kernel) ⟨Nat.le_of_ble_eq_true rfl, Nat.le_of_ble_eq_true rfl⟩) (pc_v (ci := 8) (q0 := 0) rfl rfl hPc hDc hKc hE hS hFc) rfl rfl hl.1 rfl (lv_room (Nat.le_of_ble_eq_true rfl)) dL_law_538 ⟨Nat.le_of_ble_eq_true rfl, Nat.le_of_ble_eq_true rfl⟩) hS (fun q _ h => hFc q h) hFc (fun r u t H1 locs ht hvm hw hB hz1 hk1 hS => ?_)
    have hw : r = 0 := hw
    rw [hw]
    obtain ⟨hP1, hK1, hD1⟩ := hB
    rw [ht] at hP1
    have hK1 := va_K.moved hvm.symm hK1
    obtain ⟨hP, hD⟩ := va_join (wr := [(aJ, .inl (cJ, 5, .inr (.inr (.inr (.inr fJ))))), (j0, .inr (5, [.int 0, .int 0, .int 0, .int 0, .int 0, .ref c1, .ref c2, .int 0, .int 0, .int 0, .int 0, .ref c3, .int 0, .ref c4, .ref c5, .int 0])), (rN, .inr (6, [.int 7, .int 100, .int 800, .int 10])), (rX, .inr (6, [.int 7, .int 100, .int 800, .int 10])), (lH, .inr (2, [.int 0, .ref eT, .int 0])), (lB, .inr (2, [.int 0, .ref eT, .int 0])), (lJ, .inr (2, [.int 0, .ref eT, .int 0])), (lC, .inr (2, [.int 0, .ref eT, .int 0])), (aR, .inl (cI, 4, .inl fR)), (aL, .inl (cL, 4, .inl fL)), (aM, .inl (cM, 5, .inr (.inr (.inr (.inr gM))))), (m0, .inl (cR, 16, .inl f0)), (m1, .inl (cR, 16, .inl f1)), (m2, .inl (cR, 16, .inl f2)), (m3, .inl (cR, 16, .inl f3)), (m4, .inl (cR, 16, .inl f4)), (ho, .inl (cO, 1, .inr (.inl fo)))]) (w1 := [(y0, .inr (8, [.int 1, .ref lH, .ref lB, .ref lJ, .ref aR, .ref aL, .int 0, .int 0, .int 0, .ref lC, .ref aM, .ref aP, .int 0, .int 0, .int 0, .int (-1), .int (-1), .int 0, .int 0, .long 0]))]) hP hD [4] [0, 1, 2, 3, 5, 6, 7, 8, 9, 10, 11, 12, 13, 14, 15, 16, 17] rfl rfl (by decide) (by decide) hk1 hFc hP1 hD1
    generalize H1 = H at hP hS ⊢
    have hP : va_P D vwCl [(aJ, .inl (cJ, 5, .inr (.inr (.inr (.inr fJ))))), (j0, .inr (5, [.int 0, .int 0, .int 0, .int 0, .int 0, .ref c1, .ref c2, .int 0, .int 0, .int 0, .int 0, .ref c3, .int 0, .ref c4, .ref c5, .int 0])), (rN, .inr (6, [.int 7, .int 100, .int 800, .int 10])), (rX, .inr (6, [.int 7, .int 100, .int 800, .int 10])), (lH, .inr (2, [.int 0, .ref eT, .int 0])), (lB, .inr (2, [.int 0, .ref eT, .int 0])), (lJ, .inr (2, [.int 0, .ref eT, .int 0])), (lC, .inr (2, [.int 0, .ref eT, .int 0])), (aR, .inl (cI, 4, .inl fR)), (aL, .inl (cL, 4, .inl fL)), (aM, .inl (cM, 5, .inr (.inr (.inr (.inr gM))))), (m0, .inl (cR, 16, .inl f0)), (m1, .inl (cR, 16, .inl f1)), (m2, .inl (cR, 16, .inl f2)), (m3, .inl (cR, 16, .inl f3)), (m4, .inl (cR, 16, .inl f4)), (ho, .inl (cO, 1, .inr (.inl fo))), (y0, .inr (8, [.int 1, .ref lH, .ref lB, .ref lJ, .ref aR, .ref aL, .int 0, .int 0, .int 0, .ref lC, .ref aM, .ref aP, .int 0, .int 0, .int 0, .int (-1), .int (-1), .int 0, .int 0, .long 0]))] H := hP
    have hD : va_D (fun q : Nat => s.heap.size ≤ q) [(aJ, .inl (cJ, 5, .inr (.inr (.inr (.inr fJ))))), (j0, .inr (5, [.int 0, .int 0, .int 0, .int 0, .int 0, .ref c1, .ref c2, .int 0, .int 0, .int 0, .int 0, .ref c3, .int 0, .ref c4, .ref c5, .int 0])), (rN, .inr (6, [.int 7, .int 100, .int 800, .int 10])), (rX, .inr (6, [.int 7, .int 100, .int 800, .int 10])), (lH, .inr (2, [.int 0, .ref eT, .int 0])), (lB, .inr (2, [.int 0, .ref eT, .int 0])), (lJ, .inr (2, [.int 0, .ref eT, .int 0])), (lC, .inr (2, [.int 0, .ref eT, .int 0])), (aR, .inl (cI, 4, .inl fR)), (aL, .inl (cL, 4, .inl fL)), (aM, .inl (cM, 5, .inr (.inr (.inr (.inr gM))))), (m0, .inl (cR, 16, .inl f0)), (m1, .inl (cR, 16, .inl f1)), (m2, .inl (cR, 16, .inl f2)), (m3, .inl (cR, 16, .inl f3)), (m4, .inl (cR, 16, .inl f4)), (ho, .inl (cO, 1, .inr (.inl fo))), (y0, .inr (8, [.int 1, .ref lH, .ref lB, .ref lJ, .ref aR, .ref aL, .int 0, .int 0, .int 0, .ref lC, .ref aM, .ref aP, .int 0, .int 0, .int 0, .int (-1), .int (-1), .int 0, .int 0, .long 0]))] := hD
    refine lv_istore (lv' := [(6, .int 0), (5, .int 1), (0, .ref b), (1, .ref x0), (2, .ref y0), (3, .ref ho), (4, .int 0)]) hx hb dL_law_541 hl (by decide) rfl (fun ls hl => ?_)
    refine lv_aload_n hx hb dL_law_543 rfl (lv_at hl 4 rfl) ?_
    have hPc := hP.sub (ws' := [(y0, .inr (8, [.int 1, .ref lH, .ref lB, .ref lJ, .ref aR, .ref aL, .int 0, .int 0, .int 0, .ref lC, .ref aM, .ref aP, .int 0, .int 0, .int 0, .int (-1), .int (-1), .int 0, .int 0, .long 0]))]) [17] rfl
    have hKc := hK.sub (tys' := []) [] rfl
    refine va_calli (va_runV (As := []) (rest := []) ⟨hx, hb, hml, hown, hts⟩ (r_thrown l D eT y0 lH lB lJ aR aL lC aM aP 0 1 0 H.size ) (cwV 0 hts gL_law_X5_thrown rfl rfl rfl (by decide +kernel) ⟨Nat.le_of_ble_eq_true rfl, Nat.le_of_ble_eq_true rfl⟩) (pr_v (ci := 8) (q0 := 0) rfl rfl hPc hKc hE hS hA) rfl rfl hl.1 rfl (lv_room (Nat.le_of_ble_eq_true rfl)) dL_law_544 ⟨Nat.le_of_ble_eq_true rfl, Nat.le_of_ble_eq_true rfl⟩) hS (fun q h1 h2 => ro_A h1 h2) (fun q h => ro_F hS hA q h) (fun r u t H1 locs ht hvm hw hB hz1 hk1 hS => ?_)
    have hw : r = 1 := hw
    rw [hw]
    have hP := ro_P hP hk1
    generalize H1 = H at hP hS ⊢
    refine lv_iload hx hb dL_law_547 (lv_at hl 1 rfl) ?_
    refine lv_icmp_eq (tgt := 554) hx hb dL_law_549 (by decide) (fun _ => ?_) (fun h => absurd (by decide) h)
    refine lv_iload hx hb dL_law_554 (lv_at hl 1 rfl) ?_
    refine lv_if_ne (tgt := 571) hx hb dL_law_556 (by decide) (fun _ => ?_) (fun h => absurd h (by decide))
    refine lv_goto (tgt := 1835) hx hb dL_law_571 (by decide) ?_
    refine W.widen (k := 2000) (n := 20000) (Nat.le_of_ble_eq_true rfl) (Nat.le_of_ble_eq_true rfl) ?_
    exact kx _ _ _ hS (lv_sub hl [2, 3, 4, 5, 6] rfl)
set_option maxHeartbeats 8000000 in
set_option maxRecDepth 100000 in
theorem law_c5 {p : Program} {l : Launch} {e : Env} {s : State} {m : MethodId} {args : Array Value} {below : List Frame} {meth : Method} {c : Code} {Q : State → Prop} {b : Nat} {xs : Nat → Int32} {D : va_G} {eT : Nat} {x0 aH aB aJ rN rX aV j0 c1 c2 c3 c4 c5 y0 lH lB lJ aR aL lC aM aP m0 m1 m2 m3 m4 ho : Nat} {cJ cI cL cM cR cO : ClassId} {fJ : Nat → Option Nat} {fR : Nat → Int32} {fL : Nat → Int32} {gM : Nat → Option Nat} {f0 : Nat → Int32} {f1 : Nat → Int32} {f2 : Nat → Int32} {f3 : Nat → Int32} {f4 : Nat → Int32} {fo : Nat → Int64} (hl0 : l.stackTraces = false) (hx : p.tables.exec = Jvm.exec) (hb : c.code = cL_law) (hml : c.maxLocals = 9) (hown : s.vm.findClass RL = some m.cls) (hts : ∀ w ∈ wsL_law, w.before args s = true) (hX : va_X b 7 xs s s.heap) (hbl : b < s.heap.size) (hE : ev eT (fun q : Nat => s.heap.size ≤ q) s s.heap) (hJ : fJ 0 = some j0) (hR : fR 3 = 10) (hg0 : gM 0 = some m0) (hg1 : gM 1 = some m1) (hg2 : gM 2 = some m2) (hg3 : gM 3 = some m3) (hg4 : gM 4 = some m4) (hm0 : ∀ k, k < 16 → f0 k = -1) (hm1 : ∀ k, k < 16 → f1 k = -1) (hm2 : ∀ k, k < 16 → f2 k = -1) (hm3 : ∀ k, k < 16 → f3 k = -1) (hm4 : ∀ k, k < 16 → f4 k = -1) (hK : va_K D vwCl [(cJ, .object RX2), (cI, .int), (cL, .int), (cM, .array .int), (cR, .int), (cO, .long)] s) {H : Heap} {locs : List Loc} (hP : va_P D vwCl [(x0, .inr (7, [.ref aH, .ref aB, .ref aJ, .int 0, .int 0, .int 0, .ref rN, .ref rX, .int 0, .int 0, .int 0, .int 0, .int 0, .int 0, .int (-1), .int (-1), .int 0, .int 0, .ref aV])), (aJ, .inl (cJ, 5, .inr (.inr (.inr (.inr fJ))))), (j0, .inr (5, [.int 0, .int 0, .int 0, .int 0, .int 0, .ref c1, .ref c2, .int 0, .int 0, .int 0, .int 0, .ref c3, .int 0, .ref c4, .ref c5, .int 0])), (rN, .inr (6, [.int 7, .int 100, .int 800, .int 10])), (rX, .inr (6, [.int 7, .int 100, .int 800, .int 10])), (y0, .inr (8, [.int 0, .ref lH, .ref lB, .ref lJ, .ref aR, .ref aL, .int 0, .int 0, .int 0, .ref lC, .ref aM, .ref aP, .int 0, .int 0, .int 0, .int (-1), .int (-1), .int 0, .int 0, .long 0])), (lH, .inr (2, [.int 0, .ref eT, .int 0])), (lB, .inr (2, [.int 0, .ref eT, .int 0])), (lJ, .inr (2, [.int 0, .ref eT, .int 0])), (lC, .inr (2, [.int 0, .ref eT, .int 0])), (aR, .inl (cI, 4, .inl fR)), (aL, .inl (cL, 4, .inl fL)), (aM, .inl (cM, 5, .inr (.inr (.inr (.inr gM))))), (m0, .inl (cR, 16, .inl f0)), (m1, .inl (cR, 16, .inl f1)), (m2, .inl (cR, 16, .inl f2)), (m3, .inl (cR, 16, .inl f3)), (m4, .inl (cR, 16, .inl f4)), (ho, .inl (cO, 1, .inr (.inl fo)))] H) (hD : va_D (fun q : Nat => s.heap.size ≤ q) [(x0, .inr (7, [.ref aH, .ref aB, .ref aJ, .int 0, .int 0, .int 0, .ref rN, .ref rX, .int 0, .int 0, .int 0, .int 0, .int 0, .int 0, .int (-1), .int (-1), .int 0, .int 0, .ref aV])), (aJ, .inl (cJ, 5, .inr (.inr (.inr (.inr fJ))))), (j0, .inr (5, [.int 0, .int 0, .int 0, .int 0, .int 0, .ref c1, .ref c2, .int 0, .int 0, .int 0, .int 0, .ref c3, .int 0, .ref c4, .ref c5, .int 0])), (rN, .inr (6, [.int 7, .int 100, .int 800, .int 10])), (rX, .inr (6, [.int 7, .int 100, .int 800, .int 10])), (y0, .inr (8, [.int 0, .ref lH, .ref lB, .ref lJ, .ref aR, .ref aL, .int 0, .int 0, .int 0, .ref lC, .ref aM, .ref aP, .int 0, .int 0, .int 0, .int (-1), .int (-1), .int 0, .int 0, .long 0])), (lH, .inr (2, [.int 0, .ref eT, .int 0])), (lB, .inr (2, [.int 0, .ref eT, .int 0])), (lJ, .inr (2, [.int 0, .ref eT, .int 0])), (lC, .inr (2, [.int 0, .ref eT, .int 0])), (aR, .inl (cI, 4, .inl fR)), (aL, .inl (cL, 4, .inl fL)), (aM, .inl (cM, 5, .inr (.inr (.inr (.inr gM))))), (m0, .inl (cR, 16, .inl f0)), (m1, .inl (cR, 16, .inl f1)), (m2, .inl (cR, 16, .inl f2)), (m3, .inl (cR, 16, .inl f3)), (m4, .inl (cR, 16, .inl f4)), (ho, .inl (cO, 1, .inr (.inl fo)))]) (hS : va_S (fun q : Nat => s.heap.size ≤ q) s.heap H locs) {ls : Array Slot} (hl : lv_has ls 9 [(0, .ref b), (1, .ref x0), (2, .ref y0), (3, .ref ho), (4, .int 0)]) (kx : ∀ (H : Heap) (locs : List Loc) (ls : Array Slot), va_S (fun q : Nat => s.heap.size ≤ q) s.heap H locs → lv_has ls 9 [(0, .ref b), (1, .ref x0), (2, .ref y0), (3, .ref ho), (4, .int 0)] → W p l e room_1 s m args below meth c H locs 2000 20000 Q (F0 m 1835 ls [])) : W p l e room_1 s m args below meth c H locs 81 903 Q (F0 m 574 ls []) := by
  have hA : ∀ q : Nat, s.heap.size ≤ q → (fun q : Nat => s.heap.size ≤ q) q := fun _ h => h
  have hbA : ¬ (fun q : Nat => s.heap.size ≤ q) b := Nat.not_le.mpr hbl
  · skip
    refine lv_aload_n hx hb dL_law_574 rfl (lv_at hl 1 rfl) ?_
    refine lv_aload_n hx hb dL_law_575 rfl (lv_at hl 0 rfl) ?_
    refine lv_iload hx hb dL_law_576 (lv_at hl 4 rfl) ?_
    refine lv_iconst (v := 1) hx hb dL_law_578 (by decide) ?_
    refine lv_iadd hx hb dL_law_579 ?_
    refine lv_topi (fun z_1 ez_1 => ?_)
    have ez_1 : z_1 = 1 := ez_1.trans (by decide +kernel)
    rw [ez_1]
    refine va_sld hx hb hX hbl hbA hS (show vp_in 1 7 from by unfold vp_in; decide +kernel) dL_law_580 ?_
    refine lv_topi (fun z_2 ez_2 => ?_)
    have ez_2 : z_2 = (xs 1) := ez_2
    rw [ez_2]
    refine lv_aload_n hx hb dL_law_581 rfl (lv_at hl 3 rfl) ?_
    have hPc := hP.sub (ws' := [(x0, .inr (7, [.ref aH, .ref aB, .ref aJ, .int 0, .int 0, .int 0, .ref rN, .ref rX, .int 0, .int 0, .int 0, .int 0, .int 0, .int 0, .int (-1), .int (-1), .int 0, .int 0, .ref aV])), (ho, .inl (cO, 1, .inr (.inl fo)))]) [0, 18] rfl
    have hKc := hK.sub (tys' := [(cO, .long)]) [5] rfl
    have hDc := hD.sub (ws' := [(x0, .inr (7, [.ref aH, .ref aB, .ref aJ, .int 0, .int 0, .int 0, .ref rN, .ref rX, .int 0, .int 0, .int 0, .int 0, .int 0, .int 0, .int (-1), .int (-1), .int 0, .int 0, .ref aV])), (ho, .inl (cO, 1, .inr (.inl fo)))]) [0, 18] (by decide) rfl
    have hFc := va_free (wc := [(x0, .inr (7, [.ref aH, .ref aB, .ref aJ, .int 0, .int 0, .int 0, .ref rN, .ref rX, .int 0, .int 0, .int 0, .int 0, .int 0, .int 0, .int (-1), .int (-1), .int 0, .int 0, .ref aV])), (ho, .inl (cO, 1, .inr (.inl fo)))]) hD hS hA [0, 18] rfl
    refine va_calli (vx_runSW (As := [.ref x0, .int (xs 1), .ref ho]) (rest := []) ⟨hx, hb, hml, hown, hts⟩ (w_enter l hl0 D eT x0 aH aB aJ rN rX aV ho cO fo (xs 1) H.size ) (vx_cwSW 3 hts gL_law_L_enter rfl rfl rfl (by decide +kernel) ⟨Nat.le_of_ble_eq_true rfl, Nat.le_of_ble_eq_true rfl⟩) (pc_s hPc hDc hKc hE hS hFc) rfl rfl hl.1 rfl (lv_room (Nat.le_of_ble_eq_true rfl)) dL_law_582 ⟨Nat.le_of_ble_eq_true rfl, Nat.le_of_ble_eq_true rfl⟩) hS (fun q _ h => hFc q h) hFc (fun r u t H1 locs ht hvm hw hB hz1 hk1 hS => ?_)
    have hw : r = 1 := hw
    rw [hw]
    obtain ⟨hP1, hK1, hD1⟩ := hB
    rw [ht] at hP1
    have hK1 := va_K.moved hvm.symm hK1
    obtain ⟨hP, hD⟩ := va_join (wr := [(aJ, .inl (cJ, 5, .inr (.inr (.inr (.inr fJ))))), (j0, .inr (5, [.int 0, .int 0, .int 0, .int 0, .int 0, .ref c1, .ref c2, .int 0, .int 0, .int 0, .int 0, .ref c3, .int 0, .ref c4, .ref c5, .int 0])), (rN, .inr (6, [.int 7, .int 100, .int 800, .int 10])), (rX, .inr (6, [.int 7, .int 100, .int 800, .int 10])), (y0, .inr (8, [.int 0, .ref lH, .ref lB, .ref lJ, .ref aR, .ref aL, .int 0, .int 0, .int 0, .ref lC, .ref aM, .ref aP, .int 0, .int 0, .int 0, .int (-1), .int (-1), .int 0, .int 0, .long 0])), (lH, .inr (2, [.int 0, .ref eT, .int 0])), (lB, .inr (2, [.int 0, .ref eT, .int 0])), (lJ, .inr (2, [.int 0, .ref eT, .int 0])), (lC, .inr (2, [.int 0, .ref eT, .int 0])), (aR, .inl (cI, 4, .inl fR)), (aL, .inl (cL, 4, .inl fL)), (aM, .inl (cM, 5, .inr (.inr (.inr (.inr gM))))), (m0, .inl (cR, 16, .inl f0)), (m1, .inl (cR, 16, .inl f1)), (m2, .inl (cR, 16, .inl f2)), (m3, .inl (cR, 16, .inl f3)), (m4, .inl (cR, 16, .inl f4))]) (w1 := [(ho, .inl (cO, 1, .inr (.inl fo)))]) hP hD [0, 18] [1, 2, 3, 4, 5, 6, 7, 8, 9, 10, 11, 12, 13, 14, 15, 16, 17] rfl rfl (by decide) (by decide) hk1 hFc hP1 hD1
    generalize H1 = H at hP hS ⊢
    have hP : va_P D vwCl [(aJ, .inl (cJ, 5, .inr (.inr (.inr (.inr fJ))))), (j0, .inr (5, [.int 0, .int 0, .int 0, .int 0, .int 0, .ref c1, .ref c2, .int 0, .int 0, .int 0, .int 0, .ref c3, .int 0, .ref c4, .ref c5, .int 0])), (rN, .inr (6, [.int 7, .int 100, .int 800, .int 10])), (rX, .inr (6, [.int 7, .int 100, .int 800, .int 10])), (y0, .inr (8, [.int 0, .ref lH, .ref lB, .ref lJ, .ref aR, .ref aL, .int 0, .int 0, .int 0, .ref lC, .ref aM, .ref aP, .int 0, .int 0, .int 0, .int (-1), .int (-1), .int 0, .int 0, .long 0])), (lH, .inr (2, [.int 0, .ref eT, .int 0])), (lB, .inr (2, [.int 0, .ref eT, .int 0])), (lJ, .inr (2, [.int 0, .ref eT, .int 0])), (lC, .inr (2, [.int 0, .ref eT, .int 0])), (aR, .inl (cI, 4, .inl fR)), (aL, .inl (cL, 4, .inl fL)), (aM, .inl (cM, 5, .inr (.inr (.inr (.inr gM))))), (m0, .inl (cR, 16, .inl f0)), (m1, .inl (cR, 16, .inl f1)), (m2, .inl (cR, 16, .inl f2)), (m3, .inl (cR, 16, .inl f3)), (m4, .inl (cR, 16, .inl f4)), (ho, .inl (cO, 1, .inr (.inl fo)))] H := hP
    have hD : va_D (fun q : Nat => s.heap.size ≤ q) [(aJ, .inl (cJ, 5, .inr (.inr (.inr (.inr fJ))))), (j0, .inr (5, [.int 0, .int 0, .int 0, .int 0, .int 0, .ref c1, .ref c2, .int 0, .int 0, .int 0, .int 0, .ref c3, .int 0, .ref c4, .ref c5, .int 0])), (rN, .inr (6, [.int 7, .int 100, .int 800, .int 10])), (rX, .inr (6, [.int 7, .int 100, .int 800, .int 10])), (y0, .inr (8, [.int 0, .ref lH, .ref lB, .ref lJ, .ref aR, .ref aL, .int 0, .int 0, .int 0, .ref lC, .ref aM, .ref aP, .int 0, .int 0, .int 0, .int (-1), .int (-1), .int 0, .int 0, .long 0])), (lH, .inr (2, [.int 0, .ref eT, .int 0])), (lB, .inr (2, [.int 0, .ref eT, .int 0])), (lJ, .inr (2, [.int 0, .ref eT, .int 0])), (lC, .inr (2, [.int 0, .ref eT, .int 0])), (aR, .inl (cI, 4, .inl fR)), (aL, .inl (cL, 4, .inl fL)), (aM, .inl (cM, 5, .inr (.inr (.inr (.inr gM))))), (m0, .inl (cR, 16, .inl f0)), (m1, .inl (cR, 16, .inl f1)), (m2, .inl (cR, 16, .inl f2)), (m3, .inl (cR, 16, .inl f3)), (m4, .inl (cR, 16, .inl f4)), (ho, .inl (cO, 1, .inr (.inl fo)))] := hD
    refine W.widen (k := 82) (n := 909) (Nat.le_of_ble_eq_true rfl) (Nat.le_of_ble_eq_true rfl) ?_
    refine lv_istore (lv' := [(5, .int 1), (0, .ref b), (1, .ref x0), (2, .ref y0), (3, .ref ho), (4, .int 0)]) hx hb dL_law_585 hl (by decide) rfl (fun ls hl => ?_)
    refine lv_aload_n hx hb dL_law_587 rfl (lv_at hl 3 rfl) ?_
    refine lv_aload_n hx hb dL_law_588 rfl (lv_at hl 1 rfl) ?_
    refine lv_iload hx hb dL_law_589 (lv_at hl 5 rfl) ?_
    refine lv_iconst (v := 1) hx hb dL_law_591 (by decide) ?_
    refine lv_iadd hx hb dL_law_592 ?_
    refine lv_topi (fun z_3 ez_3 => ?_)
    have ez_3 : z_3 = 1 := ez_3.trans (by decide +kernel)
    rw [ez_3]
    refine va_sld hx hb hX hbl hbA hS (show vp_in 1 7 from by unfold vp_in; decide +kernel) dL_law_593 ?_
    refine lv_topi (fun z_4 ez_4 => ?_)
    have ez_4 : z_4 = (xs 1) := ez_4
    rw [ez_4]
    have hPc := hP.sub (ws' := [(y0, .inr (8, [.int 0, .ref lH, .ref lB, .ref lJ, .ref aR, .ref aL, .int 0, .int 0, .int 0, .ref lC, .ref aM, .ref aP, .int 0, .int 0, .int 0, .int (-1), .int (-1), .int 0, .int 0, .long 0])), (lB, .inr (2, [.int 0, .ref eT, .int 0]))]) [4, 6] rfl
    have hKc := hK.sub (tys' := []) [] rfl
    have hDc := hD.sub (ws' := [(y0, .inr (8, [.int 0, .ref lH, .ref lB, .ref lJ, .ref aR, .ref aL, .int 0, .int 0, .int 0, .ref lC, .ref aM, .ref aP, .int 0, .int 0, .int 0, .int (-1), .int (-1), .int 0, .int 0, .long 0])), (lB, .inr (2, [.int 0, .ref eT, .int 0]))]) [4, 6] (by decide) rfl
    have hFc := va_free (wc := [(y0, .inr (8, [.int 0, .ref lH, .ref lB, .ref lJ, .ref aR, .ref aL, .int 0, .int 0, .int 0, .ref lC, .ref aM, .ref aP, .int 0, .int 0, .int 0, .int (-1), .int (-1), .int 0, .int 0, .long 0])), (lB, .inr (2, [.int 0, .ref eT, .int 0]))]) hD hS hA [4, 6] rfl
    refine va_calli (va_runV (As := [.int (xs 1)]) (rest := []) ⟨hx, hb, hml, hown, hts⟩ (r_enter l D eT y0 lH lB lJ aR aL lC aM aP 0 (xs 1) H.size ) (cwV 1 hts gL_law_X5_enter rfl rfl rfl (by decide +kernel) ⟨Nat.le_of_ble_eq_true rfl, Nat.le_of_ble_eq_true rfl⟩) (pc_v (ci := 8) (q0 := 0) rfl rfl hPc hDc hKc hE hS hFc) rfl rfl hl.1 rfl (lv_room (Nat.le_of_ble_eq_true rfl)) dL_law_594 ⟨Nat.le_of_ble_eq_true rfl, Nat.le_of_ble_eq_true rfl⟩) hS (fun q _ h => hFc q h) hFc (fun r u t H1 locs ht hvm hw hB hz1 hk1 hS => ?_)
    have hw : r = 0 := hw
    rw [hw]
    obtain ⟨hP1, hK1, hD1⟩ := hB
    rw [ht] at hP1
    have hK1 := va_K.moved hvm.symm hK1
    obtain ⟨hP, hD⟩ := va_join (wr := [(aJ, .inl (cJ, 5, .inr (.inr (.inr (.inr fJ))))), (j0, .inr (5, [.int 0, .int 0, .int 0, .int 0, .int 0, .ref c1, .ref c2, .int 0, .int 0, .int 0, .int 0, .ref c3, .int 0, .ref c4, .ref c5, .int 0])), (rN, .inr (6, [.int 7, .int 100, .int 800, .int 10])), (rX, .inr (6, [.int 7, .int 100, .int 800, .int 10])), (lH, .inr (2, [.int 0, .ref eT, .int 0])), (lJ, .inr (2, [.int 0, .ref eT, .int 0])), (lC, .inr (2, [.int 0, .ref eT, .int 0])), (aR, .inl (cI, 4, .inl fR)), (aL, .inl (cL, 4, .inl fL)), (aM, .inl (cM, 5, .inr (.inr (.inr (.inr gM))))), (m0, .inl (cR, 16, .inl f0)), (m1, .inl (cR, 16, .inl f1)), (m2, .inl (cR, 16, .inl f2)), (m3, .inl (cR, 16, .inl f3)), (m4, .inl (cR, 16, .inl f4)), (ho, .inl (cO, 1, .inr (.inl fo)))]) (w1 := [(y0, .inr (8, [.int 1, .ref lH, .ref lB, .ref lJ, .ref aR, .ref aL, .int 0, .int 0, .int 0, .ref lC, .ref aM, .ref aP, .int 0, .int 0, .int 0, .int (-1), .int (-1), .int 0, .int 0, .long 0]))]) hP hD [4, 6] [0, 1, 2, 3, 5, 7, 8, 9, 10, 11, 12, 13, 14, 15, 16, 17] rfl rfl (by decide) (by decide) hk1 hFc hP1 hD1
    generalize H1 = H at hP hS ⊢
    have hP : va_P D vwCl [(aJ, .inl (cJ, 5, .inr (.inr (.inr (.inr fJ))))), (j0, .inr (5, [.int 0, .int 0, .int 0, .int 0, .int 0, .ref c1, .ref c2, .int 0, .int 0, .int 0, .int 0, .ref c3, .int 0, .ref c4, .ref c5, .int 0])), (rN, .inr (6, [.int 7, .int 100, .int 800, .int 10])), (rX, .inr (6, [.int 7, .int 100, .int 800, .int 10])), (lH, .inr (2, [.int 0, .ref eT, .int 0])), (lJ, .inr (2, [.int 0, .ref eT, .int 0])), (lC, .inr (2, [.int 0, .ref eT, .int 0])), (aR, .inl (cI, 4, .inl fR)), (aL, .inl (cL, 4, .inl fL)), (aM, .inl (cM, 5, .inr (.inr (.inr (.inr gM))))), (m0, .inl (cR, 16, .inl f0)), (m1, .inl (cR, 16, .inl f1)), (m2, .inl (cR, 16, .inl f2)), (m3, .inl (cR, 16, .inl f3)), (m4, .inl (cR, 16, .inl f4)), (ho, .inl (cO, 1, .inr (.inl fo))), (y0, .inr (8, [.int 1, .ref lH, .ref lB, .ref lJ, .ref aR, .ref aL, .int 0, .int 0, .int 0, .ref lC, .ref aM, .ref aP, .int 0, .int 0, .int 0, .int (-1), .int (-1), .int 0, .int 0, .long 0]))] H := hP
    have hD : va_D (fun q : Nat => s.heap.size ≤ q) [(aJ, .inl (cJ, 5, .inr (.inr (.inr (.inr fJ))))), (j0, .inr (5, [.int 0, .int 0, .int 0, .int 0, .int 0, .ref c1, .ref c2, .int 0, .int 0, .int 0, .int 0, .ref c3, .int 0, .ref c4, .ref c5, .int 0])), (rN, .inr (6, [.int 7, .int 100, .int 800, .int 10])), (rX, .inr (6, [.int 7, .int 100, .int 800, .int 10])), (lH, .inr (2, [.int 0, .ref eT, .int 0])), (lJ, .inr (2, [.int 0, .ref eT, .int 0])), (lC, .inr (2, [.int 0, .ref eT, .int 0])), (aR, .inl (cI, 4, .inl fR)), (aL, .inl (cL, 4, .inl fL)), (aM, .inl (cM, 5, .inr (.inr (.inr (.inr gM))))), (m0, .inl (cR, 16, .inl f0)), (m1, .inl (cR, 16, .inl f1)), (m2, .inl (cR, 16, .inl f2)), (m3, .inl (cR, 16, .inl f3)), (m4, .inl (cR, 16, .inl f4)), (ho, .inl (cO, 1, .inr (.inl fo))), (y0, .inr (8, [.int 1, .ref lH, .ref lB, .ref lJ, .ref aR, .ref aL, .int 0, .int 0, .int 0, .ref lC, .ref aM, .ref aP, .int 0, .int 0, .int 0, .int (-1), .int (-1), .int 0, .int 0, .long 0]))] := hD
    refine lv_istore (lv' := [(6, .int 0), (5, .int 1), (0, .ref b), (1, .ref x0), (2, .ref y0), (3, .ref ho), (4, .int 0)]) hx hb dL_law_597 hl (by decide) rfl (fun ls hl => ?_)
    refine lv_aload_n hx hb dL_law_599 rfl (lv_at hl 4 rfl) ?_
    have hPc := hP.sub (ws' := [(y0, .inr (8, [.int 1, .ref lH, .ref lB, .ref lJ, .ref aR, .ref aL, .int 0, .int 0, .int 0, .ref lC, .ref aM, .ref aP, .int 0, .int 0, .int 0, .int (-1), .int (-1), .int 0, .int 0, .long 0]))]) [16] rfl
    have hKc := hK.sub (tys' := []) [] rfl
    refine va_calli (va_runV (As := []) (rest := []) ⟨hx, hb, hml, hown, hts⟩ (r_thrown l D eT y0 lH lB lJ aR aL lC aM aP 0 1 0 H.size ) (cwV 0 hts gL_law_X5_thrown rfl rfl rfl (by decide +kernel) ⟨Nat.le_of_ble_eq_true rfl, Nat.le_of_ble_eq_true rfl⟩) (pr_v (ci := 8) (q0 := 0) rfl rfl hPc hKc hE hS hA) rfl rfl hl.1 rfl (lv_room (Nat.le_of_ble_eq_true rfl)) dL_law_600 ⟨Nat.le_of_ble_eq_true rfl, Nat.le_of_ble_eq_true rfl⟩) hS (fun q h1 h2 => ro_A h1 h2) (fun q h => ro_F hS hA q h) (fun r u t H1 locs ht hvm hw hB hz1 hk1 hS => ?_)
    have hw : r = 1 := hw
    rw [hw]
    have hP := ro_P hP hk1
    generalize H1 = H at hP hS ⊢
    refine lv_iload hx hb dL_law_603 (lv_at hl 1 rfl) ?_
    refine lv_icmp_eq (tgt := 610) hx hb dL_law_605 (by decide) (fun _ => ?_) (fun h => absurd (by decide) h)
    refine lv_iload hx hb dL_law_610 (lv_at hl 1 rfl) ?_
    refine lv_if_ne (tgt := 627) hx hb dL_law_612 (by decide) (fun _ => ?_) (fun h => absurd h (by decide))
    refine lv_goto (tgt := 1835) hx hb dL_law_627 (by decide) ?_
    refine W.widen (k := 2000) (n := 20000) (Nat.le_of_ble_eq_true rfl) (Nat.le_of_ble_eq_true rfl) ?_
    exact kx _ _ _ hS (lv_sub hl [2, 3, 4, 5, 6] rfl)
