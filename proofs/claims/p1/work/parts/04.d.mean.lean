set_option maxHeartbeats 4000000 in
set_option maxRecDepth 100000 in
theorem r_meanMark (l : Launch) (D : va_G) (eT : Nat) (h0 : Nat) (lH : Nat) (lB : Nat) (lJ : Nat) (aR : Nat) (aL : Nat) (lC : Nat) (aM : Nat) (aP : Nat) (sm : Int64) (m0 : Nat) (m1 : Nat) (m2 : Nat) (m3 : Nat) (m4 : Nat) (cM : ClassId) (cR : ClassId) (gM : Nat → Option Nat) (f0 : Nat → Int32) (f1 : Nat → Int32) (f2 : Nat → Int32) (f3 : Nat → Int32) (f4 : Nat → Int32) (sz : Nat) (hg0 : gM 0 = some m0) (hg1 : gM 1 = some m1) (hg2 : gM 2 = some m2) (hg3 : gM 3 = some m3) (hg4 : gM 4 = some m4) (hm0 : ∀ k, k < 16 → f0 k = -1) (hm1 : ∀ k, k < 16 → f1 k = -1) (hm2 : ∀ k, k < 16 → f2 k = -1) (hm3 : ∀ k, k < 16 → f3 k = -1) (hm4 : ∀ k, k < 16 → f4 k = -1) : Met l yX5_meanMark wsX5_meanMark ({ frames := 1, cells := 0, slots := 0, locals := 15 }) (va_Pc [.ref h0] (pc D eT sz [(h0, .inr (8, [.int 0, .ref lH, .ref lB, .ref lJ, .ref aR, .ref aL, .int 0, .int 0, .int 0, .ref lC, .ref aM, .ref aP, .int 0, .int 0, .int 0, .int (-1), .int (-1), .int 0, .int 0, .long sm])), (aM, .inl (cM, 5, .inr (.inr (.inr (.inr gM))))), (m0, .inl (cR, 16, .inl f0)), (m1, .inl (cR, 16, .inl f1)), (m2, .inl (cR, 16, .inl f2)), (m3, .inl (cR, 16, .inl f3)), (m4, .inl (cR, 16, .inl f4))] [(cM, .array .int), (cR, .int)])) (va_Qd (fun (r : UInt64) (_ : Unit) => r = FP.dconst0) (fun _ t => va_P D vwCl [] t.heap ∧ va_K D vwCl [] t ∧ va_D (va_A [(h0, .inr (8, [.int 0, .ref lH, .ref lB, .ref lJ, .ref aR, .ref aL, .int 0, .int 0, .int 0, .ref lC, .ref aM, .ref aP, .int 0, .int 0, .int 0, .int (-1), .int (-1), .int 0, .int 0, .long sm])), (aM, .inl (cM, 5, .inr (.inr (.inr (.inr gM))))), (m0, .inl (cR, 16, .inl f0)), (m1, .inl (cR, 16, .inl f1)), (m2, .inl (cR, 16, .inl f2)), (m3, .inl (cR, 16, .inl f3)), (m4, .inl (cR, 16, .inl f4))] sz) []) (va_A [(h0, .inr (8, [.int 0, .ref lH, .ref lB, .ref lJ, .ref aR, .ref aL, .int 0, .int 0, .int 0, .ref lC, .ref aM, .ref aP, .int 0, .int 0, .int 0, .int (-1), .int (-1), .int 0, .int 0, .long sm])), (aM, .inl (cM, 5, .inr (.inr (.inr (.inr gM))))), (m0, .inl (cR, 16, .inl f0)), (m1, .inl (cR, 16, .inl f1)), (m2, .inl (cR, 16, .inl f2)), (m3, .inl (cR, 16, .inl f3)), (m4, .inl (cR, 16, .inl f4))] sz)) 0 0 (va_A [(h0, .inr (8, [.int 0, .ref lH, .ref lB, .ref lJ, .ref aR, .ref aL, .int 0, .int 0, .int 0, .ref lC, .ref aM, .ref aP, .int 0, .int 0, .int 0, .int (-1), .int (-1), .int 0, .int 0, .long sm])), (aM, .inl (cM, 5, .inr (.inr (.inr (.inr gM))))), (m0, .inl (cR, 16, .inl f0)), (m1, .inl (cR, 16, .inl f1)), (m2, .inl (cR, 16, .inl f2)), (m3, .inl (cR, 16, .inl f3)), (m4, .inl (cR, 16, .inl f4))] sz) := by
  refine Met.ofW (cc := cX5_meanMark) (maxL := 11) (ret := (some .double)) (by decide +kernel) rfl ?_
  intro p e s m args below meth c s₁ B hml hv
  obtain ⟨rfl, hsz, hP, hK, hD0, hE⟩ := hv
  have hx := B.exec
  have hb := B.bytes
  have hr := B.returns
  have hts := atoms_spec (ws := wsX5_meanMark) B.pre
  have hown : s.vm.findClass RX5 = some m.cls := findClass_of_methodNamed B.named
  have hlocks := B.notSynchronized
  subst hsz
  have hD := hD0.self (sz := s.heap.size)
  generalize hAe : va_A [(h0, .inr (8, [.int 0, .ref lH, .ref lB, .ref lJ, .ref aR, .ref aL, .int 0, .int 0, .int 0, .ref lC, .ref aM, .ref aP, .int 0, .int 0, .int 0, .int (-1), .int (-1), .int 0, .int 0, .long sm])), (aM, .inl (cM, 5, .inr (.inr (.inr (.inr gM))))), (m0, .inl (cR, 16, .inl f0)), (m1, .inl (cR, 16, .inl f1)), (m2, .inl (cR, 16, .inl f2)), (m3, .inl (cR, 16, .inl f3)), (m4, .inl (cR, 16, .inl f4))] s.heap.size = A at hD hE ⊢
  have hA : ∀ q : Nat, s.heap.size ≤ q → A q := fun q h => by rw [← hAe]; exact Or.inr h
  have hS : va_S A s.heap s.heap [] := va_S.rf
  have hP : va_P D vwCl [(h0, .inr (8, [.int 0, .ref lH, .ref lB, .ref lJ, .ref aR, .ref aL, .int 0, .int 0, .int 0, .ref lC, .ref aM, .ref aP, .int 0, .int 0, .int 0, .int (-1), .int (-1), .int 0, .int 0, .long sm])), (aM, .inl (cM, 5, .inr (.inr (.inr (.inr gM))))), (m0, .inl (cR, 16, .inl f0)), (m1, .inl (cR, 16, .inl f1)), (m2, .inl (cR, 16, .inl f2)), (m3, .inl (cR, 16, .inl f3)), (m4, .inl (cR, 16, .inl f4))] s.heap := hP
  have hl := lv_entry ([.ref h0]) (n := 11) (Nat.le_of_ble_eq_true rfl)
  rw [lg_entry_eq]
  generalize (lg_sl ([.ref h0]) ++ List.replicate (11 - (lg_sl ([.ref h0])).length) Slot.unset).toArray = ls at hl ⊢
  have hl : lv_has ls 11 [(0, .ref h0)] := hl
  refine lv_aload_n hx hb dX5_meanMark_0 rfl (lv_at hl 0 rfl) ?_
  refine lv_iconst (v := 0) hx hb dX5_meanMark_1 (by decide) ?_
  refine va_put (D := D) (ci := 8) (v := .int 0) (C := RX5) (T := TX5) (N := 20) hx hb hts (by decide +kernel) tyX5 tyX5_ok nmX5 hown hK hP hD hS 0 rfl rfl 0 (by decide) (hts (.fieldLink RX5 50 "PrizeHouseModel" "thrown" "I") (by decide +kernel)) (fun _ h9 => h9) rfl (tyX5_ok 0 (by decide)) rfl rfl (Nat.le_of_ble_eq_true rfl) dX5_meanMark_2 (fun H locs hP hD hS => ?_)
  have hP : va_P D vwCl [(h0, .inr (8, [.int 0, .ref lH, .ref lB, .ref lJ, .ref aR, .ref aL, .int 0, .int 0, .int 0, .ref lC, .ref aM, .ref aP, .int 0, .int 0, .int 0, .int (-1), .int (-1), .int 0, .int 0, .long sm])), (aM, .inl (cM, 5, .inr (.inr (.inr (.inr gM))))), (m0, .inl (cR, 16, .inl f0)), (m1, .inl (cR, 16, .inl f1)), (m2, .inl (cR, 16, .inl f2)), (m3, .inl (cR, 16, .inl f3)), (m4, .inl (cR, 16, .inl f4))] H := hP
  have hD : va_D A [(h0, .inr (8, [.int 0, .ref lH, .ref lB, .ref lJ, .ref aR, .ref aL, .int 0, .int 0, .int 0, .ref lC, .ref aM, .ref aP, .int 0, .int 0, .int 0, .int (-1), .int (-1), .int 0, .int 0, .long sm])), (aM, .inl (cM, 5, .inr (.inr (.inr (.inr gM))))), (m0, .inl (cR, 16, .inl f0)), (m1, .inl (cR, 16, .inl f1)), (m2, .inl (cR, 16, .inl f2)), (m3, .inl (cR, 16, .inl f3)), (m4, .inl (cR, 16, .inl f4))] := hD
  refine lv_iconst (v := 0) hx hb dX5_meanMark_5 (by decide) ?_
  refine lv_istore_n (lv' := [(1, .int 0), (0, .ref h0)]) hx hb dX5_meanMark_6 rfl hl (by decide) rfl (fun ls hl => ?_)
  refine lv_iconst (v := 0) hx hb dX5_meanMark_7 (by decide) ?_
  refine lv_istore_n (lv' := [(2, .int 0), (1, .int 0), (0, .ref h0)]) hx hb dX5_meanMark_8 rfl hl (by decide) rfl (fun ls hl => ?_)
  refine lv_aload_n hx hb dX5_meanMark_9 rfl (lv_at hl 2 rfl) ?_
  refine va_get (D := D) (ci := 8) (v := .ref aM) (C := RX5) (T := TX5) (N := 20) hx hb hts (by decide +kernel) hown hK hP 0 rfl rfl 10 (by decide) (hts (.fieldLink RX5 34 "PrizeHouseModel" "marks" "[[I") (by decide +kernel)) (fun _ h9 => h9) rfl dX5_meanMark_10 ?_
  refine lv_astore_n (lv' := [(3, .ref aM), (2, .int 0), (1, .int 0), (0, .ref h0)]) hx hb dX5_meanMark_13 rfl hl (by decide) rfl (fun ls hl => ?_)
  refine lv_aload_n hx hb dX5_meanMark_14 rfl (lv_at hl 0 rfl) ?_
  refine va_alen (v := 5) hx hb hK hP 1 0 rfl rfl rfl dX5_meanMark_15 ?_
  refine lv_istore (lv' := [(4, .int 5), (3, .ref aM), (2, .int 0), (1, .int 0), (0, .ref h0)]) hx hb dX5_meanMark_16 hl (by decide) rfl (fun ls hl => ?_)
  refine lv_iconst (v := 0) hx hb dX5_meanMark_18 (by decide) ?_
  refine lv_istore (lv' := [(5, .int 0), (4, .int 5), (3, .ref aM), (2, .int 0), (1, .int 0), (0, .ref h0)]) hx hb dX5_meanMark_19 hl (by decide) rfl (fun ls hl => ?_)
  refine lv_iload hx hb dX5_meanMark_21 (lv_at hl 0 rfl) ?_
  refine lv_iload hx hb dX5_meanMark_23 (lv_at hl 1 rfl) ?_
  refine lv_icmp_ge (tgt := 95) hx hb dX5_meanMark_25 (by decide) (fun h => absurd h (by decide)) (fun _ => ?_)
  refine lv_aload_n hx hb dX5_meanMark_28 rfl (lv_at hl 2 rfl) ?_
  refine lv_iload hx hb dX5_meanMark_29 (lv_at hl 0 rfl) ?_
  refine va_alda hx hb hK hP 1 0 rfl rfl (by unfold vp_in; decide +kernel) dX5_meanMark_31 ?_
  refine W.eq (g2 := F0 m 32 ls [.ref m0]) (congrArg (fun z => F0 m 32 ls (va_rf z :: [])) (show gM (Int32.toNatClampNeg 0) = some m0 from hg0)) ?_
  refine lv_astore (lv' := [(6, .ref m0), (5, .int 0), (4, .int 5), (3, .ref aM), (2, .int 0), (1, .int 0), (0, .ref h0)]) hx hb dX5_meanMark_32 hl (by decide) rfl (fun ls hl => ?_)
  refine lv_aload hx hb dX5_meanMark_34 (lv_at hl 0 rfl) ?_
  refine lv_astore (lv' := [(7, .ref m0), (6, .ref m0), (5, .int 0), (4, .int 5), (3, .ref aM), (2, .int 0), (1, .int 0), (0, .ref h0)]) hx hb dX5_meanMark_36 hl (by decide) rfl (fun ls hl => ?_)
  refine lv_aload hx hb dX5_meanMark_38 (lv_at hl 0 rfl) ?_
  refine va_alen (v := 16) hx hb hK hP 2 1 rfl rfl rfl dX5_meanMark_40 ?_
  refine lv_istore (lv' := [(8, .int 16), (7, .ref m0), (6, .ref m0), (5, .int 0), (4, .int 5), (3, .ref aM), (2, .int 0), (1, .int 0), (0, .ref h0)]) hx hb dX5_meanMark_41 hl (by decide) rfl (fun ls hl => ?_)
  refine lv_iconst (v := 0) hx hb dX5_meanMark_43 (by decide) ?_
  refine lv_istore (lv' := [(9, .int 0), (8, .int 16), (7, .ref m0), (6, .ref m0), (5, .int 0), (4, .int 5), (3, .ref aM), (2, .int 0), (1, .int 0), (0, .ref h0)]) hx hb dX5_meanMark_44 hl (by decide) rfl (fun ls hl => ?_)
  have K_1 : ∀ (n i : Nat) (x : Int32) (hin : i + n = 16) (hx3 : x = nI i) (H : Heap) (locs : List Loc) (hP : va_P D vwCl [(h0, .inr (8, [.int 0, .ref lH, .ref lB, .ref lJ, .ref aR, .ref aL, .int 0, .int 0, .int 0, .ref lC, .ref aM, .ref aP, .int 0, .int 0, .int 0, .int (-1), .int (-1), .int 0, .int 0, .long sm])), (aM, .inl (cM, 5, .inr (.inr (.inr (.inr gM))))), (m0, .inl (cR, 16, .inl f0)), (m1, .inl (cR, 16, .inl f1)), (m2, .inl (cR, 16, .inl f2)), (m3, .inl (cR, 16, .inl f3)), (m4, .inl (cR, 16, .inl f4))] H) (hD : va_D A [(h0, .inr (8, [.int 0, .ref lH, .ref lB, .ref lJ, .ref aR, .ref aL, .int 0, .int 0, .int 0, .ref lC, .ref aM, .ref aP, .int 0, .int 0, .int 0, .int (-1), .int (-1), .int 0, .int 0, .long sm])), (aM, .inl (cM, 5, .inr (.inr (.inr (.inr gM))))), (m0, .inl (cR, 16, .inl f0)), (m1, .inl (cR, 16, .inl f1)), (m2, .inl (cR, 16, .inl f2)), (m3, .inl (cR, 16, .inl f3)), (m4, .inl (cR, 16, .inl f4))]) (hS : va_S A s.heap H locs) (ls : Array Slot) (hl : lv_has ls 11 [(9, .int x), (8, .int 16), (7, .ref m0), (6, .ref m0), (5, .int 0), (4, .int 5), (3, .ref aM), (2, .int 0), (1, .int 0), (0, .ref h0)]) (kx : (∀ (x : Int32) (H : Heap) (locs : List Loc) (hP : va_P D vwCl [(h0, .inr (8, [.int 0, .ref lH, .ref lB, .ref lJ, .ref aR, .ref aL, .int 0, .int 0, .int 0, .ref lC, .ref aM, .ref aP, .int 0, .int 0, .int 0, .int (-1), .int (-1), .int 0, .int 0, .long sm])), (aM, .inl (cM, 5, .inr (.inr (.inr (.inr gM))))), (m0, .inl (cR, 16, .inl f0)), (m1, .inl (cR, 16, .inl f1)), (m2, .inl (cR, 16, .inl f2)), (m3, .inl (cR, 16, .inl f3)), (m4, .inl (cR, 16, .inl f4))] H) (hD : va_D A [(h0, .inr (8, [.int 0, .ref lH, .ref lB, .ref lJ, .ref aR, .ref aL, .int 0, .int 0, .int 0, .ref lC, .ref aM, .ref aP, .int 0, .int 0, .int 0, .int (-1), .int (-1), .int 0, .int 0, .long sm])), (aM, .inl (cM, 5, .inr (.inr (.inr (.inr gM))))), (m0, .inl (cR, 16, .inl f0)), (m1, .inl (cR, 16, .inl f1)), (m2, .inl (cR, 16, .inl f2)), (m3, .inl (cR, 16, .inl f3)), (m4, .inl (cR, 16, .inl f4))]) (hS : va_S A s.heap H locs) (ls : Array Slot) (hl : lv_has ls 11 [(9, .int x), (8, .int 16), (7, .ref m0), (6, .ref m0), (5, .int 0), (4, .int 5), (3, .ref aM), (2, .int 0), (1, .int 0), (0, .ref h0)]), W p l e (headSpec wsX5_meanMark ({ frames := 1, cells := 0, slots := 0, locals := 15 })).room s m [.ref h0].toArray below meth c H locs 0 0 (MQ below (va_Qd (fun (r : UInt64) (_ : Unit) => r = FP.dconst0) (fun _ t => va_P D vwCl [] t.heap ∧ va_K D vwCl [] t ∧ va_D A []) A) [.ref h0].toArray s 0 0 A) (F0 m 89 ls []))), W p l e (headSpec wsX5_meanMark ({ frames := 1, cells := 0, slots := 0, locals := 15 })).room s m [.ref h0].toArray below meth c H locs 0 0 (MQ below (va_Qd (fun (r : UInt64) (_ : Unit) => r = FP.dconst0) (fun _ t => va_P D vwCl [] t.heap ∧ va_K D vwCl [] t ∧ va_D A []) A) [.ref h0].toArray s 0 0 A) (F0 m 46 ls []) := by
    intro n
    induction n with
    | zero =>
      intro i x hin hx3   H locs hP hD hS ls hl kx
      refine lv_iload hx hb dX5_meanMark_46 (lv_at hl 0 rfl) ?_
      refine lv_iload hx hb dX5_meanMark_48 (lv_at hl 1 rfl) ?_
      refine lv_icmp_ge (tgt := 89) hx hb dX5_meanMark_50 (by decide) (fun hc => ?_) (fun hc => ?_)
      · skip
        obtain rfl : i = 16 := hin
        exact kx x   _ _ hP hD hS ls hl
      · skip
        exact absurd (by rw [hx3, show i = 16 from hin]; exact Int32.le_refl _) hc
    | succ n ih =>
      intro i x hin hx3   H locs hP hD hS ls hl kx
      refine lv_iload hx hb dX5_meanMark_46 (lv_at hl 0 rfl) ?_
      refine lv_iload hx hb dX5_meanMark_48 (lv_at hl 1 rfl) ?_
      refine lv_icmp_ge (tgt := 89) hx hb dX5_meanMark_50 (by decide) (fun hc => ?_) (fun hc => ?_)
      · skip
        exact absurd (by rw [hx3] at hc; exact hc) (show ¬ nI 16 ≤ nI i from nI_ge (by omega) (by omega))
      · skip
        have hi : i < 16 := by omega
        refine lv_aload hx hb dX5_meanMark_53 (lv_at hl 2 rfl) ?_
        refine lv_iload hx hb dX5_meanMark_55 (lv_at hl 0 rfl) ?_
        refine va_iald hx hb hK hP 2 1 rfl rfl (show vp_in x 16 by rw [hx3]; exact vp_in_nI hi (by omega)) dX5_meanMark_57 ?_
        refine lv_topi (fun z9 ez9 => ?_)
        have ez9 : z9 = (-1) := ez9.trans (by rw [hx3, nI_clamp (by omega)]; exact hm0 i hi)
        rw [ez9]
        refine lv_istore (lv' := [(10, .int (-1)), (9, .int x), (8, .int 16), (7, .ref m0), (6, .ref m0), (5, .int 0), (4, .int 5), (3, .ref aM), (2, .int 0), (1, .int 0), (0, .ref h0)]) hx hb dX5_meanMark_58 hl (by decide) rfl (fun ls hl => ?_)
        refine lv_iload_n hx hb dX5_meanMark_60 rfl (lv_at hl 9 rfl) ?_
        refine lv_iconst (v := 0) hx hb dX5_meanMark_61 (by decide) ?_
        refine lv_iload hx hb dX5_meanMark_62 (lv_at hl 0 rfl) ?_
        refine va_mmax hx hb (hml.trans hl.1.symm) hown (hts (.methodLink RX5 167 Lib.Math.max.name) (by decide +kernel)) (hts (.static Lib.Math.max.name) (by decide +kernel)) (hts (.initialized "java/lang/Math") (by decide +kernel)) (hts (.code Lib.Math.max.name Lib.Math.max.code 2 (some .int)) (by decide +kernel)) (Nat.le_of_ble_eq_true rfl) (Nat.le_of_ble_eq_true rfl) (Nat.le_of_ble_eq_true rfl) (Nat.le_of_ble_eq_true rfl) dX5_meanMark_64 ?_
        refine lv_topi (fun z_2 ez_2 => ?_)
        have ez_2 : z_2 = 0 := ez_2.trans (by decide +kernel)
        rw [ez_2]
        refine lv_iadd hx hb dX5_meanMark_67 ?_
        refine lv_topi (fun z_3 ez_3 => ?_)
        have ez_3 : z_3 = 0 := ez_3.trans (by decide +kernel)
        rw [ez_3]
        refine lv_istore_n (lv' := [(1, .int 0), (10, .int (-1)), (9, .int x), (8, .int 16), (7, .ref m0), (6, .ref m0), (5, .int 0), (4, .int 5), (3, .ref aM), (2, .int 0), (0, .ref h0)]) hx hb dX5_meanMark_68 rfl hl (by decide) rfl (fun ls hl => ?_)
        refine lv_iload_n hx hb dX5_meanMark_69 rfl (lv_at hl 9 rfl) ?_
        refine lv_iload hx hb dX5_meanMark_70 (lv_at hl 1 rfl) ?_
        refine lv_iconst (v := (-1)) hx hb dX5_meanMark_72 (by decide) ?_
        refine lv_icmp_ne (tgt := 80) hx hb dX5_meanMark_73 (by decide) (fun h => absurd (by decide) h) (fun _ => ?_)
        refine lv_iconst (v := 0) hx hb dX5_meanMark_76 (by decide) ?_
        refine lv_goto (tgt := 81) hx hb dX5_meanMark_77 (by decide) ?_
        refine lv_iadd hx hb dX5_meanMark_81 ?_
        refine lv_topi (fun z_4 ez_4 => ?_)
        have ez_4 : z_4 = 0 := ez_4.trans (by decide +kernel)
        rw [ez_4]
        refine lv_istore_n (lv' := [(2, .int 0), (1, .int 0), (10, .int (-1)), (9, .int x), (8, .int 16), (7, .ref m0), (6, .ref m0), (5, .int 0), (4, .int 5), (3, .ref aM), (0, .ref h0)]) hx hb dX5_meanMark_82 rfl hl (by decide) rfl (fun ls hl => ?_)
        refine lv_iinc (v := nI (i + 1)) (lv' := [(9, .int (nI (i + 1))), (2, .int 0), (1, .int 0), (10, .int (-1)), (8, .int 16), (7, .ref m0), (6, .ref m0), (5, .int 0), (4, .int 5), (3, .ref aM), (0, .ref h0)]) hx hb dX5_meanMark_83 hl (k := 3) rfl (by rw [hx3]; exact nI_1 i) (by decide) rfl (fun ls hl => ?_)
        refine lv_goto (tgt := 46) hx hb dX5_meanMark_86 (by decide) ?_
        exact ih (i + 1) _ (by omega) rfl   _ _ hP hD hS ls (lv_sub hl [0, 4, 5, 6, 7, 8, 9, 1, 2, 10] rfl) kx
  refine K_1 16 0 0 rfl nI_0.symm _ _ hP hD hS ls hl (fun x H locs hP hD hS ls hl => ?_)
  refine lv_iinc (v := 1) (lv' := [(5, .int 1), (9, .int x), (8, .int 16), (7, .ref m0), (6, .ref m0), (4, .int 5), (3, .ref aM), (2, .int 0), (1, .int 0), (0, .ref h0)]) hx hb dX5_meanMark_89 hl (k := 4) rfl (by decide) (by decide) rfl (fun ls hl => ?_)
  refine lv_goto (tgt := 21) hx hb dX5_meanMark_92 (by decide) ?_
  refine lv_iload hx hb dX5_meanMark_21 (lv_at hl 0 rfl) ?_
  refine lv_iload hx hb dX5_meanMark_23 (lv_at hl 5 rfl) ?_
  refine lv_icmp_ge (tgt := 95) hx hb dX5_meanMark_25 (by decide) (fun h => absurd h (by decide)) (fun _ => ?_)
  refine lv_aload_n hx hb dX5_meanMark_28 rfl (lv_at hl 6 rfl) ?_
  refine lv_iload hx hb dX5_meanMark_29 (lv_at hl 0 rfl) ?_
  refine va_alda hx hb hK hP 1 0 rfl rfl (by unfold vp_in; decide +kernel) dX5_meanMark_31 ?_
  refine W.eq (g2 := F0 m 32 ls [.ref m1]) (congrArg (fun z => F0 m 32 ls (va_rf z :: [])) (show gM (Int32.toNatClampNeg 1) = some m1 from hg1)) ?_
  refine lv_astore (lv' := [(6, .ref m1), (5, .int 1), (9, .int x), (8, .int 16), (7, .ref m0), (4, .int 5), (3, .ref aM), (2, .int 0), (1, .int 0), (0, .ref h0)]) hx hb dX5_meanMark_32 hl (by decide) rfl (fun ls hl => ?_)
  refine lv_aload hx hb dX5_meanMark_34 (lv_at hl 0 rfl) ?_
  refine lv_astore (lv' := [(7, .ref m1), (6, .ref m1), (5, .int 1), (9, .int x), (8, .int 16), (4, .int 5), (3, .ref aM), (2, .int 0), (1, .int 0), (0, .ref h0)]) hx hb dX5_meanMark_36 hl (by decide) rfl (fun ls hl => ?_)
  refine lv_aload hx hb dX5_meanMark_38 (lv_at hl 0 rfl) ?_
  refine va_alen (v := 16) hx hb hK hP 3 1 rfl rfl rfl dX5_meanMark_40 ?_
  refine lv_istore (lv' := [(8, .int 16), (7, .ref m1), (6, .ref m1), (5, .int 1), (9, .int x), (4, .int 5), (3, .ref aM), (2, .int 0), (1, .int 0), (0, .ref h0)]) hx hb dX5_meanMark_41 hl (by decide) rfl (fun ls hl => ?_)
  refine lv_iconst (v := 0) hx hb dX5_meanMark_43 (by decide) ?_
  refine lv_istore (lv' := [(9, .int 0), (8, .int 16), (7, .ref m1), (6, .ref m1), (5, .int 1), (4, .int 5), (3, .ref aM), (2, .int 0), (1, .int 0), (0, .ref h0)]) hx hb dX5_meanMark_44 hl (by decide) rfl (fun ls hl => ?_)
  have K_5 : ∀ (n i : Nat) (x : Int32) (hin : i + n = 16) (hx3 : x = nI i) (H : Heap) (locs : List Loc) (hP : va_P D vwCl [(h0, .inr (8, [.int 0, .ref lH, .ref lB, .ref lJ, .ref aR, .ref aL, .int 0, .int 0, .int 0, .ref lC, .ref aM, .ref aP, .int 0, .int 0, .int 0, .int (-1), .int (-1), .int 0, .int 0, .long sm])), (aM, .inl (cM, 5, .inr (.inr (.inr (.inr gM))))), (m0, .inl (cR, 16, .inl f0)), (m1, .inl (cR, 16, .inl f1)), (m2, .inl (cR, 16, .inl f2)), (m3, .inl (cR, 16, .inl f3)), (m4, .inl (cR, 16, .inl f4))] H) (hD : va_D A [(h0, .inr (8, [.int 0, .ref lH, .ref lB, .ref lJ, .ref aR, .ref aL, .int 0, .int 0, .int 0, .ref lC, .ref aM, .ref aP, .int 0, .int 0, .int 0, .int (-1), .int (-1), .int 0, .int 0, .long sm])), (aM, .inl (cM, 5, .inr (.inr (.inr (.inr gM))))), (m0, .inl (cR, 16, .inl f0)), (m1, .inl (cR, 16, .inl f1)), (m2, .inl (cR, 16, .inl f2)), (m3, .inl (cR, 16, .inl f3)), (m4, .inl (cR, 16, .inl f4))]) (hS : va_S A s.heap H locs) (ls : Array Slot) (hl : lv_has ls 11 [(9, .int x), (8, .int 16), (7, .ref m1), (6, .ref m1), (5, .int 1), (4, .int 5), (3, .ref aM), (2, .int 0), (1, .int 0), (0, .ref h0)]) (kx : (∀ (x : Int32) (H : Heap) (locs : List Loc) (hP : va_P D vwCl [(h0, .inr (8, [.int 0, .ref lH, .ref lB, .ref lJ, .ref aR, .ref aL, .int 0, .int 0, .int 0, .ref lC, .ref aM, .ref aP, .int 0, .int 0, .int 0, .int (-1), .int (-1), .int 0, .int 0, .long sm])), (aM, .inl (cM, 5, .inr (.inr (.inr (.inr gM))))), (m0, .inl (cR, 16, .inl f0)), (m1, .inl (cR, 16, .inl f1)), (m2, .inl (cR, 16, .inl f2)), (m3, .inl (cR, 16, .inl f3)), (m4, .inl (cR, 16, .inl f4))] H) (hD : va_D A [(h0, .inr (8, [.int 0, .ref lH, .ref lB, .ref lJ, .ref aR, .ref aL, .int 0, .int 0, .int 0, .ref lC, .ref aM, .ref aP, .int 0, .int 0, .int 0, .int (-1), .int (-1), .int 0, .int 0, .long sm])), (aM, .inl (cM, 5, .inr (.inr (.inr (.inr gM))))), (m0, .inl (cR, 16, .inl f0)), (m1, .inl (cR, 16, .inl f1)), (m2, .inl (cR, 16, .inl f2)), (m3, .inl (cR, 16, .inl f3)), (m4, .inl (cR, 16, .inl f4))]) (hS : va_S A s.heap H locs) (ls : Array Slot) (hl : lv_has ls 11 [(9, .int x), (8, .int 16), (7, .ref m1), (6, .ref m1), (5, .int 1), (4, .int 5), (3, .ref aM), (2, .int 0), (1, .int 0), (0, .ref h0)]), W p l e (headSpec wsX5_meanMark ({ frames := 1, cells := 0, slots := 0, locals := 15 })).room s m [.ref h0].toArray below meth c H locs 0 0 (MQ below (va_Qd (fun (r : UInt64) (_ : Unit) => r = FP.dconst0) (fun _ t => va_P D vwCl [] t.heap ∧ va_K D vwCl [] t ∧ va_D A []) A) [.ref h0].toArray s 0 0 A) (F0 m 89 ls []))), W p l e (headSpec wsX5_meanMark ({ frames := 1, cells := 0, slots := 0, locals := 15 })).room s m [.ref h0].toArray below meth c H locs 0 0 (MQ below (va_Qd (fun (r : UInt64) (_ : Unit) => r = FP.dconst0) (fun _ t => va_P D vwCl [] t.heap ∧ va_K D vwCl [] t ∧ va_D A []) A) [.ref h0].toArray s 0 0 A) (F0 m 46 ls []) := by
    intro n
    induction n with
    | zero =>
      intro i x hin hx3   H locs hP hD hS ls hl kx
      refine lv_iload hx hb dX5_meanMark_46 (lv_at hl 0 rfl) ?_
      refine lv_iload hx hb dX5_meanMark_48 (lv_at hl 1 rfl) ?_
      refine lv_icmp_ge (tgt := 89) hx hb dX5_meanMark_50 (by decide) (fun hc => ?_) (fun hc => ?_)
      · skip
        obtain rfl : i = 16 := hin
        exact kx x   _ _ hP hD hS ls hl
      · skip
        exact absurd (by rw [hx3, show i = 16 from hin]; exact Int32.le_refl _) hc
    | succ n ih =>
      intro i x hin hx3   H locs hP hD hS ls hl kx
      refine lv_iload hx hb dX5_meanMark_46 (lv_at hl 0 rfl) ?_
      refine lv_iload hx hb dX5_meanMark_48 (lv_at hl 1 rfl) ?_
      refine lv_icmp_ge (tgt := 89) hx hb dX5_meanMark_50 (by decide) (fun hc => ?_) (fun hc => ?_)
      · skip
        exact absurd (by rw [hx3] at hc; exact hc) (show ¬ nI 16 ≤ nI i from nI_ge (by omega) (by omega))
      · skip
        have hi : i < 16 := by omega
        refine lv_aload hx hb dX5_meanMark_53 (lv_at hl 2 rfl) ?_
        refine lv_iload hx hb dX5_meanMark_55 (lv_at hl 0 rfl) ?_
        refine va_iald hx hb hK hP 3 1 rfl rfl (show vp_in x 16 by rw [hx3]; exact vp_in_nI hi (by omega)) dX5_meanMark_57 ?_
        refine lv_topi (fun z9 ez9 => ?_)
        have ez9 : z9 = (-1) := ez9.trans (by rw [hx3, nI_clamp (by omega)]; exact hm1 i hi)
        rw [ez9]
        refine lv_istore (lv' := [(10, .int (-1)), (9, .int x), (8, .int 16), (7, .ref m1), (6, .ref m1), (5, .int 1), (4, .int 5), (3, .ref aM), (2, .int 0), (1, .int 0), (0, .ref h0)]) hx hb dX5_meanMark_58 hl (by decide) rfl (fun ls hl => ?_)
        refine lv_iload_n hx hb dX5_meanMark_60 rfl (lv_at hl 9 rfl) ?_
        refine lv_iconst (v := 0) hx hb dX5_meanMark_61 (by decide) ?_
        refine lv_iload hx hb dX5_meanMark_62 (lv_at hl 0 rfl) ?_
        refine va_mmax hx hb (hml.trans hl.1.symm) hown (hts (.methodLink RX5 167 Lib.Math.max.name) (by decide +kernel)) (hts (.static Lib.Math.max.name) (by decide +kernel)) (hts (.initialized "java/lang/Math") (by decide +kernel)) (hts (.code Lib.Math.max.name Lib.Math.max.code 2 (some .int)) (by decide +kernel)) (Nat.le_of_ble_eq_true rfl) (Nat.le_of_ble_eq_true rfl) (Nat.le_of_ble_eq_true rfl) (Nat.le_of_ble_eq_true rfl) dX5_meanMark_64 ?_
        refine lv_topi (fun z_6 ez_6 => ?_)
        have ez_6 : z_6 = 0 := ez_6.trans (by decide +kernel)
        rw [ez_6]
        refine lv_iadd hx hb dX5_meanMark_67 ?_
        refine lv_topi (fun z_7 ez_7 => ?_)
        have ez_7 : z_7 = 0 := ez_7.trans (by decide +kernel)
        rw [ez_7]
        refine lv_istore_n (lv' := [(1, .int 0), (10, .int (-1)), (9, .int x), (8, .int 16), (7, .ref m1), (6, .ref m1), (5, .int 1), (4, .int 5), (3, .ref aM), (2, .int 0), (0, .ref h0)]) hx hb dX5_meanMark_68 rfl hl (by decide) rfl (fun ls hl => ?_)
        refine lv_iload_n hx hb dX5_meanMark_69 rfl (lv_at hl 9 rfl) ?_
        refine lv_iload hx hb dX5_meanMark_70 (lv_at hl 1 rfl) ?_
        refine lv_iconst (v := (-1)) hx hb dX5_meanMark_72 (by decide) ?_
        refine lv_icmp_ne (tgt := 80) hx hb dX5_meanMark_73 (by decide) (fun h => absurd (by decide) h) (fun _ => ?_)
        refine lv_iconst (v := 0) hx hb dX5_meanMark_76 (by decide) ?_
        refine lv_goto (tgt := 81) hx hb dX5_meanMark_77 (by decide) ?_
        refine lv_iadd hx hb dX5_meanMark_81 ?_
        refine lv_topi (fun z_8 ez_8 => ?_)
        have ez_8 : z_8 = 0 := ez_8.trans (by decide +kernel)
        rw [ez_8]
        refine lv_istore_n (lv' := [(2, .int 0), (1, .int 0), (10, .int (-1)), (9, .int x), (8, .int 16), (7, .ref m1), (6, .ref m1), (5, .int 1), (4, .int 5), (3, .ref aM), (0, .ref h0)]) hx hb dX5_meanMark_82 rfl hl (by decide) rfl (fun ls hl => ?_)
        refine lv_iinc (v := nI (i + 1)) (lv' := [(9, .int (nI (i + 1))), (2, .int 0), (1, .int 0), (10, .int (-1)), (8, .int 16), (7, .ref m1), (6, .ref m1), (5, .int 1), (4, .int 5), (3, .ref aM), (0, .ref h0)]) hx hb dX5_meanMark_83 hl (k := 3) rfl (by rw [hx3]; exact nI_1 i) (by decide) rfl (fun ls hl => ?_)
        refine lv_goto (tgt := 46) hx hb dX5_meanMark_86 (by decide) ?_
        exact ih (i + 1) _ (by omega) rfl   _ _ hP hD hS ls (lv_sub hl [0, 4, 5, 6, 7, 8, 9, 1, 2, 10] rfl) kx
  refine K_5 16 0 0 rfl nI_0.symm _ _ hP hD hS ls hl (fun x H locs hP hD hS ls hl => ?_)
  refine lv_iinc (v := 2) (lv' := [(5, .int 2), (9, .int x), (8, .int 16), (7, .ref m1), (6, .ref m1), (4, .int 5), (3, .ref aM), (2, .int 0), (1, .int 0), (0, .ref h0)]) hx hb dX5_meanMark_89 hl (k := 4) rfl (by decide) (by decide) rfl (fun ls hl => ?_)
  refine lv_goto (tgt := 21) hx hb dX5_meanMark_92 (by decide) ?_
  refine lv_iload hx hb dX5_meanMark_21 (lv_at hl 0 rfl) ?_
  refine lv_iload hx hb dX5_meanMark_23 (lv_at hl 5 rfl) ?_
  refine lv_icmp_ge (tgt := 95) hx hb dX5_meanMark_25 (by decide) (fun h => absurd h (by decide)) (fun _ => ?_)
  refine lv_aload_n hx hb dX5_meanMark_28 rfl (lv_at hl 6 rfl) ?_
  refine lv_iload hx hb dX5_meanMark_29 (lv_at hl 0 rfl) ?_
  refine va_alda hx hb hK hP 1 0 rfl rfl (by unfold vp_in; decide +kernel) dX5_meanMark_31 ?_
  refine W.eq (g2 := F0 m 32 ls [.ref m2]) (congrArg (fun z => F0 m 32 ls (va_rf z :: [])) (show gM (Int32.toNatClampNeg 2) = some m2 from hg2)) ?_
  refine lv_astore (lv' := [(6, .ref m2), (5, .int 2), (9, .int x), (8, .int 16), (7, .ref m1), (4, .int 5), (3, .ref aM), (2, .int 0), (1, .int 0), (0, .ref h0)]) hx hb dX5_meanMark_32 hl (by decide) rfl (fun ls hl => ?_)
  refine lv_aload hx hb dX5_meanMark_34 (lv_at hl 0 rfl) ?_
  refine lv_astore (lv' := [(7, .ref m2), (6, .ref m2), (5, .int 2), (9, .int x), (8, .int 16), (4, .int 5), (3, .ref aM), (2, .int 0), (1, .int 0), (0, .ref h0)]) hx hb dX5_meanMark_36 hl (by decide) rfl (fun ls hl => ?_)
  refine lv_aload hx hb dX5_meanMark_38 (lv_at hl 0 rfl) ?_
  refine va_alen (v := 16) hx hb hK hP 4 1 rfl rfl rfl dX5_meanMark_40 ?_
  refine lv_istore (lv' := [(8, .int 16), (7, .ref m2), (6, .ref m2), (5, .int 2), (9, .int x), (4, .int 5), (3, .ref aM), (2, .int 0), (1, .int 0), (0, .ref h0)]) hx hb dX5_meanMark_41 hl (by decide) rfl (fun ls hl => ?_)
  refine lv_iconst (v := 0) hx hb dX5_meanMark_43 (by decide) ?_
  refine lv_istore (lv' := [(9, .int 0), (8, .int 16), (7, .ref m2), (6, .ref m2), (5, .int 2), (4, .int 5), (3, .ref aM), (2, .int 0), (1, .int 0), (0, .ref h0)]) hx hb dX5_meanMark_44 hl (by decide) rfl (fun ls hl => ?_)
  have K_9 : ∀ (n i : Nat) (x : Int32) (hin : i + n = 16) (hx3 : x = nI i) (H : Heap) (locs : List Loc) (hP : va_P D vwCl [(h0, .inr (8, [.int 0, .ref lH, .ref lB, .ref lJ, .ref aR, .ref aL, .int 0, .int 0, .int 0, .ref lC, .ref aM, .ref aP, .int 0, .int 0, .int 0, .int (-1), .int (-1), .int 0, .int 0, .long sm])), (aM, .inl (cM, 5, .inr (.inr (.inr (.inr gM))))), (m0, .inl (cR, 16, .inl f0)), (m1, .inl (cR, 16, .inl f1)), (m2, .inl (cR, 16, .inl f2)), (m3, .inl (cR, 16, .inl f3)), (m4, .inl (cR, 16, .inl f4))] H) (hD : va_D A [(h0, .inr (8, [.int 0, .ref lH, .ref lB, .ref lJ, .ref aR, .ref aL, .int 0, .int 0, .int 0, .ref lC, .ref aM, .ref aP, .int 0, .int 0, .int 0, .int (-1), .int (-1), .int 0, .int 0, .long sm])), (aM, .inl (cM, 5, .inr (.inr (.inr (.inr gM))))), (m0, .inl (cR, 16, .inl f0)), (m1, .inl (cR, 16, .inl f1)), (m2, .inl (cR, 16, .inl f2)), (m3, .inl (cR, 16, .inl f3)), (m4, .inl (cR, 16, .inl f4))]) (hS : va_S A s.heap H locs) (ls : Array Slot) (hl : lv_has ls 11 [(9, .int x), (8, .int 16), (7, .ref m2), (6, .ref m2), (5, .int 2), (4, .int 5), (3, .ref aM), (2, .int 0), (1, .int 0), (0, .ref h0)]) (kx : (∀ (x : Int32) (H : Heap) (locs : List Loc) (hP : va_P D vwCl [(h0, .inr (8, [.int 0, .ref lH, .ref lB, .ref lJ, .ref aR, .ref aL, .int 0, .int 0, .int 0, .ref lC, .ref aM, .ref aP, .int 0, .int 0, .int 0, .int (-1), .int (-1), .int 0, .int 0, .long sm])), (aM, .inl (cM, 5, .inr (.inr (.inr (.inr gM))))), (m0, .inl (cR, 16, .inl f0)), (m1, .inl (cR, 16, .inl f1)), (m2, .inl (cR, 16, .inl f2)), (m3, .inl (cR, 16, .inl f3)), (m4, .inl (cR, 16, .inl f4))] H) (hD : va_D A [(h0, .inr (8, [.int 0, .ref lH, .ref lB, .ref lJ, .ref aR, .ref aL, .int 0, .int 0, .int 0, .ref lC, .ref aM, .ref aP, .int 0, .int 0, .int 0, .int (-1), .int (-1), .int 0, .int 0, .long sm])), (aM, .inl (cM, 5, .inr (.inr (.inr (.inr gM))))), (m0, .inl (cR, 16, .inl f0)), (m1, .inl (cR, 16, .inl f1)), (m2, .inl (cR, 16, .inl f2)), (m3, .inl (cR, 16, .inl f3)), (m4, .inl (cR, 16, .inl f4))]) (hS : va_S A s.heap H locs) (ls : Array Slot) (hl : lv_has ls 11 [(9, .int x), (8, .int 16), (7, .ref m2), (6, .ref m2), (5, .int 2), (4, .int 5), (3, .ref aM), (2, .int 0), (1, .int 0), (0, .ref h0)]), W p l e (headSpec wsX5_meanMark ({ frames := 1, cells := 0, slots := 0, locals := 15 })).room s m [.ref h0].toArray below meth c H locs 0 0 (MQ below (va_Qd (fun (r : UInt64) (_ : Unit) => r = FP.dconst0) (fun _ t => va_P D vwCl [] t.heap ∧ va_K D vwCl [] t ∧ va_D A []) A) [.ref h0].toArray s 0 0 A) (F0 m 89 ls []))), W p l e (headSpec wsX5_meanMark ({ frames := 1, cells := 0, slots := 0, locals := 15 })).room s m [.ref h0].toArray below meth c H locs 0 0 (MQ below (va_Qd (fun (r : UInt64) (_ : Unit) => r = FP.dconst0) (fun _ t => va_P D vwCl [] t.heap ∧ va_K D vwCl [] t ∧ va_D A []) A) [.ref h0].toArray s 0 0 A) (F0 m 46 ls []) := by
    intro n
    induction n with
    | zero =>
      intro i x hin hx3   H locs hP hD hS ls hl kx
      refine lv_iload hx hb dX5_meanMark_46 (lv_at hl 0 rfl) ?_
      refine lv_iload hx hb dX5_meanMark_48 (lv_at hl 1 rfl) ?_
      refine lv_icmp_ge (tgt := 89) hx hb dX5_meanMark_50 (by decide) (fun hc => ?_) (fun hc => ?_)
      · skip
        obtain rfl : i = 16 := hin
        exact kx x   _ _ hP hD hS ls hl
      · skip
        exact absurd (by rw [hx3, show i = 16 from hin]; exact Int32.le_refl _) hc
    | succ n ih =>
      intro i x hin hx3   H locs hP hD hS ls hl kx
      refine lv_iload hx hb dX5_meanMark_46 (lv_at hl 0 rfl) ?_
      refine lv_iload hx hb dX5_meanMark_48 (lv_at hl 1 rfl) ?_
      refine lv_icmp_ge (tgt := 89) hx hb dX5_meanMark_50 (by decide) (fun hc => ?_) (fun hc => ?_)
      · skip
        exact absurd (by rw [hx3] at hc; exact hc) (show ¬ nI 16 ≤ nI i from nI_ge (by omega) (by omega))
      · skip
        have hi : i < 16 := by omega
        refine lv_aload hx hb dX5_meanMark_53 (lv_at hl 2 rfl) ?_
        refine lv_iload hx hb dX5_meanMark_55 (lv_at hl 0 rfl) ?_
        refine va_iald hx hb hK hP 4 1 rfl rfl (show vp_in x 16 by rw [hx3]; exact vp_in_nI hi (by omega)) dX5_meanMark_57 ?_
        refine lv_topi (fun z9 ez9 => ?_)
        have ez9 : z9 = (-1) := ez9.trans (by rw [hx3, nI_clamp (by omega)]; exact hm2 i hi)
        rw [ez9]
        refine lv_istore (lv' := [(10, .int (-1)), (9, .int x), (8, .int 16), (7, .ref m2), (6, .ref m2), (5, .int 2), (4, .int 5), (3, .ref aM), (2, .int 0), (1, .int 0), (0, .ref h0)]) hx hb dX5_meanMark_58 hl (by decide) rfl (fun ls hl => ?_)
        refine lv_iload_n hx hb dX5_meanMark_60 rfl (lv_at hl 9 rfl) ?_
        refine lv_iconst (v := 0) hx hb dX5_meanMark_61 (by decide) ?_
        refine lv_iload hx hb dX5_meanMark_62 (lv_at hl 0 rfl) ?_
        refine va_mmax hx hb (hml.trans hl.1.symm) hown (hts (.methodLink RX5 167 Lib.Math.max.name) (by decide +kernel)) (hts (.static Lib.Math.max.name) (by decide +kernel)) (hts (.initialized "java/lang/Math") (by decide +kernel)) (hts (.code Lib.Math.max.name Lib.Math.max.code 2 (some .int)) (by decide +kernel)) (Nat.le_of_ble_eq_true rfl) (Nat.le_of_ble_eq_true rfl) (Nat.le_of_ble_eq_true rfl) (Nat.le_of_ble_eq_true rfl) dX5_meanMark_64 ?_
        refine lv_topi (fun z_10 ez_10 => ?_)
        have ez_10 : z_10 = 0 := ez_10.trans (by decide +kernel)
        rw [ez_10]
        refine lv_iadd hx hb dX5_meanMark_67 ?_
        refine lv_topi (fun z_11 ez_11 => ?_)
        have ez_11 : z_11 = 0 := ez_11.trans (by decide +kernel)
        rw [ez_11]
        refine lv_istore_n (lv' := [(1, .int 0), (10, .int (-1)), (9, .int x), (8, .int 16), (7, .ref m2), (6, .ref m2), (5, .int 2), (4, .int 5), (3, .ref aM), (2, .int 0), (0, .ref h0)]) hx hb dX5_meanMark_68 rfl hl (by decide) rfl (fun ls hl => ?_)
        refine lv_iload_n hx hb dX5_meanMark_69 rfl (lv_at hl 9 rfl) ?_
        refine lv_iload hx hb dX5_meanMark_70 (lv_at hl 1 rfl) ?_
        refine lv_iconst (v := (-1)) hx hb dX5_meanMark_72 (by decide) ?_
        refine lv_icmp_ne (tgt := 80) hx hb dX5_meanMark_73 (by decide) (fun h => absurd (by decide) h) (fun _ => ?_)
        refine lv_iconst (v := 0) hx hb dX5_meanMark_76 (by decide) ?_
        refine lv_goto (tgt := 81) hx hb dX5_meanMark_77 (by decide) ?_
        refine lv_iadd hx hb dX5_meanMark_81 ?_
        refine lv_topi (fun z_12 ez_12 => ?_)
        have ez_12 : z_12 = 0 := ez_12.trans (by decide +kernel)
        rw [ez_12]
        refine lv_istore_n (lv' := [(2, .int 0), (1, .int 0), (10, .int (-1)), (9, .int x), (8, .int 16), (7, .ref m2), (6, .ref m2), (5, .int 2), (4, .int 5), (3, .ref aM), (0, .ref h0)]) hx hb dX5_meanMark_82 rfl hl (by decide) rfl (fun ls hl => ?_)
        refine lv_iinc (v := nI (i + 1)) (lv' := [(9, .int (nI (i + 1))), (2, .int 0), (1, .int 0), (10, .int (-1)), (8, .int 16), (7, .ref m2), (6, .ref m2), (5, .int 2), (4, .int 5), (3, .ref aM), (0, .ref h0)]) hx hb dX5_meanMark_83 hl (k := 3) rfl (by rw [hx3]; exact nI_1 i) (by decide) rfl (fun ls hl => ?_)
        refine lv_goto (tgt := 46) hx hb dX5_meanMark_86 (by decide) ?_
        exact ih (i + 1) _ (by omega) rfl   _ _ hP hD hS ls (lv_sub hl [0, 4, 5, 6, 7, 8, 9, 1, 2, 10] rfl) kx
  refine K_9 16 0 0 rfl nI_0.symm _ _ hP hD hS ls hl (fun x H locs hP hD hS ls hl => ?_)
  refine lv_iinc (v := 3) (lv' := [(5, .int 3), (9, .int x), (8, .int 16), (7, .ref m2), (6, .ref m2), (4, .int 5), (3, .ref aM), (2, .int 0), (1, .int 0), (0, .ref h0)]) hx hb dX5_meanMark_89 hl (k := 4) rfl (by decide) (by decide) rfl (fun ls hl => ?_)
  refine lv_goto (tgt := 21) hx hb dX5_meanMark_92 (by decide) ?_
  refine lv_iload hx hb dX5_meanMark_21 (lv_at hl 0 rfl) ?_
  refine lv_iload hx hb dX5_meanMark_23 (lv_at hl 5 rfl) ?_
  refine lv_icmp_ge (tgt := 95) hx hb dX5_meanMark_25 (by decide) (fun h => absurd h (by decide)) (fun _ => ?_)
  refine lv_aload_n hx hb dX5_meanMark_28 rfl (lv_at hl 6 rfl) ?_
  refine lv_iload hx hb dX5_meanMark_29 (lv_at hl 0 rfl) ?_
  refine va_alda hx hb hK hP 1 0 rfl rfl (by unfold vp_in; decide +kernel) dX5_meanMark_31 ?_
  refine W.eq (g2 := F0 m 32 ls [.ref m3]) (congrArg (fun z => F0 m 32 ls (va_rf z :: [])) (show gM (Int32.toNatClampNeg 3) = some m3 from hg3)) ?_
  refine lv_astore (lv' := [(6, .ref m3), (5, .int 3), (9, .int x), (8, .int 16), (7, .ref m2), (4, .int 5), (3, .ref aM), (2, .int 0), (1, .int 0), (0, .ref h0)]) hx hb dX5_meanMark_32 hl (by decide) rfl (fun ls hl => ?_)
  refine lv_aload hx hb dX5_meanMark_34 (lv_at hl 0 rfl) ?_
  refine lv_astore (lv' := [(7, .ref m3), (6, .ref m3), (5, .int 3), (9, .int x), (8, .int 16), (4, .int 5), (3, .ref aM), (2, .int 0), (1, .int 0), (0, .ref h0)]) hx hb dX5_meanMark_36 hl (by decide) rfl (fun ls hl => ?_)
  refine lv_aload hx hb dX5_meanMark_38 (lv_at hl 0 rfl) ?_
  refine va_alen (v := 16) hx hb hK hP 5 1 rfl rfl rfl dX5_meanMark_40 ?_
  refine lv_istore (lv' := [(8, .int 16), (7, .ref m3), (6, .ref m3), (5, .int 3), (9, .int x), (4, .int 5), (3, .ref aM), (2, .int 0), (1, .int 0), (0, .ref h0)]) hx hb dX5_meanMark_41 hl (by decide) rfl (fun ls hl => ?_)
  refine lv_iconst (v := 0) hx hb dX5_meanMark_43 (by decide) ?_
  refine lv_istore (lv' := [(9, .int 0), (8, .int 16), (7, .ref m3), (6, .ref m3), (5, .int 3), (4, .int 5), (3, .ref aM), (2, .int 0), (1, .int 0), (0, .ref h0)]) hx hb dX5_meanMark_44 hl (by decide) rfl (fun ls hl => ?_)
  have K_13 : ∀ (n i : Nat) (x : Int32) (hin : i + n = 16) (hx3 : x = nI i) (H : Heap) (locs : List Loc) (hP : va_P D vwCl [(h0, .inr (8, [.int 0, .ref lH, .ref lB, .ref lJ, .ref aR, .ref aL, .int 0, .int 0, .int 0, .ref lC, .ref aM, .ref aP, .int 0, .int 0, .int 0, .int (-1), .int (-1), .int 0, .int 0, .long sm])), (aM, .inl (cM, 5, .inr (.inr (.inr (.inr gM))))), (m0, .inl (cR, 16, .inl f0)), (m1, .inl (cR, 16, .inl f1)), (m2, .inl (cR, 16, .inl f2)), (m3, .inl (cR, 16, .inl f3)), (m4, .inl (cR, 16, .inl f4))] H) (hD : va_D A [(h0, .inr (8, [.int 0, .ref lH, .ref lB, .ref lJ, .ref aR, .ref aL, .int 0, .int 0, .int 0, .ref lC, .ref aM, .ref aP, .int 0, .int 0, .int 0, .int (-1), .int (-1), .int 0, .int 0, .long sm])), (aM, .inl (cM, 5, .inr (.inr (.inr (.inr gM))))), (m0, .inl (cR, 16, .inl f0)), (m1, .inl (cR, 16, .inl f1)), (m2, .inl (cR, 16, .inl f2)), (m3, .inl (cR, 16, .inl f3)), (m4, .inl (cR, 16, .inl f4))]) (hS : va_S A s.heap H locs) (ls : Array Slot) (hl : lv_has ls 11 [(9, .int x), (8, .int 16), (7, .ref m3), (6, .ref m3), (5, .int 3), (4, .int 5), (3, .ref aM), (2, .int 0), (1, .int 0), (0, .ref h0)]) (kx : (∀ (x : Int32) (H : Heap) (locs : List Loc) (hP : va_P D vwCl [(h0, .inr (8, [.int 0, .ref lH, .ref lB, .ref lJ, .ref aR, .ref aL, .int 0, .int 0, .int 0, .ref lC, .ref aM, .ref aP, .int 0, .int 0, .int 0, .int (-1), .int (-1), .int 0, .int 0, .long sm])), (aM, .inl (cM, 5, .inr (.inr (.inr (.inr gM))))), (m0, .inl (cR, 16, .inl f0)), (m1, .inl (cR, 16, .inl f1)), (m2, .inl (cR, 16, .inl f2)), (m3, .inl (cR, 16, .inl f3)), (m4, .inl (cR, 16, .inl f4))] H) (hD : va_D A [(h0, .inr (8, [.int 0, .ref lH, .ref lB, .ref lJ, .ref aR, .ref aL, .int 0, .int 0, .int 0, .ref lC, .ref aM, .ref aP, .int 0, .int 0, .int 0, .int (-1), .int (-1), .int 0, .int 0, .long sm])), (aM, .inl (cM, 5, .inr (.inr (.inr (.inr gM))))), (m0, .inl (cR, 16, .inl f0)), (m1, .inl (cR, 16, .inl f1)), (m2, .inl (cR, 16, .inl f2)), (m3, .inl (cR, 16, .inl f3)), (m4, .inl (cR, 16, .inl f4))]) (hS : va_S A s.heap H locs) (ls : Array Slot) (hl : lv_has ls 11 [(9, .int x), (8, .int 16), (7, .ref m3), (6, .ref m3), (5, .int 3), (4, .int 5), (3, .ref aM), (2, .int 0), (1, .int 0), (0, .ref h0)]), W p l e (headSpec wsX5_meanMark ({ frames := 1, cells := 0, slots := 0, locals := 15 })).room s m [.ref h0].toArray below meth c H locs 0 0 (MQ below (va_Qd (fun (r : UInt64) (_ : Unit) => r = FP.dconst0) (fun _ t => va_P D vwCl [] t.heap ∧ va_K D vwCl [] t ∧ va_D A []) A) [.ref h0].toArray s 0 0 A) (F0 m 89 ls []))), W p l e (headSpec wsX5_meanMark ({ frames := 1, cells := 0, slots := 0, locals := 15 })).room s m [.ref h0].toArray below meth c H locs 0 0 (MQ below (va_Qd (fun (r : UInt64) (_ : Unit) => r = FP.dconst0) (fun _ t => va_P D vwCl [] t.heap ∧ va_K D vwCl [] t ∧ va_D A []) A) [.ref h0].toArray s 0 0 A) (F0 m 46 ls []) := by
    intro n
    induction n with
    | zero =>
      intro i x hin hx3   H locs hP hD hS ls hl kx
      refine lv_iload hx hb dX5_meanMark_46 (lv_at hl 0 rfl) ?_
      refine lv_iload hx hb dX5_meanMark_48 (lv_at hl 1 rfl) ?_
      refine lv_icmp_ge (tgt := 89) hx hb dX5_meanMark_50 (by decide) (fun hc => ?_) (fun hc => ?_)
      · skip
        obtain rfl : i = 16 := hin
        exact kx x   _ _ hP hD hS ls hl
      · skip
        exact absurd (by rw [hx3, show i = 16 from hin]; exact Int32.le_refl _) hc
    | succ n ih =>
      intro i x hin hx3   H locs hP hD hS ls hl kx
      refine lv_iload hx hb dX5_meanMark_46 (lv_at hl 0 rfl) ?_
      refine lv_iload hx hb dX5_meanMark_48 (lv_at hl 1 rfl) ?_
      refine lv_icmp_ge (tgt := 89) hx hb dX5_meanMark_50 (by decide) (fun hc => ?_) (fun hc => ?_)
      · skip
        exact absurd (by rw [hx3] at hc; exact hc) (show ¬ nI 16 ≤ nI i from nI_ge (by omega) (by omega))
      · skip
        have hi : i < 16 := by omega
        refine lv_aload hx hb dX5_meanMark_53 (lv_at hl 2 rfl) ?_
        refine lv_iload hx hb dX5_meanMark_55 (lv_at hl 0 rfl) ?_
        refine va_iald hx hb hK hP 5 1 rfl rfl (show vp_in x 16 by rw [hx3]; exact vp_in_nI hi (by omega)) dX5_meanMark_57 ?_
        refine lv_topi (fun z9 ez9 => ?_)
        have ez9 : z9 = (-1) := ez9.trans (by rw [hx3, nI_clamp (by omega)]; exact hm3 i hi)
        rw [ez9]
        refine lv_istore (lv' := [(10, .int (-1)), (9, .int x), (8, .int 16), (7, .ref m3), (6, .ref m3), (5, .int 3), (4, .int 5), (3, .ref aM), (2, .int 0), (1, .int 0), (0, .ref h0)]) hx hb dX5_meanMark_58 hl (by decide) rfl (fun ls hl => ?_)
        refine lv_iload_n hx hb dX5_meanMark_60 rfl (lv_at hl 9 rfl) ?_
        refine lv_iconst (v := 0) hx hb dX5_meanMark_61 (by decide) ?_
        refine lv_iload hx hb dX5_meanMark_62 (lv_at hl 0 rfl) ?_
        refine va_mmax hx hb (hml.trans hl.1.symm) hown (hts (.methodLink RX5 167 Lib.Math.max.name) (by decide +kernel)) (hts (.static Lib.Math.max.name) (by decide +kernel)) (hts (.initialized "java/lang/Math") (by decide +kernel)) (hts (.code Lib.Math.max.name Lib.Math.max.code 2 (some .int)) (by decide +kernel)) (Nat.le_of_ble_eq_true rfl) (Nat.le_of_ble_eq_true rfl) (Nat.le_of_ble_eq_true rfl) (Nat.le_of_ble_eq_true rfl) dX5_meanMark_64 ?_
        refine lv_topi (fun z_14 ez_14 => ?_)
        have ez_14 : z_14 = 0 := ez_14.trans (by decide +kernel)
        rw [ez_14]
        refine lv_iadd hx hb dX5_meanMark_67 ?_
        refine lv_topi (fun z_15 ez_15 => ?_)
        have ez_15 : z_15 = 0 := ez_15.trans (by decide +kernel)
        rw [ez_15]
        refine lv_istore_n (lv' := [(1, .int 0), (10, .int (-1)), (9, .int x), (8, .int 16), (7, .ref m3), (6, .ref m3), (5, .int 3), (4, .int 5), (3, .ref aM), (2, .int 0), (0, .ref h0)]) hx hb dX5_meanMark_68 rfl hl (by decide) rfl (fun ls hl => ?_)
        refine lv_iload_n hx hb dX5_meanMark_69 rfl (lv_at hl 9 rfl) ?_
        refine lv_iload hx hb dX5_meanMark_70 (lv_at hl 1 rfl) ?_
        refine lv_iconst (v := (-1)) hx hb dX5_meanMark_72 (by decide) ?_
        refine lv_icmp_ne (tgt := 80) hx hb dX5_meanMark_73 (by decide) (fun h => absurd (by decide) h) (fun _ => ?_)
        refine lv_iconst (v := 0) hx hb dX5_meanMark_76 (by decide) ?_
        refine lv_goto (tgt := 81) hx hb dX5_meanMark_77 (by decide) ?_
        refine lv_iadd hx hb dX5_meanMark_81 ?_
        refine lv_topi (fun z_16 ez_16 => ?_)
        have ez_16 : z_16 = 0 := ez_16.trans (by decide +kernel)
        rw [ez_16]
        refine lv_istore_n (lv' := [(2, .int 0), (1, .int 0), (10, .int (-1)), (9, .int x), (8, .int 16), (7, .ref m3), (6, .ref m3), (5, .int 3), (4, .int 5), (3, .ref aM), (0, .ref h0)]) hx hb dX5_meanMark_82 rfl hl (by decide) rfl (fun ls hl => ?_)
        refine lv_iinc (v := nI (i + 1)) (lv' := [(9, .int (nI (i + 1))), (2, .int 0), (1, .int 0), (10, .int (-1)), (8, .int 16), (7, .ref m3), (6, .ref m3), (5, .int 3), (4, .int 5), (3, .ref aM), (0, .ref h0)]) hx hb dX5_meanMark_83 hl (k := 3) rfl (by rw [hx3]; exact nI_1 i) (by decide) rfl (fun ls hl => ?_)
        refine lv_goto (tgt := 46) hx hb dX5_meanMark_86 (by decide) ?_
        exact ih (i + 1) _ (by omega) rfl   _ _ hP hD hS ls (lv_sub hl [0, 4, 5, 6, 7, 8, 9, 1, 2, 10] rfl) kx
  refine K_13 16 0 0 rfl nI_0.symm _ _ hP hD hS ls hl (fun x H locs hP hD hS ls hl => ?_)
  refine lv_iinc (v := 4) (lv' := [(5, .int 4), (9, .int x), (8, .int 16), (7, .ref m3), (6, .ref m3), (4, .int 5), (3, .ref aM), (2, .int 0), (1, .int 0), (0, .ref h0)]) hx hb dX5_meanMark_89 hl (k := 4) rfl (by decide) (by decide) rfl (fun ls hl => ?_)
  refine lv_goto (tgt := 21) hx hb dX5_meanMark_92 (by decide) ?_
  refine lv_iload hx hb dX5_meanMark_21 (lv_at hl 0 rfl) ?_
  refine lv_iload hx hb dX5_meanMark_23 (lv_at hl 5 rfl) ?_
  refine lv_icmp_ge (tgt := 95) hx hb dX5_meanMark_25 (by decide) (fun h => absurd h (by decide)) (fun _ => ?_)
  refine lv_aload_n hx hb dX5_meanMark_28 rfl (lv_at hl 6 rfl) ?_
  refine lv_iload hx hb dX5_meanMark_29 (lv_at hl 0 rfl) ?_
  refine va_alda hx hb hK hP 1 0 rfl rfl (by unfold vp_in; decide +kernel) dX5_meanMark_31 ?_
  refine W.eq (g2 := F0 m 32 ls [.ref m4]) (congrArg (fun z => F0 m 32 ls (va_rf z :: [])) (show gM (Int32.toNatClampNeg 4) = some m4 from hg4)) ?_
  refine lv_astore (lv' := [(6, .ref m4), (5, .int 4), (9, .int x), (8, .int 16), (7, .ref m3), (4, .int 5), (3, .ref aM), (2, .int 0), (1, .int 0), (0, .ref h0)]) hx hb dX5_meanMark_32 hl (by decide) rfl (fun ls hl => ?_)
  refine lv_aload hx hb dX5_meanMark_34 (lv_at hl 0 rfl) ?_
  refine lv_astore (lv' := [(7, .ref m4), (6, .ref m4), (5, .int 4), (9, .int x), (8, .int 16), (4, .int 5), (3, .ref aM), (2, .int 0), (1, .int 0), (0, .ref h0)]) hx hb dX5_meanMark_36 hl (by decide) rfl (fun ls hl => ?_)
  refine lv_aload hx hb dX5_meanMark_38 (lv_at hl 0 rfl) ?_
  refine va_alen (v := 16) hx hb hK hP 6 1 rfl rfl rfl dX5_meanMark_40 ?_
  refine lv_istore (lv' := [(8, .int 16), (7, .ref m4), (6, .ref m4), (5, .int 4), (9, .int x), (4, .int 5), (3, .ref aM), (2, .int 0), (1, .int 0), (0, .ref h0)]) hx hb dX5_meanMark_41 hl (by decide) rfl (fun ls hl => ?_)
  refine lv_iconst (v := 0) hx hb dX5_meanMark_43 (by decide) ?_
  refine lv_istore (lv' := [(9, .int 0), (8, .int 16), (7, .ref m4), (6, .ref m4), (5, .int 4), (4, .int 5), (3, .ref aM), (2, .int 0), (1, .int 0), (0, .ref h0)]) hx hb dX5_meanMark_44 hl (by decide) rfl (fun ls hl => ?_)
  have K_17 : ∀ (n i : Nat) (x : Int32) (hin : i + n = 16) (hx3 : x = nI i) (H : Heap) (locs : List Loc) (hP : va_P D vwCl [(h0, .inr (8, [.int 0, .ref lH, .ref lB, .ref lJ, .ref aR, .ref aL, .int 0, .int 0, .int 0, .ref lC, .ref aM, .ref aP, .int 0, .int 0, .int 0, .int (-1), .int (-1), .int 0, .int 0, .long sm])), (aM, .inl (cM, 5, .inr (.inr (.inr (.inr gM))))), (m0, .inl (cR, 16, .inl f0)), (m1, .inl (cR, 16, .inl f1)), (m2, .inl (cR, 16, .inl f2)), (m3, .inl (cR, 16, .inl f3)), (m4, .inl (cR, 16, .inl f4))] H) (hD : va_D A [(h0, .inr (8, [.int 0, .ref lH, .ref lB, .ref lJ, .ref aR, .ref aL, .int 0, .int 0, .int 0, .ref lC, .ref aM, .ref aP, .int 0, .int 0, .int 0, .int (-1), .int (-1), .int 0, .int 0, .long sm])), (aM, .inl (cM, 5, .inr (.inr (.inr (.inr gM))))), (m0, .inl (cR, 16, .inl f0)), (m1, .inl (cR, 16, .inl f1)), (m2, .inl (cR, 16, .inl f2)), (m3, .inl (cR, 16, .inl f3)), (m4, .inl (cR, 16, .inl f4))]) (hS : va_S A s.heap H locs) (ls : Array Slot) (hl : lv_has ls 11 [(9, .int x), (8, .int 16), (7, .ref m4), (6, .ref m4), (5, .int 4), (4, .int 5), (3, .ref aM), (2, .int 0), (1, .int 0), (0, .ref h0)]) (kx : (∀ (x : Int32) (H : Heap) (locs : List Loc) (hP : va_P D vwCl [(h0, .inr (8, [.int 0, .ref lH, .ref lB, .ref lJ, .ref aR, .ref aL, .int 0, .int 0, .int 0, .ref lC, .ref aM, .ref aP, .int 0, .int 0, .int 0, .int (-1), .int (-1), .int 0, .int 0, .long sm])), (aM, .inl (cM, 5, .inr (.inr (.inr (.inr gM))))), (m0, .inl (cR, 16, .inl f0)), (m1, .inl (cR, 16, .inl f1)), (m2, .inl (cR, 16, .inl f2)), (m3, .inl (cR, 16, .inl f3)), (m4, .inl (cR, 16, .inl f4))] H) (hD : va_D A [(h0, .inr (8, [.int 0, .ref lH, .ref lB, .ref lJ, .ref aR, .ref aL, .int 0, .int 0, .int 0, .ref lC, .ref aM, .ref aP, .int 0, .int 0, .int 0, .int (-1), .int (-1), .int 0, .int 0, .long sm])), (aM, .inl (cM, 5, .inr (.inr (.inr (.inr gM))))), (m0, .inl (cR, 16, .inl f0)), (m1, .inl (cR, 16, .inl f1)), (m2, .inl (cR, 16, .inl f2)), (m3, .inl (cR, 16, .inl f3)), (m4, .inl (cR, 16, .inl f4))]) (hS : va_S A s.heap H locs) (ls : Array Slot) (hl : lv_has ls 11 [(9, .int x), (8, .int 16), (7, .ref m4), (6, .ref m4), (5, .int 4), (4, .int 5), (3, .ref aM), (2, .int 0), (1, .int 0), (0, .ref h0)]), W p l e (headSpec wsX5_meanMark ({ frames := 1, cells := 0, slots := 0, locals := 15 })).room s m [.ref h0].toArray below meth c H locs 0 0 (MQ below (va_Qd (fun (r : UInt64) (_ : Unit) => r = FP.dconst0) (fun _ t => va_P D vwCl [] t.heap ∧ va_K D vwCl [] t ∧ va_D A []) A) [.ref h0].toArray s 0 0 A) (F0 m 89 ls []))), W p l e (headSpec wsX5_meanMark ({ frames := 1, cells := 0, slots := 0, locals := 15 })).room s m [.ref h0].toArray below meth c H locs 0 0 (MQ below (va_Qd (fun (r : UInt64) (_ : Unit) => r = FP.dconst0) (fun _ t => va_P D vwCl [] t.heap ∧ va_K D vwCl [] t ∧ va_D A []) A) [.ref h0].toArray s 0 0 A) (F0 m 46 ls []) := by
    intro n
    induction n with
    | zero =>
      intro i x hin hx3   H locs hP hD hS ls hl kx
      refine lv_iload hx hb dX5_meanMark_46 (lv_at hl 0 rfl) ?_
      refine lv_iload hx hb dX5_meanMark_48 (lv_at hl 1 rfl) ?_
      refine lv_icmp_ge (tgt := 89) hx hb dX5_meanMark_50 (by decide) (fun hc => ?_) (fun hc => ?_)
      · skip
        obtain rfl : i = 16 := hin
        exact kx x   _ _ hP hD hS ls hl
      · skip
        exact absurd (by rw [hx3, show i = 16 from hin]; exact Int32.le_refl _) hc
    | succ n ih =>
      intro i x hin hx3   H locs hP hD hS ls hl kx
      refine lv_iload hx hb dX5_meanMark_46 (lv_at hl 0 rfl) ?_
      refine lv_iload hx hb dX5_meanMark_48 (lv_at hl 1 rfl) ?_
      refine lv_icmp_ge (tgt := 89) hx hb dX5_meanMark_50 (by decide) (fun hc => ?_) (fun hc => ?_)
      · skip
        exact absurd (by rw [hx3] at hc; exact hc) (show ¬ nI 16 ≤ nI i from nI_ge (by omega) (by omega))
      · skip
        have hi : i < 16 := by omega
        refine lv_aload hx hb dX5_meanMark_53 (lv_at hl 2 rfl) ?_
        refine lv_iload hx hb dX5_meanMark_55 (lv_at hl 0 rfl) ?_
        refine va_iald hx hb hK hP 6 1 rfl rfl (show vp_in x 16 by rw [hx3]; exact vp_in_nI hi (by omega)) dX5_meanMark_57 ?_
        refine lv_topi (fun z9 ez9 => ?_)
        have ez9 : z9 = (-1) := ez9.trans (by rw [hx3, nI_clamp (by omega)]; exact hm4 i hi)
        rw [ez9]
        refine lv_istore (lv' := [(10, .int (-1)), (9, .int x), (8, .int 16), (7, .ref m4), (6, .ref m4), (5, .int 4), (4, .int 5), (3, .ref aM), (2, .int 0), (1, .int 0), (0, .ref h0)]) hx hb dX5_meanMark_58 hl (by decide) rfl (fun ls hl => ?_)
        refine lv_iload_n hx hb dX5_meanMark_60 rfl (lv_at hl 9 rfl) ?_
        refine lv_iconst (v := 0) hx hb dX5_meanMark_61 (by decide) ?_
        refine lv_iload hx hb dX5_meanMark_62 (lv_at hl 0 rfl) ?_
        refine va_mmax hx hb (hml.trans hl.1.symm) hown (hts (.methodLink RX5 167 Lib.Math.max.name) (by decide +kernel)) (hts (.static Lib.Math.max.name) (by decide +kernel)) (hts (.initialized "java/lang/Math") (by decide +kernel)) (hts (.code Lib.Math.max.name Lib.Math.max.code 2 (some .int)) (by decide +kernel)) (Nat.le_of_ble_eq_true rfl) (Nat.le_of_ble_eq_true rfl) (Nat.le_of_ble_eq_true rfl) (Nat.le_of_ble_eq_true rfl) dX5_meanMark_64 ?_
        refine lv_topi (fun z_18 ez_18 => ?_)
        have ez_18 : z_18 = 0 := ez_18.trans (by decide +kernel)
        rw [ez_18]
        refine lv_iadd hx hb dX5_meanMark_67 ?_
        refine lv_topi (fun z_19 ez_19 => ?_)
        have ez_19 : z_19 = 0 := ez_19.trans (by decide +kernel)
        rw [ez_19]
        refine lv_istore_n (lv' := [(1, .int 0), (10, .int (-1)), (9, .int x), (8, .int 16), (7, .ref m4), (6, .ref m4), (5, .int 4), (4, .int 5), (3, .ref aM), (2, .int 0), (0, .ref h0)]) hx hb dX5_meanMark_68 rfl hl (by decide) rfl (fun ls hl => ?_)
        refine lv_iload_n hx hb dX5_meanMark_69 rfl (lv_at hl 9 rfl) ?_
        refine lv_iload hx hb dX5_meanMark_70 (lv_at hl 1 rfl) ?_
        refine lv_iconst (v := (-1)) hx hb dX5_meanMark_72 (by decide) ?_
        refine lv_icmp_ne (tgt := 80) hx hb dX5_meanMark_73 (by decide) (fun h => absurd (by decide) h) (fun _ => ?_)
        refine lv_iconst (v := 0) hx hb dX5_meanMark_76 (by decide) ?_
        refine lv_goto (tgt := 81) hx hb dX5_meanMark_77 (by decide) ?_
        refine lv_iadd hx hb dX5_meanMark_81 ?_
        refine lv_topi (fun z_20 ez_20 => ?_)
        have ez_20 : z_20 = 0 := ez_20.trans (by decide +kernel)
        rw [ez_20]
        refine lv_istore_n (lv' := [(2, .int 0), (1, .int 0), (10, .int (-1)), (9, .int x), (8, .int 16), (7, .ref m4), (6, .ref m4), (5, .int 4), (4, .int 5), (3, .ref aM), (0, .ref h0)]) hx hb dX5_meanMark_82 rfl hl (by decide) rfl (fun ls hl => ?_)
        refine lv_iinc (v := nI (i + 1)) (lv' := [(9, .int (nI (i + 1))), (2, .int 0), (1, .int 0), (10, .int (-1)), (8, .int 16), (7, .ref m4), (6, .ref m4), (5, .int 4), (4, .int 5), (3, .ref aM), (0, .ref h0)]) hx hb dX5_meanMark_83 hl (k := 3) rfl (by rw [hx3]; exact nI_1 i) (by decide) rfl (fun ls hl => ?_)
        refine lv_goto (tgt := 46) hx hb dX5_meanMark_86 (by decide) ?_
        exact ih (i + 1) _ (by omega) rfl   _ _ hP hD hS ls (lv_sub hl [0, 4, 5, 6, 7, 8, 9, 1, 2, 10] rfl) kx
  refine K_17 16 0 0 rfl nI_0.symm _ _ hP hD hS ls hl (fun x H locs hP hD hS ls hl => ?_)
  refine lv_iinc (v := 5) (lv' := [(5, .int 5), (9, .int x), (8, .int 16), (7, .ref m4), (6, .ref m4), (4, .int 5), (3, .ref aM), (2, .int 0), (1, .int 0), (0, .ref h0)]) hx hb dX5_meanMark_89 hl (k := 4) rfl (by decide) (by decide) rfl (fun ls hl => ?_)
  refine lv_goto (tgt := 21) hx hb dX5_meanMark_92 (by decide) ?_
  refine lv_iload hx hb dX5_meanMark_21 (lv_at hl 0 rfl) ?_
  refine lv_iload hx hb dX5_meanMark_23 (lv_at hl 5 rfl) ?_
  refine lv_icmp_ge (tgt := 95) hx hb dX5_meanMark_25 (by decide) (fun _ => ?_) (fun h => absurd (by decide) h)
  refine lv_iload_n hx hb dX5_meanMark_95 rfl (lv_at hl 7 rfl) ?_
  refine lv_if_ne (tgt := 103) hx hb dX5_meanMark_96 (by decide) (fun h => absurd (by decide) h) (fun _ => ?_)
  refine lv_dconst0 hx hb dX5_meanMark_99 ?_
  refine lv_goto (tgt := 108) hx hb dX5_meanMark_100 (by decide) ?_
  have hP9 := hP.sub (ws' := []) [] rfl
  have hD9 := hD.sub (ws' := []) [] (by decide) rfl
  have hK9 := hK.sub (tys' := []) [] rfl
  exact W.dret (v := FP.dconst0) hx hb hr (fun t ht hW => ⟨⟨FP.dconst0, (), rfl, rfl, ⟨by rw [ht]; exact hP9, va_K.moved hW.alike hK9, hD9⟩⟩, hS.F ht⟩) hS.2.2 dX5_meanMark_108
