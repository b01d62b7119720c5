section XW
/-! a row of ints beside the 58 cells -/
theorem va_Pl {D : va_G} {cl : List vw_C} {w1 w2 : va_W} {H : Heap} (h : va_P D cl (w1 ++ w2) H) : va_P D cl w1 H := fun k q hk => h k q (by rw [List.getElem?_append_left (List.getElem?_eq_some_iff.mp hk).1]; exact hk)
theorem va_Pr {D : va_G} {cl : List vw_C} {w1 w2 : va_W} {H : Heap} (h : va_P D cl (w1 ++ w2) H) : va_P D cl w2 H := fun k q hk => h (w1.length + k) q (by rw [List.getElem?_append_right (by omega), Nat.add_sub_cancel_left]; exact hk)
theorem pw_len {a : Nat → Nat} {cH cB cJ cI : ClassId} {g : m_St} {vt : Nat → Int32} : (pw a cH cB cJ cI g vt).length = 58 := by simp [pw]
theorem rw_X {D : va_G} {a : Nat → Nat} {H H1 : Heap} {q : Nat} {e : va_E} (hX : va_P D vwCl [(q, e)] H) (hq : ∀ k, k < 58 → a k ≠ q) (hk : ∀ x : Nat, x < H.size → ¬ pA a H.size x → H1[x]? = H[x]?) : va_P D vwCl [(q, e)] H1 := by
  have hl := (hX 0 _ rfl).lt
  refine hX.kept (fun k x h => ?_)
  cases k with
  | zero =>
    cases h
    refine hk q hl (fun z => ?_)
    rcases z with ⟨k, h1, h2⟩ | z
    · exact hq k h1 h2
    · exact absurd hl (Nat.not_lt.mpr z)
  | succ k => simp at h
section
variable {p : Program} {l : Launch} {e : Env} {R : Room} {s : State} {m : MethodId} {args : Array Value} {below : List Frame} {meth : Method} {c : Code} {H : Heap} {locs : List Loc} {cells slots : Nat} {Q : State → Prop}
variable {cc : ByteArray} {pc : Nat} {ls : Array Slot} {rest : List Value} {D : va_G} {a : Nat → Nat} {cH cB cJ cI : ClassId} {g : m_St} {vt : Nat → Int32} {A : Nat → Prop} {H0 : Heap}
theorem p_xnew (hx : p.tables.exec = Jvm.exec) (hb : c.code = cc) (harr : (Cond.arrayClass .int).before args s = true) (hK : va_K D vwCl (pT cH cB cJ cI) s) (hP : va_P D vwCl (pw a cH cB cJ cI g vt) H) (ha : pj a) (hS : va_S A H0 H locs) (hA : ∀ q, H0.size ≤ q → A q) (hB : ∀ k, k < 58 → A (a k)) {N : Int} (h0 : 0 ≤ N ∧ N ≤ 5) (hc : cells + 1 ≤ R.cells) (hs : slots + 5 ≤ R.slots) (hdg : decode cc pc = .ok (.newarray .int, 2)) (kk : ∀ (q : Nat) (H1 : Heap), va_P D vwCl (pw a cH cB cJ cI g vt) H1 → va_P D vwCl [(q, zC cI N.toNat (fun _ => 0))] H1 → (∀ k, k < 58 → a k ≠ q) → A q → va_S A H0 H1 locs → W p l e R s m args below meth c H1 locs (cells + 1) (slots + 5) Q (F0 m (pc + 2) ls (.ref q :: rest))) : W p l e R s m args below meth c H locs cells slots Q (F0 m pc ls (.int (iI N) :: rest)) := by
  have r : RI N := by unfold RI; omega
  refine va_newa (atype := .int) (ty := .int) (N' := N.toNat) (a0 := (N.toNat, (.inl (fun _ => 0)))) hx hb harr rfl hK hP (pw_D ha hB) hS hA (fun _ => rfl) (fun z => by have := (iI_lt r RI_0).mp z; omega) (iI_nat r) (by show N.toNat * 4 ≤ 536870912; omega) hc (by omega) hdg (fun q cA H1 hK1 hP1 hD1 hS1 => ?_)
  obtain rfl : cI = cA := ci_eq hK1 3 4 rfl rfl
  have hl : ∀ {x : Nat × va_E}, (pw a cH cB cJ cI g vt ++ [x])[58]? = some x := fun {x} => by
    rw [List.getElem?_append_right (by rw [pw_len]; omega), pw_len]; rfl
  refine W.widen (k := cells + 1) (n := slots + 5) (Nat.le_refl _) (by omega) (kk q H1 (va_Pl hP1) (va_Pr hP1) (fun k hk z => ?_) (hD1.2 58 _ hl) hS1)
  have h1 : (pw a cH cB cJ cI g vt ++ [(q, (.inl (cI, (N.toNat, (.inl (fun _ => 0)))) : va_E))])[k]? = some (a k, pcell a cH cB cJ cI g vt k) := by
    rw [List.getElem?_append_left (by rw [pw_len]; exact hk)]; exact pw_get hk
  have := hD1.1 k 58 _ _ h1 hl z
  omega
theorem p_xrd (hx : p.tables.exec = Jvm.exec) (hb : c.code = cc) (hK : va_K D vwCl (pT cH cB cJ cI) s) {q n : Nat} {f : Nat → Int32} (hX : va_P D vwCl [(q, zC cI n f)] H) {k : Int} (h0 : 0 ≤ k) (h1 : k < n) (hn : n ≤ 1000) (hdg : decode cc pc = .ok (.iaload, 1)) (kk : W p l e R s m args below meth c H locs cells slots Q (F0 m (pc + 1) ls (.int (f k.toNat) :: rest))) : W p l e R s m args below meth c H locs cells slots Q (F0 m pc ls (.int (iI k) :: .ref q :: rest)) := by
  have z := iI_in (n := n) (k := k) h0 h1 (by omega)
  refine va_iald hx hb hK hX 0 3 rfl rfl z.1 hdg ?_
  rw [z.2]; exact kk
theorem p_xwr (hx : p.tables.exec = Jvm.exec) (hb : c.code = cc) (hK : va_K D vwCl (pT cH cB cJ cI) s) (hP : va_P D vwCl (pw a cH cB cJ cI g vt) H) (ha : pj a) (hB : ∀ k, k < 58 → A (a k)) {q n : Nat} {f : Nat → Int32} (hX : va_P D vwCl [(q, zC cI n f)] H) (hq : ∀ k, k < 58 → a k ≠ q) (hqA : A q) (hS : va_S A H0 H locs) {k : Int} {x : Int32} (h0 : 0 ≤ k) (h1 : k < n) (hn : n ≤ 1000) (hdg : decode cc pc = .ok (.iastore, 1)) (kk : ∀ (H1 : Heap) (locs1 : List Loc), va_P D vwCl (pw a cH cB cJ cI g vt) H1 → va_P D vwCl [(q, zC cI n (upd f k.toNat x))] H1 → va_S A H0 H1 locs1 → W p l e R s m args below meth c H1 locs1 cells slots Q (F0 m (pc + 1) ls rest)) : W p l e R s m args below meth c H locs cells slots Q (F0 m pc ls (.int x :: .int (iI k) :: .ref q :: rest)) := by
  have z := iI_in (n := n) (k := k) h0 h1 (by omega)
  have hD1 : va_D A [(q, zC cI n f)] := ⟨fun i j x y hi hj _ => by cases i <;> cases j <;> simp at hi hj ⊢, fun i x hi => by cases i with
    | zero => cases hi; exact hqA
    | succ i => simp at hi⟩
  have hD : va_D A ([(q, zC cI n f)] ++ pw a cH cB cJ cI g vt) := va_D.app hD1 (pw_D ha hB) (fun i j x y hi hj e => by
    cases i with
    | zero =>
      cases hi
      obtain ⟨j1, j2⟩ := pw_at hj
      exact hq j j1 (j2.symm.trans e.symm)
    | succ i => simp at hi)
  refine va_iast hx hb hK (va_P.app hX hP) hD hS 0 3 rfl rfl z.1 hdg (fun H1 locs1 hP1 _ hS1 => ?_)
  rw [z.2] at hP1
  have hP2 : va_P D vwCl ([(q, zC cI n (upd f k.toNat x))] ++ pw a cH cB cJ cI g vt) H1 := hP1
  exact kk H1 locs1 (va_Pr hP2) (va_Pl hP2) hS1
/-- a bit of a set, as the law asks for it: set >> n & 1 -/
theorem shr_has0 : ∀ n : Nat, n < 31 → (iI n &&& 31).toBitVec = BitVec.ofNat 32 n := by decide +kernel
theorem shr_has {S n : Int} (hS : 0 ≤ S ∧ S < 2147483648) (h0 : 0 ≤ n) (h1 : n < 31) : (iI S >>> (iI n &&& 31)) &&& iI 1 = bi (m_has S n) := by
  have e0 := shr_has0 n.toNat (by omega)
  rw [Int.toNat_of_nonneg h0] at e0
  have e1 := iI_bv S.toNat
  rw [Int.toNat_of_nonneg hS.1] at e1
  have hm : m_has S n = S.toNat.testBit n.toNat := by
    unfold m_has
    rw [decide_eq_true h0, Bool.true_and]
  rw [hm]
  apply Int32.toBitVec_inj.mp
  rw [Int32.toBitVec_and, Int32.toBitVec_shiftRight, e0, e1]
  have hmod : (BitVec.ofNat 32 n.toNat).smod 32 = BitVec.ofNat 32 n.toNat := (by decide +kernel : ∀ k, k < 31 → (BitVec.ofNat 32 k).smod 32 = BitVec.ofNat 32 k) n.toNat (by omega)
  rw [hmod]
  have hn : (BitVec.ofNat 32 n.toNat).toNat = n.toNat := by
    rw [BitVec.toNat_ofNat]; exact Nat.mod_eq_of_lt (by omega)
  have hmsb : (BitVec.ofNat 32 S.toNat).msb = false := by
    rw [BitVec.msb_eq_false_iff_two_mul_lt, BitVec.toNat_ofNat, Nat.mod_eq_of_lt (by omega)]
    omega
  rw [BitVec.sshiftRight_eq', hn, BitVec.sshiftRight_eq_of_msb_false hmsb]
  apply BitVec.eq_of_toNat_eq
  rw [BitVec.toNat_and, BitVec.toNat_ushiftRight, BitVec.toNat_ofNat, Nat.mod_eq_of_lt (show S.toNat < 2 ^ 32 by omega), show (iI 1).toBitVec.toNat = 1 from rfl, Nat.and_one_is_mod]
  have ht : S.toNat.testBit n.toNat = decide (S.toNat >>> n.toNat % 2 = 1) := by
    rw [Nat.testBit_eq_decide_div_mod_eq, Nat.shiftRight_eq_div_pow]
  rw [ht]
  have := Nat.mod_lt (S.toNat >>> n.toNat) (show 2 > 0 by decide)
  by_cases q : S.toNat >>> n.toNat % 2 = 1
  · rw [decide_eq_true q, q]; rfl
  · rw [decide_eq_false q, show S.toNat >>> n.toNat % 2 = 0 by omega]; rfl
end
theorem bo_z {S : Int} (h : 0 ≤ S) : m_bo S 0 = S := set_eq (bo_nn _ _) h (fun n => by rw [has_bo, has_z, Bool.or_false])
theorem bd_0 {S T : Int} (h : ∀ b, m_has S b = true → m_has T b = true) : m_bd S T = 0 := set_z (bd_nn _ _) (fun n => by
  rw [has_bd]
  cases e : m_has S n
  · rfl
  · rw [h n e]; rfl)
end XW
