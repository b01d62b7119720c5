set_option maxHeartbeats 4000000 in
set_option maxRecDepth 100000 in
theorem law_turns {p : Program} {l : Launch} {e : Env} {s : State} {m : MethodId} {args : Array Value} {below : List Frame} {meth : Method} {c : Code} {Q : State → Prop} {b : Nat} {D : va_G} {a : Nat → Nat} {cH cB cJ cI : ClassId} {L : Nat} {xs : Nat → Int32} (hx : p.tables.exec = Jvm.exec) (hb : c.code = cL_law) (hml : c.maxLocals = 23) (hown : s.vm.findClass RL = some m.cls) (hw : ∀ w ∈ wsL_law0, w.before args s = true) (ha : pj a) (hB : ∀ k, k < 58 → s.heap.size ≤ a k) (hK : va_K D vwCl (pT cH cB cJ cI) s) (hE : ew s) (hL : L ≤ 260) (hX : va_X b L xs s s.heap) (hbl : b < s.heap.size) (hmo : ∀ n t : Int, 0 ≤ n ∧ n ≤ 48 → 0 ≤ t ∧ t ≤ 99 * n → MeanOk n t) {hh jj : Int} (hhh : 2 ≤ hh ∧ hh ≤ 5) (hjj : 3 ≤ jj ∧ jj ≤ 5) (kx : ∀ (g : m_St) (vt : Nat → Int32) (p1 p2 p3 : Int) (H : Heap) (locs : List Loc) (ls : Array Slot), Iv hh jj ((90 : Nat) : Int) p1 p2 p3 g → va_P D vwCl (pw a cH cB cJ cI g vt) H → va_S (fun q => s.heap.size ≤ q) s.heap H locs → lv_has ls 23 [(0, .ref b), (1, .ref (a 0)), (2, .int (iI hh)), (3, .int (iI jj)), (4, .int (iI p1)), (5, .int (iI p2)), (6, .int (iI p3)), (7, .int (iI ((90 : Nat) : Int)))] → W p l e room_1 s m args below meth c H locs 238 1580 Q (F0 m 1746 ls [])) : ∀ (d n : Nat) (g : m_St) (vt : Nat → Int32) (p1 p2 p3 : Int) (H : Heap) (locs : List Loc) (ls : Array Slot), n + d = 90 → Iv hh jj ((n : Nat) : Int) p1 p2 p3 g → va_P D vwCl (pw a cH cB cJ cI g vt) H → va_S (fun q => s.heap.size ≤ q) s.heap H locs → lv_has ls 23 [(0, .ref b), (1, .ref (a 0)), (2, .int (iI hh)), (3, .int (iI jj)), (4, .int (iI p1)), (5, .int (iI p2)), (6, .int (iI p3)), (7, .int (iI ((n : Nat) : Int)))] → W p l e room_1 s m args below meth c H locs (58 + 2 * n) (680 + 10 * n) Q (F0 m 143 ls []) := by
  intro d
  induction d with
  | zero =>
    intro n g vt p1 p2 p3 H locs ls hn hIv hP hS hl
    obtain rfl : n = 90 := by omega
    refine lv_iload hx hb dL_law_143 (lv_at hl 7 rfl) ?_
    refine lv_bipush (v := iI 90) hx hb dL_law_145 (by decide) ?_
    refine n_icmp_ge hx hb (by unfold RI; omega) (by unfold RI; omega) (tgt := 1746) dL_law_147 (by decide) (fun _ => ?_) (fun h => absurd h (by omega))
    exact kx g vt p1 p2 p3 H locs ls hIv hP hS hl
  | succ d ih =>
    intro n g vt p1 p2 p3 H locs ls hn hIv hP hS hl
    refine law_turn hx hb hml hown hw ha hB hK hE hL hX hbl (tn := n) (by omega) (by omega) (by omega) hhh hjj hIv hP hS hl (fun g1 v1 q1 q2 q3 H locs ls hI hP hS hl => ?_)
    refine law_tail hx hb hml hown hw ha hB hK hE hmo (tn := n) (by omega) (by omega) (by omega) hhh hjj hI hP hS hl (fun v2 H locs ls hP hS hl => ?_)
    refine W.widen (k := 58 + 2 * (n + 1)) (n := 680 + 10 * (n + 1)) (by omega) (by omega) ?_
    exact ih (n + 1) g1 v2 q1 q2 q3 H locs ls (by omega) hI hP hS hl
