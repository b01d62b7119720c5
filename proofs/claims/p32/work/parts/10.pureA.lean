section PM
/-! The class as functions of whole numbers. g c k i: c = 0: the object's own numbers (i: the field's slot); 1: house k, 2: m_book k, 3: m_judge k (i: the slot); 4 .. 8: m_judge k's rows crate, crateEnds, marks, m_points, ranked at i; 9: the rules now (k = 0), m_next (k = 1). The votes stand apart: no method reads what an earlier one left there. -/
abbrev m_St : Type := Nat → Int → Int → Int
def m_up (g : m_St) (c : Nat) (k i x : Int) : m_St := fun c' k' i' => if c' = c ∧ k' = k ∧ i' = i then x else g c' k' i'
/-- a loop from 0 m_up -/
def m_fo {α : Type} (f : Int → α → α) (a : α) : Nat → α
  | 0 => a
  | n + 1 => f n (m_fo f a n)
def m_sm (h : Int → Int) : Nat → Int
  | 0 => 0
  | n + 1 => m_sm h n + h n
def m_ib (c : Bool) : Int := bif c then 1 else 0
abbrev m_cnt (p : Int → Bool) (n : Nat) : Int := m_sm (fun i => m_ib (p i)) n
/-- the first from i m_up, of n -/
def m_fs (p : Int → Bool) : Nat → Int → Int
  | 0, _ => -1
  | n + 1, i => bif p i then i else m_fs p n (i + 1)
def m_al (p : Int → Bool) : Nat → Int → Bool
  | 0, _ => true
  | n + 1, i => p i && m_al p n (i + 1)
/-! sets -/
def m_has (S n : Int) : Bool := decide (0 ≤ n) && S.toNat.testBit n.toNat
def m_bt (n : Int) : Int := ((2 ^ n.toNat : Nat) : Int)
def m_bo (S T : Int) : Int := ((S.toNat ||| T.toNat : Nat) : Int)
def m_ba (S T : Int) : Int := ((S.toNat &&& T.toNat : Nat) : Int)
def m_bd (S T : Int) : Int := ((S.toNat ^^^ (S.toNat &&& T.toNat) : Nat) : Int)
def m_pcn (S : Int) : Int := m_cnt (fun i => m_has S i) 16
/-! books -/
def m_ent (g : m_St) (b : Int) : Bool := g 2 b 7 == g 0 0 8
def m_adm (g : m_St) (f p : Int) : Bool := m_has (g 9 0 0) f && (decide (g 9 0 1 ≤ p) && decide (p ≤ g 9 0 2))
def m_elig (g : m_St) (b : Int) : Bool := (g 2 b 7 == -1 || g 2 b 7 == g 0 0 8) && (decide (g 0 0 8 - g 2 b 6 ≤ 1) && m_adm g (g 2 b 2) (g 2 b 3))
def m_entCount (g : m_St) : Int := m_cnt (m_ent g) (g 0 0 4).toNat
def m_coh (g : m_St) (h S : Int) : Int := m_cnt (fun b => m_has S b && g 2 b 0 == h) (g 0 0 4).toNat
def m_quota (g : m_St) (h : Int) : Int := min 4 (2 + m_coh g h (g 0 0 12))
/-! marks -/
def m_agn (g : m_St) (j a : Int) : Bool := m_has (g 3 j 3) a
def m_fair (g : m_St) (j b : Int) : Bool := g 6 j b != -1 && !m_agn g j (g 2 b 1)
def m_fairCount (g : m_St) (b : Int) : Int := m_cnt (fun j => m_fair g j b) (g 0 0 5).toNat
def m_mean10 (g : m_St) (j : Int) : Int := if g 3 j 9 = 0 then 0 else (10 * g 3 j 12).tdiv (g 3 j 9)
def m_fdv (x y : Int) : Int := if x < 0 ∧ x.tdiv y * y ≠ x then x.tdiv y - 1 else x.tdiv y
def m_scoreSum (g : m_St) (b : Int) : Int := m_sm (fun j => bif m_fair g j b then 10 * g 6 j b - m_mean10 g j else 0) (g 0 0 5).toNat
def m_score (g : m_St) (b : Int) : Int := if m_fairCount g b = 0 then 0 else m_fdv (m_scoreSum g b) (m_fairCount g b) + 500
def m_pts (g : m_St) (b : Int) : Int := m_sm (fun j => bif m_agn g j (g 2 b 1) then 0 else g 7 j b) (g 0 0 5).toNat
def m_giv (g : m_St) (b : Int) : Int := m_cnt (fun j => decide (0 < g 7 j b) && !m_agn g j (g 2 b 1)) (g 0 0 5).toNat
def m_standing (g : m_St) (b : Int) : Int := if b = g 0 0 14 then 3 else bif m_has (g 0 0 13) b then 2 else bif m_has (g 0 0 11) b then 1 else 0
def m_fairJudges (g : m_St) (a : Int) : Int := m_cnt (fun j => !m_agn g j a) (g 0 0 5).toNat
def m_marksEnough (g : m_St) (b : Int) : Bool := decide (2 ≤ m_fairCount g b) || (m_fairCount g b == 1 && m_fairJudges g (g 2 b 1) == 1)
/-! lists -/
def m_listable (g : m_St) : Int := m_fo (fun b S => bif m_ent g b && m_marksEnough g b then m_bo S (m_bt b) else S) 0 (g 0 0 4).toNat
def m_better (g : m_St) (b o : Int) : Bool := if m_pts g b ≠ m_pts g o then decide (m_pts g o < m_pts g b) else if m_giv g b ≠ m_giv g o then decide (m_giv g o < m_giv g b) else decide (m_score g o < m_score g b)
def m_best (g : m_St) (S : Int) : Int := m_fo (fun b r => bif m_has S b && (r == -1 || m_better g b r) then b else r) (-1) (g 0 0 4).toNat
def m_fillLong (g : m_St) (many : Int) : Nat → Int → Int → Int
  | 0, _, L => L
  | n + 1, left, L => if m_pcn L < many then (if m_best g left = -1 then L else m_fillLong g many n (m_bd left (m_bt (m_best g left))) (if m_coh g (g 2 (m_best g left) 0) L < 2 then m_bo L (m_bt (m_best g left)) else L)) else L
def m_fillShort (g : m_St) : Nat → Int → Int
  | 0, S => S
  | n + 1, S => if m_best g (m_bd (g 0 0 11) S) = -1 then S else m_fillShort g n (m_bo S (m_bt (m_best g (m_bd (g 0 0 11) S))))
/-! orders -/
def m_orderOk (size : Int) : Nat → Int → Int → Bool
  | 0, _, rest => rest == 0
  | n + 1, seen, rest => if (1 ≤ rest.tmod 10 ∧ rest.tmod 10 ≤ size) ∧ m_has seen (rest.tmod 10) = false then m_orderOk size n (m_bo seen (m_bt (rest.tmod 10))) (rest.tdiv 10) else false
def m_isOrder (g : m_St) (o : Int) : Bool := m_orderOk (m_pcn (g 0 0 13)) (m_pcn (g 0 0 13)).toNat 0 o && decide (0 < m_pcn (g 0 0 13))
def m_bookAt (g : m_St) (place : Int) : Nat → Int → Int → Int
  | 0, _, _ => -1
  | n + 1, i, p => bif m_has (g 0 0 13) i then (if p + 1 = place then i else m_bookAt g place n (i + 1) (p + 1)) else m_bookAt g place n (i + 1) p
def m_rankLoop (j : Int) : Nat → m_St → Int → m_St
  | 0, g, _ => g
  | k + 1, g, rest => m_rankLoop j k (m_up g 8 j k (m_bookAt g (rest.tmod 10) (g 0 0 4).toNat 0 0)) (rest.tdiv 10)
def m_takeOrder (g : m_St) (j o : Int) : m_St := m_up (m_rankLoop j (min 5 (m_pcn (g 0 0 13))).toNat g o) 3 j 15 (min 5 (m_pcn (g 0 0 13)))
def m_orderCount (g : m_St) : Int := m_cnt (fun j => decide (0 < g 3 j 15)) (g 0 0 5).toNat
def m_openTo (g : m_St) (j : Int) : Int := m_fo (fun b S => bif m_agn g j (g 2 b 1) then S else m_bo S (m_bt b)) 0 (g 0 0 4).toNat
def m_firstLoop (g : m_St) (j S : Int) : Nat → Int → Int
  | 0, _ => -1
  | n + 1, k => bif m_has S (g 8 j k) then g 8 j k else m_firstLoop g j S n (k + 1)
def m_firstIn (g : m_St) (j S : Int) : Int := m_firstLoop g j S (g 3 j 15).toNat 0
/-! counting -/
def m_chosen (g : m_St) (left out j : Int) : Int := bif m_has out j then -1 else m_firstIn g j (m_ba left (m_openTo g j))
def m_counted (g : m_St) (left out : Int) : Int := m_cnt (fun j => m_chosen g left out j != -1) (g 0 0 5).toNat
def m_votesFor (g : m_St) (left out b : Int) : Int := m_cnt (fun j => m_chosen g left out j == b) (g 0 0 5).toNat
def m_aboveHalf (g : m_St) (left out : Int) : Int := m_fs (fun b => m_has left b && decide (m_counted g left out < 2 * m_votesFor g left out b)) (g 0 0 4).toNat 0
def m_weaker (g : m_St) (left out b w : Int) : Bool := decide (m_votesFor g left out b < m_votesFor g left out w) || (m_votesFor g left out b == m_votesFor g left out w && decide (m_score g b ≤ m_score g w))
def m_weakest (g : m_St) (left out : Int) : Int := m_fo (fun b w => bif m_has left b && (w == -1 || m_weaker g left out b w) then b else w) (-1) (g 0 0 4).toNat
def m_winLoop (g : m_St) (out : Int) : Nat → Int → Int → Int
  | 0, _, last => last
  | n + 1, left, last => if left = 0 then last else if m_aboveHalf g left out = -1 then m_winLoop g out n (m_bd left (m_bt (m_weakest g left out))) (m_weakest g left out) else m_aboveHalf g left out
def m_winner (g : m_St) (bs out : Int) : Int := m_winLoop g out 16 (m_bd (m_bd (g 0 0 13) (g 0 0 17)) bs) (-1)
def m_lead (g : m_St) (b o : Int) : Int := m_sm (fun j => bif decide (0 < g 3 j 15) && m_ba (m_openTo g j) (m_bo (m_bt b) (m_bt o)) == m_bo (m_bt b) (m_bt o) then (bif m_firstIn g j (m_bo (m_bt b) (m_bt o)) == b then 1 else -1) else 0) (g 0 0 5).toNat
def m_ahead (g : m_St) (b : Int) : Bool := m_al (fun o => !(o != b && m_has (g 0 0 13) o && decide (m_lead g b o ≤ 0))) (g 0 0 4).toNat 0
def m_beatsAll (g : m_St) : Int := m_fs (fun b => m_has (g 0 0 13) b && m_ahead g b) (g 0 0 4).toNat 0
def m_spoiled (g : m_St) (b : Int) : Int := bif m_has (g 0 0 13) b then m_winner g (m_bt b) 0 else -1
/-! sales -/
def m_asked (g : m_St) (b : Int) : Int := if b = g 0 0 14 ∨ b = g 0 0 15 then 90 else bif m_has (g 0 0 13) b then 20 else bif m_has (g 0 0 11) b then 5 else 1
def m_soldEver (g : m_St) : Int := m_sm (fun b => g 2 b 9) (g 0 0 4).toNat
def m_missedEver (g : m_St) : Int := m_sm (fun b => g 2 b 10) (g 0 0 4).toNat
def m_wouldMiss (g : m_St) (n : Int) : Int := m_sm (fun b => max 0 (m_asked g b * n - g 2 b 8)) (g 0 0 4).toNat
def m_sellB (g : m_St) (b a : Int) : m_St := m_up (m_up (m_up g 2 b 8 (g 2 b 8 - min a (g 2 b 8))) 2 b 9 (g 2 b 9 + min a (g 2 b 8))) 2 b 10 (g 2 b 10 + (a - min a (g 2 b 8)))
def m_sellStep (days b : Int) (g : m_St) : m_St := m_up (m_sellB g b (m_asked g b * days)) 1 (g 2 b 0) 0 (g 1 (g 2 b 0) 0 + min (m_asked g b * days) (g 2 b 8))
def m_sellFor (g : m_St) (days : Int) : m_St := m_fo (m_sellStep days) g (g 0 0 4).toNat
/-! reading -/
def m_pagesLeft (g : m_St) (j : Int) : Int := g 3 j 8 - g 3 j 10
def m_pace (sp p : Int) : Int := max 10 (sp - 5 * p.tdiv 500)
def m_dayLoop (sp cp : Int) : Nat → Int → Int → Int
  | 0, _, d => d
  | n + 1, p, d => if p < cp then m_dayLoop sp cp n (p + m_pace sp p) (d + 1) else d
def m_daysLeft (g : m_St) (j : Int) : Int := m_dayLoop (g 3 j 0) (g 3 j 8) 10000 (g 3 j 10) 0
def m_readIn (g : m_St) : Int := if g 0 0 9 = 1 then m_fo (fun j d => max d (m_daysLeft g j)) 0 (g 0 0 5).toNat else -1
def m_cratesRead (g : m_St) : Bool := m_al (fun j => !decide (0 < m_pagesLeft g j)) (g 0 0 5).toNat 0
def m_ptsLeft (g : m_St) (j : Int) : Int := 12 - m_sm (fun b => g 7 j b) 16
def m_markFor (g : m_St) (j b : Int) : Int := max 0 (min 99 (g 2 b 4 + g 3 j 2 + 10 - 2 * ((g 3 j 1 - g 2 b 5).natAbs : Int)))
def m_markStep (j : Int) (g : m_St) : m_St := m_up (m_up (m_up g 6 j (g 4 j (g 3 j 9)) (m_markFor g j (g 4 j (g 3 j 9)))) 3 j 12 (g 3 j 12 + m_markFor g j (g 4 j (g 3 j 9)))) 3 j 9 (g 3 j 9 + 1)
def m_markLoop (j : Int) : Nat → m_St → m_St
  | 0, g => g
  | n + 1, g => if g 3 j 9 < g 3 j 7 ∧ g 5 j (g 3 j 9) ≤ g 3 j 10 then m_markLoop j n (m_markStep j g) else g
def m_readJ (g : m_St) (j : Int) : m_St := m_markLoop j 16 (m_up g 3 j 10 (g 3 j 10 + min (m_pace (g 3 j 0) (g 3 j 10)) (m_pagesLeft g j)))
def m_readDay (g : m_St) : m_St := if g 0 0 9 = 1 then m_fo (fun j u => m_readJ u j) g (g 0 0 5).toNat else g
def m_passDays (g : m_St) (n : Int) : m_St := m_fo (fun _ u => m_readDay u) g n.toNat
def m_pass (g : m_St) (n : Int) : m_St := m_up (m_sellFor (m_passDays g n) n) 0 0 10 (g 0 0 10 + n)
/-! crates -/
def m_lightest (g : m_St) (taken a : Int) : Int := m_fo (fun j l => bif !m_has taken j && (!m_agn g j a && (l == -1 || decide (g 3 j 8 < g 3 l 8))) then j else l) (-1) (g 0 0 5).toNat
def m_takeIn (g : m_St) (j b p : Int) : m_St := m_up (m_up (m_up (m_up g 3 j 8 (g 3 j 8 + p)) 4 j (g 3 j 7) b) 5 j (g 3 j 7) (g 3 j 8 + p)) 3 j 7 (g 3 j 7 + 1)
def m_handStep (b : Int) (_ : Int) (u : m_St × Int) : m_St × Int := if m_lightest u.1 u.2 (u.1 2 b 1) = -1 then u else (m_takeIn u.1 (m_lightest u.1 u.2 (u.1 2 b 1)) b (u.1 2 b 3), m_bo u.2 (m_bt (m_lightest u.1 u.2 (u.1 2 b 1))))
def m_handOut (g : m_St) (b : Int) : m_St × Int := m_fo (m_handStep b) (g, 0) 3
def m_readStep (b : Int) (u : m_St × Int) : m_St × Int := bif m_ent u.1 b then ((m_handOut u.1 b).1, u.2 + m_pcn (m_handOut u.1 b).2) else u
def m_readAll (g : m_St) : m_St × Int := m_fo m_readStep (g, 0) (g 0 0 4).toNat
def m_read (g : m_St) : m_St := m_up (m_readAll g).1 0 0 9 1
/-! what is told -/
def m_describeB (g : m_St) (b h a f p m l : Int) : m_St := m_up (m_up (m_up (m_up (m_up (m_up g 2 b 0 h) 2 b 1 a) 2 b 2 f) 2 b 3 p) 2 b 4 m) 2 b 5 l
def m_book (g : m_St) (h a f p m l : Int) : m_St := m_up (m_up (m_describeB g (g 0 0 4) h a f p m l) 2 (g 0 0 4) 6 (g 0 0 8)) 0 0 4 (g 0 0 4 + 1)
def m_judge (g : m_St) (sp ta le : Int) : m_St := m_up (m_up (m_up (m_up g 3 (g 0 0 5) 0 sp) 3 (g 0 0 5) 1 ta) 3 (g 0 0 5) 2 le) 0 0 5 (g 0 0 5 + 1)
def m_conflict (g : m_St) (j a : Int) : m_St := m_up g 3 j 3 (m_bo (g 3 j 3) (m_bt a))
def m_setRules (g : m_St) (k f l m e : Int) : m_St := m_up (m_up (m_up (m_up g 9 k 0 f) 9 k 1 l) 9 k 2 m) 9 k 3 e
def m_enterFor (g : m_St) (b cost : Int) : m_St := m_up (m_up g 2 b 7 (g 0 0 8)) 1 (g 2 b 0) 0 (g 1 (g 2 b 0) 0 - cost)
def m_enter (g : m_St) (b : Int) : m_St := bif m_elig g b then (if m_quota g (g 2 b 0) ≤ g 1 (g 2 b 0) 1 then g else m_enterFor (m_up g 1 (g 2 b 0) 1 (g 1 (g 2 b 0) 1 + 1)) b (g 9 0 3)) else g
def m_callIn (g : m_St) (j b : Int) : m_St := bif m_elig g b then (if g 3 j 4 ≠ 0 ∨ m_agn g j (g 2 b 1) = true then g else m_enterFor (m_up g 3 j 4 1) b ((g 9 0 3).tdiv 2)) else g
def m_print (g : m_St) (b n : Int) : m_St := m_up g 2 b 8 (min 9999 (g 2 b 8 + n))
def m_longList (g : m_St) (many : Int) : m_St := m_up (m_up g 0 0 11 (m_fillLong g many 16 (m_listable g) (g 0 0 11))) 0 0 9 2
def m_points (g : m_St) (j b n : Int) : m_St := m_up g 7 j b n
def m_shortList (g : m_St) (many : Int) : m_St := m_up (m_up g 0 0 13 (m_fillShort g many.toNat (g 0 0 13))) 0 0 9 3
def m_crown (g : m_St) (b : Int) : m_St := if b = -1 then m_up g 0 0 14 b else m_up (m_up g 0 0 14 b) 0 0 16 (m_bo (g 0 0 16) (m_bt b))
def m_endIt (g : m_St) : m_St := m_up (m_crown g (m_winner g 0 0)) 0 0 9 4
def m_strip (g : m_St) : m_St := m_crown (m_up g 0 0 17 (m_bo (g 0 0 17) (m_bt (g 0 0 14)))) (m_winner (m_up g 0 0 17 (m_bo (g 0 0 17) (m_bt (g 0 0 14)))) 0 0)
def m_clearRows (j : Int) (g : m_St) : m_St := m_fo (fun b u => m_up (m_up u 6 j b (-1)) 7 j b 0) g 16
def m_clearYear (j : Int) (g : m_St) : m_St := m_clearRows j (m_up (m_up (m_up (m_up (m_up (m_up (m_up g 3 j 4 0) 3 j 7 0) 3 j 8 0) 3 j 9 0) 3 j 10 0) 3 j 12 0) 3 j 15 0)
def m_next1 (g : m_St) : m_St := m_up (m_up (m_setRules (m_up (m_up g 0 0 8 (g 0 0 8 + 1)) 0 0 9 0) 0 (g 9 1 0) (g 9 1 1) (g 9 1 2) (g 9 1 3)) 0 0 15 (g 0 0 14)) 0 0 14 (-1)
def m_next2 (g : m_St) : m_St := m_up (m_up (m_up g 0 0 12 (g 0 0 11)) 0 0 11 0) 0 0 13 0
def m_next (g : m_St) : m_St := m_fo (fun j u => m_clearYear j u) (m_fo (fun h u => m_up u 1 h 1 0) (m_next2 (m_next1 g)) 5) 5
end PM
section PS
/-! sums and sets -/
theorem sm_congr {h h' : Int → Int} : ∀ {n : Nat}, (∀ i : Int, 0 ≤ i → i < n → h i = h' i) → m_sm h n = m_sm h' n
  | 0, _ => rfl
  | n + 1, e => by
    have e1 := sm_congr (n := n) (fun i a b => e i a (by omega))
    have e2 := e n (by omega) (by omega)
    simp only [m_sm, e1, e2]
/-- one place differs -/
theorem sm_one {h h' : Int → Int} {k : Int} : ∀ {n : Nat}, 0 ≤ k → k < n → (∀ i : Int, 0 ≤ i → i < n → i ≠ k → h' i = h i) → m_sm h' n = m_sm h n + (h' k - h k)
  | 0, a, b, _ => absurd b (by omega)
  | n + 1, a, b, e => by
    simp only [m_sm]
    by_cases q : k = n
    · have e1 := sm_congr (n := n) (h := h') (h' := h) (fun i a b => e i a (by omega) (by omega))
      subst q
      rw [e1]; omega
    · have e1 := sm_one (n := n) a (by omega) (fun i a b c => e i a (by omega) c)
      have e2 := e n (by omega) (by omega) (fun x => q x.symm)
      rw [e1, e2]; omega
theorem sm_le {h h' : Int → Int} : ∀ {n : Nat}, (∀ i : Int, 0 ≤ i → i < n → h i ≤ h' i) → m_sm h n ≤ m_sm h' n
  | 0, _ => Int.le_refl _
  | n + 1, e => by
    have e1 := sm_le (n := n) (fun i a b => e i a (by omega))
    have e2 := e n (by omega) (by omega)
    simp only [m_sm]; omega
theorem sm_nn {h : Int → Int} : ∀ {n : Nat}, (∀ i : Int, 0 ≤ i → i < n → 0 ≤ h i) → 0 ≤ m_sm h n
  | 0, _ => Int.le_refl _
  | n + 1, e => by
    have e1 := sm_nn (n := n) (fun i a b => e i a (by omega))
    have e2 := e n (by omega) (by omega)
    simp only [m_sm]; omega
theorem sm_bd {h : Int → Int} {B : Int} : ∀ {n : Nat}, (∀ i : Int, 0 ≤ i → i < n → h i ≤ B) → m_sm h n ≤ B * n
  | 0, _ => by simp [m_sm]
  | n + 1, e => by
    have e1 := sm_bd (n := n) (fun i a b => e i a (by omega))
    have e2 := e n (by omega) (by omega)
    have e3 : B * ((n + 1 : Nat) : Int) = B * n + B := by rw [Int.natCast_add, Int.mul_add]; simp
    simp only [m_sm]; omega
theorem sm_lo {h : Int → Int} {B : Int} : ∀ {n : Nat}, (∀ i : Int, 0 ≤ i → i < n → B ≤ h i) → B * n ≤ m_sm h n
  | 0, _ => by simp [m_sm]
  | n + 1, e => by
    have e1 := sm_lo (n := n) (fun i a b => e i a (by omega))
    have e2 := e n (by omega) (by omega)
    have e3 : B * ((n + 1 : Nat) : Int) = B * n + B := by rw [Int.natCast_add, Int.mul_add]; simp
    simp only [m_sm]; omega
theorem sm_add {h h' : Int → Int} : ∀ {n : Nat}, m_sm (fun i => h i + h' i) n = m_sm h n + m_sm h' n
  | 0 => rfl
  | n + 1 => by simp only [m_sm, sm_add (n := n)]; omega
/-- a term is no more than the sum -/
theorem sm_ge {h : Int → Int} {k : Int} : ∀ {n : Nat}, (∀ i : Int, 0 ≤ i → i < n → 0 ≤ h i) → 0 ≤ k → k < n → h k ≤ m_sm h n
  | 0, _, a, b => absurd b (by omega)
  | n + 1, e, a, b => by
    simp only [m_sm]
    have e1 := sm_nn (n := n) (fun i a b => e i a (by omega))
    have e2 := e n (by omega) (by omega)
    by_cases q : k = n
    · subst q; omega
    · have e3 := sm_ge (n := n) (fun i a b => e i a (by omega)) a (by omega); omega
theorem ib_t : m_ib true = 1 := rfl
theorem ib_f : m_ib false = 0 := rfl
theorem ib_nn (c : Bool) : 0 ≤ m_ib c := by cases c <;> decide
theorem ib_le (c : Bool) : m_ib c ≤ 1 := by cases c <;> decide
theorem cnt_nn (p : Int → Bool) (n : Nat) : 0 ≤ m_cnt p n := sm_nn (fun i _ _ => ib_nn _)
theorem cnt_le (p : Int → Bool) (n : Nat) : m_cnt p n ≤ n := by
  have := sm_bd (n := n) (h := fun i => m_ib (p i)) (B := 1) (fun i _ _ => ib_le _)
  show m_sm (fun i => m_ib (p i)) n ≤ n
  omega
theorem cnt_0 {p : Int → Bool} {n : Nat} (h : m_cnt p n = 0) {k : Int} (a : 0 ≤ k) (b : k < n) : p k = false := by
  have := sm_ge (h := fun i => m_ib (p i)) (fun i _ _ => ib_nn _) a b
  have h' : m_sm (fun i => m_ib (p i)) n = 0 := h
  cases hp : p k with
  | false => rfl
  | true => rw [h', hp] at this; exact absurd this (by decide)
theorem cnt_pos {p : Int → Bool} {n : Nat} {k : Int} (a : 0 ≤ k) (b : k < n) (hp : p k = true) : 0 < m_cnt p n := by
  have := sm_ge (h := fun i => m_ib (p i)) (fun i _ _ => ib_nn _) a b
  rw [hp] at this
  exact Int.lt_of_lt_of_le (by decide) this
theorem has_n {S n : Int} (h : n < 0) : m_has S n = false := by
  unfold m_has; rw [decide_eq_false (by omega)]; rfl
theorem has_nn {S n : Int} (h : m_has S n = true) : 0 ≤ n := by
  cases Int.lt_or_le n 0 with
  | inl q => rw [has_n q] at h; cases h
  | inr q => exact q
theorem has_z (n : Int) : m_has 0 n = false := by unfold m_has; simp
theorem has_bo (S T n : Int) : m_has (m_bo S T) n = (m_has S n || m_has T n) := by
  unfold m_has m_bo
  rw [Int.toNat_natCast, Nat.testBit_or]
  cases decide (0 ≤ n) <;> simp
theorem has_ba (S T n : Int) : m_has (m_ba S T) n = (m_has S n && m_has T n) := by
  unfold m_has m_ba
  rw [Int.toNat_natCast, Nat.testBit_and]
  cases decide (0 ≤ n) <;> simp
theorem has_bd (S T n : Int) : m_has (m_bd S T) n = (m_has S n && !m_has T n) := by
  unfold m_has m_bd
  rw [Int.toNat_natCast, Nat.testBit_xor, Nat.testBit_and]
  cases decide (0 ≤ n) <;> cases S.toNat.testBit n.toNat <;> cases T.toNat.testBit n.toNat <;> rfl
theorem has_bt {k n : Int} (h : 0 ≤ k) : m_has (m_bt k) n = decide (n = k) := by
  unfold m_has m_bt
  rw [Int.toNat_natCast, Nat.testBit_two_pow]
  by_cases q : 0 ≤ n
  · rw [decide_eq_true q, Bool.true_and]
    exact decide_eq_decide.mpr (by omega)
  · rw [decide_eq_false q, decide_eq_false (show ¬ n = k from fun x => q (by omega))]; rfl
theorem bo_nn (S T : Int) : 0 ≤ m_bo S T := Int.natCast_nonneg _
theorem ba_nn (S T : Int) : 0 ≤ m_ba S T := Int.natCast_nonneg _
theorem bd_nn (S T : Int) : 0 ≤ m_bd S T := Int.natCast_nonneg _
theorem bt_nn (n : Int) : 0 ≤ m_bt n := Int.natCast_nonneg _
theorem set_z {S : Int} (h : 0 ≤ S) (e : ∀ n, m_has S n = false) : S = 0 := by
  have : S.toNat = 0 := Nat.eq_of_testBit_eq (fun i => by
    have := e i
    unfold m_has at this
    rw [decide_eq_true (Int.natCast_nonneg i), Int.toNat_natCast] at this
    simpa using this)
  omega
theorem set_ne {S : Int} (h : 0 ≤ S) (e : S ≠ 0) : ∃ n, m_has S n = true := by
  refine Classical.byContradiction (fun q => e (set_z h (fun n => ?_)))
  cases hn : m_has S n with
  | false => rfl
  | true => exact absurd ⟨n, hn⟩ q
theorem set_eq {S T : Int} (h : 0 ≤ S) (h' : 0 ≤ T) (e : ∀ n, m_has S n = m_has T n) : S = T := by
  have : S.toNat = T.toNat := Nat.eq_of_testBit_eq (fun i => by
    have := e i
    unfold m_has at this
    rw [decide_eq_true (Int.natCast_nonneg i), Int.toNat_natCast] at this
    simpa using this)
  omega
/-- members below k: the number is below 2^k -/
theorem set_lt {S : Int} {k : Nat} (h : 0 ≤ S) (e : ∀ n, m_has S n = true → n < k) : S < ((2 ^ k : Nat) : Int) := by
  have : S.toNat < 2 ^ k := Nat.lt_pow_two_of_testBit _ (fun i hi => by
    cases q : S.toNat.testBit i with
    | false => rfl
    | true =>
      have := e i (by unfold m_has; rw [decide_eq_true (Int.natCast_nonneg i), Int.toNat_natCast, q]; rfl)
      omega)
  omega
theorem has_lt {S n : Int} {k : Nat} (h : S < ((2 ^ k : Nat) : Int)) (e : m_has S n = true) : n < k := by
  have h0 := has_nn e
  unfold m_has at e
  rw [decide_eq_true h0, Bool.true_and] at e
  have h1 : 2 ^ n.toNat ≤ S.toNat := Nat.ge_two_pow_of_testBit e
  have h9 : 0 < 2 ^ n.toNat := Nat.two_pow_pos _
  have h2 : S.toNat < 2 ^ k := by omega
  have h3 : 2 ^ n.toNat < 2 ^ k := Nat.lt_of_le_of_lt h1 h2
  have h4 := (Nat.pow_lt_pow_iff_right (by decide : 1 < 2)).mp h3
  omega
theorem pcn_add {S k : Int} (a : 0 ≤ k) (b : k < 16) (h : m_has S k = false) : m_pcn (m_bo S (m_bt k)) = m_pcn S + 1 := by
  have := sm_one (h := fun i => m_ib (m_has S i)) (h' := fun i => m_ib (m_has (m_bo S (m_bt k)) i)) (n := 16) a b (fun i _ _ q => by
    simp only [has_bo, has_bt a, decide_eq_false q, Bool.or_false])
  simp only [has_bo, has_bt a, decide_eq_true, Bool.or_true, h, ib_t, ib_f] at this
  unfold m_pcn m_cnt
  simp only [has_bo, has_bt a]
  omega
theorem pcn_same {S k : Int} (h : m_has S k = true) : m_bo S (m_bt k) = m_bo S S := by
  refine set_eq (bo_nn _ _) (bo_nn _ _) (fun n => ?_)
  rw [has_bo, has_bo, has_bt (has_nn h)]
  by_cases q : n = k
  · rw [q, h]; rfl
  · rw [decide_eq_false q, Bool.or_false, Bool.or_self]
theorem bo_self {S : Int} (h : 0 ≤ S) : m_bo S S = S := set_eq (bo_nn _ _) h (fun n => by rw [has_bo, Bool.or_self])
theorem pcn_le {S k : Int} (a : 0 ≤ k) (b : k < 16) (h : 0 ≤ S) : m_pcn (m_bo S (m_bt k)) ≤ m_pcn S + 1 := by
  cases q : m_has S k with
  | false => rw [pcn_add a b q]; exact Int.le_refl _
  | true => rw [pcn_same q, bo_self h]; omega
end PS
section PW
/-! what holds of the class's numbers whatever is called: no index and no comparison leaves its span -/
def Wn (g : m_St) : Prop := (0 ≤ g 0 0 3 ∧ g 0 0 3 ≤ 5) ∧ (0 ≤ g 0 0 4 ∧ g 0 0 4 ≤ 16) ∧ (0 ≤ g 0 0 5 ∧ g 0 0 5 ≤ 5) ∧ (0 ≤ g 0 0 8 ∧ g 0 0 8 ≤ 20) ∧ (0 ≤ g 0 0 9 ∧ g 0 0 9 ≤ 4) ∧ (0 ≤ g 0 0 10 ∧ g 0 0 10 ≤ 9999) ∧ (-1 ≤ g 0 0 14 ∧ g 0 0 14 ≤ 15) ∧ (-1 ≤ g 0 0 15 ∧ g 0 0 15 ≤ 15)
def Ws (g : m_St) : Prop := (0 ≤ g 0 0 11 ∧ g 0 0 11 < 65536) ∧ (0 ≤ g 0 0 12 ∧ g 0 0 12 < 65536) ∧ (0 ≤ g 0 0 13 ∧ g 0 0 13 < 65536) ∧ (0 ≤ g 0 0 16 ∧ g 0 0 16 < 65536) ∧ (0 ≤ g 0 0 17 ∧ g 0 0 17 < 65536)
def Wh (g : m_St) : Prop := ∀ h, 0 ≤ h → h < 5 → 0 ≤ g 1 h 1 ∧ g 1 h 1 ≤ 16
def Wb (g : m_St) : Prop := ∀ b, 0 ≤ b → b < 16 → (0 ≤ g 2 b 0 ∧ g 2 b 0 ≤ 4) ∧ (0 ≤ g 2 b 1 ∧ g 2 b 1 ≤ 9) ∧ (0 ≤ g 2 b 2 ∧ g 2 b 2 ≤ 2) ∧ (0 ≤ g 2 b 3 ∧ g 2 b 3 ≤ 900) ∧ (0 ≤ g 2 b 4 ∧ g 2 b 4 ≤ 60) ∧ (0 ≤ g 2 b 5 ∧ g 2 b 5 ≤ 9) ∧ (0 ≤ g 2 b 6 ∧ g 2 b 6 ≤ 20) ∧ (-1 ≤ g 2 b 7 ∧ g 2 b 7 ≤ 20) ∧ (0 ≤ g 2 b 8 ∧ g 2 b 8 ≤ 9999)
def Wj (g : m_St) : Prop := ∀ j, 0 ≤ j → j < 5 → (0 ≤ g 3 j 0 ∧ g 3 j 0 ≤ 200) ∧ (0 ≤ g 3 j 1 ∧ g 3 j 1 ≤ 9) ∧ (-10 ≤ g 3 j 2 ∧ g 3 j 2 ≤ 10) ∧ (0 ≤ g 3 j 3 ∧ g 3 j 3 < 1024) ∧ (0 ≤ g 3 j 4 ∧ g 3 j 4 ≤ 1) ∧ (0 ≤ g 3 j 7 ∧ g 3 j 7 ≤ 16) ∧ (0 ≤ g 3 j 8 ∧ g 3 j 8 ≤ 900 * g 3 j 7) ∧ (0 ≤ g 3 j 9 ∧ g 3 j 9 ≤ g 3 j 7) ∧ (0 ≤ g 3 j 10 ∧ g 3 j 10 ≤ g 3 j 8) ∧ (0 ≤ g 3 j 12 ∧ g 3 j 12 ≤ 99 * g 3 j 9) ∧ (0 ≤ g 3 j 15 ∧ g 3 j 15 ≤ 5)
def Wa (g : m_St) : Prop := ∀ j k, 0 ≤ j → j < 5 → 0 ≤ k → k < 16 → (0 ≤ g 4 j k ∧ g 4 j k ≤ 15) ∧ (0 ≤ g 5 j k ∧ g 5 j k ≤ 14400) ∧ (-1 ≤ g 6 j k ∧ g 6 j k ≤ 99) ∧ (0 ≤ g 7 j k ∧ g 7 j k ≤ 12) ∧ (-1 ≤ g 8 j k ∧ g 8 j k ≤ 15)
def Wu (g : m_St) : Prop := ∀ k, 0 ≤ k → k < 2 → (0 ≤ g 9 k 0 ∧ g 9 k 0 ≤ 7) ∧ (0 ≤ g 9 k 1 ∧ g 9 k 1 ≤ 900) ∧ (0 ≤ g 9 k 2 ∧ g 9 k 2 ≤ 900) ∧ (0 ≤ g 9 k 3 ∧ g 9 k 3 ≤ 50)
def Wf (g : m_St) : Prop := Wn g ∧ Ws g ∧ Wh g ∧ Wb g ∧ Wj g ∧ Wa g ∧ Wu g
theorem up_s (g : m_St) (c : Nat) (k i x : Int) : m_up g c k i x c k i = x := by simp [m_up]
theorem up_i (g : m_St) (c : Nat) (k i x k' i' : Int) (h : i' ≠ i) : m_up g c k i x c k' i' = g c k' i' := by simp [m_up, h]
theorem up_k (g : m_St) (c : Nat) (k i x k' i' : Int) (h : k' ≠ k) : m_up g c k i x c k' i' = g c k' i' := by simp [m_up, h]
theorem up_c (g : m_St) (c c' : Nat) (k i x k' i' : Int) (h : c' ≠ c) : m_up g c k i x c' k' i' = g c' k' i' := by simp [m_up, h]
/-- what is written in a book, a judge, .. keeps what holds of it -/
theorem Wb.up {g : m_St} {b i x : Int} (h : Wb g) (hx : ∀ b', b' = b → 0 ≤ b → b < 16 → (i = 0 → 0 ≤ x ∧ x ≤ 4) ∧ (i = 1 → 0 ≤ x ∧ x ≤ 9) ∧ (i = 2 → 0 ≤ x ∧ x ≤ 2) ∧ (i = 3 → 0 ≤ x ∧ x ≤ 900) ∧ (i = 4 → 0 ≤ x ∧ x ≤ 60) ∧ (i = 5 → 0 ≤ x ∧ x ≤ 9) ∧ (i = 6 → 0 ≤ x ∧ x ≤ 20) ∧ (i = 7 → -1 ≤ x ∧ x ≤ 20) ∧ (i = 8 → 0 ≤ x ∧ x ≤ 9999)) : Wb (m_up g 2 b i x) := by
  intro b' h0 h1
  have H := h b' h0 h1
  by_cases q : b' = b
  · subst q
    have X := hx b' rfl h0 h1
    simp only [m_up, true_and]
    refine ⟨?_, ?_, ?_, ?_, ?_, ?_, ?_, ?_, ?_⟩ <;> split <;> rename_i e
    · exact X.1 e.symm
    · exact H.1
    · exact X.2.1 e.symm
    · exact H.2.1
    · exact X.2.2.1 e.symm
    · exact H.2.2.1
    · exact X.2.2.2.1 e.symm
    · exact H.2.2.2.1
    · exact X.2.2.2.2.1 e.symm
    · exact H.2.2.2.2.1
    · exact X.2.2.2.2.2.1 e.symm
    · exact H.2.2.2.2.2.1
    · exact X.2.2.2.2.2.2.1 e.symm
    · exact H.2.2.2.2.2.2.1
    · exact X.2.2.2.2.2.2.2.1 e.symm
    · exact H.2.2.2.2.2.2.2.1
    · exact X.2.2.2.2.2.2.2.2 e.symm
    · exact H.2.2.2.2.2.2.2.2
  · simp only [m_up, q, false_and, and_false, if_false]
    exact H
theorem Wj.take {g : m_St} {j b p : Int} (h : Wj g) (hp : 0 ≤ p ∧ p ≤ 900) (hc : g 3 j 7 < 16) : Wj (m_takeIn g j b p) := by
  intro j' h0 h1
  have H := h j' h0 h1
  by_cases q : j' = j
  · subst q
    simp [m_takeIn, m_up]
    omega
  · simp [m_takeIn, m_up, q]
    omega
theorem Wa.take {g : m_St} {j b p : Int} (h : Wa g) (hj : Wj g) (hb : 0 ≤ b ∧ b < 16) (hp : 0 ≤ p ∧ p ≤ 900) (hc : 0 ≤ j → j < 5 → g 3 j 7 < 16) : Wa (m_takeIn g j b p) := by
  intro j' k h0 h1 h2 h3
  have H := h j' k h0 h1 h2 h3
  have C := hj j' h0 h1
  by_cases q : j' = j
  · subst q
    have hc := hc h0 h1
    simp [m_takeIn, m_up]
    refine ⟨?_, ?_, H.2.2⟩ <;> split <;> omega
  · simp [m_takeIn, m_up, q]
    exact H
theorem Wf.take {g : m_St} {j b : Int} (h : Wf g) (hb : 0 ≤ b ∧ b < 16) (hc : 0 ≤ j → j < 5 → g 3 j 7 < 16) (hj : 0 ≤ j ∧ j < 5) : Wf (m_takeIn g j b (g 2 b 3)) := by
  obtain ⟨h1, h2, h3, h4, h5, h6, h7⟩ := h
  have B := (h4 b hb.1 hb.2).2.2.2.1
  exact ⟨h1, h2, h3, h4, h5.take B (hc hj.1 hj.2), h6.take h5 hb B hc, h7⟩
end PW
section PWO
theorem fo_ind {α : Type} {f : Int → α → α} {a : α} (P : Nat → α → Prop) : ∀ {N : Nat}, P 0 a → (∀ n x, n < N → P n x → P (n + 1) (f n x)) → P N (m_fo f a N)
  | 0, h, _ => h
  | n + 1, h, s => s n _ (by omega) (fo_ind P h (fun k x q => s k x (by omega)))
theorem Wf.mark {g : m_St} {j : Int} (h : Wf g) (hj : 0 ≤ j ∧ j < 5) (hb : g 3 j 9 < g 3 j 7) : Wf (m_markStep j g) := by
  obtain ⟨h1, h2, h3, h4, h5, h6, h7⟩ := h
  have B : 0 ≤ m_markFor g j (g 4 j (g 3 j 9)) ∧ m_markFor g j (g 4 j (g 3 j 9)) ≤ 99 := by unfold m_markFor; omega
  unfold m_markStep
  generalize m_markFor g j (g 4 j (g 3 j 9)) = x at B ⊢
  generalize hy : g 4 j (g 3 j 9) = y
  refine ⟨h1, h2, h3, h4, ?_, ?_, h7⟩
  · intro j' h0 h1
    have H := h5 j' h0 h1
    by_cases q : j' = j
    · subst q
      simp [m_up]
      omega
    · simp [m_up, q]
      omega
  · intro j' k h0 h1 h2 h3
    have H := h6 j' k h0 h1 h2 h3
    by_cases q : j' = j
    · subst q
      simp [m_up]
      refine ⟨H.1, H.2.1, ?_, H.2.2.2⟩
      split <;> omega
    · simp [m_up, q]
      exact H
theorem Wf.marks {j : Int} (hj : 0 ≤ j ∧ j < 5) : ∀ (n : Nat) {g : m_St}, Wf g → Wf (m_markLoop j n g)
  | 0, _, h => h
  | n + 1, g, h => by
    unfold m_markLoop
    split
    · rename_i q; exact Wf.marks hj n (h.mark hj q.1)
    · exact h
theorem pace_b {sp p : Int} (h : sp ≤ 200) (hp : 0 ≤ p) : 10 ≤ m_pace sp p ∧ m_pace sp p ≤ 200 := by
  unfold m_pace
  have : 0 ≤ p.tdiv 500 := Int.tdiv_nonneg hp (by decide)
  omega
theorem Wf.pages {g : m_St} {j : Int} (h : Wf g) (hj : 0 ≤ j ∧ j < 5) : Wf (m_up g 3 j 10 (g 3 j 10 + min (m_pace (g 3 j 0) (g 3 j 10)) (m_pagesLeft g j))) := by
  obtain ⟨h1, h2, h3, h4, h5, h6, h7⟩ := h
  have H := h5 j hj.1 hj.2
  have B := pace_b H.1.2 H.2.2.2.2.2.2.2.2.1.1
  refine ⟨h1, h2, h3, h4, ?_, h6, h7⟩
  intro j' h0 h1
  have H' := h5 j' h0 h1
  by_cases q : j' = j
  · subst q
    simp [m_up, m_pagesLeft]
    omega
  · simp [m_up, q]
    omega
theorem Wf.readJ {g : m_St} {j : Int} (h : Wf g) (hj : 0 ≤ j ∧ j < 5) : Wf (m_readJ g j) := Wf.marks hj 16 (h.pages hj)
/-- the numbers of the class itself: written, they stay in their span -/
theorem Wf.num {g : m_St} {i x : Int} (h : Wf g) (h1 : Wn (m_up g 0 0 i x)) (h2 : Ws (m_up g 0 0 i x)) : Wf (m_up g 0 0 i x) :=
  ⟨h1, h2, h.2.2.1, h.2.2.2.1, h.2.2.2.2.1, h.2.2.2.2.2.1, h.2.2.2.2.2.2⟩
theorem Wf.jc {g : m_St} (h : Wf g) : 0 ≤ g 0 0 5 ∧ g 0 0 5 ≤ 5 := h.1.2.2.1
theorem Wf.bc {g : m_St} (h : Wf g) : 0 ≤ g 0 0 4 ∧ g 0 0 4 ≤ 16 := h.1.2.1
theorem Wf.hc {g : m_St} (h : Wf g) : 0 ≤ g 0 0 3 ∧ g 0 0 3 ≤ 5 := h.1.1
theorem readJ_c {c : Nat} {k i : Int} (j : Int) (hc : c ≠ 3) (hc' : c ≠ 6) : ∀ (g : m_St), m_readJ g j c k i = g c k i := by
  have L : ∀ (n : Nat) (g : m_St), m_markLoop j n g c k i = g c k i := by
    intro n
    induction n with
    | zero => intro g; rfl
    | succ n ih =>
      intro g
      unfold m_markLoop
      split
      · rw [ih]; simp [m_markStep, m_up, hc, hc']
      · rfl
  intro g
  unfold m_readJ
  rw [L]
  simp [m_up, hc]
theorem Wf.readDays {g : m_St} (h : Wf g) : ∀ (n : Nat), (n : Int) ≤ g 0 0 5 → Wf (m_fo (fun j u => m_readJ u j) g n) ∧ ∀ (c : Nat) (k i : Int), c ≠ 3 → c ≠ 6 → m_fo (fun j u => m_readJ u j) g n c k i = g c k i
  | 0, _ => ⟨h, fun _ _ _ _ _ => rfl⟩
  | n + 1, q => by
    have ih := Wf.readDays h n (by omega)
    have J := h.jc
    exact ⟨ih.1.readJ ⟨by omega, by omega⟩, fun c k i a b => (readJ_c _ a b _).trans (ih.2 c k i a b)⟩
theorem Wf.readDay {g : m_St} (h : Wf g) : Wf (m_readDay g) ∧ ∀ (c : Nat) (k i : Int), c ≠ 3 → c ≠ 6 → m_readDay g c k i = g c k i := by
  unfold m_readDay
  split
  · exact Wf.readDays h _ (by have := h.jc; omega)
  · exact ⟨h, fun _ _ _ _ _ => rfl⟩
theorem Wf.passDays {g : m_St} (h : Wf g) : ∀ (n : Nat), Wf (m_fo (fun _ u => m_readDay u) g n) ∧ ∀ (c : Nat) (k i : Int), c ≠ 3 → c ≠ 6 → m_fo (fun _ u => m_readDay u) g n c k i = g c k i
  | 0 => ⟨h, fun _ _ _ _ _ => rfl⟩
  | n + 1 => by
    have ih := Wf.passDays h n
    exact ⟨ih.1.readDay.1, fun c k i a b => (ih.1.readDay.2 c k i a b).trans (ih.2 c k i a b)⟩
/-! sales -/
theorem asked_b (g : m_St) (b : Int) : 1 ≤ m_asked g b ∧ m_asked g b ≤ 90 := by
  unfold m_asked
  split
  · omega
  · cases m_has (g 0 0 13) b <;> cases m_has (g 0 0 11) b <;> simp
theorem Wf.sell {g : m_St} {b d : Int} (h : Wf g) (hb : 0 ≤ b ∧ b < 16) (hd : 0 ≤ d) : Wf (m_sellStep d b g) := by
  obtain ⟨h1, h2, h3, h4, h5, h6, h7⟩ := h
  have A := asked_b g b
  have M : 0 ≤ m_asked g b * d := Int.mul_nonneg (by omega) hd
  unfold m_sellStep m_sellB
  generalize m_asked g b * d = a at M ⊢
  refine ⟨h1, h2, ?_, ?_, h5, h6, h7⟩
  · intro h h0 h1
    have H := h3 h h0 h1
    simp [m_up]
    exact H
  · intro b' h0 h1
    have H := h4 b' h0 h1
    by_cases q : b' = b
    · subst q
      simp [m_up]
      omega
    · simp [m_up, q]
      omega
theorem sell_c {g : m_St} {b d : Int} {c : Nat} {k i : Int} (h1 : c ≠ 1) (h2 : c ≠ 2) : m_sellStep d b g c k i = g c k i := by
  simp [m_sellStep, m_sellB, m_up, h1, h2]
theorem sell_2 {g : m_St} {b d k i : Int} (h : i < 8 ∨ 10 < i) : m_sellStep d b g 2 k i = g 2 k i := by
  have e1 : i ≠ 8 := by omega
  have e2 : i ≠ 9 := by omega
  have e3 : i ≠ 10 := by omega
  simp [m_sellStep, m_sellB, m_up, e1, e2, e3]
theorem Wf.sells {g : m_St} {d : Int} (h : Wf g) (hd : 0 ≤ d) : ∀ (n : Nat), n ≤ 16 → Wf (m_fo (m_sellStep d) g n) ∧ (∀ (c : Nat) (k i : Int), c ≠ 1 → c ≠ 2 → m_fo (m_sellStep d) g n c k i = g c k i) ∧ ∀ (k i : Int), i < 8 ∨ 10 < i → m_fo (m_sellStep d) g n 2 k i = g 2 k i
  | 0, _ => ⟨h, fun _ _ _ _ _ => rfl, fun _ _ _ => rfl⟩
  | n + 1, q => by
    have ih := Wf.sells h hd n (by omega)
    exact ⟨ih.1.sell ⟨by omega, by omega⟩ hd, fun c k i a b => (sell_c a b).trans (ih.2.1 c k i a b), fun k i a => (sell_2 a).trans (ih.2.2 k i a)⟩
theorem Wf.pass {g : m_St} {n : Int} (h : Wf g) (hn : 0 ≤ n) (hd : g 0 0 10 + n ≤ 9999) : Wf (m_pass g n) := by
  have a := Wf.passDays h n.toNat
  have J := a.1.bc
  have b := Wf.sells (d := n) a.1 hn (m_passDays g n 0 0 4).toNat (by unfold m_passDays; omega)
  unfold m_pass m_sellFor
  refine b.1.num ?_ ?_
  · have := b.1.1
    have e := h.1
    simp only [Wn, m_up] at this e ⊢
    simp
    omega
  · exact b.1.2.1
end PWO
section PWO2
theorem wf_set {S : Int} (h : 0 ≤ S) (e : ∀ n, m_has S n = true → n < 16) : 0 ≤ S ∧ S < 65536 := ⟨h, set_lt (k := 16) h e⟩
theorem set_16 {S n : Int} (h : S < 65536) (e : m_has S n = true) : n < 16 := has_lt (k := 16) h e
theorem bo_16 {S k : Int} (h : 0 ≤ S ∧ S < 65536) (hk : k < 16) (hk0 : 0 ≤ k) : 0 ≤ m_bo S (m_bt k) ∧ m_bo S (m_bt k) < 65536 := by
  refine wf_set (bo_nn _ _) (fun n hn => ?_)
  rw [has_bo, has_bt hk0] at hn
  cases q : m_has S n with
  | true => exact set_16 h.2 q
  | false => rw [q] at hn; have := of_decide_eq_true hn; omega
/-- the best of a set is one of it -/
theorem best_in (g : m_St) (S : Int) : m_best g S = -1 ∨ (0 ≤ m_best g S ∧ m_best g S < g 0 0 4 ∧ m_has S (m_best g S) = true) := by
  have h := fo_ind (f := fun b r => bif m_has S b && (r == -1 || m_better g b r) then b else r) (a := (-1 : Int)) (N := (g 0 0 4).toNat) (fun n r => r = -1 ∨ (0 ≤ r ∧ r < (n : Int) ∧ m_has S r = true)) (Or.inl rfl) (fun n x hn hx => by
    cases q : m_has S n && (x == -1 || m_better g n x) with
    | true =>
      have q1 := (Bool.and_eq_true _ _ ▸ q).1
      simp only [q, cond_true]
      exact Or.inr ⟨Int.natCast_nonneg n, by omega, q1⟩
    | false =>
      simp only [q, cond_false]
      rcases hx with h | ⟨h1, h2, h3⟩
      · exact Or.inl h
      · exact Or.inr ⟨h1, by omega, h3⟩)
  rcases h with h | ⟨h1, h2, h3⟩
  · exact Or.inl h
  · exact Or.inr ⟨h1, by unfold m_best; omega, h3⟩
theorem long_in (g : m_St) (many : Int) (P : Int → Prop) (hs : ∀ L b, P L → 0 ≤ b → b < g 0 0 4 → m_coh g (g 2 b 0) L < 2 → P (m_bo L (m_bt b))) : ∀ (n : Nat) (left L : Int), P L → P (m_fillLong g many n left L)
  | 0, _, _, h => h
  | n + 1, left, L, h => by
    unfold m_fillLong
    split
    · split
      · exact h
      · rename_i q
        rcases best_in g left with e | ⟨e1, e2, e3⟩
        · exact absurd e q
        · refine long_in g many P hs n _ _ ?_
          split
          · rename_i q; exact hs _ _ h e1 e2 q
          · exact h
    · exact h
/-- with the set that is left known: what comes onto the list was there -/
theorem long_of (g : m_St) (many : Int) (P : Int → Prop) (Q : Int → Prop) (hs : ∀ L b, P L → 0 ≤ b → b < g 0 0 4 → Q b → m_coh g (g 2 b 0) L < 2 → P (m_bo L (m_bt b))) : ∀ (n : Nat) (left L : Int), (∀ b, m_has left b = true → Q b) → P L → P (m_fillLong g many n left L)
  | 0, _, _, _, h => h
  | n + 1, left, L, hq, h => by
    unfold m_fillLong
    split
    · split
      · exact h
      · rename_i q
        rcases best_in g left with e | ⟨e1, e2, e3⟩
        · exact absurd e q
        · refine long_of g many P Q hs n _ _ (fun b hb => hq b ?_) ?_
          · rw [has_bd, Bool.and_eq_true] at hb; exact hb.1
          · split
            · rename_i q; exact hs _ _ h e1 e2 (hq _ e3) q
            · exact h
    · exact h
theorem short_of (g : m_St) (P : Int → Prop) (hs : ∀ S b, P S → 0 ≤ b → b < g 0 0 4 → m_has (g 0 0 11) b = true → m_has S b = false → P (m_bo S (m_bt b))) : ∀ (n : Nat) (S : Int), P S → P (m_fillShort g n S)
  | 0, _, h => h
  | n + 1, S, h => by
    unfold m_fillShort
    split
    · exact h
    · rename_i q
      rcases best_in g (m_bd (g 0 0 11) S) with e | ⟨e1, e2, e3⟩
      · exact absurd e q
      · rw [has_bd, Bool.and_eq_true] at e3
        exact short_of g P hs n _ (hs _ _ h e1 e2 e3.1 (by simpa using e3.2))
theorem short_pc (g : m_St) (hb : g 0 0 4 ≤ 16) : ∀ (n : Nat) (S : Int), 0 ≤ S → m_pcn (m_fillShort g n S) ≤ m_pcn S + n
  | 0, S, _ => by show m_pcn S ≤ m_pcn S + 0; omega
  | n + 1, S, h => by
    unfold m_fillShort
    split
    · omega
    · rename_i q
      rcases best_in g (m_bd (g 0 0 11) S) with e | ⟨e1, e2, e3⟩
      · exact absurd e q
      · have a := short_pc g hb n (m_bo S (m_bt (m_best g (m_bd (g 0 0 11) S)))) (bo_nn _ _)
        have b := pcn_le e1 (by omega) h
        omega
theorem Wf.longList {g : m_St} {many : Int} (h : Wf g) : Wf (m_longList g many) := by
  have N := h.1
  have S := h.2.1
  have L := long_in g many (fun L => 0 ≤ L ∧ L < 65536) (fun L b hl h0 h1 _ => bo_16 hl (by have := h.bc; omega) h0) 16 (m_listable g) (g 0 0 11) S.1
  unfold m_longList
  generalize m_fillLong g many 16 (m_listable g) (g 0 0 11) = x at L ⊢
  refine Wf.num (Wf.num h ?_ ?_) ?_ ?_
  · exact N
  · exact ⟨L, S.2⟩
  · exact ⟨N.1, N.2.1, N.2.2.1, N.2.2.2.1, by simp [m_up], N.2.2.2.2.2⟩
  · exact ⟨L, S.2⟩
theorem Wf.shortList {g : m_St} {many : Int} (h : Wf g) : Wf (m_shortList g many) := by
  have N := h.1
  have S := h.2.1
  have L := short_of g (fun L => 0 ≤ L ∧ L < 65536) (fun L b hl h0 h1 _ _ => bo_16 hl (by have := h.bc; omega) h0) many.toNat (g 0 0 13) S.2.2.1
  unfold m_shortList
  generalize m_fillShort g many.toNat (g 0 0 13) = x at L ⊢
  refine Wf.num (Wf.num h ?_ ?_) ?_ ?_
  · exact N
  · exact ⟨S.1, S.2.1, L, S.2.2.2⟩
  · exact ⟨N.1, N.2.1, N.2.2.1, N.2.2.2.1, by simp [m_up], N.2.2.2.2.2⟩
  · exact ⟨S.1, S.2.1, L, S.2.2.2⟩
end PWO2
