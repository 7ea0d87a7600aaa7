/-! the orders of the gates, by rows of places -/
def pmE : Nat → List (List Nat)
  | 0 => [[]]
  | 1 => [[0]]
  | 2 => [[0, 1], [1, 0]]
  | 3 => [[0, 1, 2], [0, 2, 1], [1, 0, 2], [1, 2, 0], [2, 0, 1], [2, 1, 0]]
  | 4 => [[0, 1, 2, 3], [0, 1, 3, 2], [0, 2, 1, 3], [0, 2, 3, 1], [0, 3, 1, 2], [0, 3, 2, 1], [1, 0, 2, 3], [1, 0, 3, 2], [1, 2, 0, 3], [1, 2, 3, 0], [1, 3, 0, 2], [1, 3, 2, 0], [2, 0, 1, 3], [2, 0, 3, 1], [2, 1, 0, 3], [2, 1, 3, 0], [2, 3, 0, 1], [2, 3, 1, 0], [3, 0, 1, 2], [3, 0, 2, 1], [3, 1, 0, 2], [3, 1, 2, 0], [3, 2, 0, 1], [3, 2, 1, 0]]
  | _ => []
def nxo (o : Nat → Nat) (d k L i : Nat) : Nat := if i ≤ d then (if i = d then o k else o i) else (if L + d - i = k then o d else o (L + d - i))
theorem nxo_map (g q : Nat → Nat) (d k L i : Nat) : nxo (fun i => g (q i)) d k L i = g (nxo q d k L i) := by
  unfold nxo
  split
  · split <;> rfl
  · split <;> rfl
def noAsc (p : List Nat) (L : Nat) : Bool := (List.range L).all (fun i => !(decide (i + 1 < L)) || decide (p.getD (i + 1) 0 ≤ p.getD i 0))
def dkB (p : List Nat) (L d k : Nat) : Bool := decide (d + 1 < L) && (decide (p.getD d 0 < p.getD (d + 1) 0) && ((List.range L).all (fun i => !(decide (d < i) && decide (i + 1 < L)) || decide (p.getD (i + 1) 0 ≤ p.getD i 0)) && (decide (d < k) && (decide (k < L) && (decide (p.getD d 0 < p.getD k 0) && (List.range L).all (fun i => !(decide (k < i)) || decide (p.getD i 0 ≤ p.getD d 0)))))))
def chA : Bool := (List.range 5).all (fun L => (List.range 24).all (fun j => match (pmE L)[j]? with
  | none => true
  | some p => !(noAsc p L) || ((pmE L)[j + 1]?).isNone))
def chB : Bool := (List.range 5).all (fun L => (List.range 24).all (fun j => match (pmE L)[j]? with
  | none => true
  | some p => (List.range 4).all (fun d => (List.range 4).all (fun k => !(dkB p L d k) || match (pmE L)[j + 1]? with
    | none => false
    | some p' => (List.range L).all (fun i => nxo (fun i => p.getD i 0) d k L i == p'.getD i 0)))))
theorem chA_t : chA = true := by decide +kernel
theorem chB_t : chB = true := by decide +kernel
def chC : Bool := (List.range 5).all (fun L => decide ((pmE L).length ≤ 24) && (pmE L).all (fun p => p.length == L && p.all (fun x => decide (x < L))))
theorem chC_t : chC = true := by decide +kernel
theorem pmE_fact {L : Nat} (hL : L ≤ 4) : (pmE L).length ≤ 24 ∧ ∀ p, p ∈ pmE L → p.length = L ∧ ∀ x, x ∈ p → x < L := by
  have h := List.all_eq_true.mp chC_t L (List.mem_range.mpr (by omega))
  rw [Bool.and_eq_true, decide_eq_true_eq] at h
  refine ⟨h.1, fun p hp => ?_⟩
  have h2 := List.all_eq_true.mp h.2 p hp
  rw [Bool.and_eq_true, beq_iff_eq] at h2
  exact ⟨h2.1, fun x hx => of_decide_eq_true (List.all_eq_true.mp h2.2 x hx)⟩
theorem pmE_A {L j : Nat} {p : List Nat} (hL : L ≤ 4) (hp : (pmE L)[j]? = some p) (h : ∀ i, i + 1 < L → p.getD (i + 1) 0 ≤ p.getD i 0) : (pmE L)[j + 1]? = none := by
  have hj : j < 24 := by
    have := (List.getElem?_eq_some_iff.mp hp).1
    have := (pmE_fact hL).1
    omega
  have h1 := List.all_eq_true.mp (List.all_eq_true.mp chA_t L (List.mem_range.mpr (by omega))) j (List.mem_range.mpr hj)
  rw [hp] at h1
  have h2 : noAsc p L = true := by
    unfold noAsc
    refine List.all_eq_true.mpr (fun i _ => ?_)
    by_cases e : i + 1 < L
    · rw [decide_eq_true (h i e), Bool.or_true]
    · rw [decide_eq_false e]; rfl
  simp only [h2, Bool.not_true, Bool.false_or] at h1
  exact Option.isNone_iff_eq_none.mp h1
theorem pmE_B {L j d k : Nat} {p : List Nat} (hL : L ≤ 4) (hp : (pmE L)[j]? = some p) (h1 : d + 1 < L) (h2 : p.getD d 0 < p.getD (d + 1) 0) (h3 : ∀ i, d < i → i + 1 < L → p.getD (i + 1) 0 ≤ p.getD i 0) (h4 : d < k) (h5 : k < L) (h6 : p.getD d 0 < p.getD k 0) (h7 : ∀ i, k < i → i < L → p.getD i 0 ≤ p.getD d 0) : ∃ p', (pmE L)[j + 1]? = some p' ∧ ∀ i, i < L → nxo (fun i => p.getD i 0) d k L i = p'.getD i 0 := by
  have hj : j < 24 := by
    have := (List.getElem?_eq_some_iff.mp hp).1
    have := (pmE_fact hL).1
    omega
  have g1 := List.all_eq_true.mp (List.all_eq_true.mp chB_t L (List.mem_range.mpr (by omega))) j (List.mem_range.mpr hj)
  rw [hp] at g1
  have g2 := List.all_eq_true.mp (List.all_eq_true.mp g1 d (List.mem_range.mpr (by omega))) k (List.mem_range.mpr (by omega))
  have g3 : dkB p L d k = true := by
    unfold dkB
    rw [decide_eq_true h1, decide_eq_true h2, decide_eq_true h4, decide_eq_true h5, decide_eq_true h6, Bool.true_and, Bool.true_and, Bool.true_and, Bool.true_and, Bool.true_and, Bool.and_eq_true]
    refine ⟨List.all_eq_true.mpr (fun i _ => ?_), List.all_eq_true.mpr (fun i hi => ?_)⟩
    · by_cases e : d < i ∧ i + 1 < L
      · rw [decide_eq_true (h3 i e.1 e.2), Bool.or_true]
      · have e2 : (decide (d < i) && decide (i + 1 < L)) = false := by
          by_cases e3 : d < i
          · rw [decide_eq_false (fun q => e ⟨e3, q⟩), Bool.and_false]
          · rw [decide_eq_false e3, Bool.false_and]
        rw [e2]; rfl
    · by_cases e : k < i
      · rw [decide_eq_true (h7 i e (List.mem_range.mp hi)), Bool.or_true]
      · rw [decide_eq_false e]; rfl
  simp only [g3, Bool.not_true, Bool.false_or] at g2
  cases hq : (pmE L)[j + 1]? with
  | none => rw [hq] at g2; cases g2
  | some p' =>
    rw [hq] at g2
    exact ⟨p', rfl, fun i hi => beq_iff_eq.mp (List.all_eq_true.mp g2 i (List.mem_range.mpr hi))⟩
/-! rising gates -/
theorem gL_pw (pc : Nat → Nat) : ∀ g, (gL pc g).Pairwise (· < ·)
  | 0 => List.Pairwise.nil
  | g + 1 => by
    rw [gL]
    split
    · refine List.pairwise_append.mpr ⟨gL_pw pc g, List.pairwise_singleton _ _, fun x hx y hy => ?_⟩
      rw [List.mem_singleton.mp hy]
      exact (gL_mem g |>.mp hx).1
    · exact gL_pw pc g
def rise (G : List Nat) : Prop := ∀ i j, i < j → j < G.length → G.getD i 0 < G.getD j 0
theorem rise_of {G : List Nat} (h : G.Pairwise (· < ·)) : rise G := by
  intro i j hij hj
  rw [List.getD_eq_getElem?_getD, List.getD_eq_getElem?_getD, List.getElem?_eq_getElem hj, List.getElem?_eq_getElem (by omega)]
  exact List.pairwise_iff_getElem.mp h i j (by omega) hj hij
theorem rise.lt {G : List Nat} (h : rise G) {i j : Nat} (hi : i < G.length) (hj : j < G.length) : G.getD i 0 < G.getD j 0 ↔ i < j := by
  constructor
  · intro q
    by_cases e : i < j
    · exact e
    · exfalso
      by_cases e2 : i = j
      · subst e2; omega
      · have := h j i (by omega) hi; omega
  · intro q; exact h i j q hj
def od (G p : List Nat) : List Nat := p.map (fun i => G.getD i 0)
theorem od_len (G p : List Nat) : (od G p).length = p.length := List.length_map _
theorem od_get {G p : List Nat} {i : Nat} (h : i < p.length) : (od G p).getD i 0 = G.getD (p.getD i 0) 0 := by
  unfold od
  rw [List.getD_eq_getElem?_getD, List.getElem?_map, List.getD_eq_getElem?_getD (l := p), List.getElem?_eq_getElem h]
  rfl
theorem od_mem {G p : List Nat} (h : ∀ x, x ∈ p → x < G.length) {y : Nat} (hy : y ∈ od G p) : y ∈ G := by
  obtain ⟨x, hx, rfl⟩ := List.mem_map.mp hy
  exact getD_mem (h x hx)
theorem getD_ext {l m : List Nat} (h : l.length = m.length) (h2 : ∀ i, i < l.length → l.getD i 0 = m.getD i 0) : l = m := by
  apply List.ext_getElem h
  intro i hi hj
  have := h2 i hi
  rw [List.getD_eq_getElem?_getD, List.getD_eq_getElem?_getD, List.getElem?_eq_getElem hi, List.getElem?_eq_getElem hj] at this
  exact this
theorem od_first {G : List Nat} (h : G.length ≤ 4) : ∃ p, (pmE G.length)[0]? = some p ∧ od G p = G := by
  match G, h with
  | [], _ => exact ⟨[], rfl, rfl⟩
  | [a], _ => exact ⟨[0], rfl, rfl⟩
  | [a, b], _ => exact ⟨[0, 1], rfl, rfl⟩
  | [a, b, c], _ => exact ⟨[0, 1, 2], rfl, rfl⟩
  | [a, b, c, d], _ => exact ⟨[0, 1, 2, 3], rfl, rfl⟩
  | a :: b :: c :: d :: e :: l, h => exact absurd h (by simp)
theorem od_A {G p : List Nat} {j : Nat} (hr : rise G) (hL : G.length ≤ 4) (hp : (pmE G.length)[j]? = some p) (h : ∀ i, i + 1 < G.length → (od G p).getD (i + 1) 0 ≤ (od G p).getD i 0) : (pmE G.length)[j + 1]? = none := by
  obtain ⟨hl, hm⟩ := (pmE_fact hL).2 p (List.mem_of_getElem? hp)
  refine pmE_A hL hp (fun i hi => ?_)
  have h1 := h i hi
  rw [od_get (by omega), od_get (by omega)] at h1
  have h2 := hr.lt (hm _ (getD_mem (k := i) (by omega))) (hm _ (getD_mem (l := p) (k := i + 1) (by omega)))
  omega
theorem od_B {G p : List Nat} {j d k : Nat} (hr : rise G) (hL : G.length ≤ 4) (hp : (pmE G.length)[j]? = some p) (h1 : d + 1 < G.length) (h2 : (od G p).getD d 0 < (od G p).getD (d + 1) 0) (h3 : ∀ i, d < i → i + 1 < G.length → (od G p).getD (i + 1) 0 ≤ (od G p).getD i 0) (h4 : d < k) (h5 : k < G.length) (h6 : (od G p).getD d 0 < (od G p).getD k 0) (h7 : ∀ i, k < i → i < G.length → (od G p).getD i 0 ≤ (od G p).getD d 0) : ∃ p', (pmE G.length)[j + 1]? = some p' ∧ ∀ i, i < G.length → nxo (fun i => (od G p).getD i 0) d k G.length i = (od G p').getD i 0 := by
  obtain ⟨hl, hm⟩ := (pmE_fact hL).2 p (List.mem_of_getElem? hp)
  have hlt : ∀ x y, x < G.length → y < G.length → ((od G p).getD x 0 < (od G p).getD y 0 ↔ p.getD x 0 < p.getD y 0) := fun x y hx hy => by
    rw [od_get (by omega), od_get (by omega)]
    exact hr.lt (hm _ (getD_mem (by omega))) (hm _ (getD_mem (by omega)))
  obtain ⟨p', hp', hv⟩ := pmE_B hL hp (d := d) (k := k) h1 ((hlt d (d + 1) (by omega) h1).mp h2) (fun i hi hi2 => by
    have := h3 i hi hi2
    have := hlt i (i + 1) (by omega) hi2
    omega) h4 h5 ((hlt d k (by omega) h5).mp h6) (fun i hi hi2 => by
    have := h7 i hi hi2
    have := hlt d i (by omega) hi2
    omega)
  refine ⟨p', hp', fun i hi => ?_⟩
  obtain ⟨hl', -⟩ := (pmE_fact hL).2 p' (List.mem_of_getElem? hp')
  rw [od_get (by omega), ← hv i hi, ← nxo_map (fun x => G.getD x 0) (fun i => p.getD i 0) d k G.length i]
  have key : ∀ x, x < G.length → (od G p).getD x 0 = G.getD (p.getD x 0) 0 := fun x hx => od_get (by omega)
  unfold nxo
  split
  · split
    · exact key k h5
    · exact key i hi
  · split
    · exact key d (by omega)
    · exact key _ (by omega)
def ords (G : List Nat) : List (List Nat) := (pmE G.length).map (od G)
theorem ords_get {G p : List Nat} {j : Nat} (hp : (pmE G.length)[j]? = some p) : (ords G)[j]? = some (od G p) := by unfold ords; rw [List.getElem?_map, hp]; rfl
theorem ords_drop {G p : List Nat} {j : Nat} (hp : (pmE G.length)[j]? = some p) : (ords G).drop j = od G p :: (ords G).drop (j + 1) := by
  obtain ⟨h1, h2⟩ := List.getElem?_eq_some_iff.mp (ords_get hp)
  rw [List.drop_eq_getElem_cons h1, h2]
theorem ords_end {G : List Nat} {j : Nat} (hp : (pmE G.length)[j]? = none) : (ords G).drop j = [] := by
  refine List.drop_eq_nil_of_le ?_
  unfold ords
  rw [List.length_map]
  exact List.getElem?_eq_none_iff.mp hp

