/-! places on a rope: a row is a list of children, the latest ahead; 99 is nobody -/
def seatI (s : Nat) : Int32 := if s = 99 then -9 else nI s
def seatQ (T : Nat → Nat → Nat) (s x : Nat) : Bool := decide (s ≠ 99) && (T x s == 2)
def frS (T : Nat → Nat → Nat) (s x : Nat) : Bool := decide (s ≠ 99) && (T x s == 1)
def okS (T : Nat → Nat → Nat) (ag : Nat → Nat) (r : Nat) (rs : List Nat) (x : Nat) : Bool := (decide (rs.length % 2 = 1) || decide (r ≤ ag x)) && (!(decide (rs.length % 2 = 1) && seatQ T (rs.getD 0 99) x) && !(seatQ T (rs.getD 1 99) x))
def cdS (set : Nat) (T : Nat → Nat → Nat) (ag : Nat → Nat) (r : Nat) (rs : List Nat) (x : Nat) : Bool := set.testBit x && (!(rs.contains x) && okS T ag r rs x)
def fillS (cd : List Nat → Nat → Bool) (emp : Nat) : Nat → List Nat → List (List Nat)
  | 0, rs => [rs]
  | k + 1, rs => if rs.length = emp then fillS cd emp k (99 :: rs) else (List.range' 0 10).flatMap (fun x => if cd rs x then fillS cd emp k (x :: rs) else [])
def fillX (cd : List Nat → Nat → Bool) (emp k : Nat) (rs : List Nat) (x : Nat) : List (List Nat) := (List.range' x (10 - x)).flatMap (fun x => if cd rs x then fillS cd emp k (x :: rs) else [])
theorem fillS_emp {cd : List Nat → Nat → Bool} {emp k : Nat} {rs : List Nat} (h : rs.length = emp) : fillS cd emp (k + 1) rs = fillS cd emp k (99 :: rs) := by rw [fillS, if_pos h]
theorem fillS_X {cd : List Nat → Nat → Bool} {emp k : Nat} {rs : List Nat} (h : rs.length ≠ emp) : fillS cd emp (k + 1) rs = fillX cd emp k rs 0 := by rw [fillS, if_neg h]; rfl
theorem fillX_end (cd : List Nat → Nat → Bool) (emp k : Nat) (rs : List Nat) {x : Nat} (h : 10 ≤ x) : fillX cd emp k rs x = [] := by
  unfold fillX; rw [show 10 - x = 0 by omega]; rfl
theorem fillX_yes {cd : List Nat → Nat → Bool} {emp k : Nat} {rs : List Nat} {x : Nat} (hx : x < 10) (h : cd rs x = true) : fillX cd emp k rs x = fillS cd emp k (x :: rs) ++ fillX cd emp k rs (x + 1) := by
  unfold fillX
  obtain ⟨d, hd⟩ : ∃ d, 10 - x = d + 1 := ⟨9 - x, by omega⟩
  rw [hd, List.range'_succ, List.flatMap_cons, if_pos h, show 10 - (x + 1) = d by omega]
theorem fillX_no {cd : List Nat → Nat → Bool} {emp k : Nat} {rs : List Nat} {x : Nat} (hx : x < 10) (h : cd rs x = false) : fillX cd emp k rs x = fillX cd emp k rs (x + 1) := by
  unfold fillX
  obtain ⟨d, hd⟩ : ∃ d, 10 - x = d + 1 := ⟨9 - x, by omega⟩
  rw [hd, List.range'_succ, List.flatMap_cons, h, show 10 - (x + 1) = d by omega]
  rfl
theorem fillX_none {cd : List Nat → Nat → Bool} {emp k : Nat} {rs : List Nat} : ∀ (d x : Nat), 10 - x ≤ d → (∀ y, x ≤ y → y < 10 → cd rs y = false) → fillX cd emp k rs x = []
  | 0, x, h, _ => fillX_end _ _ _ _ (by omega)
  | d + 1, x, h, hn => by
    by_cases e : x < 10
    · rw [fillX_no e (hn x (Nat.le_refl _) e)]
      exact fillX_none d (x + 1) (by omega) (fun y h1 h2 => hn y (by omega) h2)
    · exact fillX_end _ _ _ _ (by omega)
theorem fillX_to {cd : List Nat → Nat → Bool} {emp k : Nat} {rs : List Nat} {y : Nat} (hy : y ≤ 10) : ∀ (d x : Nat), y - x ≤ d → x ≤ y → (∀ z, x ≤ z → z < y → cd rs z = false) → fillX cd emp k rs x = fillX cd emp k rs y
  | 0, x, h, h2, _ => by rw [show x = y by omega]
  | d + 1, x, h, h2, hn => by
    by_cases e : x = y
    · rw [e]
    · rw [fillX_no (by omega) (hn x (Nat.le_refl _) (by omega))]
      exact fillX_to hy d (x + 1) (by omega) (by omega) (fun z h3 h4 => hn z (by omega) h4)
theorem fillX_len {cd : List Nat → Nat → Bool} {emp k : Nat} {rs : List Nat} {B : Nat} (h : ∀ x, (fillS cd emp k (x :: rs)).length ≤ B) : ∀ (d x : Nat), 10 - x ≤ d → (fillX cd emp k rs x).length ≤ B * (10 - x)
  | 0, x, hd => by rw [fillX_end _ _ _ _ (by omega)]; exact Nat.zero_le _
  | d + 1, x, hd => by
    by_cases e : x < 10
    · have ih := fillX_len h d (x + 1) (by omega)
      obtain ⟨e9, he9⟩ : ∃ e9, 10 - x = e9 + 1 := ⟨9 - x, by omega⟩
      rw [show 10 - (x + 1) = e9 by omega] at ih
      rw [he9, Nat.mul_succ]
      by_cases hc : cd rs x = true
      · rw [fillX_yes e hc, List.length_append]
        have := h x
        omega
      · rw [fillX_no e (eq_false_of_ne_true hc)]; omega
    · rw [fillX_end _ _ _ _ (by omega)]; exact Nat.zero_le _
theorem fillS_len (cd : List Nat → Nat → Bool) (emp : Nat) : ∀ (k : Nat) (rs : List Nat), (fillS cd emp k rs).length ≤ 10 ^ k
  | 0, _ => Nat.le_refl _
  | k + 1, rs => by
    by_cases e : rs.length = emp
    · rw [fillS_emp e]
      have := fillS_len cd emp k (99 :: rs)
      have h2 : 10 ^ (k + 1) = 10 ^ k * 10 := Nat.pow_succ ..
      omega
    · rw [fillS_X e, Nat.pow_succ]
      exact fillX_len (fun x => fillS_len cd emp k (x :: rs)) 10 0 (by omega)
def rowS (T : Nat → Nat → Nat) : List Nat → Nat
  | [] => 0
  | x :: rs => rowS T rs + (if rs.length % 2 = 1 ∧ frS T (rs.getD 0 99) x = true then 1 else 0)
theorem rowS_even {T : Nat → Nat → Nat} {rs : List Nat} (x : Nat) (h : rs.length % 2 = 0) : rowS T (x :: rs) = rowS T rs := by
  rw [rowS, if_neg (fun q => by omega)]; rfl
theorem bsF_app (f : List Nat → Nat) : ∀ (l m : List (List Nat)) (b : Nat × List Nat), bsF f (l ++ m) b = bsF f m (bsF f l b)
  | [], _, _ => rfl
  | o :: l, m, b => by rw [List.cons_append, bsF, bsF]; exact bsF_app f l m _
theorem bsF_skip {f : List Nat → Nat} : ∀ (l : List (List Nat)) (b : Nat × List Nat), (∀ o, o ∈ l → f o ≤ b.1) → bsF f l b = b
  | [], _, _ => rfl
  | o :: l, b, h => by
    rw [bsF, if_neg (by have := h o (List.mem_cons_self); omega)]
    exact bsF_skip l b (fun x hx => h x (List.mem_cons_of_mem _ hx))
def rowF (T : Nat → Nat → Nat) (o : List Nat) : Nat := rowS T o + 1
/-! how many rows of friends can come yet -/
theorem pop_clr {m y : Nat} (h : m.testBit y = true) : ∀ n, y < n → pop (clr m (2 ^ y)) n + 1 = pop m n
  | 0, h0 => absurd h0 (Nat.not_lt_zero _)
  | n + 1, h0 => by
    have hb : (clr m (2 ^ y)).testBit n = (m.testBit n && !(decide (y = n))) := by rw [clr_bit, Nat.testBit_two_pow]
    by_cases e : y = n
    · subst e
      have h3 : ∀ k, k ≤ y → pop (clr m (2 ^ y)) k = pop m k := by
        intro k
        induction k with
        | zero => intro _; rfl
        | succ k ih =>
          intro hk
          rw [pop, pop, ih (by omega), clr_bit, Nat.testBit_two_pow, decide_eq_false (show ¬ y = k by omega)]
          simp
      rw [pop, pop, h3 y (Nat.le_refl _), hb, h]
      simp
    · have ih := pop_clr h n (by omega)
      rw [pop, pop, hb, decide_eq_false e]
      simp only [Bool.not_false, Bool.and_true]
      omega
theorem pop_sub {a b : Nat} (h : ∀ i, a.testBit i = true → b.testBit i = true) : ∀ n, pop a n ≤ pop b n
  | 0 => Nat.le_refl _
  | n + 1 => by
    have ih := pop_sub h n
    rw [pop, pop]
    by_cases e : a.testBit n = true
    · rw [if_pos e, if_pos (h n e)]; omega
    · rw [if_neg e]; split <;> omega
def btS (s : Nat) : Nat := if s = 99 then 0 else 2 ^ s
def opS (left : Nat) (rs : List Nat) : Nat := if rs.length % 2 = 1 then left ||| btS (rs.getD 0 99) else left
def hpS (W left : Nat) (rs : List Nat) : Nat := pop (opS left rs &&& W) 10 / 2
def lfS (set : Nat) (rs : List Nat) (left : Nat) : Prop := ∀ x, left.testBit x = (set.testBit x && !(rs.contains x))
theorem lfS.cons {set left x : Nat} {rs : List Nat} (h : lfS set rs left) : lfS set (x :: rs) (clr left (2 ^ x)) := by
  intro y
  rw [clr_bit, h y, Nat.testBit_two_pow, List.contains_cons]
  by_cases e : x = y
  · subst e; simp
  · rw [decide_eq_false e, show (y == x) = false from beq_eq_false_iff_ne.mpr (fun q => e q.symm)]; simp
theorem lfS.none {set left : Nat} {rs : List Nat} (h : lfS set rs left) (hs : set < 1024) : lfS set (99 :: rs) left := by
  intro y
  rw [h y, List.contains_cons]
  by_cases e : y = 99
  · subst e
    rw [Nat.testBit_lt_two_pow (show set < 2 ^ 99 from Nat.lt_of_lt_of_le hs (by decide))]; rfl
  · rw [show (y == 99) = false from beq_eq_false_iff_ne.mpr e]; simp
theorem bit_lt10 {set y : Nat} (hs : set < 1024) (h : set.testBit y = true) : y < 10 := by
  by_cases e : y < 10
  · exact e
  · rw [Nat.testBit_lt_two_pow (Nat.lt_of_lt_of_le hs (Nat.pow_le_pow_right (n := 2) (i := 10) (by decide) (by omega)))] at h
    cases h
theorem fillX_mem {cd : List Nat → Nat → Bool} {emp k x : Nat} {rs o : List Nat} (h : o ∈ fillX cd emp k rs x) : ∃ y, y < 10 ∧ cd rs y = true ∧ o ∈ fillS cd emp k (y :: rs) := by
  unfold fillX at h
  obtain ⟨y, hy, ho⟩ := List.mem_flatMap.mp h
  have h1 := List.mem_range'_1.mp hy
  by_cases e : cd rs y = true
  · rw [if_pos e] at ho
    exact ⟨y, by omega, e, ho⟩
  · rw [if_neg e] at ho; cases ho
theorem hope_ok {set W r emp : Nat} {T : Nat → Nat → Nat} {ag : Nat → Nat} (hs : set < 1024) (hemp : emp % 2 = 0) (hW : ∀ x y, set.testBit x = true → set.testBit y = true → T x y = 1 → W.testBit x = true ∧ W.testBit y = true) : ∀ (k : Nat) (rs : List Nat) (left : Nat), lfS set rs left → (∀ y, y ∈ rs → y = 99 ∨ set.testBit y = true) → ∀ o, o ∈ fillS (cdS set T ag r) emp k rs → rowS T o ≤ rowS T rs + hpS W left rs
  | 0, rs, left, _, _, o, ho => by
    rw [fillS] at ho
    rw [List.mem_singleton.mp ho]; omega
  | k + 1, rs, left, hl, hin, o, ho => by
    by_cases he : rs.length = emp
    · rw [fillS_emp he] at ho
      have ih := hope_ok hs hemp hW k (99 :: rs) left (hl.none hs) (fun y hy => by
        rcases List.mem_cons.mp hy with e | e
        · exact Or.inl e
        · exact hin y e) o ho
      have h1 : rowS T (99 :: rs) = rowS T rs := rowS_even 99 (by omega)
      have h2 : hpS W left (99 :: rs) = hpS W left rs := by
        unfold hpS opS
        rw [if_pos (show (99 :: rs).length % 2 = 1 by rw [List.length_cons]; omega), if_neg (by omega)]
        show pop ((left ||| btS 99) &&& W) 10 / 2 = _
        unfold btS; rw [if_pos rfl, Nat.or_zero]
      omega
    · rw [fillS_X he] at ho
      obtain ⟨x, hx, hcd, ho2⟩ := fillX_mem ho
      unfold cdS at hcd
      rw [Bool.and_eq_true, Bool.and_eq_true] at hcd
      obtain ⟨hsx, hnx, -⟩ := hcd
      have hlx : left.testBit x = true := by rw [hl x, hsx, hnx]; rfl
      have ih := hope_ok hs hemp hW k (x :: rs) (clr left (2 ^ x)) hl.cons (fun y hy => by
        rcases List.mem_cons.mp hy with e | e
        · exact Or.inr (e ▸ hsx)
        · exact hin y e) o ho2
      have hcl : ∀ i, (clr left (2 ^ x)).testBit i = (left.testBit i && !(decide (x = i))) := fun i => by rw [clr_bit, Nat.testBit_two_pow]
      by_cases hp : rs.length % 2 = 1
      · have h2 : hpS W (clr left (2 ^ x)) (x :: rs) = pop (clr left (2 ^ x) &&& W) 10 / 2 := by
          unfold hpS opS; rw [if_neg (show ¬ (x :: rs).length % 2 = 1 by rw [List.length_cons]; omega)]
        have h3 : hpS W left rs = pop ((left ||| btS (rs.getD 0 99)) &&& W) 10 / 2 := by
          unfold hpS opS; rw [if_pos hp]
        by_cases hf : frS T (rs.getD 0 99) x = true
        · have h4 : rowS T (x :: rs) = rowS T rs + 1 := by rw [rowS, if_pos ⟨hp, hf⟩]
          match rs, hp, hf, hin, hl, hnx, h2, h3, h4, ih with
          | p :: ps, hp, hf, hin, hl, hnx, h2, h3, h4, ih =>
            have e0 : (p :: ps).getD 0 99 = p := rfl
            rw [e0] at hf h3
            unfold frS at hf
            rw [Bool.and_eq_true, decide_eq_true_eq, beq_iff_eq] at hf
            have hps : set.testBit p = true := by
              rcases hin p (List.mem_cons_self) with e | e
              · exact absurd e hf.1
              · exact e
            have hW2 := hW x p hsx hps hf.2
            have hp10 := bit_lt10 hs hps
            have hne : x ≠ p := fun e => by
              subst e
              rw [List.contains_cons, beq_self_eq_true, Bool.true_or] at hnx
              cases hnx
            have hlp : left.testBit p = false := by rw [hl p, List.contains_cons, beq_self_eq_true, Bool.true_or]; exact Bool.and_false _
            have hbt : btS p = 2 ^ p := by unfold btS; rw [if_neg hf.1]
            rw [hbt] at h3
            have hAx : ((left ||| 2 ^ p) &&& W).testBit x = true := by rw [Nat.testBit_and, Nat.testBit_or, hlx, hW2.1]; rfl
            have hAp : (clr ((left ||| 2 ^ p) &&& W) (2 ^ x)).testBit p = true := by
              rw [clr_bit, Nat.testBit_and, Nat.testBit_or, Nat.testBit_two_pow_self, hW2.2, Nat.testBit_two_pow, decide_eq_false hne]; simp
            have q1 := pop_clr hAx 10 hx
            have q2 := pop_clr hAp 10 hp10
            have q3 := pop_sub (a := clr left (2 ^ x) &&& W) (b := clr (clr ((left ||| 2 ^ p) &&& W) (2 ^ x)) (2 ^ p)) (fun i hi => by
              rw [Nat.testBit_and, hcl, Bool.and_eq_true, Bool.and_eq_true] at hi
              have hip : ¬ p = i := fun e => by subst e; rw [hlp] at hi; cases hi.1.1
              rw [clr_bit, clr_bit, Nat.testBit_and, Nat.testBit_or, Nat.testBit_two_pow, Nat.testBit_two_pow, hi.1.1, hi.2, hi.1.2, decide_eq_false hip]; rfl) 10
            omega
        · have h4 : rowS T (x :: rs) = rowS T rs := by rw [rowS, if_neg (fun q => hf q.2)]; rfl
          have q3 := pop_sub (a := clr left (2 ^ x) &&& W) (b := (left ||| btS (rs.getD 0 99)) &&& W) (fun i hi => by
            rw [Nat.testBit_and, hcl, Bool.and_eq_true, Bool.and_eq_true] at hi
            rw [Nat.testBit_and, Nat.testBit_or, hi.1.1, hi.2]; rfl) 10
          omega
      · have h4 : rowS T (x :: rs) = rowS T rs := rowS_even x (by omega)
        have h2 : hpS W (clr left (2 ^ x)) (x :: rs) = pop ((clr left (2 ^ x) ||| btS x) &&& W) 10 / 2 := by
          unfold hpS opS; rw [if_pos (show (x :: rs).length % 2 = 1 by rw [List.length_cons]; omega)]; rfl
        have h3 : hpS W left rs = pop (left &&& W) 10 / 2 := by
          unfold hpS opS; rw [if_neg hp]
        have hbt : btS x = 2 ^ x := by unfold btS; rw [if_neg (by omega)]
        rw [hbt] at h2
        have q3 := pop_sub (a := (clr left (2 ^ x) ||| 2 ^ x) &&& W) (b := left &&& W) (fun i hi => by
          rw [Nat.testBit_and, Nat.testBit_or, hcl, Nat.testBit_two_pow, Bool.and_eq_true] at hi
          rw [Nat.testBit_and, hi.2, Bool.and_true]
          by_cases e : x = i
          · subst e; exact hlx
          · have h5 := hi.1
            rw [decide_eq_false e] at h5
            simpa using h5) 10
        omega
/-! rows in arrays -/
def rowA (I : KI) (p : Nat) (rs : List Nat) : Prop := ∀ i, i < rs.length → I p i = seatI (rs.getD (rs.length - 1 - i) 99)
theorem rowA.cons {I : KI} {p x : Nat} {rs : List Nat} (h : rowA I p rs) (hx : I p rs.length = seatI x) : rowA I p (x :: rs) := by
  intro i hi
  rw [List.length_cons] at hi ⊢
  by_cases e : i = rs.length
  · subst e; rw [hx, show rs.length + 1 - 1 - rs.length = 0 by omega]; rfl
  · rw [h i (by omega), show rs.length + 1 - 1 - i = (rs.length - 1 - i) + 1 by omega]; rfl
theorem rowA.tail {I : KI} {p x : Nat} {rs : List Nat} (h : rowA I p (x :: rs)) : rowA I p rs := by
  intro i hi
  rw [h i (by rw [List.length_cons]; omega), List.length_cons, show rs.length + 1 - 1 - i = (rs.length - 1 - i) + 1 by omega]; rfl
theorem rowA.last {I : KI} {p x : Nat} {rs : List Nat} (h : rowA I p (x :: rs)) : I p rs.length = seatI x := by
  rw [h rs.length (by rw [List.length_cons]; omega), List.length_cons, show rs.length + 1 - 1 - rs.length = 0 by omega]; rfl
theorem rowA.fr {I I' : KI} {p : Nat} {rs : List Nat} (h : rowA I p rs) (hf : ∀ i, i < rs.length → I' p i = I p i) : rowA I' p rs := fun i hi => by rw [hf i hi]; exact h i hi
theorem rowA.h0 {I : KI} {p : Nat} {rs : List Nat} (h : rowA I p rs) (h1 : 1 ≤ rs.length) : I p (rs.length - 1) = seatI (rs.getD 0 99) := by
  rw [h _ (by omega), show rs.length - 1 - (rs.length - 1) = 0 by omega]
theorem rowA.h1 {I : KI} {p : Nat} {rs : List Nat} (h : rowA I p rs) (h1 : 2 ≤ rs.length) : I p (rs.length - 2) = seatI (rs.getD 1 99) := by
  rw [h _ (by omega), show rs.length - 1 - (rs.length - 2) = 1 by omega]
theorem seatI_eq {s : Nat} (h : s = 99 ∨ s < 10) : seatI s = -9 ↔ s = 99 := by
  unfold seatI
  by_cases e : s = 99
  · rw [if_pos e]; exact ⟨fun _ => e, fun _ => rfl⟩
  · rw [if_neg e]
    refine ⟨fun q => ?_, fun q => absurd q e⟩
    have := congrArg Int32.toInt q
    rw [nI_toInt (by omega)] at this
    simp only [Int32.reduceToInt] at this
    omega
def rpL (m : Nat) : Nat := (m + 1) / 2 * 2
def rpE (m : Nat) : Nat := if m % 2 = 1 then rpL m - 2 else 98
def empI (e : Nat) : Int32 := if e = 98 then -9 else nI e
def rpLs (set : Nat) (T : Nat → Nat → Nat) (ag : Nat → Nat) (r : Nat) : List (List Nat) := fillS (cdS set T ag r) (rpE (popS set)) (rpL (popS set)) []
def rpB (set : Nat) (T : Nat → Nat → Nat) (ag : Nat → Nat) (r : Nat) : Nat × List Nat := bsF (rowF T) (rpLs set T ag r) (0, [])
