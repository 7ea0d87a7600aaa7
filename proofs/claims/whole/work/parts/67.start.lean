/-! the latest start: shared by the two sides (a start m is told as m + 1, none as 0) -/
def lgS (q : Nat → Bool) : Nat → Nat
  | 0 => 0
  | b + 1 => if q b then b + 1 else lgS q b
theorem lgS_le (q : Nat → Bool) : ∀ b, lgS q b ≤ b
  | 0 => Nat.le_refl _
  | b + 1 => by have := lgS_le q b; rw [lgS]; split <;> omega
theorem lgS_ge {q : Nat → Bool} {m : Nat} (h : q m = true) : ∀ b, m < b → m + 1 ≤ lgS q b
  | 0, h0 => absurd h0 (Nat.not_lt_zero _)
  | b + 1, h0 => by
    rw [lgS]
    by_cases e : q b = true
    · rw [if_pos e]; omega
    · rw [if_neg e]
      exact lgS_ge h b (by
        have : m ≠ b := fun e2 => e (e2 ▸ h)
        omega)
theorem lgS_cut {q : Nat → Bool} {x : Nat} : ∀ b, (∀ m, x ≤ m → m < b → q m = false) → lgS q b ≤ x
  | 0, _ => Nat.zero_le _
  | b + 1, h => by
    rw [lgS]
    by_cases e : x ≤ b
    · rw [h b e (by omega)]
      exact lgS_cut b (fun m h1 h2 => h m h1 (by omega))
    · have := lgS_le q b
      split <;> omega
def gdB (P : List St) (bell h m : Nat) : Bool := decide (ev P (ltS bell) m * 100 ≤ 10 ^ crs P * h)
theorem ltS_mono (bell : Nat) (a b : Nat) (h : a ≤ b) : ltS bell a ≤ ltS bell b := by unfold ltS; split <;> split <;> omega
theorem gdB_down {P : List St} {bell h m k : Nat} (hmk : m ≤ k) (hq : gdB P bell h m = false) : gdB P bell h k = false := by
  unfold gdB at *
  rw [decide_eq_false_iff_not] at *
  have := ev_mono (h := ltS bell) (ltS_mono bell) P m k hmk
  have : ev P (ltS bell) m * 100 ≤ ev P (ltS bell) k * 100 := Nat.mul_le_mul_right _ this
  omega
def bsF (f : List Nat → Nat) : List (List Nat) → Nat × List Nat → Nat × List Nat
  | [], b => b
  | o :: l, b => bsF f l (if b.1 < f o then (f o, o) else b)
theorem bsF_full {f : List Nat → Nat} {B : Nat} (h : ∀ o, f o ≤ B) : ∀ (l : List (List Nat)) (b : Nat × List Nat), B ≤ b.1 → bsF f l b = b
  | [], _, _ => rfl
  | o :: l, b, hb => by
    rw [bsF, if_neg (by have := h o; omega)]
    exact bsF_full h l b hb
theorem bsF_mem {f : List Nat → Nat} {S : List Nat → Prop} : ∀ (l : List (List Nat)) (b : Nat × List Nat), (∀ o, o ∈ l → S o) → (b.1 ≠ 0 → S b.2) → (bsF f l b).1 ≠ 0 → S (bsF f l b).2
  | [], b, _, hb, h => hb h
  | o :: l, b, hl, hb, h => by
    rw [bsF] at h ⊢
    refine bsF_mem l _ (fun x hx => hl x (List.mem_cons_of_mem _ hx)) (fun h2 => ?_) h
    by_cases e : b.1 < f o
    · rw [if_pos e]; exact hl o (List.mem_cons_self)
    · rw [if_neg e] at h2 ⊢; exact hb h2
def stB (C : Nat → Nat → Nat) (s a : Nat) (G : List Nat) : Bool := decide (G.length ≤ 4) && (ords G).all (wkB C s a)
theorem stB_t {C : Nat → Nat → Nat} {s a : Nat} {G : List Nat} : stB C s a G = true ↔ G.length ≤ 4 ∧ (ords G).all (wkB C s a) = true := by
  unfold stB; rw [Bool.and_eq_true, decide_eq_true_eq]
def slF (r : Nat) (rd C : Nat → Nat → Nat) (rdy pc : Nat → Nat) (s a bell h : Nat) (og : List Nat) : Nat := lgS (gdB (stpL r rd C rdy pc s og a 1) bell h) (bell + 1)
theorem slF_le (r : Nat) (rd C : Nat → Nat → Nat) (rdy pc : Nat → Nat) (s a bell h : Nat) (og : List Nat) : slF r rd C rdy pc s a bell h og ≤ bell + 1 := lgS_le _ _
def soS (r : Nat) (rd C : Nat → Nat → Nat) (rdy pc : Nat → Nat) (s a bell h : Nat) : Nat × List Nat := if stB C s a (gL pc 7) then bsF (slF r rd C rdy pc s a bell h) (ords (gL pc 7)) (0, []) else (0, [])
def stI (b : Nat) : Int32 := if b = 0 then -9 else nI (b - 1)
theorem ords_len {G og : List Nat} (hL : G.length ≤ 4) (h : og ∈ ords G) : og.length = G.length := by
  unfold ords at h
  obtain ⟨p, hp, rfl⟩ := List.mem_map.mp h
  rw [od_len]; exact ((pmE_fact hL).2 p hp).1
theorem soS_len {r : Nat} {rd C : Nat → Nat → Nat} {rdy pc : Nat → Nat} {s a bell h : Nat} (hn : (soS r rd C rdy pc s a bell h).1 ≠ 0) : (soS r rd C rdy pc s a bell h).2.length = (gL pc 7).length := by
  unfold soS at *
  by_cases e : stB C s a (gL pc 7) = true
  · rw [if_pos e] at hn ⊢
    exact bsF_mem (S := fun o => o.length = (gL pc 7).length) _ _ (fun o ho => ords_len (stB_t.mp e).1 ho) (fun q => absurd rfl q) hn
  · rw [if_neg e] at hn; exact absurd rfl hn
theorem soS_le {r : Nat} {rd C : Nat → Nat → Nat} {rdy pc : Nat → Nat} {s a bell h : Nat} : (soS r rd C rdy pc s a bell h).1 ≤ bell + 1 := by
  unfold soS
  split
  · have : ∀ (l : List (List Nat)) (b : Nat × List Nat), b.1 ≤ bell + 1 → (bsF (slF r rd C rdy pc s a bell h) l b).1 ≤ bell + 1 := by
      intro l
      induction l with
      | nil => intro b hb; exact hb
      | cons o l ih =>
        intro b hb
        rw [bsF]
        refine ih _ ?_
        split
        · exact slF_le _ _ _ _ _ _ _ _ _ _
        · exact hb
    exact this _ _ (Nat.zero_le _)
  · exact Nat.zero_le _
theorem gates_pos {set c : Nat} {co ki ag : Nat → Nat} (h0 : 0 < set) (h : set < 2 ^ c) (h7 : ∀ x, x < c → co x < 7) : 0 < (gL (pcG set c co ki ag) 7).length := by
  obtain ⟨x, hx⟩ := Nat.exists_testBit_of_ne_zero (show set ≠ 0 by omega)
  have hxc : x < c := by
    by_cases e : x < c
    · exact e
    · exfalso
      rw [Nat.testBit_lt_two_pow (Nat.lt_of_lt_of_le h (Nat.pow_le_pow_right (by decide) (by omega)))] at hx
      cases hx
  have h1 : 0 < pcG set c co ki ag (co x) := (mxS_pos (fun y => (paceS_b _ _).1) c).mpr ⟨x, hxc, atS_t hx rfl⟩
  exact List.length_pos_of_mem (gL_mem 7 |>.mpr ⟨h7 x hxc, h1⟩)
def sw (k d x : Nat) : Nat := if x = d then k else if x = k then d else x
theorem upI_swap (I : KI) (p k d x : Nat) : upI (upI I p k (I p d)) p d (I p k) p x = I p (sw k d x) := by
  unfold sw
  by_cases e : x = d
  · subst e; rw [if_pos rfl, upI_same]
  · rw [if_neg e, upI_k _ _ e]
    by_cases e2 : x = k
    · subst e2; rw [if_pos rfl, upI_same]
    · rw [if_neg e2, upI_k _ _ e2]
