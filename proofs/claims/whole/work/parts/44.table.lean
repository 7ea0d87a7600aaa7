/-! the reference's table of ways: the same costs, written otherwise -/
def cvS (c : Nat) : Nat := if c < 1048576 then 100 * (c / 16) + c % 16 else 1000000
theorem cvS_way {n r : Nat} {rd C : Nat → Nat → Nat} (hn : n ≤ 7) (hr : okRd n r rd) (h : okW n r rd C) {a b : Nat} (ha : a < n) (hb : b < n) (hlt : C a b < 1048576) : cvS (C a b) = 100 * (C a b / 16) + C a b % 16 ∧ C a b % 16 ≤ 6 ∧ cvS (C a b) ≤ 18006 := by
  have := okW_d6 hn hr h ha hb hlt
  unfold cvS; rw [if_pos hlt]; omega
theorem cvS_le {n r : Nat} {rd C : Nat → Nat → Nat} (hn : n ≤ 7) (hr : okRd n r rd) (h : okW n r rd C) {a b : Nat} (ha : a < n) (hb : b < n) : cvS (C a b) ≤ 1000000 := by
  by_cases hlt : C a b < 1048576
  · have := (cvS_way hn hr h ha hb hlt).2.2; omega
  · unfold cvS; rw [if_neg hlt]; omega
theorem cvS_lt {n r : Nat} {rd C : Nat → Nat → Nat} (hn : n ≤ 7) (hr : okRd n r rd) (h : okW n r rd C) {a b : Nat} (ha : a < n) (hb : b < n) : cvS (C a b) < 1000000 ↔ C a b < 1048576 := by
  by_cases hlt : C a b < 1048576
  · have := (cvS_way hn hr h ha hb hlt).2.2; exact ⟨fun _ => hlt, fun _ => by omega⟩
  · unfold cvS; rw [if_neg hlt]; exact ⟨fun q => by omega, fun q => absurd q hlt⟩
theorem w100_le {n r : Nat} {rd : Nat → Nat → Nat} (h : okRd n r rd) {k : Nat} (hk : k < r) : 100 ≤ w100 rd k ∧ w100 rd k ≤ 3001 := by
  have := h k hk; unfold w100; split <;> omega
theorem cvS_add {rd : Nat → Nat → Nat} {k c : Nat} (h6 : c % 16 ≤ 6) (hc : c ≤ 2886) (hw : w16 rd k ≤ 481) : cvS (w16 rd k + c) = w100 rd k + cvS c := by
  unfold cvS
  rw [if_pos (by omega), if_pos (by omega)]
  unfold w16 w100
  split <;> omega
theorem cvS_close {n r : Nat} {rd C : Nat → Nat → Nat} (hn : n ≤ 7) (hr : okRd n r rd) (h : okW n r rd C) {k a b : Nat} (hk : k < r) (ha : a < n) (hb : b < n) (hi : incS rd k a) : cvS (C a b) ≤ w100 rd k + cvS (C (othS rd k a) b) := by
  have ho := oth_lt hr (a := a) hk
  have hle := cvS_le hn hr h ha hb
  by_cases hlt : C (othS rd k a) b < 1048576
  · have h1 := h.2.2.1 k a b hk ha hb hi
    have h2 := okW_d6 hn hr h ho hb hlt
    have h3 := w16_pos hr hk
    rw [← cvS_add h2.1 (by omega) h3.2]
    unfold cvS
    rw [if_pos (by omega), if_pos (by omega)]
    omega
  · have e : cvS (C (othS rd k a) b) = 1000000 := by unfold cvS; rw [if_neg hlt]
    omega
theorem cvS_tight {n r : Nat} {rd C : Nat → Nat → Nat} (hn : n ≤ 7) (hr : okRd n r rd) (h : okW n r rd C) {k a b : Nat} (hk : k < r) (ha : a < n) (hb : b < n) (hlt : C a b < 1048576) : tgS rd C a b k ↔ incS rd k a ∧ cvS (C (othS rd k a) b) + w100 rd k = cvS (C a b) := by
  have ho := oth_lt hr (a := a) hk
  have h3 := w16_pos hr hk
  have g1 := cvS_way hn hr h ha hb hlt
  constructor
  · intro q
    have q2 := q.2
    have h2 := okW_d6 hn hr h ho hb (by omega)
    refine ⟨q.1, ?_⟩
    rw [← q2, cvS_add h2.1 (by omega) h3.2]; omega
  · intro q
    refine ⟨q.1, ?_⟩
    have q2 := q.2
    have h4 := (cvS_lt hn hr h ho hb).mp (by omega)
    have h2 := okW_d6 hn hr h ho hb h4
    have h5 := cvS_add h2.1 (c := C (othS rd k a) b) (k := k) (rd := rd) (by omega) h3.2
    have e : w16 rd k % 16 ≤ 1 := by unfold w16; split <;> omega
    have e2 : cvS (w16 rd k + C (othS rd k a) b) = 100 * ((w16 rd k + C (othS rd k a) b) / 16) + (w16 rd k + C (othS rd k a) b) % 16 := by unfold cvS; rw [if_pos (by omega)]
    omega
/-- the table after m rounds, k roads, y corners -/
def okB (n r : Nat) (rd C : Nat → Nat → Nat) (m k y : Nat) (A : Nat → Nat → Nat) : Prop :=
  (∀ a b, a < n → b < n → cvS (C a b) ≤ A a b) ∧ (∀ a b, a < n → b < n → A a b ≤ 1000000) ∧ (∀ a b, a < n → b < n → C a b < 1048576 → rnk C n a b ≤ m → A a b = cvS (C a b)) ∧
  (∀ a b j, a < n → b < n → C a b < 1048576 → j < r → tgS rd C a b j → rnk C n (othS rd j a) b ≤ m → (j < k ∨ (j = k ∧ b < y)) → A a b = cvS (C a b))
def rlx (rd : Nat → Nat → Nat) (A : Nat → Nat → Nat) (k y : Nat) : Nat → Nat → Nat := fun a b => if b = y ∧ a = rd 0 k then min (A (rd 0 k) y) (A (rd 1 k) y + w100 rd k) else if b = y ∧ a = rd 1 k then min (A (rd 1 k) y) (A (rd 0 k) y + w100 rd k) else A a b
theorem rlx_le (rd : Nat → Nat → Nat) (A : Nat → Nat → Nat) (k y a b : Nat) : rlx rd A k y a b ≤ A a b := by
  unfold rlx
  split
  · rename_i h; rw [h.1, h.2]; omega
  · split
    · rename_i h; rw [h.1, h.2]; omega
    · omega
theorem rlx_oth {rd : Nat → Nat → Nat} (A : Nat → Nat → Nat) {k a : Nat} (y : Nat) (hd : rd 0 k ≠ rd 1 k) (hi : incS rd k a) : rlx rd A k y a y ≤ A (othS rd k a) y + w100 rd k := by
  unfold rlx othS
  by_cases h : rd 0 k = a
  · rw [if_pos ⟨rfl, h.symm⟩, if_pos h]; omega
  · have h2 : rd 1 k = a := hi.resolve_left h
    rw [if_neg (fun q => h q.2.symm), if_pos ⟨rfl, h2.symm⟩, if_neg h]; omega
theorem okB.step {n r : Nat} {rd C : Nat → Nat → Nat} (hn : n ≤ 7) (hr : okRd n r rd) (h : okW n r rd C) {m k y : Nat} {A : Nat → Nat → Nat} (hk : k < r) (hy : y < n) (q : okB n r rd C m k y A) : okB n r rd C m k (y + 1) (rlx rd A k y) := by
  obtain ⟨lo, hi, u1, u2⟩ := q
  have hq := hr k hk
  have lo' : ∀ a b, a < n → b < n → cvS (C a b) ≤ rlx rd A k y a b := by
    intro a b ha hb
    unfold rlx
    split
    · rename_i e
      have e1 := e.1; have e2 := e.2
      subst e1; subst e2
      have g := cvS_close hn hr h hk ha hb (Or.inl rfl)
      rw [show othS rd k (rd 0 k) = rd 1 k by unfold othS; rw [if_pos rfl]] at g
      have g2 := lo _ b hq.2.1 hb
      have g3 := lo _ b hq.1 hb
      omega
    · split
      · rename_i e
        have e1 := e.1; have e2 := e.2
        subst e1; subst e2
        have g := cvS_close hn hr h hk ha hb (Or.inr rfl)
        rw [show othS rd k (rd 1 k) = rd 0 k by unfold othS; rw [if_neg hq.2.2.1]] at g
        have g2 := lo _ b hq.2.1 hb
        have g3 := lo _ b hq.1 hb
        omega
      · exact lo a b ha hb
  refine ⟨lo', fun a b ha hb => Nat.le_trans (rlx_le ..) (hi a b ha hb), fun a b ha hb hlt hrk => ?_, fun a b j ha hb hlt hj ht hrk hjk => ?_⟩
  · have g1 := rlx_le rd A k y a b
    rw [u1 a b ha hb hlt hrk] at g1
    exact Nat.le_antisymm g1 (lo' a b ha hb)
  · by_cases e : j < k ∨ (j = k ∧ b < y)
    · have g1 := rlx_le rd A k y a b
      rw [u2 a b j ha hb hlt hj ht hrk e] at g1
      exact Nat.le_antisymm g1 (lo' a b ha hb)
    · have e1 : j = k := by omega
      have e2 : b = y := by omega
      subst e1; subst e2
      have g1 := rlx_oth A b hq.2.2.1 ht.1
      have g2 := ((cvS_tight hn hr h hj ha hb hlt).mp ht).2
      have g3 := u1 _ b (oth_lt hr (a := a) hj) hb (by have := ht.2; omega) hrk
      exact Nat.le_antisymm (by omega) (lo' a b ha hb)
theorem okB.col {n r m k : Nat} {rd C A : Nat → Nat → Nat} (q : okB n r rd C m k n A) : okB n r rd C m (k + 1) 0 A :=
  ⟨q.1, q.2.1, q.2.2.1, fun a b j ha hb hlt hj ht hrk hjk => q.2.2.2 a b j ha hb hlt hj ht hrk (by omega)⟩
theorem okB.row {n r m : Nat} {rd C A : Nat → Nat → Nat} (hr : okRd n r rd) (h : okW n r rd C) (q : okB n r rd C m r 0 A) : okB n r rd C (m + 1) 0 0 A := by
  refine ⟨q.1, q.2.1, fun a b ha hb hlt hrk => ?_, fun a b j ha hb hlt hj ht hrk hjk => by omega⟩
  by_cases e : a = b
  · subst e
    by_cases e2 : rnk C n a a ≤ m
    · exact q.2.2.1 a a ha ha hlt e2
    · have hz : rnk C n a a = 0 := by
        unfold rnk
        rw [h.1 a ha]
        have : ∀ x, rkS C a 0 x = 0 := fun x => by
          induction x with
          | zero => rfl
          | succ x ih => rw [rkS, ih, if_neg (Nat.not_lt_zero _)]
        exact this n
      omega
  · obtain ⟨q1, q2, q3, q4, q5, q6⟩ := h.next hr ha hb e hlt
    exact q.2.2.2 a b _ ha hb hlt q1 ⟨q2, q3.symm⟩ (by omega) (Or.inl q1)
theorem okB.start {n r : Nat} {rd C : Nat → Nat → Nat} (hn : n ≤ 7) (hr : okRd n r rd) (h : okW n r rd C) : okB n r rd C 0 0 0 (fun a b => if a = b then 0 else 1000000) := by
  refine ⟨fun a b ha hb => ?_, fun a b ha hb => ?_, fun a b ha hb hlt hrk => ?_, fun a b j ha hb hlt hj ht hrk hjk => by omega⟩
  · show cvS (C a b) ≤ if a = b then 0 else 1000000
    by_cases e : a = b
    · subst e; rw [if_pos rfl, h.1 a ha]; decide
    · rw [if_neg e]; exact cvS_le hn hr h ha hb
  · show (if a = b then 0 else 1000000) ≤ 1000000
    split <;> omega
  · show (if a = b then 0 else 1000000) = cvS (C a b)
    by_cases e : a = b
    · subst e; rw [if_pos rfl, h.1 a ha]; rfl
    · have := (h.next hr ha hb e hlt).2.2.2.2.2; omega
theorem okB.fin {n r : Nat} {rd C A : Nat → Nat → Nat} (hn : n ≤ 7) (hr : okRd n r rd) (h : okW n r rd C) (q : okB n r rd C 7 0 0 A) : ∀ a b, a < n → b < n → A a b = cvS (C a b) := by
  intro a b ha hb
  by_cases hlt : C a b < 1048576
  · have := rnk_lt (C := C) (b := b) ha
    exact q.2.2.1 a b ha hb hlt (by omega)
  · have g1 := q.1 a b ha hb
    have g2 := q.2.1 a b ha hb
    have e : cvS (C a b) = 1000000 := by unfold cvS; rw [if_neg hlt]
    omega
/-- what the reference keeps of ways -/
def mA (n : Nat) (I : KI) (A : Nat → Nat → Nat) : Prop := ∀ a b, a < n → b < n → I 94 (7 * a + b) = nI (A a b)
def mWy (I : KI) (n : Nat) (C : Nat → Nat → Nat) : Prop := mA n I (fun a b => cvS (C a b))
theorem mWy.fr {I I' : KI} {n : Nat} {C : Nat → Nat → Nat} (h : mWy I n C) (hf : I' 94 = I 94) : mWy I' n C := fun a b ha hb => by rw [hf]; exact h a b ha hb
theorem mA.up {n : Nat} {I : KI} {A : Nat → Nat → Nat} (h : mA n I A) (hn : n ≤ 7) {x y v : Nat} (hx : x < n) (hy : y < n) : mA n (upI I 94 (7 * x + y) (nI v)) (fun a b => if b = y ∧ a = x then v else A a b) := by
  intro a b ha hb
  show _ = nI (if b = y ∧ a = x then v else A a b)
  by_cases e : b = y ∧ a = x
  · obtain ⟨rfl, rfl⟩ := e; rw [upI_same, if_pos ⟨rfl, rfl⟩]
  · rw [if_neg e, upI_k _ _ (by omega)]; exact h a b ha hb
theorem mA.cg {n : Nat} {I : KI} {A B : Nat → Nat → Nat} (h : mA n I A) (hab : ∀ a b, a < n → b < n → A a b = B a b) : mA n I B := fun a b ha hb => by rw [h a b ha hb, hab a b ha hb]
def fr94 (I I' : KI) : Prop := ∀ q, q ≠ 94 → I' q = I q
theorem fr94.tw {n r s : Nat} {I I' : KI} {rd : Nat → Nat → Nat} (h : fr94 I I') (hw : mTw I n r s rd) : mTw I' n r s rd := hw.fr (by rw [h 85 (by decide)]) (by rw [h 85 (by decide)]) (by rw [h 85 (by decide)]) (fun p h1 h2 => h p (by omega))
theorem fr94.u {I I' : KI} (h : fr94 I I') {k : Nat} {v : Int32} : fr94 I (upI I' 94 k v) := fun q hq => by rw [upI_row _ _ hq]; exact h q hq
