/-! a week: rows of sets, the latest ahead -/
def fillV (cd : List Nat → Nat → Bool) : Nat → List Nat → List (List Nat)
  | 0, rs => [rs]
  | k + 1, rs => (List.range' 0 32).flatMap (fun x => if cd rs x then fillV cd k (x :: rs) else [])
def vilX (cd : List Nat → Nat → Bool) (k : Nat) (rs : List Nat) (x : Nat) : List (List Nat) := (List.range' x (32 - x)).flatMap (fun x => if cd rs x then fillV cd k (x :: rs) else [])
theorem fillV_X (cd : List Nat → Nat → Bool) (k : Nat) (rs : List Nat) : fillV cd (k + 1) rs = vilX cd k rs 0 := rfl
theorem vilX_end (cd : List Nat → Nat → Bool) (k : Nat) (rs : List Nat) {x : Nat} (h : 32 ≤ x) : vilX cd k rs x = [] := by
  unfold vilX; rw [show 32 - x = 0 by omega]; rfl
theorem vilX_yes {cd : List Nat → Nat → Bool} {k : Nat} {rs : List Nat} {x : Nat} (hx : x < 32) (h : cd rs x = true) : vilX cd k rs x = fillV cd k (x :: rs) ++ vilX cd k rs (x + 1) := by
  unfold vilX
  obtain ⟨d, hd⟩ : ∃ d, 32 - x = d + 1 := ⟨31 - x, by omega⟩
  rw [hd, List.range'_succ, List.flatMap_cons, if_pos h, show 32 - (x + 1) = d by omega]
theorem vilX_no {cd : List Nat → Nat → Bool} {k : Nat} {rs : List Nat} {x : Nat} (hx : x < 32) (h : cd rs x = false) : vilX cd k rs x = vilX cd k rs (x + 1) := by
  unfold vilX
  obtain ⟨d, hd⟩ : ∃ d, 32 - x = d + 1 := ⟨31 - x, by omega⟩
  rw [hd, List.range'_succ, List.flatMap_cons, h, show 32 - (x + 1) = d by omega]
  rfl
theorem vilX_none {cd : List Nat → Nat → Bool} {k : Nat} {rs : List Nat} : ∀ (d x : Nat), 32 - x ≤ d → (∀ y, x ≤ y → y < 32 → cd rs y = false) → vilX cd k rs x = []
  | 0, x, h, _ => vilX_end _ _ _ (by omega)
  | d + 1, x, h, hn => by
    by_cases e : x < 32
    · rw [vilX_no e (hn x (Nat.le_refl _) e)]
      exact vilX_none d (x + 1) (by omega) (fun y h1 h2 => hn y (by omega) h2)
    · exact vilX_end _ _ _ (by omega)
theorem vilX_to {cd : List Nat → Nat → Bool} {k : Nat} {rs : List Nat} {y : Nat} (hy : y ≤ 32) : ∀ (d x : Nat), y - x ≤ d → x ≤ y → (∀ z, x ≤ z → z < y → cd rs z = false) → vilX cd k rs x = vilX cd k rs y
  | 0, x, h, h2, _ => by rw [show x = y by omega]
  | d + 1, x, h, h2, hn => by
    by_cases e : x = y
    · rw [e]
    · rw [vilX_no (by omega) (hn x (Nat.le_refl _) (by omega))]
      exact vilX_to hy d (x + 1) (by omega) (by omega) (fun z h3 h4 => hn z (by omega) h4)
def dyS : List Nat → Nat → Nat
  | [], _ => 0
  | x :: rs, h => dyS rs h + (if x.testBit h then 1 else 0)
def mxN (g : Nat → Nat) : Nat → Nat
  | 0 => 0
  | n + 1 => max (mxN g n) (g n)
theorem mxN_le {g : Nat → Nat} {m : Nat} : ∀ n, mxN g n ≤ m ↔ ∀ i, i < n → g i ≤ m
  | 0 => ⟨fun _ i hi => absurd hi (Nat.not_lt_zero _), fun _ => Nat.zero_le _⟩
  | n + 1 => by
    rw [mxN, Nat.max_le, mxN_le n]
    constructor
    · rintro ⟨h1, h2⟩ i hi
      by_cases e : i = n
      · subst e; exact h2
      · exact h1 i (by omega)
    · intro h
      exact ⟨fun i hi => h i (by omega), h n (by omega)⟩
theorem mxN_ext {g : Nat → Nat} {c : Nat} (h : ∀ i, c ≤ i → g i = 0) : ∀ k, mxN g (c + k) = mxN g c
  | 0 => rfl
  | k + 1 => by rw [← Nat.add_assoc, mxN, mxN_ext h k, h (c + k) (by omega)]; omega
def mdS (o : List Nat) : Nat := mxN (dyS o) 5
theorem dyS_mono {cd : List Nat → Nat → Bool} : ∀ (k : Nat) (rs o : List Nat), o ∈ fillV cd k rs → ∀ h, dyS rs h ≤ dyS o h
  | 0, rs, o, ho, h => by rw [fillV] at ho; rw [List.mem_singleton.mp ho]; exact Nat.le_refl _
  | k + 1, rs, o, ho, h => by
    rw [fillV] at ho
    obtain ⟨y, hy, ho⟩ := List.mem_flatMap.mp ho
    by_cases e : cd rs y = true
    · rw [if_pos e] at ho
      have := dyS_mono k (y :: rs) o ho h
      rw [dyS] at this
      omega
    · rw [if_neg e] at ho; cases ho
theorem mdS_mono {cd : List Nat → Nat → Bool} {k : Nat} {rs o : List Nat} (ho : o ∈ fillV cd k rs) : mdS rs ≤ mdS o := by
  refine (mxN_le 5).mpr (fun i hi => ?_)
  have h1 := dyS_mono k rs o ho i
  have h2 := (mxN_le (g := dyS o) (m := mdS o) 5).mp (Nat.le_refl _) i hi
  omega
theorem dyS_len : ∀ (rs : List Nat) (h : Nat), dyS rs h ≤ rs.length
  | [], _ => Nat.le_refl _
  | x :: rs, h => by
    have := dyS_len rs h
    rw [dyS, List.length_cons]
    split <;> omega
theorem mdS_len (rs : List Nat) : mdS rs ≤ rs.length := (mxN_le 5).mpr (fun i _ => dyS_len rs i)
theorem fillV_len {cd : List Nat → Nat → Bool} : ∀ (k : Nat) (rs o : List Nat), o ∈ fillV cd k rs → o.length = rs.length + k
  | 0, rs, o, ho => by rw [fillV] at ho; rw [List.mem_singleton.mp ho]; rfl
  | k + 1, rs, o, ho => by
    rw [fillV] at ho
    obtain ⟨y, hy, ho⟩ := List.mem_flatMap.mp ho
    by_cases e : cd rs y = true
    · rw [if_pos e] at ho
      have := fillV_len k (y :: rs) o ho
      rw [List.length_cons] at this
      omega
    · rw [if_neg e] at ho; cases ho
def ablS (hd : Nat → Nat) (hc d : Nat) : Nat := msk (fun h => (hd h).testBit d) hc
def cdW (hd : Nat → Nat) (hc need : Nat) (rs : List Nat) (x : Nat) : Bool := decide (popS x = need) && clr x (ablS hd hc rs.length) == 0
def wkLs (hd : Nat → Nat) (hc need : Nat) : List (List Nat) := fillV (cdW hd hc need) 5 []
def bsW (f : List Nat → Nat) : List (List Nat) → Nat × List Nat → Nat × List Nat
  | [], b => b
  | o :: l, b => bsW f l (if b.1 = 0 ∨ f o + 1 < b.1 then (f o + 1, o) else b)
def weB (hd : Nat → Nat) (hc need : Nat) : Nat × List Nat := bsW mdS (wkLs hd hc need) (0, [])
theorem bsW_app (f : List Nat → Nat) : ∀ (l m : List (List Nat)) (b : Nat × List Nat), bsW f (l ++ m) b = bsW f m (bsW f l b)
  | [], _, _ => rfl
  | o :: l, m, b => by rw [List.cons_append, bsW, bsW]; exact bsW_app f l m _
theorem bsW_keep {f : List Nat → Nat} : ∀ (l : List (List Nat)) (b : Nat × List Nat), b.1 ≠ 0 → (∀ o, o ∈ l → b.1 ≤ f o + 1) → bsW f l b = b
  | [], _, _, _ => rfl
  | o :: l, b, h0, h => by
    rw [bsW, if_neg (by have := h o (List.mem_cons_self); omega)]
    exact bsW_keep l b h0 (fun x hx => h x (List.mem_cons_of_mem _ hx))
theorem bsW_first {f : List Nat → Nat} {m : Nat} : ∀ (l : List (List Nat)) (b : Nat × List Nat) (o : List Nat), (b.1 = 0 ∨ m + 1 < b.1) → (∀ x, x ∈ l → m ≤ f x) → l.find? (fun o => decide (f o ≤ m)) = some o → bsW f l b = (m + 1, o)
  | [], _, _, _, _, h => by cases h
  | y :: l, b, o, hb, hall, h => by
    have hy := hall y (List.mem_cons_self)
    rw [List.find?_cons] at h
    by_cases e : f y ≤ m
    · rw [decide_eq_true e] at h
      have ho : y = o := Option.some.inj h
      subst ho
      have hfy : f y = m := by omega
      rw [bsW, hfy, if_pos (by omega)]
      exact bsW_keep l _ (by show m + 1 ≠ 0; omega) (fun x hx => by have := hall x (List.mem_cons_of_mem _ hx); show m + 1 ≤ f x + 1; omega)
    · rw [decide_eq_false e] at h
      rw [bsW]
      refine bsW_first l _ o ?_ (fun x hx => hall x (List.mem_cons_of_mem _ hx)) h
      split
      · right; show m + 1 < f y + 1; omega
      · exact hb
theorem ablS_bit (hd : Nat → Nat) (hc d i : Nat) : (ablS hd hc d).testBit i = (decide (i < hc) && (hd i).testBit d) := msk_bit _ hc i
theorem ablS_lt {hd : Nat → Nat} {hc d : Nat} : ablS hd hc d < 2 ^ hc := msk_lt _ hc
theorem clr_0 {x a : Nat} : clr x a = 0 ↔ ∀ i, x.testBit i = true → a.testBit i = true := by
  constructor
  · intro h i hi
    have := congrArg (fun z => z.testBit i) h
    simp only [clr_bit, Nat.zero_testBit, hi, Bool.true_and, Bool.not_eq_false'] at this
    exact this
  · intro h
    apply Nat.eq_of_testBit_eq
    intro i
    rw [clr_bit, Nat.zero_testBit]
    cases e : x.testBit i with
    | false => rfl
    | true => rw [h i e]; rfl
theorem clr_lt {x a n : Nat} (h : clr x a = 0) (ha : a < 2 ^ n) : x < 2 ^ n := by
  refine Nat.lt_pow_two_of_testBit x (fun i hi => ?_)
  cases e : x.testBit i with
  | false => rfl
  | true =>
    have := clr_0.mp h i e
    rw [Nat.testBit_lt_two_pow (Nat.lt_of_lt_of_le ha (Nat.pow_le_pow_right (by decide) hi))] at this
    cases this
theorem cdW_t {hd : Nat → Nat} {hc need x : Nat} {rs : List Nat} : cdW hd hc need rs x = true ↔ popS x = need ∧ clr x (ablS hd hc rs.length) = 0 := by
  unfold cdW; rw [Bool.and_eq_true, decide_eq_true_eq, beq_iff_eq]
theorem cdW_big {hd : Nat → Nat} {hc need x : Nat} {rs : List Nat} (h : 2 ^ hc ≤ x) : cdW hd hc need rs x = false :=
  eq_false_of_ne_true (fun q => by have := clr_lt (cdW_t.mp q).2 ablS_lt; omega)
theorem popS_sub {x a : Nat} (h : clr x a = 0) : popS x ≤ popS a := pop_sub (clr_0.mp h) 30
theorem wk_none {hd : Nat → Nat} {hc need d : Nat} (hd5 : d < 5) (h : popS (ablS hd hc d) < need) : ∀ (k : Nat) (rs : List Nat), rs.length + k = 5 → rs.length ≤ d → fillV (cdW hd hc need) k rs = []
  | 0, rs, h1, h2 => by omega
  | k + 1, rs, h1, h2 => by
    rw [fillV_X]
    by_cases e : rs.length = d
    · refine vilX_none 32 0 (by omega) (fun y _ _ => eq_false_of_ne_true (fun q => ?_))
      have q2 := cdW_t.mp q
      have := popS_sub q2.2
      rw [e] at this
      omega
    · have : ∀ x, fillV (cdW hd hc need) k (x :: rs) = [] := fun x => wk_none hd5 h k (x :: rs) (by rw [List.length_cons]; omega) (by rw [List.length_cons]; omega)
      unfold vilX
      refine List.flatMap_eq_nil_iff.mpr (fun x _ => ?_)
      rw [this x]
      split <;> rfl
def rowB (I : KI) (p : Nat) (rs : List Nat) : Prop := ∀ i, i < rs.length → I p i = nI (rs.getD (rs.length - 1 - i) 0)
theorem rowB.cons {I : KI} {p x : Nat} {rs : List Nat} (h : rowB I p rs) (hx : I p rs.length = nI x) : rowB I p (x :: rs) := by
  intro i hi
  rw [List.length_cons] at hi ⊢
  by_cases e : i = rs.length
  · subst e; rw [hx, show rs.length + 1 - 1 - rs.length = 0 by omega]; rfl
  · rw [h i (by omega), show rs.length + 1 - 1 - i = (rs.length - 1 - i) + 1 by omega]; rfl
theorem rowB.tail {I : KI} {p x : Nat} {rs : List Nat} (h : rowB I p (x :: rs)) : rowB I p rs := by
  intro i hi
  rw [h i (by rw [List.length_cons]; omega), List.length_cons, show rs.length + 1 - 1 - i = (rs.length - 1 - i) + 1 by omega]; rfl
theorem rowB.last {I : KI} {p x : Nat} {rs : List Nat} (h : rowB I p (x :: rs)) : I p rs.length = nI x := by
  rw [h rs.length (by rw [List.length_cons]; omega), List.length_cons, show rs.length + 1 - 1 - rs.length = 0 by omega]; rfl
theorem rowB.fr {I I' : KI} {p : Nat} {rs : List Nat} (h : rowB I p rs) (hf : ∀ i, i < rs.length → I' p i = I p i) : rowB I' p rs := fun i hi => by rw [hf i hi]; exact h i hi
def wkR (nv kv : Int32) : Option Int32 := if ¬ isB 0 3 nv then some (-2) else if ¬ isB (-1) 4 kv then some (-1) else none
def wkV (b : Nat × List Nat) (kv : Int32) : Int32 := if b.1 = 0 then -9 else if kv = -1 then nI (b.1 - 1) else nI (b.2.getD (4 - kv.toNatClampNeg) 0)
def bdM (most : Nat) (o : List Nat) : Bool := decide (mdS o ≤ most)
def wfP (ad : Nat → Nat) (J : KJ) (t need most : Nat) (hd : Nat → Nat) (hc k : Nat) : Prop :=
  ∀ (I : KI) (rs : List Nat) (Q : Int32 → KI → KJ → KR → Prop), rs.length + k = 5 → I 63 3 = nI need → I 63 4 = nI most → (∀ d, d < 5 → I 64 d = nI (ablS hd hc d)) → (∀ h, h < 5 → I 65 h = nI (dyS rs h)) → (∀ h, h < 5 → dyS rs h ≤ most) → rowB I 66 rs →
  (∀ I' o, (fillV (cdW hd hc need) k rs).find? (bdM most) = some o → (∀ q, q ≠ 65 → q ≠ 66 → I' q = I q) → rowB I' 66 o → Q 1 I' J (rf t)) →
  (∀ I', (fillV (cdW hd hc need) k rs).find? (bdM most) = none → (∀ q, q ≠ 65 → q ≠ 66 → I' q = I q) → (∀ h, h < 5 → I' 65 h = nI (dyS rs h)) → (∀ i, i < rs.length → I' 66 i = I 66 i) → Q 0 I' J (rf t)) →
  Mi (k + 3) yX8_fill (wm yX8_fill cX8_fill 3 (some .boolean)) [.ref (ad 63), .int (nI rs.length)] ad I J (rf t) Q
theorem find_more {hd : Nat → Nat} {hc need most k x h : Nat} {rs : List Nat} (hh : h < 5) (hb : most < dyS (x :: rs) h) : (fillV (cdW hd hc need) k (x :: rs)).find? (bdM most) = none := by
  refine List.find?_eq_none.mpr (fun o ho q => ?_)
  unfold bdM at q
  rw [decide_eq_true_eq] at q
  have h1 := mdS_mono ho
  have h2 := (mxN_le (g := dyS (x :: rs)) (m := mdS (x :: rs)) 5).mp (Nat.le_refl _) h hh
  omega
theorem add_one (d : Nat) (b : Bool) : nI d + (if b then (1 : Int32) else 0) * 1 = nI (d + (if b then 1 else 0)) := by
  cases b
  · show nI d + 0 * 1 = nI d
    rw [show (0 : Int32) * 1 = 0 from rfl, Int32.add_zero]
  · exact nI_1 d
theorem sub_back (d : Nat) (b : Bool) : nI (d + (if b then 1 else 0)) + (if b then (1 : Int32) else 0) * (-1) = nI d := by
  cases b
  · show nI d + 0 * (-1) = nI d
    rw [show (0 : Int32) * (-1) = 0 from rfl, Int32.add_zero]
  · exact nI_prd d
