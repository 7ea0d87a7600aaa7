/-! the world by places: every object and array of the run has a place (0 .. 109, in the order of their making); what they hold is told by three functions of place and slot -/
abbrev KI : Type := Nat → Nat → Int32
abbrev KJ : Type := Nat → Nat → Int64
abbrev KR : Type := Nat → Nat → Option Nat
def shL : List (Nat × Nat) := [(9, 0), (14, 4), (4, 0), (11, 100), (7, 0), (11, 12), (11, 12), (11, 12), (11, 12), (11, 12), (15, 7), (11, 7), (11, 7), (11, 7), (11, 7), (11, 7), (11, 7), (11, 7), (15, 7), (11, 7), (11, 7), (11, 7), (11, 7), (11, 7), (11, 7), (11, 7), (7, 0), (11, 12), (11, 12), (11, 12), (11, 12), (11, 12), (15, 7), (11, 7), (11, 7), (11, 7), (11, 7), (11, 7), (11, 7), (11, 7), (15, 7), (11, 7), (11, 7), (11, 7), (11, 7), (11, 7), (11, 7), (11, 7), (13, 10), (2, 0), (1, 0), (11, 7), (11, 7), (11, 7), (3, 0), (12, 136), (11, 4), (5, 0), (11, 10), (11, 10), (11, 8), (11, 8), (11, 5), (8, 0), (11, 5), (11, 5), (11, 5), (6, 0), (11, 100), (6, 0), (11, 100), (6, 0), (11, 100), (6, 0), (11, 100), (0, 0), (0, 0), (0, 0), (0, 0), (0, 0), (0, 0), (0, 0), (0, 0), (0, 0), (0, 0), (10, 0), (11, 4), (11, 4), (11, 400), (11, 12), (11, 12), (11, 12), (11, 12), (11, 12), (11, 49), (11, 60), (11, 10), (11, 10), (11, 10), (11, 10), (11, 100), (12, 7001), (11, 7), (11, 4), (11, 7), (11, 8), (11, 8), (11, 5), (11, 5), (11, 5)]
def sh (p : Nat) : Nat × Nat := shL.getD p (99, 0)
theorem sh_0 : sh 0 = (9, 0) := rfl
theorem sh_1 : sh 1 = (14, 4) := rfl
theorem sh_2 : sh 2 = (4, 0) := rfl
theorem sh_3 : sh 3 = (11, 100) := rfl
theorem sh_4 : sh 4 = (7, 0) := rfl
theorem sh_5 : sh 5 = (11, 12) := rfl
theorem sh_6 : sh 6 = (11, 12) := rfl
theorem sh_7 : sh 7 = (11, 12) := rfl
theorem sh_8 : sh 8 = (11, 12) := rfl
theorem sh_9 : sh 9 = (11, 12) := rfl
theorem sh_10 : sh 10 = (15, 7) := rfl
theorem sh_11 : sh 11 = (11, 7) := rfl
theorem sh_12 : sh 12 = (11, 7) := rfl
theorem sh_13 : sh 13 = (11, 7) := rfl
theorem sh_14 : sh 14 = (11, 7) := rfl
theorem sh_15 : sh 15 = (11, 7) := rfl
theorem sh_16 : sh 16 = (11, 7) := rfl
theorem sh_17 : sh 17 = (11, 7) := rfl
theorem sh_18 : sh 18 = (15, 7) := rfl
theorem sh_19 : sh 19 = (11, 7) := rfl
theorem sh_20 : sh 20 = (11, 7) := rfl
theorem sh_21 : sh 21 = (11, 7) := rfl
theorem sh_22 : sh 22 = (11, 7) := rfl
theorem sh_23 : sh 23 = (11, 7) := rfl
theorem sh_24 : sh 24 = (11, 7) := rfl
theorem sh_25 : sh 25 = (11, 7) := rfl
theorem sh_26 : sh 26 = (7, 0) := rfl
theorem sh_27 : sh 27 = (11, 12) := rfl
theorem sh_28 : sh 28 = (11, 12) := rfl
theorem sh_29 : sh 29 = (11, 12) := rfl
theorem sh_30 : sh 30 = (11, 12) := rfl
theorem sh_31 : sh 31 = (11, 12) := rfl
theorem sh_32 : sh 32 = (15, 7) := rfl
theorem sh_33 : sh 33 = (11, 7) := rfl
theorem sh_34 : sh 34 = (11, 7) := rfl
theorem sh_35 : sh 35 = (11, 7) := rfl
theorem sh_36 : sh 36 = (11, 7) := rfl
theorem sh_37 : sh 37 = (11, 7) := rfl
theorem sh_38 : sh 38 = (11, 7) := rfl
theorem sh_39 : sh 39 = (11, 7) := rfl
theorem sh_40 : sh 40 = (15, 7) := rfl
theorem sh_41 : sh 41 = (11, 7) := rfl
theorem sh_42 : sh 42 = (11, 7) := rfl
theorem sh_43 : sh 43 = (11, 7) := rfl
theorem sh_44 : sh 44 = (11, 7) := rfl
theorem sh_45 : sh 45 = (11, 7) := rfl
theorem sh_46 : sh 46 = (11, 7) := rfl
theorem sh_47 : sh 47 = (11, 7) := rfl
theorem sh_48 : sh 48 = (13, 10) := rfl
theorem sh_49 : sh 49 = (2, 0) := rfl
theorem sh_50 : sh 50 = (1, 0) := rfl
theorem sh_51 : sh 51 = (11, 7) := rfl
theorem sh_52 : sh 52 = (11, 7) := rfl
theorem sh_53 : sh 53 = (11, 7) := rfl
theorem sh_54 : sh 54 = (3, 0) := rfl
theorem sh_55 : sh 55 = (12, 136) := rfl
theorem sh_56 : sh 56 = (11, 4) := rfl
theorem sh_57 : sh 57 = (5, 0) := rfl
theorem sh_58 : sh 58 = (11, 10) := rfl
theorem sh_59 : sh 59 = (11, 10) := rfl
theorem sh_60 : sh 60 = (11, 8) := rfl
theorem sh_61 : sh 61 = (11, 8) := rfl
theorem sh_62 : sh 62 = (11, 5) := rfl
theorem sh_63 : sh 63 = (8, 0) := rfl
theorem sh_64 : sh 64 = (11, 5) := rfl
theorem sh_65 : sh 65 = (11, 5) := rfl
theorem sh_66 : sh 66 = (11, 5) := rfl
theorem sh_67 : sh 67 = (6, 0) := rfl
theorem sh_68 : sh 68 = (11, 100) := rfl
theorem sh_69 : sh 69 = (6, 0) := rfl
theorem sh_70 : sh 70 = (11, 100) := rfl
theorem sh_71 : sh 71 = (6, 0) := rfl
theorem sh_72 : sh 72 = (11, 100) := rfl
theorem sh_73 : sh 73 = (6, 0) := rfl
theorem sh_74 : sh 74 = (11, 100) := rfl
theorem sh_75 : sh 75 = (0, 0) := rfl
theorem sh_76 : sh 76 = (0, 0) := rfl
theorem sh_77 : sh 77 = (0, 0) := rfl
theorem sh_78 : sh 78 = (0, 0) := rfl
theorem sh_79 : sh 79 = (0, 0) := rfl
theorem sh_80 : sh 80 = (0, 0) := rfl
theorem sh_81 : sh 81 = (0, 0) := rfl
theorem sh_82 : sh 82 = (0, 0) := rfl
theorem sh_83 : sh 83 = (0, 0) := rfl
theorem sh_84 : sh 84 = (0, 0) := rfl
theorem sh_85 : sh 85 = (10, 0) := rfl
theorem sh_86 : sh 86 = (11, 4) := rfl
theorem sh_87 : sh 87 = (11, 4) := rfl
theorem sh_88 : sh 88 = (11, 400) := rfl
theorem sh_89 : sh 89 = (11, 12) := rfl
theorem sh_90 : sh 90 = (11, 12) := rfl
theorem sh_91 : sh 91 = (11, 12) := rfl
theorem sh_92 : sh 92 = (11, 12) := rfl
theorem sh_93 : sh 93 = (11, 12) := rfl
theorem sh_94 : sh 94 = (11, 49) := rfl
theorem sh_95 : sh 95 = (11, 60) := rfl
theorem sh_96 : sh 96 = (11, 10) := rfl
theorem sh_97 : sh 97 = (11, 10) := rfl
theorem sh_98 : sh 98 = (11, 10) := rfl
theorem sh_99 : sh 99 = (11, 10) := rfl
theorem sh_100 : sh 100 = (11, 100) := rfl
theorem sh_101 : sh 101 = (12, 7001) := rfl
theorem sh_102 : sh 102 = (11, 7) := rfl
theorem sh_103 : sh 103 = (11, 4) := rfl
theorem sh_104 : sh 104 = (11, 7) := rfl
theorem sh_105 : sh 105 = (11, 8) := rfl
theorem sh_106 : sh 106 = (11, 8) := rfl
theorem sh_107 : sh 107 = (11, 5) := rfl
theorem sh_108 : sh 108 = (11, 5) := rfl
theorem sh_109 : sh 109 = (11, 5) := rfl
def fkL : List (List Nat) := [[0, 0, 0, 0, 0, 0], [0, 2, 2, 2], [2, 2, 2], [2, 0, 0, 1], [2, 0, 0], [2, 2, 2, 2, 0, 0, 0, 0, 0, 0, 0], [0, 0, 0, 2], [0, 0, 0, 2, 2, 2, 2, 2, 2, 2], [2, 2, 2, 0, 0, 0], [2, 2, 2, 2, 2, 0, 2, 2, 0, 2, 0, 2, 0, 0, 0, 0, 0], [0, 0, 2, 2, 2, 0, 0, 0, 2, 2, 2, 2, 2, 2, 0, 0, 0, 2, 0, 0, 2, 2, 2, 2, 2, 2, 2, 0, 0, 0, 2, 2, 0, 2, 2, 0, 1, 0, 2, 2, 2, 0]]
def fk (ci : Nat) : List Nat := fkL.getD ci []
def fldv (ad : Nat → Nat) (I : KI) (J : KJ) (Rf : KR) (p k t : Nat) : Value := if t = 0 then .int (I p k) else if t = 1 then .long (J p k) else va_rf ((Rf p k).map ad)
def flds (ad : Nat → Nat) (I : KI) (J : KJ) (Rf : KR) (p ci : Nat) : List Value := (List.range (fk ci).length).map (fun k => fldv ad I J Rf p k ((fk ci).getD k 0))
def cellE (cy : Nat → ClassId) (ad : Nat → Nat) (I : KI) (J : KJ) (Rf : KR) (p : Nat) : va_E :=
  if (sh p).1 < 11 then .inr ((sh p).1, flds ad I J Rf p (sh p).1) else if (sh p).1 = 11 then .inl (cy 0, (sh p).2, .inl (I p)) else if (sh p).1 = 12 then .inl (cy 1, (sh p).2, .inr (.inl (J p))) else .inl (cy ((sh p).1 - 11), (sh p).2, .inr (.inr (.inr (.inr (fun i => (Rf p i).map ad)))))
def wsO (cy : Nat → ClassId) (ad : Nat → Nat) (N : Nat) (I : KI) (J : KJ) (Rf : KR) : va_W := (List.range N).map (fun p => (ad p, cellE cy ad I J Rf p))
def tysO (cy : Nat → ClassId) : List (ClassId × FieldType) := [(cy 0, .int), (cy 1, .long), (cy 2, .object RX0), (cy 3, .object RX6), (cy 4, .array .int)]
def upI (I : KI) (p k : Nat) (v : Int32) : KI := fun q j => if q = p ∧ j = k then v else I q j
def upJ (J : KJ) (p k : Nat) (v : Int64) : KJ := fun q j => if q = p ∧ j = k then v else J q j
def upR (Rf : KR) (p k : Nat) (v : Option Nat) : KR := fun q j => if q = p ∧ j = k then v else Rf q j
theorem upI_same (I : KI) (p k : Nat) (v : Int32) : upI I p k v p k = v := if_pos ⟨rfl, rfl⟩
theorem upI_p (I : KI) {p k q j : Nat} (v : Int32) (h : q ≠ p) : upI I p k v q j = I q j := if_neg (fun e => h e.1)
theorem upI_k (I : KI) {p k q j : Nat} (v : Int32) (h : j ≠ k) : upI I p k v q j = I q j := if_neg (fun e => h e.2)
theorem upI_row (I : KI) {p k q : Nat} (v : Int32) (h : q ≠ p) : upI I p k v q = I q := funext fun j => upI_p I v h
theorem upI_at (I : KI) (p k : Nat) (v : Int32) : upI I p k v p = upd (I p) k v := by
  funext j; unfold upI upd; by_cases h : j = k <;> simp [h]
theorem upJ_same (J : KJ) (p k : Nat) (v : Int64) : upJ J p k v p k = v := if_pos ⟨rfl, rfl⟩
theorem upJ_p (J : KJ) {p k q j : Nat} (v : Int64) (h : q ≠ p) : upJ J p k v q j = J q j := if_neg (fun e => h e.1)
theorem upJ_k (J : KJ) {p k q j : Nat} (v : Int64) (h : j ≠ k) : upJ J p k v q j = J q j := if_neg (fun e => h e.2)
theorem upJ_row (J : KJ) {p k q : Nat} (v : Int64) (h : q ≠ p) : upJ J p k v q = J q := funext fun j => upJ_p J v h
theorem upJ_at (J : KJ) (p k : Nat) (v : Int64) : upJ J p k v p = vp_updL (J p) k v := by
  funext j; unfold upJ vp_updL; by_cases h : j = k <;> simp [h]
theorem upR_same (Rf : KR) (p k : Nat) (v : Option Nat) : upR Rf p k v p k = v := if_pos ⟨rfl, rfl⟩
theorem upR_p (Rf : KR) {p k q j : Nat} (v : Option Nat) (h : q ≠ p) : upR Rf p k v q j = Rf q j := if_neg (fun e => h e.1)
theorem upR_k (Rf : KR) {p k q j : Nat} (v : Option Nat) (h : j ≠ k) : upR Rf p k v q j = Rf q j := if_neg (fun e => h e.2)
theorem wsO_get {cy : Nat → ClassId} {ad : Nat → Nat} {N : Nat} {I : KI} {J : KJ} {Rf : KR} {p : Nat} (h : p < N) : (wsO cy ad N I J Rf)[p]? = some (ad p, cellE cy ad I J Rf p) := by
  unfold wsO; rw [List.getElem?_map, List.getElem?_range h]; rfl
theorem wsO_some {cy : Nat → ClassId} {ad : Nat → Nat} {N : Nat} {I : KI} {J : KJ} {Rf : KR} {p : Nat} {q : Nat × va_E} (h : (wsO cy ad N I J Rf)[p]? = some q) : p < N ∧ q = (ad p, cellE cy ad I J Rf p) := by
  by_cases hp : p < N
  · rw [wsO_get hp] at h; exact ⟨hp, (Option.some.inj h).symm⟩
  · unfold wsO at h
    rw [List.getElem?_map, List.getElem?_eq_none (by rw [List.length_range]; omega)] at h
    cases h
theorem wsO_set {cy : Nat → ClassId} {ad : Nat → Nat} {N : Nat} {I I' : KI} {J J' : KJ} {Rf Rf' : KR} {p : Nat} {e : va_E} (h : p < N) (he : cellE cy ad I' J' Rf' p = e) (ho : ∀ q, q ≠ p → cellE cy ad I' J' Rf' q = cellE cy ad I J Rf q) : (wsO cy ad N I J Rf).set p (ad p, e) = wsO cy ad N I' J' Rf' := by
  apply List.ext_getElem?
  intro q
  rw [List.getElem?_set]
  have hl : (wsO cy ad N I J Rf).length = N := by unfold wsO; simp
  by_cases hq : p = q
  · subst hq
    rw [if_pos rfl, if_pos (by rw [hl]; exact h), wsO_get h, he]
  · rw [if_neg hq]
    by_cases hqN : q < N
    · rw [wsO_get hqN, wsO_get hqN, ho q (fun z => hq z.symm)]
    · unfold wsO
      rw [List.getElem?_map, List.getElem?_map, List.getElem?_eq_none (by rw [List.length_range]; omega)]
      rfl
theorem wsO_D {cy : Nat → ClassId} {ad : Nat → Nat} {N : Nat} {I I' : KI} {J J' : KJ} {Rf Rf' : KR} {A : Nat → Prop} (h : va_D A (wsO cy ad N I J Rf)) : va_D A (wsO cy ad N I' J' Rf') := by
  refine ⟨fun i j p q hp hq e => ?_, fun k q hq => ?_⟩
  · obtain ⟨hi, rfl⟩ := wsO_some hp
    obtain ⟨hj, rfl⟩ := wsO_some hq
    exact h.1 i j _ _ (wsO_get hi) (wsO_get hj) e
  · obtain ⟨hk, rfl⟩ := wsO_some hq
    have h1 := h.2 k (ad k, cellE cy ad I J Rf k) (wsO_get hk)
    exact h1
theorem cell_obj {cy : Nat → ClassId} {ad : Nat → Nat} {I : KI} {J : KJ} {Rf : KR} {p ci n : Nat} (h : sh p = (ci, n)) (hc : ci < 11) : cellE cy ad I J Rf p = .inr (ci, flds ad I J Rf p ci) := by
  unfold cellE; rw [h]; exact if_pos hc
theorem cell_I {cy : Nat → ClassId} {ad : Nat → Nat} {I : KI} {J : KJ} {Rf : KR} {p n : Nat} (h : sh p = (11, n)) : cellE cy ad I J Rf p = .inl (cy 0, n, .inl (I p)) := by
  unfold cellE; rw [h]; rfl
theorem cell_J {cy : Nat → ClassId} {ad : Nat → Nat} {I : KI} {J : KJ} {Rf : KR} {p n : Nat} (h : sh p = (12, n)) : cellE cy ad I J Rf p = .inl (cy 1, n, .inr (.inl (J p))) := by
  unfold cellE; rw [h]; rfl
theorem cell_R {cy : Nat → ClassId} {ad : Nat → Nat} {I : KI} {J : KJ} {Rf : KR} {p ci n : Nat} (h : sh p = (ci + 13, n)) : cellE cy ad I J Rf p = .inl (cy (ci + 2), n, .inr (.inr (.inr (.inr (fun i => (Rf p i).map ad))))) := by
  unfold cellE
  rw [h]
  show (if ci + 13 < 11 then _ else if ci + 13 = 11 then _ else if ci + 13 = 12 then _ else _) = _
  rw [if_neg (by omega), if_neg (by omega), if_neg (by omega)]
  rfl
theorem flds_get {ad : Nat → Nat} {I : KI} {J : KJ} {Rf : KR} {p ci k t : Nat} (h : (fk ci)[k]? = some t) : (flds ad I J Rf p ci)[k]? = some (fldv ad I J Rf p k t) := by
  obtain ⟨hk, he⟩ := List.getElem?_eq_some_iff.mp h
  unfold flds
  rw [List.getElem?_map, List.getElem?_range hk]
  show some (fldv ad I J Rf p k ((fk ci).getD k 0)) = _
  rw [List.getD_eq_getElem?_getD, h]
  rfl
theorem flds_len {ad : Nat → Nat} {I : KI} {J : KJ} {Rf : KR} {p ci : Nat} : (flds ad I J Rf p ci).length = (fk ci).length := by unfold flds; simp
theorem flds_set {ad : Nat → Nat} {I I' : KI} {J J' : KJ} {Rf Rf' : KR} {p ci k t : Nat} {v : Value} (h : (fk ci)[k]? = some t) (hv : fldv ad I' J' Rf' p k t = v) (ho : ∀ j u, j ≠ k → fldv ad I' J' Rf' p j u = fldv ad I J Rf p j u) : (flds ad I J Rf p ci).set k v = flds ad I' J' Rf' p ci := by
  obtain ⟨hk, -⟩ := List.getElem?_eq_some_iff.mp h
  apply List.ext_getElem?
  intro j
  rw [List.getElem?_set, flds_len]
  by_cases hj : k = j
  · subst hj
    rw [if_pos rfl, if_pos hk, flds_get h, hv]
  · rw [if_neg hj]
    cases hu : (fk ci)[j]? with
    | none =>
      have h1 := List.getElem?_eq_none_iff.mp hu
      rw [List.getElem?_eq_none (by rw [flds_len]; exact h1), List.getElem?_eq_none (by rw [flds_len]; exact h1)]
    | some u => rw [flds_get hu, flds_get hu, ho j u (fun z => hj z.symm)]
theorem cellE_I {cy : Nat → ClassId} {ad : Nat → Nat} {I : KI} {J : KJ} {Rf : KR} {p k q : Nat} {v : Int32} (h : q ≠ p) : cellE cy ad (upI I p k v) J Rf q = cellE cy ad I J Rf q := by
  unfold cellE flds fldv; simp only [upI_row I v h]
theorem cellE_J {cy : Nat → ClassId} {ad : Nat → Nat} {I : KI} {J : KJ} {Rf : KR} {p k q : Nat} {v : Int64} (h : q ≠ p) : cellE cy ad I (upJ J p k v) Rf q = cellE cy ad I J Rf q := by
  unfold cellE flds fldv; simp only [upJ_row J v h]
theorem cellE_R {cy : Nat → ClassId} {ad : Nat → Nat} {I : KI} {J : KJ} {Rf : KR} {p k q : Nat} {v : Option Nat} (h : q ≠ p) : cellE cy ad I J (upR Rf p k v) q = cellE cy ad I J Rf q := by
  unfold cellE flds fldv; simp only [upR_p Rf v h]
/-! the judgement -/
def rmd (d : Nat) : Room := { frames := d, cells := 0, slots := 0, locals := 40 * d }
abbrev KX : Type := Program × Launch × Env × Room × State × MethodId × Array Value × List Frame × Method × Code × va_G × (Nat → ClassId) × (Nat → Prop) × (State → Prop) × (Nat → Nat) × Nat
abbrev xp (X : KX) : Program := X.1
abbrev xl (X : KX) : Launch := X.2.1
abbrev xe (X : KX) : Env := X.2.2.1
abbrev xRm (X : KX) : Room := X.2.2.2.1
abbrev xs (X : KX) : State := X.2.2.2.2.1
abbrev xm (X : KX) : MethodId := X.2.2.2.2.2.1
abbrev xa (X : KX) : Array Value := X.2.2.2.2.2.2.1
abbrev xbelow (X : KX) : List Frame := X.2.2.2.2.2.2.2.1
abbrev xmeth (X : KX) : Method := X.2.2.2.2.2.2.2.2.1
abbrev xc (X : KX) : Code := X.2.2.2.2.2.2.2.2.2.1
abbrev xD (X : KX) : va_G := X.2.2.2.2.2.2.2.2.2.2.1
abbrev xcy (X : KX) : Nat → ClassId := X.2.2.2.2.2.2.2.2.2.2.2.1
abbrev xA (X : KX) : Nat → Prop := X.2.2.2.2.2.2.2.2.2.2.2.2.1
abbrev xQ (X : KX) : State → Prop := X.2.2.2.2.2.2.2.2.2.2.2.2.2.1
abbrev xad (X : KX) : Nat → Nat := X.2.2.2.2.2.2.2.2.2.2.2.2.2.2.1
abbrev xnL (X : KX) : Nat := X.2.2.2.2.2.2.2.2.2.2.2.2.2.2.2
def Z (X : KX) (k n : Nat) (w : va_W) (pc : Nat) (L : List (Nat × Value)) (S : List Value) : Prop :=
  ∀ (H : Heap) (locs : List Loc) (ls : Array Slot), va_P (xD X) vwCl w H → va_D (xA X) w → va_S (xA X) (xs X).heap H locs → lv_has ls (xnL X) L →
    W (xp X) (xl X) (xe X) (xRm X) (xs X) (xm X) (xa X) (xbelow X) (xmeth X) (xc X) H locs k n (xQ X) (F0 (xm X) pc ls S)
abbrev V (X : KX) (I : KI) (J : KJ) (Rf : KR) : va_W := wsO (xcy X) (xad X) 110 I J Rf
def Cx (X : KX) (own : String) (cc : ByteArray) (d : Nat) : Prop :=
  (xp X).tables.exec = Jvm.exec ∧ (xc X).code = cc ∧ (xc X).maxLocals = xnL X ∧ (xs X).vm.findClass own = some (xm X).cls ∧ (∀ w ∈ gW, w.before (xa X) (xs X) = true) ∧ (xmeth X).locks = false ∧ (d ≤ (xRm X).frames ∧ 40 * d ≤ (xRm X).locals) ∧ (∀ q, (xs X).heap.size ≤ q → xA X q)
def Kx (X : KX) : Prop := va_K (xD X) vwCl (tysO (xcy X)) (xs X) ∧ NW (xs X)
theorem Cx.x {X : KX} {own : String} {cc : ByteArray} {d : Nat} (C : Cx X own cc d) : (xp X).tables.exec = Jvm.exec := C.1
theorem Cx.b {X : KX} {own : String} {cc : ByteArray} {d : Nat} (C : Cx X own cc d) : (xc X).code = cc := C.2.1
theorem Cx.ml {X : KX} {own : String} {cc : ByteArray} {d : Nat} (C : Cx X own cc d) : (xc X).maxLocals = xnL X := C.2.2.1
theorem Cx.own {X : KX} {own : String} {cc : ByteArray} {d : Nat} (C : Cx X own cc d) : (xs X).vm.findClass own = some (xm X).cls := C.2.2.2.1
theorem Cx.ts {X : KX} {own : String} {cc : ByteArray} {d : Nat} (C : Cx X own cc d) : ∀ w ∈ gW, w.before (xa X) (xs X) = true := C.2.2.2.2.1
theorem Cx.lk {X : KX} {own : String} {cc : ByteArray} {d : Nat} (C : Cx X own cc d) : (xmeth X).locks = false := C.2.2.2.2.2.1
theorem Cx.rm {X : KX} {own : String} {cc : ByteArray} {d : Nat} (C : Cx X own cc d) : d ≤ (xRm X).frames ∧ 40 * d ≤ (xRm X).locals := C.2.2.2.2.2.2.1
theorem Cx.hA {X : KX} {own : String} {cc : ByteArray} {d : Nat} (C : Cx X own cc d) : ∀ q, (xs X).heap.size ≤ q → xA X q := C.2.2.2.2.2.2.2
def lput (i : Nat) (v : Value) (L : List (Nat × Value)) : List (Nat × Value) := (i, v) :: L.filter (fun q => !(q.1 == i) && !(q.1 + 1 == i && q.2.category == 2))
def lput2 (i : Nat) (v : Value) (L : List (Nat × Value)) : List (Nat × Value) := (i, v) :: L.filter (fun q => !(q.1 == i) && (!(q.1 == i + 1) && !(q.1 + 1 == i && q.2.category == 2)))
theorem upd_at_I (I : KI) (p k : Nat) (v : Int32) : upd (I p) k v = upI I p k v p := (upI_at I p k v).symm
section ROWS
variable {X : KX} {own : String} {cc : ByteArray} {d k0 n0 : Nat} {w : va_W} {pc n : Nat} {L : List (Nat × Value)} {S : List Value}
theorem z_sub {L' : List (Nat × Value)} (ks : List Nat) (hl : lv_pick L ks = L') (k : Z X k0 n0 w pc L' S) : Z X k0 n0 w pc L S := fun H locs ls hP hD hS h => k H locs ls hP hD hS (lv_sub h ks hl)
theorem z_nm {α : Type} {x : α} (f : α → List Value) (k : ∀ y : α, y = x → Z X k0 n0 w pc L (f y)) : Z X k0 n0 w pc L (f x) := k x rfl
theorem z_topi {x : Int32} (k : ∀ y : Int32, y = x → Z X k0 n0 w pc L (.int y :: S)) : Z X k0 n0 w pc L (.int x :: S) := k x rfl
theorem z_topl {x : Int64} (k : ∀ y : Int64, y = x → Z X k0 n0 w pc L (.long y :: S)) : Z X k0 n0 w pc L (.long x :: S) := k x rfl
theorem z_eqi {x y : Int32} (h : x = y) (k : Z X k0 n0 w pc L (.int y :: S)) : Z X k0 n0 w pc L (.int x :: S) := h ▸ k
theorem z_eql {x y : Int64} (h : x = y) (k : Z X k0 n0 w pc L (.long y :: S)) : Z X k0 n0 w pc L (.long x :: S) := h ▸ k
theorem z_iconst (C : Cx X own cc d) {v : Int32} {i : Int} (hd : decode cc pc = .ok (.iconst i, 1)) (hn : pc + 1 = n) (hv : Int32.ofInt i = v) (k : Z X k0 n0 w n L (.int v :: S)) : Z X k0 n0 w pc L (S) := by
  subst hn; intro H locs ls hP hD hS hl; exact lv_iconst C.x C.b hd hv (k H locs ls hP hD hS hl)
theorem z_bipush (C : Cx X own cc d) {v : Int32} {i : Int} (hd : decode cc pc = .ok (.bipush i, 2)) (hn : pc + 2 = n) (hv : (Int8.ofInt i).toInt32 = v) (k : Z X k0 n0 w n L (.int v :: S)) : Z X k0 n0 w pc L (S) := by
  subst hn; intro H locs ls hP hD hS hl; exact lv_bipush C.x C.b hd hv (k H locs ls hP hD hS hl)
theorem z_sipush (C : Cx X own cc d) {v : Int32} {i : Int} (hd : decode cc pc = .ok (.sipush i, 3)) (hn : pc + 3 = n) (hv : (Int16.ofInt i).toInt32 = v) (k : Z X k0 n0 w n L (.int v :: S)) : Z X k0 n0 w pc L (S) := by
  subst hn; intro H locs ls hP hD hS hl; exact lv_sipush C.x C.b hd hv (k H locs ls hP hD hS hl)
theorem z_lconst (C : Cx X own cc d) {v : Int64} {i : Fin 2} (hd : decode cc pc = .ok (.lconst i, 1)) (hn : pc + 1 = n) (hv : Int64.ofNat (i : Nat) = v) (k : Z X k0 n0 w n L (.long v :: S)) : Z X k0 n0 w pc L (S) := by
  subst hn; intro H locs ls hP hD hS hl; exact lv_lconst C.x C.b hd hv (k H locs ls hP hD hS hl)
theorem z_ldc (C : Cx X own cc d) {v : Int32} {idx : Nat} (hd : decode cc pc = .ok (.ldc idx, 2)) (hc : Cond.constant own idx v ∈ gW) (hn : pc + 2 = n) (k : Z X k0 n0 w n L (.int v :: S)) : Z X k0 n0 w pc L S := by
  subst hn; intro H locs ls hP hD hS hl; exact lv_ldc C.x C.b C.own (C.ts _ hc) hd (k H locs ls hP hD hS hl)
theorem z_ldc2 (C : Cx X own cc d) {v : Int64} {idx : Nat} (hd : decode cc pc = .ok (.ldc2_w idx, 3)) (hc : Cond.constantLong own idx v ∈ gW) (hn : pc + 3 = n) (k : Z X k0 n0 w n L (.long v :: S)) : Z X k0 n0 w pc L S := by
  subst hn; intro H locs ls hP hD hS hl; exact lv_ldc2 C.x C.b C.own (C.ts _ hc) hd (k H locs ls hP hD hS hl)
theorem z_ldcw (C : Cx X own cc d) {v : Int32} {idx : Nat} (hd : decode cc pc = .ok (.ldc_w idx, 3)) (hc : Cond.constant own idx v ∈ gW) (hn : pc + 3 = n) (k : Z X k0 n0 w n L (.int v :: S)) : Z X k0 n0 w pc L S := by
  subst hn; intro H locs ls hP hD hS hl; exact lv_ldcw C.x C.b C.own (C.ts _ hc) hd (k H locs ls hP hD hS hl)
theorem z_iload_n (C : Cx X own cc d) {j : Fin 4} {x : Int32} (i : Nat) (hd : decode cc pc = .ok (.iload_n j, 1)) (hn : pc + 1 = n) (hk : L[i]? = some ((j : Nat), .int x)) (k : Z X k0 n0 w n L (.int x :: S)) : Z X k0 n0 w pc L S := by
  subst hn; intro H locs ls hP hD hS hl; exact lv_iload_n C.x C.b hd rfl (lv_at hl i hk) (k H locs ls hP hD hS hl)
theorem z_iload (C : Cx X own cc d) {j : Nat} {x : Int32} (i : Nat) (hd : decode cc pc = .ok (.iload j, 2)) (hn : pc + 2 = n) (hk : L[i]? = some (j, .int x)) (k : Z X k0 n0 w n L (.int x :: S)) : Z X k0 n0 w pc L S := by
  subst hn; intro H locs ls hP hD hS hl; exact lv_iload C.x C.b hd (lv_at hl i hk) (k H locs ls hP hD hS hl)
theorem z_istore_n (C : Cx X own cc d) {j : Fin 4} {x : Int32} {L' : List (Nat × Value)} (hd : decode cc pc = .ok (.istore_n j, 1)) (hn : pc + 1 = n) (hb : (j : Nat) < xnL X) (hL : lput (j : Nat) (.int x) L = L') (k : Z X k0 n0 w n L' S) : Z X k0 n0 w pc L (.int x :: S) := by
  subst hn; intro H locs ls hP hD hS hl; exact lv_istore_n C.x C.b hd rfl hl hb hL (fun ls' hl' => k H locs ls' hP hD hS hl')
theorem z_istore (C : Cx X own cc d) {j : Nat} {x : Int32} {L' : List (Nat × Value)} (hd : decode cc pc = .ok (.istore j, 2)) (hn : pc + 2 = n) (hb : j < xnL X) (hL : lput j (.int x) L = L') (k : Z X k0 n0 w n L' S) : Z X k0 n0 w pc L (.int x :: S) := by
  subst hn; intro H locs ls hP hD hS hl; exact lv_istore C.x C.b hd hl hb hL (fun ls' hl' => k H locs ls' hP hD hS hl')
theorem z_lload_n (C : Cx X own cc d) {j : Fin 4} {x : Int64} (i : Nat) (hd : decode cc pc = .ok (.lload_n j, 1)) (hn : pc + 1 = n) (hk : L[i]? = some ((j : Nat), .long x)) (k : Z X k0 n0 w n L (.long x :: S)) : Z X k0 n0 w pc L S := by
  subst hn; intro H locs ls hP hD hS hl; exact lv_lload_n C.x C.b hd rfl (lv_at hl i hk) (k H locs ls hP hD hS hl)
theorem z_lload (C : Cx X own cc d) {j : Nat} {x : Int64} (i : Nat) (hd : decode cc pc = .ok (.lload j, 2)) (hn : pc + 2 = n) (hk : L[i]? = some (j, .long x)) (k : Z X k0 n0 w n L (.long x :: S)) : Z X k0 n0 w pc L S := by
  subst hn; intro H locs ls hP hD hS hl; exact lv_lload C.x C.b hd (lv_at hl i hk) (k H locs ls hP hD hS hl)
theorem z_lstore_n (C : Cx X own cc d) {j : Fin 4} {x : Int64} {L' : List (Nat × Value)} (hd : decode cc pc = .ok (.lstore_n j, 1)) (hn : pc + 1 = n) (hb : (j : Nat) + 1 < xnL X) (hL : lput2 (j : Nat) (.long x) L = L') (k : Z X k0 n0 w n L' S) : Z X k0 n0 w pc L (.long x :: S) := by
  subst hn; intro H locs ls hP hD hS hl; exact lv_lstore_n C.x C.b hd rfl hl hb hL (fun ls' hl' => k H locs ls' hP hD hS hl')
theorem z_lstore (C : Cx X own cc d) {j : Nat} {x : Int64} {L' : List (Nat × Value)} (hd : decode cc pc = .ok (.lstore j, 2)) (hn : pc + 2 = n) (hb : j + 1 < xnL X) (hL : lput2 j (.long x) L = L') (k : Z X k0 n0 w n L' S) : Z X k0 n0 w pc L (.long x :: S) := by
  subst hn; intro H locs ls hP hD hS hl; exact lv_lstore C.x C.b hd hl hb hL (fun ls' hl' => k H locs ls' hP hD hS hl')
theorem z_aload_n (C : Cx X own cc d) {j : Fin 4} {x : Nat} (i : Nat) (hd : decode cc pc = .ok (.aload_n j, 1)) (hn : pc + 1 = n) (hk : L[i]? = some ((j : Nat), .ref x)) (k : Z X k0 n0 w n L (.ref x :: S)) : Z X k0 n0 w pc L S := by
  subst hn; intro H locs ls hP hD hS hl; exact lv_aload_n C.x C.b hd rfl (lv_at hl i hk) (k H locs ls hP hD hS hl)
theorem z_aload (C : Cx X own cc d) {j : Nat} {x : Nat} (i : Nat) (hd : decode cc pc = .ok (.aload j, 2)) (hn : pc + 2 = n) (hk : L[i]? = some (j, .ref x)) (k : Z X k0 n0 w n L (.ref x :: S)) : Z X k0 n0 w pc L S := by
  subst hn; intro H locs ls hP hD hS hl; exact lv_aload C.x C.b hd (lv_at hl i hk) (k H locs ls hP hD hS hl)
theorem z_astore_n (C : Cx X own cc d) {j : Fin 4} {x : Nat} {L' : List (Nat × Value)} (hd : decode cc pc = .ok (.astore_n j, 1)) (hn : pc + 1 = n) (hb : (j : Nat) < xnL X) (hL : lput (j : Nat) (.ref x) L = L') (k : Z X k0 n0 w n L' S) : Z X k0 n0 w pc L (.ref x :: S) := by
  subst hn; intro H locs ls hP hD hS hl; exact lv_astore_n C.x C.b hd rfl hl hb hL (fun ls' hl' => k H locs ls' hP hD hS hl')
theorem z_astore (C : Cx X own cc d) {j : Nat} {x : Nat} {L' : List (Nat × Value)} (hd : decode cc pc = .ok (.astore j, 2)) (hn : pc + 2 = n) (hb : j < xnL X) (hL : lput j (.ref x) L = L') (k : Z X k0 n0 w n L' S) : Z X k0 n0 w pc L (.ref x :: S) := by
  subst hn; intro H locs ls hP hD hS hl; exact lv_astore C.x C.b hd hl hb hL (fun ls' hl' => k H locs ls' hP hD hS hl')
theorem z_iinc (C : Cx X own cc d) {j : Nat} {b : Int} {x v : Int32} {L' : List (Nat × Value)} (i : Nat) (hd : decode cc pc = .ok (.iinc j b, 3)) (hn : pc + 3 = n) (hk : L[i]? = some (j, .int x)) (hv : x + Int32.ofInt b = v) (hb : j < xnL X) (hL : lput j (.int v) L = L') (k : Z X k0 n0 w n L' S) : Z X k0 n0 w pc L S := by
  subst hn; intro H locs ls hP hD hS hl; exact lv_iinc C.x C.b hd hl hk hv hb hL (fun ls' hl' => k H locs ls' hP hD hS hl')
theorem z_iadd (C : Cx X own cc d) {x y : Int32} (hd : decode cc pc = .ok (.iadd, 1)) (hn : pc + 1 = n) (k : Z X k0 n0 w n L (.int (x + y) :: S)) : Z X k0 n0 w pc L (.int y :: .int x :: S) := by
  subst hn; intro H locs ls hP hD hS hl; exact lv_iadd C.x C.b hd (k H locs ls hP hD hS hl)
theorem z_isub (C : Cx X own cc d) {x y : Int32} (hd : decode cc pc = .ok (.isub, 1)) (hn : pc + 1 = n) (k : Z X k0 n0 w n L (.int (x - y) :: S)) : Z X k0 n0 w pc L (.int y :: .int x :: S) := by
  subst hn; intro H locs ls hP hD hS hl; exact lv_isub C.x C.b hd (k H locs ls hP hD hS hl)
theorem z_imul (C : Cx X own cc d) {x y : Int32} (hd : decode cc pc = .ok (.imul, 1)) (hn : pc + 1 = n) (k : Z X k0 n0 w n L (.int (x * y) :: S)) : Z X k0 n0 w pc L (.int y :: .int x :: S) := by
  subst hn; intro H locs ls hP hD hS hl; exact lv_imul C.x C.b hd (k H locs ls hP hD hS hl)
theorem z_iand (C : Cx X own cc d) {x y : Int32} (hd : decode cc pc = .ok (.iand, 1)) (hn : pc + 1 = n) (k : Z X k0 n0 w n L (.int (x &&& y) :: S)) : Z X k0 n0 w pc L (.int y :: .int x :: S) := by
  subst hn; intro H locs ls hP hD hS hl; exact lv_iand C.x C.b hd (k H locs ls hP hD hS hl)
theorem z_ior (C : Cx X own cc d) {x y : Int32} (hd : decode cc pc = .ok (.ior, 1)) (hn : pc + 1 = n) (k : Z X k0 n0 w n L (.int (x ||| y) :: S)) : Z X k0 n0 w pc L (.int y :: .int x :: S) := by
  subst hn; intro H locs ls hP hD hS hl; exact lv_ior C.x C.b hd (k H locs ls hP hD hS hl)
theorem z_ixor (C : Cx X own cc d) {x y : Int32} (hd : decode cc pc = .ok (.ixor, 1)) (hn : pc + 1 = n) (k : Z X k0 n0 w n L (.int (x ^^^ y) :: S)) : Z X k0 n0 w pc L (.int y :: .int x :: S) := by
  subst hn; intro H locs ls hP hD hS hl; exact lv_ixor C.x C.b hd (k H locs ls hP hD hS hl)
theorem z_ishl (C : Cx X own cc d) {x y : Int32} (hd : decode cc pc = .ok (.ishl, 1)) (hn : pc + 1 = n) (k : Z X k0 n0 w n L (.int (x <<< (y &&& 31)) :: S)) : Z X k0 n0 w pc L (.int y :: .int x :: S) := by
  subst hn; intro H locs ls hP hD hS hl; exact lv_ishl C.x C.b hd (k H locs ls hP hD hS hl)
theorem z_ishr (C : Cx X own cc d) {x y : Int32} (hd : decode cc pc = .ok (.ishr, 1)) (hn : pc + 1 = n) (k : Z X k0 n0 w n L (.int (x >>> (y &&& 31)) :: S)) : Z X k0 n0 w pc L (.int y :: .int x :: S) := by
  subst hn; intro H locs ls hP hD hS hl; exact lv_ishr C.x C.b hd (k H locs ls hP hD hS hl)
theorem z_iushr (C : Cx X own cc d) {x y : Int32} (hd : decode cc pc = .ok (.iushr, 1)) (hn : pc + 1 = n) (k : Z X k0 n0 w n L (.int ((x.toUInt32 >>> (y.toUInt32 &&& Int32.toUInt32 31)).toInt32) :: S)) : Z X k0 n0 w pc L (.int y :: .int x :: S) := by
  subst hn; intro H locs ls hP hD hS hl; exact lv_iushr C.x C.b hd rfl (k H locs ls hP hD hS hl)
theorem z_idiv (C : Cx X own cc d) {x y : Int32} (hd : decode cc pc = .ok (.idiv, 1)) (hn : pc + 1 = n) (hne : ¬ y = 0) (k : Z X k0 n0 w n L (.int (x / y) :: S)) : Z X k0 n0 w pc L (.int y :: .int x :: S) := by
  subst hn; intro H locs ls hP hD hS hl; exact lv_idiv C.x C.b hd hne (k H locs ls hP hD hS hl)
theorem z_irem (C : Cx X own cc d) {x y : Int32} (hd : decode cc pc = .ok (.irem, 1)) (hn : pc + 1 = n) (hne : ¬ y = 0) (k : Z X k0 n0 w n L (.int (x - x / y * y) :: S)) : Z X k0 n0 w pc L (.int y :: .int x :: S) := by
  subst hn; intro H locs ls hP hD hS hl; exact lv_irem C.x C.b hd hne (k H locs ls hP hD hS hl)
theorem z_ineg (C : Cx X own cc d) {x : Int32} (hd : decode cc pc = .ok (.ineg, 1)) (hn : pc + 1 = n) (k : Z X k0 n0 w n L (.int (-x) :: S)) : Z X k0 n0 w pc L (.int x :: S) := by
  subst hn; intro H locs ls hP hD hS hl; exact lv_ineg C.x C.b hd (k H locs ls hP hD hS hl)
theorem z_i2l (C : Cx X own cc d) {x : Int32} (hd : decode cc pc = .ok (.i2l, 1)) (hn : pc + 1 = n) (k : Z X k0 n0 w n L (.long x.toInt64 :: S)) : Z X k0 n0 w pc L (.int x :: S) := by
  subst hn; intro H locs ls hP hD hS hl; exact lv_i2l C.x C.b hd rfl (k H locs ls hP hD hS hl)
theorem z_i2b (C : Cx X own cc d) {x : Int32} (hd : decode cc pc = .ok (.i2b, 1)) (hn : pc + 1 = n) (k : Z X k0 n0 w n L (.int x.toInt8.toInt32 :: S)) : Z X k0 n0 w pc L (.int x :: S) := by
  subst hn; intro H locs ls hP hD hS hl; exact lv_i2b C.x C.b hd rfl (k H locs ls hP hD hS hl)
theorem z_i2s (C : Cx X own cc d) {x : Int32} (hd : decode cc pc = .ok (.i2s, 1)) (hn : pc + 1 = n) (k : Z X k0 n0 w n L (.int x.toInt16.toInt32 :: S)) : Z X k0 n0 w pc L (.int x :: S) := by
  subst hn; intro H locs ls hP hD hS hl; exact lv_i2s C.x C.b hd rfl (k H locs ls hP hD hS hl)
theorem z_ladd (C : Cx X own cc d) {x y : Int64} (hd : decode cc pc = .ok (.ladd, 1)) (hn : pc + 1 = n) (k : Z X k0 n0 w n L (.long (x + y) :: S)) : Z X k0 n0 w pc L (.long y :: .long x :: S) := by
  subst hn; intro H locs ls hP hD hS hl; exact lv_ladd C.x C.b hd (k H locs ls hP hD hS hl)
theorem z_lsub (C : Cx X own cc d) {x y : Int64} (hd : decode cc pc = .ok (.lsub, 1)) (hn : pc + 1 = n) (k : Z X k0 n0 w n L (.long (x - y) :: S)) : Z X k0 n0 w pc L (.long y :: .long x :: S) := by
  subst hn; intro H locs ls hP hD hS hl; exact lv_lsub C.x C.b hd (k H locs ls hP hD hS hl)
theorem z_lmul (C : Cx X own cc d) {x y : Int64} (hd : decode cc pc = .ok (.lmul, 1)) (hn : pc + 1 = n) (k : Z X k0 n0 w n L (.long (x * y) :: S)) : Z X k0 n0 w pc L (.long y :: .long x :: S) := by
  subst hn; intro H locs ls hP hD hS hl; exact lv_lmul C.x C.b hd (k H locs ls hP hD hS hl)
theorem z_ldiv (C : Cx X own cc d) {x y : Int64} (hd : decode cc pc = .ok (.ldiv, 1)) (hn : pc + 1 = n) (hne : ¬ y = 0) (k : Z X k0 n0 w n L (.long (x / y) :: S)) : Z X k0 n0 w pc L (.long y :: .long x :: S) := by
  subst hn; intro H locs ls hP hD hS hl; exact lv_ldiv C.x C.b hd hne (k H locs ls hP hD hS hl)
theorem z_lrem (C : Cx X own cc d) {x y : Int64} (hd : decode cc pc = .ok (.lrem, 1)) (hn : pc + 1 = n) (hne : ¬ y = 0) (k : Z X k0 n0 w n L (.long (x - x / y * y) :: S)) : Z X k0 n0 w pc L (.long y :: .long x :: S) := by
  subst hn; intro H locs ls hP hD hS hl; exact lv_lrem C.x C.b hd hne (k H locs ls hP hD hS hl)
theorem z_dup (C : Cx X own cc d) {v : Value} (hd : decode cc pc = .ok (.dup, 1)) (hn : pc + 1 = n) (hv : v.category = 1) (k : Z X k0 n0 w n L (v :: v :: S)) : Z X k0 n0 w pc L (v :: S) := by
  subst hn; intro H locs ls hP hD hS hl; exact lv_dup C.x C.b hd hv (k H locs ls hP hD hS hl)
theorem z_icmp_eq (C : Cx X own cc d) {x y : Int32} {off : Int} {tgt : Nat} (hd : decode cc pc = .ok (.if_icmp .eq off, 3)) (ht : (pc : Int) + off = (tgt : Int)) (hn : pc + 3 = n) (kt : x = y → Z X k0 n0 w tgt L S) (kf : ¬ x = y → Z X k0 n0 w n L S) : Z X k0 n0 w pc L (.int y :: .int x :: S) := by
  subst hn; intro H locs ls hP hD hS hl; exact lv_icmp_eq C.x C.b hd ht (fun h => kt h H locs ls hP hD hS hl) (fun h => kf h H locs ls hP hD hS hl)
theorem z_if_eq (C : Cx X own cc d) {x : Int32} {off : Int} {tgt : Nat} (hd : decode cc pc = .ok (.ifCond .eq off, 3)) (ht : (pc : Int) + off = (tgt : Int)) (hn : pc + 3 = n) (kt : x = 0 → Z X k0 n0 w tgt L S) (kf : ¬ x = 0 → Z X k0 n0 w n L S) : Z X k0 n0 w pc L (.int x :: S) := by
  subst hn; intro H locs ls hP hD hS hl; exact lv_if_eq C.x C.b hd ht (fun h => kt h H locs ls hP hD hS hl) (fun h => kf h H locs ls hP hD hS hl)
theorem z_icmp_ne (C : Cx X own cc d) {x y : Int32} {off : Int} {tgt : Nat} (hd : decode cc pc = .ok (.if_icmp .ne off, 3)) (ht : (pc : Int) + off = (tgt : Int)) (hn : pc + 3 = n) (kt : ¬ x = y → Z X k0 n0 w tgt L S) (kf : x = y → Z X k0 n0 w n L S) : Z X k0 n0 w pc L (.int y :: .int x :: S) := by
  subst hn; intro H locs ls hP hD hS hl; exact lv_icmp_ne C.x C.b hd ht (fun h => kt h H locs ls hP hD hS hl) (fun h => kf h H locs ls hP hD hS hl)
theorem z_if_ne (C : Cx X own cc d) {x : Int32} {off : Int} {tgt : Nat} (hd : decode cc pc = .ok (.ifCond .ne off, 3)) (ht : (pc : Int) + off = (tgt : Int)) (hn : pc + 3 = n) (kt : ¬ x = 0 → Z X k0 n0 w tgt L S) (kf : x = 0 → Z X k0 n0 w n L S) : Z X k0 n0 w pc L (.int x :: S) := by
  subst hn; intro H locs ls hP hD hS hl; exact lv_if_ne C.x C.b hd ht (fun h => kt h H locs ls hP hD hS hl) (fun h => kf h H locs ls hP hD hS hl)
theorem z_icmp_lt (C : Cx X own cc d) {x y : Int32} {off : Int} {tgt : Nat} (hd : decode cc pc = .ok (.if_icmp .lt off, 3)) (ht : (pc : Int) + off = (tgt : Int)) (hn : pc + 3 = n) (kt : x < y → Z X k0 n0 w tgt L S) (kf : ¬ x < y → Z X k0 n0 w n L S) : Z X k0 n0 w pc L (.int y :: .int x :: S) := by
  subst hn; intro H locs ls hP hD hS hl; exact lv_icmp_lt C.x C.b hd ht (fun h => kt h H locs ls hP hD hS hl) (fun h => kf h H locs ls hP hD hS hl)
theorem z_if_lt (C : Cx X own cc d) {x : Int32} {off : Int} {tgt : Nat} (hd : decode cc pc = .ok (.ifCond .lt off, 3)) (ht : (pc : Int) + off = (tgt : Int)) (hn : pc + 3 = n) (kt : x < 0 → Z X k0 n0 w tgt L S) (kf : ¬ x < 0 → Z X k0 n0 w n L S) : Z X k0 n0 w pc L (.int x :: S) := by
  subst hn; intro H locs ls hP hD hS hl; exact lv_if_lt C.x C.b hd ht (fun h => kt h H locs ls hP hD hS hl) (fun h => kf h H locs ls hP hD hS hl)
theorem z_icmp_ge (C : Cx X own cc d) {x y : Int32} {off : Int} {tgt : Nat} (hd : decode cc pc = .ok (.if_icmp .ge off, 3)) (ht : (pc : Int) + off = (tgt : Int)) (hn : pc + 3 = n) (kt : y ≤ x → Z X k0 n0 w tgt L S) (kf : ¬ y ≤ x → Z X k0 n0 w n L S) : Z X k0 n0 w pc L (.int y :: .int x :: S) := by
  subst hn; intro H locs ls hP hD hS hl; exact lv_icmp_ge C.x C.b hd ht (fun h => kt h H locs ls hP hD hS hl) (fun h => kf h H locs ls hP hD hS hl)
theorem z_if_ge (C : Cx X own cc d) {x : Int32} {off : Int} {tgt : Nat} (hd : decode cc pc = .ok (.ifCond .ge off, 3)) (ht : (pc : Int) + off = (tgt : Int)) (hn : pc + 3 = n) (kt : 0 ≤ x → Z X k0 n0 w tgt L S) (kf : ¬ 0 ≤ x → Z X k0 n0 w n L S) : Z X k0 n0 w pc L (.int x :: S) := by
  subst hn; intro H locs ls hP hD hS hl; exact lv_if_ge C.x C.b hd ht (fun h => kt h H locs ls hP hD hS hl) (fun h => kf h H locs ls hP hD hS hl)
theorem z_icmp_gt (C : Cx X own cc d) {x y : Int32} {off : Int} {tgt : Nat} (hd : decode cc pc = .ok (.if_icmp .gt off, 3)) (ht : (pc : Int) + off = (tgt : Int)) (hn : pc + 3 = n) (kt : y < x → Z X k0 n0 w tgt L S) (kf : ¬ y < x → Z X k0 n0 w n L S) : Z X k0 n0 w pc L (.int y :: .int x :: S) := by
  subst hn; intro H locs ls hP hD hS hl; exact lv_icmp_gt C.x C.b hd ht (fun h => kt h H locs ls hP hD hS hl) (fun h => kf h H locs ls hP hD hS hl)
theorem z_if_gt (C : Cx X own cc d) {x : Int32} {off : Int} {tgt : Nat} (hd : decode cc pc = .ok (.ifCond .gt off, 3)) (ht : (pc : Int) + off = (tgt : Int)) (hn : pc + 3 = n) (kt : 0 < x → Z X k0 n0 w tgt L S) (kf : ¬ 0 < x → Z X k0 n0 w n L S) : Z X k0 n0 w pc L (.int x :: S) := by
  subst hn; intro H locs ls hP hD hS hl; exact lv_if_gt C.x C.b hd ht (fun h => kt h H locs ls hP hD hS hl) (fun h => kf h H locs ls hP hD hS hl)
theorem z_icmp_le (C : Cx X own cc d) {x y : Int32} {off : Int} {tgt : Nat} (hd : decode cc pc = .ok (.if_icmp .le off, 3)) (ht : (pc : Int) + off = (tgt : Int)) (hn : pc + 3 = n) (kt : x ≤ y → Z X k0 n0 w tgt L S) (kf : ¬ x ≤ y → Z X k0 n0 w n L S) : Z X k0 n0 w pc L (.int y :: .int x :: S) := by
  subst hn; intro H locs ls hP hD hS hl; exact lv_icmp_le C.x C.b hd ht (fun h => kt h H locs ls hP hD hS hl) (fun h => kf h H locs ls hP hD hS hl)
theorem z_if_le (C : Cx X own cc d) {x : Int32} {off : Int} {tgt : Nat} (hd : decode cc pc = .ok (.ifCond .le off, 3)) (ht : (pc : Int) + off = (tgt : Int)) (hn : pc + 3 = n) (kt : x ≤ 0 → Z X k0 n0 w tgt L S) (kf : ¬ x ≤ 0 → Z X k0 n0 w n L S) : Z X k0 n0 w pc L (.int x :: S) := by
  subst hn; intro H locs ls hP hD hS hl; exact lv_if_le C.x C.b hd ht (fun h => kt h H locs ls hP hD hS hl) (fun h => kf h H locs ls hP hD hS hl)
theorem z_lcmp (C : Cx X own cc d) {x y : Int64} (hd : decode cc pc = .ok (.lcmp, 1)) (hn : pc + 1 = n) (k : Z X k0 n0 w n L (.int (lg_cmp x y) :: S)) : Z X k0 n0 w pc L (.long y :: .long x :: S) := by
  subst hn; intro H locs ls hP hD hS hl; exact W.lcmp C.x C.b hd (k H locs ls hP hD hS hl)
theorem z_dup2 (C : Cx X own cc d) {u v : Value} (hd : decode cc pc = .ok (.dup2, 1)) (hn : pc + 1 = n) (hu : u.category = 1) (hv : v.category = 1) (k : Z X k0 n0 w n L (u :: v :: u :: v :: S)) : Z X k0 n0 w pc L (u :: v :: S) := by
  subst hn; intro H locs ls hP hD hS hl; exact lv_dup2_11 C.x C.b hd hu hv (k H locs ls hP hD hS hl)
theorem z_tableIn (C : Cx X own cc d) {dflt lo hi : Int} {offs : Array Int} {len : Nat} {x : Int32} {off : Int} (hd : decode cc pc = .ok (.tableswitch dflt lo hi offs, len)) (h1 : ¬ x.toInt < lo) (h2 : ¬ hi < x.toInt) (ho : offs[(x.toInt - lo).toNat]? = some off) (ht : (pc : Int) + off = (n : Int)) (k : Z X k0 n0 w n L S) : Z X k0 n0 w pc L (.int x :: S) := by
  intro H locs ls hP hD hS hl; exact lv_tableIn C.x C.b hd h1 h2 ho ht (k H locs ls hP hD hS hl)
theorem z_tableOut (C : Cx X own cc d) {dflt lo hi : Int} {offs : Array Int} {len : Nat} {x : Int32} (hd : decode cc pc = .ok (.tableswitch dflt lo hi offs, len)) (h : x.toInt < lo ∨ hi < x.toInt) (ht : (pc : Int) + dflt = (n : Int)) (k : Z X k0 n0 w n L S) : Z X k0 n0 w pc L (.int x :: S) := by
  intro H locs ls hP hD hS hl; exact lv_tableOut C.x C.b hd h ht (k H locs ls hP hD hS hl)
theorem z_lookup (C : Cx X own cc d) {dflt : Int} {ps : Array (Int × Int)} {len : Nat} {x : Int32} {off : Int} (hd : decode cc pc = .ok (.lookupswitch dflt ps, len)) (hp : (ps.toList.zip (ps.toList.drop 1)).all (fun (a, next) => a.1 < next.1) = true) (ho : Op.lookupswitch.offset ps.toList dflt x.toInt = off) (ht : (pc : Int) + off = (n : Int)) (k : Z X k0 n0 w n L S) : Z X k0 n0 w pc L (.int x :: S) := by
  intro H locs ls hP hD hS hl; exact lv_lookup C.x C.b hd hp ho ht (k H locs ls hP hD hS hl)
theorem z_goto (C : Cx X own cc d) {off : Int} (hd : decode cc pc = .ok (.goto off, 3)) (hn : (pc : Int) + off = (n : Int)) (k : Z X k0 n0 w n L S) : Z X k0 n0 w pc L S := by
  intro H locs ls hP hD hS hl; exact lv_goto C.x C.b hd hn (k H locs ls hP hD hS hl)
end ROWS
/-! fields -/
def kt (ty : FieldType) : Nat := match ty with | .int => 0 | .boolean => 0 | .long => 1 | _ => 2
def Fk (own : String) (idx ci k : Nat) (ty : FieldType) (fin : Bool) : Prop := ∃ (C : String) (T : u_T) (N : Nat) (ty0 : Nat → FieldType), vwCl[ci]? = some (C, T, N) ∧ k < N ∧ (∀ w ∈ u_ws C T N, w ∈ gW) ∧ (Cond.fieldLink own idx (T k).1 (T k).2.1 (T k).2.2.1 ∈ gW ∨ ∃ host, (own, idx, (T k).1, (T k).2.1, (T k).2.2.1, host) ∈ nestF) ∧ ci < 11 ∧ (T k).2.2.2 = fin ∧ (∀ j, j < N → parseFieldDescriptor (T j).2.2.1 = some (ty0 j)) ∧ (∀ a, a < N → ∀ b, b < N → a ≠ b → (T a).2.1 ≠ (T b).2.1) ∧ ty0 k = ty ∧ (fk ci)[k]? = some (kt ty)
section HEAPROWS
variable {X : KX} {own : String} {cc : ByteArray} {d k0 n0 : Nat} {pc n : Nat} {L : List (Nat × Value)} {S : List Value} {I : KI} {J : KJ} {Rf : KR}
theorem z_getf (C : Cx X own cc d) (K : Kx X) {idx ci k p nn : Nat} {ty : FieldType} {fin : Bool} (hF : Fk own idx ci k ty fin) (hd : decode cc pc = .ok (.getfield idx, 3)) (hn : pc + 3 = n) (hs : sh p = (ci, nn)) (hp : p < 110) (kk : Z X k0 n0 (V X I J Rf) n L (fldv (xad X) I J Rf p k (kt ty) :: S)) : Z X k0 n0 (V X I J Rf) pc L (.ref (xad X p) :: S) := by
  subst hn
  obtain ⟨Cn, T, N, ty0, h1, h2, h3, h4, h5, -, -, -, -, h9⟩ := hF
  intro H locs ls hP hD hS hl
  rcases h4 with h4 | ⟨host, h4⟩
  · exact va_get C.x C.b C.ts h3 C.own K.1 hP p (wsO_get hp |>.trans (by rw [cell_obj hs h5])) h1 k h2 (C.ts _ h4) (fun _ h => h) (flds_get h9) hd (kk H locs ls hP hD hS hl)
  · exact va_getN C.x C.b C.ts h3 C.own K.1 hP p (wsO_get hp |>.trans (by rw [cell_obj hs h5])) h1 k h2 (va_Nw.use rfl (K.2.1 _ h4)) (fun _ h => h) (flds_get h9) hd (kk H locs ls hP hD hS hl)
theorem z_getI (C : Cx X own cc d) (K : Kx X) {idx ci k p nn : Nat} {fin : Bool} (hF : Fk own idx ci k .int fin) (hd : decode cc pc = .ok (.getfield idx, 3)) (hn : pc + 3 = n) (hs : sh p = (ci, nn)) (hp : p < 110) (kk : Z X k0 n0 (V X I J Rf) n L (.int (I p k) :: S)) : Z X k0 n0 (V X I J Rf) pc L (.ref (xad X p) :: S) := z_getf C K hF hd hn hs hp kk
theorem z_getB (C : Cx X own cc d) (K : Kx X) {idx ci k p nn : Nat} {fin : Bool} (hF : Fk own idx ci k .boolean fin) (hd : decode cc pc = .ok (.getfield idx, 3)) (hn : pc + 3 = n) (hs : sh p = (ci, nn)) (hp : p < 110) (kk : Z X k0 n0 (V X I J Rf) n L (.int (I p k) :: S)) : Z X k0 n0 (V X I J Rf) pc L (.ref (xad X p) :: S) := z_getf C K hF hd hn hs hp kk
theorem z_getJ (C : Cx X own cc d) (K : Kx X) {idx ci k p nn : Nat} {fin : Bool} (hF : Fk own idx ci k .long fin) (hd : decode cc pc = .ok (.getfield idx, 3)) (hn : pc + 3 = n) (hs : sh p = (ci, nn)) (hp : p < 110) (kk : Z X k0 n0 (V X I J Rf) n L (.long (J p k) :: S)) : Z X k0 n0 (V X I J Rf) pc L (.ref (xad X p) :: S) := z_getf C K hF hd hn hs hp kk
theorem z_getR (C : Cx X own cc d) (K : Kx X) {idx ci k p nn q : Nat} {ty : FieldType} {fin : Bool} (hF : Fk own idx ci k ty fin) (hd : decode cc pc = .ok (.getfield idx, 3)) (hn : pc + 3 = n) (hk : kt ty = 2) (hs : sh p = (ci, nn)) (hp : p < 110) (hr : Rf p k = some q) (kk : Z X k0 n0 (V X I J Rf) n L (.ref (xad X q) :: S)) : Z X k0 n0 (V X I J Rf) pc L (.ref (xad X p) :: S) := by
  refine z_getf C K hF hd hn hs hp ?_
  have e : fldv (xad X) I J Rf p k (kt ty) = .ref (xad X q) := by
    rw [hk]; unfold fldv; rw [if_neg (by decide), if_neg (by decide), hr]; rfl
  rw [e]; exact kk
theorem z_putf (C : Cx X own cc d) (K : Kx X) {idx ci k p nn : Nat} {ty : FieldType} {v : Value} {I' : KI} {J' : KJ} {Rf' : KR} (hF : Fk own idx ci k ty false) (hd : decode cc pc = .ok (.putfield idx, 3)) (hn : pc + 3 = n) (hs : sh p = (ci, nn)) (hp : p < 110) (hv : narrow ty v = v) (hfit : fits ty v = true)
    (he : fldv (xad X) I' J' Rf' p k (kt ty) = v) (ho : ∀ j u, j ≠ k → fldv (xad X) I' J' Rf' p j u = fldv (xad X) I J Rf p j u) (hq : ∀ q, q ≠ p → cellE (xcy X) (xad X) I' J' Rf' q = cellE (xcy X) (xad X) I J Rf q)
    (kk : Z X k0 n0 (V X I' J' Rf') n L S) : Z X k0 n0 (V X I J Rf) pc L (v :: .ref (xad X p) :: S) := by
  subst hn
  obtain ⟨Cn, T, N, ty0, h1, h2, h3, h4, h5, h6, h7, h8, h8b, h9⟩ := hF
  intro H locs ls hP hD hS hl
  have hlen : k < (flds (xad X) I J Rf p ci).length := by rw [flds_len]; exact (List.getElem?_eq_some_iff.mp h9).1
  have e : (V X I J Rf).set p (xad X p, .inr (ci, (flds (xad X) I J Rf p ci).set k v)) = V X I' J' Rf' := by
    refine wsO_set hp ?_ hq
    rw [cell_obj hs h5, flds_set h9 he ho]
  rcases h4 with h4 | ⟨host, h4⟩
  · refine va_put (v := v) C.x C.b C.ts h3 ty0 h7 h8 C.own K.1 hP hD hS p (wsO_get hp |>.trans (by rw [cell_obj hs h5])) h1 k h2 (C.ts _ h4) (fun _ h => h) h6 ((h7 k h2).trans (by rw [h8b])) hv hfit hlen hd (fun H1 locs1 hP1 hD1 hS1 => ?_)
    rw [e] at hP1 hD1
    exact kk H1 locs1 ls hP1 hD1 hS1 hl
  · refine va_putN (v := v) C.x C.b C.ts h3 ty0 h7 h8 C.own K.1 hP hD hS p (wsO_get hp |>.trans (by rw [cell_obj hs h5])) h1 k h2 (va_Nw.use rfl (K.2.1 _ h4)) (fun _ h => h) h6 ((h7 k h2).trans (by rw [h8b])) hv hfit hlen hd (fun H1 locs1 hP1 hD1 hS1 => ?_)
    rw [e] at hP1 hD1
    exact kk H1 locs1 ls hP1 hD1 hS1 hl
theorem fldv_I {ad : Nat → Nat} {p k j u : Nat} {v : Int32} (h : j ≠ k) : fldv ad (upI I p k v) J Rf p j u = fldv ad I J Rf p j u := by unfold fldv; rw [upI_k I v h]
theorem fldv_J {ad : Nat → Nat} {p k j u : Nat} {v : Int64} (h : j ≠ k) : fldv ad I (upJ J p k v) Rf p j u = fldv ad I J Rf p j u := by unfold fldv; rw [upJ_k J v h]
theorem fldv_R {ad : Nat → Nat} {p k j u : Nat} {v : Option Nat} (h : j ≠ k) : fldv ad I J (upR Rf p k v) p j u = fldv ad I J Rf p j u := by unfold fldv; rw [upR_k Rf v h]
theorem z_putI (C : Cx X own cc d) (K : Kx X) {idx ci k p nn : Nat} {v : Int32} (hF : Fk own idx ci k .int false) (hd : decode cc pc = .ok (.putfield idx, 3)) (hn : pc + 3 = n) (hs : sh p = (ci, nn)) (hp : p < 110) (kk : Z X k0 n0 (V X (upI I p k v) J Rf) n L S) : Z X k0 n0 (V X I J Rf) pc L (.int v :: .ref (xad X p) :: S) :=
  z_putf C K hF hd hn hs hp rfl rfl (by show Value.int (upI I p k v p k) = _; rw [upI_same]) (fun j u h => fldv_I h) (fun q h => cellE_I h) kk
theorem z_putB (C : Cx X own cc d) (K : Kx X) {idx ci k p nn : Nat} {v : Int32} (hF : Fk own idx ci k .boolean false) (hd : decode cc pc = .ok (.putfield idx, 3)) (hn : pc + 3 = n) (hs : sh p = (ci, nn)) (hp : p < 110) (hv : v = 0 ∨ v = 1) (kk : Z X k0 n0 (V X (upI I p k v) J Rf) n L S) : Z X k0 n0 (V X I J Rf) pc L (.int v :: .ref (xad X p) :: S) :=
  z_putf C K hF hd hn hs hp (by rcases hv with rfl | rfl <;> rfl) (by rcases hv with rfl | rfl <;> rfl) (by show Value.int (upI I p k v p k) = _; rw [upI_same]) (fun j u h => fldv_I h) (fun q h => cellE_I h) kk
theorem z_putJ (C : Cx X own cc d) (K : Kx X) {idx ci k p nn : Nat} {v : Int64} (hF : Fk own idx ci k .long false) (hd : decode cc pc = .ok (.putfield idx, 3)) (hn : pc + 3 = n) (hs : sh p = (ci, nn)) (hp : p < 110) (kk : Z X k0 n0 (V X I (upJ J p k v) Rf) n L S) : Z X k0 n0 (V X I J Rf) pc L (.long v :: .ref (xad X p) :: S) :=
  z_putf C K hF hd hn hs hp rfl rfl (by show Value.long (upJ J p k v p k) = _; rw [upJ_same]) (fun j u h => fldv_J h) (fun q h => cellE_J h) kk
theorem z_putR (C : Cx X own cc d) (K : Kx X) {idx ci k p nn q : Nat} {c : String} (hF : Fk own idx ci k (.object c) false) (hd : decode cc pc = .ok (.putfield idx, 3)) (hn : pc + 3 = n) (hs : sh p = (ci, nn)) (hp : p < 110) (kk : Z X k0 n0 (V X I J (upR Rf p k (some q))) n L S) : Z X k0 n0 (V X I J Rf) pc L (.ref (xad X q) :: .ref (xad X p) :: S) :=
  z_putf C K hF hd hn hs hp rfl rfl (by show va_rf ((upR Rf p k (some q) p k).map _) = _; rw [upR_same]; rfl) (fun j u h => fldv_R h) (fun q h => cellE_R h) kk
/-! arrays -/
theorem z_iald (C : Cx X own cc d) (K : Kx X) {p nn : Nat} {i : Int32} (hd : decode cc pc = .ok (.iaload, 1)) (hn : pc + 1 = n) (hs : sh p = (11, nn)) (hp : p < 110) (hin : vp_in i nn) (kk : Z X k0 n0 (V X I J Rf) n L (.int (I p i.toNatClampNeg) :: S)) : Z X k0 n0 (V X I J Rf) pc L (.int i :: .ref (xad X p) :: S) := by
  subst hn
  intro H locs ls hP hD hS hl
  exact va_iald C.x C.b K.1 hP p 0 (wsO_get hp |>.trans (by rw [cell_I hs])) rfl hin hd (kk H locs ls hP hD hS hl)
theorem z_lald (C : Cx X own cc d) (K : Kx X) {p nn : Nat} {i : Int32} (hd : decode cc pc = .ok (.laload, 1)) (hn : pc + 1 = n) (hs : sh p = (12, nn)) (hp : p < 110) (hin : vp_in i nn) (kk : Z X k0 n0 (V X I J Rf) n L (.long (J p i.toNatClampNeg) :: S)) : Z X k0 n0 (V X I J Rf) pc L (.int i :: .ref (xad X p) :: S) := by
  subst hn
  intro H locs ls hP hD hS hl
  exact va_lald C.x C.b K.1 hP p 1 (wsO_get hp |>.trans (by rw [cell_J hs])) rfl hin hd (kk H locs ls hP hD hS hl)
theorem z_iast (C : Cx X own cc d) (K : Kx X) {p nn : Nat} {i v : Int32} (hd : decode cc pc = .ok (.iastore, 1)) (hn : pc + 1 = n) (hs : sh p = (11, nn)) (hp : p < 110) (hin : vp_in i nn) (kk : Z X k0 n0 (V X (upI I p i.toNatClampNeg v) J Rf) n L S) : Z X k0 n0 (V X I J Rf) pc L (.int v :: .int i :: .ref (xad X p) :: S) := by
  subst hn
  intro H locs ls hP hD hS hl
  refine va_iast C.x C.b K.1 hP hD hS p 0 (wsO_get hp |>.trans (by rw [cell_I hs])) rfl hin hd (fun H1 locs1 hP1 hD1 hS1 => ?_)
  have e : (V X I J Rf).set p (xad X p, .inl (xcy X 0, nn, .inl (upd (I p) i.toNatClampNeg v))) = V X (upI I p i.toNatClampNeg v) J Rf := by
    refine wsO_set hp ?_ (fun q h => cellE_I h)
    rw [cell_I hs, upI_at]
  rw [e] at hP1 hD1
  exact kk H1 locs1 ls hP1 hD1 hS1 hl
theorem z_last (C : Cx X own cc d) (K : Kx X) {p nn : Nat} {i : Int32} {v : Int64} (hd : decode cc pc = .ok (.lastore, 1)) (hn : pc + 1 = n) (hs : sh p = (12, nn)) (hp : p < 110) (hin : vp_in i nn) (kk : Z X k0 n0 (V X I (upJ J p i.toNatClampNeg v) Rf) n L S) : Z X k0 n0 (V X I J Rf) pc L (.long v :: .int i :: .ref (xad X p) :: S) := by
  subst hn
  intro H locs ls hP hD hS hl
  refine va_last C.x C.b K.1 hP hD hS p 1 (wsO_get hp |>.trans (by rw [cell_J hs])) rfl hin hd (fun H1 locs1 hP1 hD1 hS1 => ?_)
  have e : (V X I J Rf).set p (xad X p, .inl (xcy X 1, nn, .inr (.inl (vp_updL (J p) i.toNatClampNeg v)))) = V X I (upJ J p i.toNatClampNeg v) Rf := by
    refine wsO_set hp ?_ (fun q h => cellE_J h)
    rw [cell_J hs, upJ_at]
  rw [e] at hP1 hD1
  exact kk H1 locs1 ls hP1 hD1 hS1 hl
/-- an element of an array of references, its place known -/
theorem z_aald (C : Cx X own cc d) (K : Kx X) {p ci nn q : Nat} {i : Int32} (hd : decode cc pc = .ok (.aaload, 1)) (hn : pc + 1 = n) (hc : ci < 3) (hs : sh p = (ci + 13, nn)) (hp : p < 110) (hin : vp_in i nn) (hr : Rf p i.toNatClampNeg = some q) (kk : Z X k0 n0 (V X I J Rf) n L (.ref (xad X q) :: S)) : Z X k0 n0 (V X I J Rf) pc L (.int i :: .ref (xad X p) :: S) := by
  subst hn
  intro H locs ls hP hD hS hl
  have ha : (V X I J Rf)[p]? = some (xad X p, .inl (xcy X (ci + 2), nn, .inr (.inr (.inr (.inr (fun i => (Rf p i).map (xad X))))))) := wsO_get hp |>.trans (by rw [cell_R hs])
  have hlt : i.toNatClampNeg < nn := Nat.not_le.mp fun q => hin (Or.inr q)
  have hv : va_rf ((Rf p i.toNatClampNeg).map (xad X)) = .ref (xad X q) := by rw [hr]; rfl
  obtain ⟨ty, t0, ht, hty⟩ : ∃ (ty : FieldType) (t0 : Nat), (tysO (xcy X))[t0]? = some (xcy X (ci + 2), ty) ∧ ty.isReference = true := by
    rcases (show ci = 0 ∨ ci = 1 ∨ ci = 2 by omega) with rfl | rfl | rfl
    · exact ⟨_, 2, rfl, rfl⟩
    · exact ⟨_, 3, rfl, rfl⟩
    · exact ⟨_, 4, rfl, rfl⟩
  refine W.aald (v := .ref (xad X q)) (ty := ty) C.x C.b (hP p _ ha) ((K.1.2 t0 _ ht).1 nn (fun j => va_rf ((Rf p j).map (xad X)))) hty (fun q => by cases q) (by show ¬ (i < 0 ∨ (arrV _ _ _).slots.size ≤ _); rw [arrV_size]; exact hin) (by show (arrV _ _ _).slots[_]? = _; rw [arrV_read _ _ hlt, hv]) rfl rfl hd (kk H locs ls hP hD hS hl)
end HEAPROWS
/-! methods -/
def AA (ad : Nat → Nat) (sz : Nat) : Nat → Prop := fun q => (∃ p, p < 110 ∧ q = ad p) ∨ sz ≤ q
def Pk (D : va_G) (cy : Nat → ClassId) (ad : Nat → Nat) (I : KI) (J : KJ) (Rf : KR) (sz : Nat) (U : State) : Prop := U.heap.size = sz ∧ va_P D vwCl (wsO cy ad 110 I J Rf) U.heap ∧ va_K D vwCl (tysO cy) U ∧ va_D (fun _ => True) (wsO cy ad 110 I J Rf) ∧ NW U
abbrev KS : Type := KI × KJ × KR
def QB (D : va_G) (cy : Nat → ClassId) (ad : Nat → Nat) (u : KS) (t : State) : Prop := va_P D vwCl (wsO cy ad 110 u.1 u.2.1 u.2.2) t.heap
abbrev wm (y : MethodName) (b : ByteArray) (n : Nat) (ret : Option FieldType) : List Cond := Cond.code y b n ret :: gW
def Mi (d : Nat) (y : MethodName) (ws : List Cond) (av : List Value) (ad : Nat → Nat) (I : KI) (J : KJ) (Rf : KR) (Q : Int32 → KI → KJ → KR → Prop) : Prop := ∀ (l : Launch) (D : va_G) (cy : Nat → ClassId) (sz : Nat), Met l y ws (rmd d) (va_Pc av (Pk D cy ad I J Rf sz)) (va_Qi (fun r (u : KS) => Q r u.1 u.2.1 u.2.2) (QB D cy ad) (AA ad sz)) 0 0 (AA ad sz)
def Ml (d : Nat) (y : MethodName) (ws : List Cond) (av : List Value) (ad : Nat → Nat) (I : KI) (J : KJ) (Rf : KR) (Q : Int64 → KI → KJ → KR → Prop) : Prop := ∀ (l : Launch) (D : va_G) (cy : Nat → ClassId) (sz : Nat), Met l y ws (rmd d) (va_Pc av (Pk D cy ad I J Rf sz)) (va_Ql (fun r (u : KS) => Q r u.1 u.2.1 u.2.2) (QB D cy ad) (AA ad sz)) 0 0 (AA ad sz)
def Mv (d : Nat) (y : MethodName) (ws : List Cond) (av : List Value) (ad : Nat → Nat) (I : KI) (J : KJ) (Rf : KR) (Q : KI → KJ → KR → Prop) : Prop := ∀ (l : Launch) (D : va_G) (cy : Nat → ClassId) (sz : Nat), Met l y ws (rmd d) (va_Pc av (Pk D cy ad I J Rf sz)) (va_Qv (fun (u : KS) => Q u.1 u.2.1 u.2.2) (QB D cy ad) (AA ad sz)) 0 0 (AA ad sz)
def Yk (y : MethodName) (b : ByteArray) (n : Nat) (ret : Option FieldType) (np : Nat) : Prop := plainName y.cls = true ∧ Cond.code y b n ret ∈ gW ∧ Cond.initialized y.cls ∈ gW ∧ y.cls ≠ "java/lang/invoke/MethodHandle" ∧ y.cls ≠ "java/lang/invoke/VarHandle" ∧ (parseMethodDescriptor y.desc).map (fun d => d.parameters.length) = some np ∧ n ≤ 21
def Yv (y : MethodName) : Prop := Cond.instanceMethod y ∈ gW ∧ Cond.selects y.cls y y ∈ gW
def Ei (X : KX) (rt : FieldType) (Q : Int32 → KI → KJ → KR → Prop) : Prop := (xmeth X).sig.returnType = some rt ∧ xQ X = MQ (xbelow X) (va_Qi (fun r (u : KS) => Q r u.1 u.2.1 u.2.2) (QB (xD X) (xcy X) (xad X)) (xA X)) (xa X) (xs X) 0 0 (xA X)
def El (X : KX) (Q : Int64 → KI → KJ → KR → Prop) : Prop := (xmeth X).sig.returnType = some .long ∧ xQ X = MQ (xbelow X) (va_Ql (fun r (u : KS) => Q r u.1 u.2.1 u.2.2) (QB (xD X) (xcy X) (xad X)) (xA X)) (xa X) (xs X) 0 0 (xA X)
def Ev (X : KX) (Q : KI → KJ → KR → Prop) : Prop := (xmeth X).sig.returnType = none ∧ xQ X = MQ (xbelow X) (va_Qv (fun (u : KS) => Q u.1 u.2.1 u.2.2) (QB (xD X) (xcy X) (xad X)) (xA X)) (xa X) (xs X) 0 0 (xA X)
section METHODS
variable {X : KX} {own : String} {cc : ByteArray} {d k0 n0 : Nat} {pc n : Nat} {L : List (Nat × Value)} {S : List Value} {I : KI} {J : KJ} {Rf : KR}
theorem z_iret (C : Cx X own cc d) {Q : Int32 → KI → KJ → KR → Prop} (E : Ei X .int Q) {x : Int32} (hd : decode cc pc = .ok (.ireturn, 1)) (hq : Q x I J Rf) : Z X 0 0 (V X I J Rf) pc L [.int x] := by
  intro H locs ls hP hD hS hl
  rw [E.2]
  exact W.iret C.x C.b E.1 (fun t ht hW => ⟨⟨x, (I, J, Rf), rfl, hq, by unfold QB; rw [ht]; exact hP⟩, hS.F ht⟩) hS.2.2 hd C.lk
theorem z_zret (C : Cx X own cc d) {Q : Int32 → KI → KJ → KR → Prop} (E : Ei X .boolean Q) {x : Int32} (hd : decode cc pc = .ok (.ireturn, 1)) (hx : x = 0 ∨ x = 1) (hq : Q x I J Rf) : Z X 0 0 (V X I J Rf) pc L [.int x] := by
  intro H locs ls hP hD hS hl
  rw [E.2]
  exact W.zret C.x C.b E.1 (by rcases hx with rfl | rfl <;> rfl) (fun t ht hW => ⟨⟨x, (I, J, Rf), rfl, hq, by unfold QB; rw [ht]; exact hP⟩, hS.F ht⟩) hS.2.2 hd C.lk
theorem z_lret (C : Cx X own cc d) {Q : Int64 → KI → KJ → KR → Prop} (E : El X Q) {x : Int64} (hd : decode cc pc = .ok (.lreturn, 1)) (hq : Q x I J Rf) : Z X 0 0 (V X I J Rf) pc L [.long x] := by
  intro H locs ls hP hD hS hl
  rw [E.2]
  exact W.lret C.x C.b E.1 (fun t ht hW => ⟨⟨x, (I, J, Rf), rfl, hq, by unfold QB; rw [ht]; exact hP⟩, hS.F ht⟩) hS.2.2 hd C.lk
theorem z_vret (C : Cx X own cc d) {Q : KI → KJ → KR → Prop} (E : Ev X Q) (hd : decode cc pc = .ok (.return_, 1)) (hq : Q I J Rf) : Z X 0 0 (V X I J Rf) pc L [] := by
  intro H locs ls hP hD hS hl
  rw [E.2]
  exact W.vret C.x C.b E.1 (fun t ht hW => ⟨⟨(I, J, Rf), rfl, hq, by unfold QB; rw [ht]; exact hP⟩, hS.F ht⟩) hS.2.2 hd C.lk
theorem mi_of {y : MethodName} {b : ByteArray} {nl np : Nat} {rt : FieldType} {av : List Value} {ad : Nat → Nat} {Q : Int32 → KI → KJ → KR → Prop} {L : List (Nat × Value)} {I : KI} {J : KJ} {Rf : KR} (hY : Yk y b nl (some rt) np) (hown : y.cls = own) (hlen : (lg_sl av).length ≤ nl) (hL : lv_args 0 av = L) (body : ∀ X : KX, xad X = ad → xnL X = nl → Cx X own b d → Kx X → Ei X rt Q → Z X 0 0 (V X I J Rf) 0 L []) : Mi d y (wm y b nl (some rt)) av ad I J Rf Q := by
  intro l D cy sz
  subst hown
  subst hL
  refine Met.ofW (cc := b) (maxL := nl) (ret := some rt) hY.1 rfl ?_
  intro p e s m args below meth c s₁ B hml hv
  obtain ⟨rfl, hsz, hP, hK, hD0, hN⟩ := hv
  subst hsz
  have hD : va_D (AA ad s.heap.size) (wsO cy ad 110 I J Rf) := hD0.weaken (fun k q hk _ => by obtain ⟨h1, rfl⟩ := wsO_some hk; exact Or.inl ⟨k, h1, rfl⟩)
  have hts := atoms_spec (ws := wm y b nl (some rt)) B.pre
  have hl := lv_entry av (n := nl) hlen
  rw [lg_entry_eq]
  exact body (p, l, e, (headSpec (wm y b nl (some rt)) (rmd d)).room, s, m, av.toArray, below, meth, c, D, cy, AA ad s.heap.size, MQ below (va_Qi (fun r (u : KS) => Q r u.1 u.2.1 u.2.2) (QB D cy ad) (AA ad s.heap.size)) av.toArray s 0 0 (AA ad s.heap.size), ad, nl) rfl rfl ⟨B.exec, B.bytes, hml, findClass_of_methodNamed B.named, fun w hw => hts w (List.mem_cons_of_mem _ hw), B.notSynchronized, ⟨Nat.le_refl d, Nat.le_refl (40 * d)⟩, fun q h => Or.inr h⟩ ⟨hK, hN⟩ ⟨B.returns, rfl⟩ s.heap [] _ hP hD va_S.rf hl
theorem ml_of {y : MethodName} {b : ByteArray} {nl np : Nat} {av : List Value} {ad : Nat → Nat} {Q : Int64 → KI → KJ → KR → Prop} {L : List (Nat × Value)} {I : KI} {J : KJ} {Rf : KR} (hY : Yk y b nl (some .long) np) (hown : y.cls = own) (hlen : (lg_sl av).length ≤ nl) (hL : lv_args 0 av = L) (body : ∀ X : KX, xad X = ad → xnL X = nl → Cx X own b d → Kx X → El X Q → Z X 0 0 (V X I J Rf) 0 L []) : Ml d y (wm y b nl (some .long)) av ad I J Rf Q := by
  intro l D cy sz
  subst hown
  subst hL
  refine Met.ofW (cc := b) (maxL := nl) (ret := some .long) hY.1 rfl ?_
  intro p e s m args below meth c s₁ B hml hv
  obtain ⟨rfl, hsz, hP, hK, hD0, hN⟩ := hv
  subst hsz
  have hD : va_D (AA ad s.heap.size) (wsO cy ad 110 I J Rf) := hD0.weaken (fun k q hk _ => by obtain ⟨h1, rfl⟩ := wsO_some hk; exact Or.inl ⟨k, h1, rfl⟩)
  have hts := atoms_spec (ws := wm y b nl (some .long)) B.pre
  have hl := lv_entry av (n := nl) hlen
  rw [lg_entry_eq]
  exact body (p, l, e, (headSpec (wm y b nl (some .long)) (rmd d)).room, s, m, av.toArray, below, meth, c, D, cy, AA ad s.heap.size, MQ below (va_Ql (fun r (u : KS) => Q r u.1 u.2.1 u.2.2) (QB D cy ad) (AA ad s.heap.size)) av.toArray s 0 0 (AA ad s.heap.size), ad, nl) rfl rfl ⟨B.exec, B.bytes, hml, findClass_of_methodNamed B.named, fun w hw => hts w (List.mem_cons_of_mem _ hw), B.notSynchronized, ⟨Nat.le_refl d, Nat.le_refl (40 * d)⟩, fun q h => Or.inr h⟩ ⟨hK, hN⟩ ⟨B.returns, rfl⟩ s.heap [] _ hP hD va_S.rf hl
theorem mv_of {y : MethodName} {b : ByteArray} {nl np : Nat} {av : List Value} {ad : Nat → Nat} {Q : KI → KJ → KR → Prop} {L : List (Nat × Value)} {I : KI} {J : KJ} {Rf : KR} (hY : Yk y b nl none np) (hown : y.cls = own) (hlen : (lg_sl av).length ≤ nl) (hL : lv_args 0 av = L) (body : ∀ X : KX, xad X = ad → xnL X = nl → Cx X own b d → Kx X → Ev X Q → Z X 0 0 (V X I J Rf) 0 L []) : Mv d y (wm y b nl none) av ad I J Rf Q := by
  intro l D cy sz
  subst hown
  subst hL
  refine Met.ofW (cc := b) (maxL := nl) (ret := none) hY.1 rfl ?_
  intro p e s m args below meth c s₁ B hml hv
  obtain ⟨rfl, hsz, hP, hK, hD0, hN⟩ := hv
  subst hsz
  have hD : va_D (AA ad s.heap.size) (wsO cy ad 110 I J Rf) := hD0.weaken (fun k q hk _ => by obtain ⟨h1, rfl⟩ := wsO_some hk; exact Or.inl ⟨k, h1, rfl⟩)
  have hts := atoms_spec (ws := wm y b nl none) B.pre
  have hl := lv_entry av (n := nl) hlen
  rw [lg_entry_eq]
  exact body (p, l, e, (headSpec (wm y b nl none) (rmd d)).room, s, m, av.toArray, below, meth, c, D, cy, AA ad s.heap.size, MQ below (va_Qv (fun (u : KS) => Q u.1 u.2.1 u.2.2) (QB D cy ad) (AA ad s.heap.size)) av.toArray s 0 0 (AA ad s.heap.size), ad, nl) rfl rfl ⟨B.exec, B.bytes, hml, findClass_of_methodNamed B.named, fun w hw => hts w (List.mem_cons_of_mem _ hw), B.notSynchronized, ⟨Nat.le_refl d, Nat.le_refl (40 * d)⟩, fun q h => Or.inr h⟩ ⟨hK, hN⟩ ⟨B.returns, rfl⟩ s.heap [] _ hP hD va_S.rf hl
theorem pk_blind {D : va_G} {cy : Nat → ClassId} {ad : Nat → Nat} {sz : Nat} {av : List Value} : FrameBlind (va_Pc av (Pk D cy ad I J Rf sz)) := fun a U g mk q => by obtain ⟨q0, q1, qP, qK, qD, qN⟩ := q; exact ⟨q0, q1, qP, va_K.moved (u := U) (U := U.calling g mk a) (Vm.Alike.refl U.vm) qK, qD, NW.same (u := U) rfl qN⟩
theorem goodV {idx : Nat} {y : MethodName} {b : ByteArray} {nl : Nat} {ret : Option FieldType} {np : Nat} (hY : Yk y b nl ret np) (hV : Yv y) (hm : Cond.methodLink own idx y ∈ gW) : GoodIn gW (wsV own idx y.cls y (wm y b nl ret)) := by
  intro w hw
  have h : w ∈ gW := by
    rcases List.mem_append.mp hw with h | h
    · rcases List.mem_cons.mp h with rfl | h
      · exact hm
      · rcases List.mem_cons.mp h with rfl | h
        · exact hV.1
        · rcases List.mem_cons.mp h with rfl | h
          · exact hV.2
          · rcases List.mem_cons.mp h with rfl | h
            · exact hY.2.2.1
            · cases h
    · rcases List.mem_cons.mp h with rfl | h
      · exact hY.2.1
      · exact h
  exact ⟨h, gW_good w h⟩
theorem goodM {y : MethodName} {b : ByteArray} {nl : Nat} {ret : Option FieldType} {np : Nat} (hY : Yk y b nl ret np) : GoodIn gW (wm y b nl ret) := by
  intro w hw
  have h : w ∈ gW := by
    rcases List.mem_cons.mp hw with rfl | h
    · exact hY.2.1
    · exact h
  exact ⟨h, gW_good w h⟩
theorem cwv {X : KX} {own : String} {cc : ByteArray} {d d' : Nat} (C : Cx X own cc d) (hdd : d' < d) {idx : Nat} {y : MethodName} {b : ByteArray} {nl : Nat} {ret : Option FieldType} {np : Nat} (hY : Yk y b nl ret np) (hV : Yv y) (hm : Cond.methodLink own idx y ∈ gW) : CallW (xRm X) (xs X) (xa X) own y.cls idx y b nl ret (wm y b nl ret) (rmd d') 0 0 np := by
  refine cwV np C.ts (goodV hY hV hm) rfl rfl rfl ⟨rfl, hY.2.2.2.1, hY.2.2.2.2.1, hY.2.2.2.2.2.1⟩ ⟨?_, ?_⟩
  · have := C.rm.1; show d' + 1 ≤ _; omega
  · have := C.rm.2; have h2 := hY.2.2.2.2.2.2; show 8 + (nl + 11) + 40 * d' ≤ _; omega
theorem cws {X : KX} {own : String} {cc : ByteArray} {d d' : Nat} (C : Cx X own cc d) (hdd : d' < d) {idx : Nat} {y : MethodName} {b : ByteArray} {nl : Nat} {ret : Option FieldType} {np : Nat} (hY : Yk y b nl ret np) (hS : Cond.static y ∈ gW) (hm : Cond.methodLink own idx y ∈ gW) : CallB (xRm X) (xs X) (xa X) own idx y b nl ret (wm y b nl ret) (rmd d') 0 0 np ∧ (Cond.static y).before (xa X) (xs X) = true := by
  refine ⟨⟨rfl, rfl, ?_, ?_, fun w hw a' U hW => word_at hW ((goodM hY) w hw).2 (C.ts w ((goodM hY) w hw).1), List.mem_cons_self, C.ts _ hY.2.1, C.ts _ hY.2.2.1, ⟨hY.2.2.2.1, hY.2.2.2.2.1⟩, ?_, C.ts _ hm⟩, C.ts _ hS⟩
  · have := C.rm.1; show d' + 1 ≤ _; omega
  · have := C.rm.2; have h2 := hY.2.2.2.2.2.2; show 8 + (nl + 11) + 40 * d' ≤ _; omega
  · intro sig h
    have := hY.2.2.2.2.2.1
    rw [h] at this
    exact (Option.some.inj this).symm
theorem a_in {X : KX} {H : Heap} {locs : List Loc} (C : Cx X own cc d) (hD : va_D (xA X) (V X I J Rf)) (hS : va_S (xA X) (xs X).heap H locs) : ∀ q, AA (xad X) H.size q → xA X q := by
  intro q h
  rcases h with ⟨p, hp, rfl⟩ | h
  · exact hD.2 p _ (wsO_get hp)
  · exact C.hA q (Nat.le_trans hS.1 h)
theorem z_vi (C : Cx X own cc d) (K : Kx X) {idx d' nl np ci nn p : Nat} {y : MethodName} {b : ByteArray} {rt : FieldType} {As : List Value} {T : u_T} {N : Nat} (hd : decode cc pc = .ok (.invokevirtual idx, 3)) (hn : pc + 3 = n) (hY : Yk y b nl (some rt) np) (hV : Yv y) (hm : Cond.methodLink own idx y ∈ gW) (hdd : d' < d) (hR : k0 ≤ (xRm X).cells ∧ n0 ≤ (xRm X).slots) (hAs : As.length = np) (hw : ((S.map fun (v : Value) => v.category).sum).ble 8 = true) (hcl : vwCl[ci]? = some (y.cls, T, N)) (hs : sh p = (ci, nn)) (hc : ci < 11) (hp : p < 110)
    (M : Mi d' y (wm y b nl (some rt)) (.ref (xad X p) :: As) (xad X) I J Rf (fun r I' J' R' => Z X k0 n0 (V X I' J' R') n L (.int r :: S))) : Z X k0 n0 (V X I J Rf) pc L (As.reverse ++ .ref (xad X p) :: S) := by
  subst hn
  intro H locs ls hP hD hS hl
  have hA := a_in C hD hS
  refine va_calli (va_runV (As := As) (rest := S) ⟨C.x, C.b, C.ml, C.own, C.ts⟩ (M (xl X) (xD X) (xcy X) H.size) (cwv C hdd hY hV hm) ⟨pk_blind, va_recv K.1 hP hcl (wsO_get hp |>.trans (by rw [cell_obj hs hc])), fun U hU hW => ⟨rfl, by rw [hU], by rw [hU]; exact hP, va_K.moved hW.alike K.1, hD.weaken (fun _ _ _ _ => trivial), NW.warm hW K.2⟩⟩ rfl hAs hl.1 rfl (lv_room (Nat.le_of_ble_eq_true hw)) hd hR) hS (fun q _ h => hA q h) hA (fun r u t H1 locs1 ht hvm hpost hB hz hk hS1 => ?_)
  unfold QB at hB
  rw [ht] at hB
  exact hpost H1 locs1 ls hB (wsO_D hD) hS1 hl
theorem z_vl (C : Cx X own cc d) (K : Kx X) {idx d' nl np ci nn p : Nat} {y : MethodName} {b : ByteArray} {As : List Value} {T : u_T} {N : Nat} (hd : decode cc pc = .ok (.invokevirtual idx, 3)) (hn : pc + 3 = n) (hY : Yk y b nl (some .long) np) (hV : Yv y) (hm : Cond.methodLink own idx y ∈ gW) (hdd : d' < d) (hR : k0 ≤ (xRm X).cells ∧ n0 ≤ (xRm X).slots) (hAs : As.length = np) (hw : ((S.map fun (v : Value) => v.category).sum).ble 8 = true) (hcl : vwCl[ci]? = some (y.cls, T, N)) (hs : sh p = (ci, nn)) (hc : ci < 11) (hp : p < 110)
    (M : Ml d' y (wm y b nl (some .long)) (.ref (xad X p) :: As) (xad X) I J Rf (fun r I' J' R' => Z X k0 n0 (V X I' J' R') n L (.long r :: S))) : Z X k0 n0 (V X I J Rf) pc L (As.reverse ++ .ref (xad X p) :: S) := by
  subst hn
  intro H locs ls hP hD hS hl
  have hA := a_in C hD hS
  refine va_calll (va_runV (As := As) (rest := S) ⟨C.x, C.b, C.ml, C.own, C.ts⟩ (M (xl X) (xD X) (xcy X) H.size) (cwv C hdd hY hV hm) ⟨pk_blind, va_recv K.1 hP hcl (wsO_get hp |>.trans (by rw [cell_obj hs hc])), fun U hU hW => ⟨rfl, by rw [hU], by rw [hU]; exact hP, va_K.moved hW.alike K.1, hD.weaken (fun _ _ _ _ => trivial), NW.warm hW K.2⟩⟩ rfl hAs hl.1 rfl (lv_room (Nat.le_of_ble_eq_true hw)) hd hR) hS (fun q _ h => hA q h) hA (fun r u t H1 locs1 ht hvm hpost hB hz hk hS1 => ?_)
  unfold QB at hB
  rw [ht] at hB
  exact hpost H1 locs1 ls hB (wsO_D hD) hS1 hl
theorem z_vv (C : Cx X own cc d) (K : Kx X) {idx d' nl np ci nn p : Nat} {y : MethodName} {b : ByteArray} {As : List Value} {T : u_T} {N : Nat} (hd : decode cc pc = .ok (.invokevirtual idx, 3)) (hn : pc + 3 = n) (hY : Yk y b nl none np) (hV : Yv y) (hm : Cond.methodLink own idx y ∈ gW) (hdd : d' < d) (hR : k0 ≤ (xRm X).cells ∧ n0 ≤ (xRm X).slots) (hAs : As.length = np) (hw : ((S.map fun (v : Value) => v.category).sum).ble 8 = true) (hcl : vwCl[ci]? = some (y.cls, T, N)) (hs : sh p = (ci, nn)) (hc : ci < 11) (hp : p < 110)
    (M : Mv d' y (wm y b nl none) (.ref (xad X p) :: As) (xad X) I J Rf (fun I' J' R' => Z X k0 n0 (V X I' J' R') n L S)) : Z X k0 n0 (V X I J Rf) pc L (As.reverse ++ .ref (xad X p) :: S) := by
  subst hn
  intro H locs ls hP hD hS hl
  have hA := a_in C hD hS
  refine va_callv (va_runV (As := As) (rest := S) ⟨C.x, C.b, C.ml, C.own, C.ts⟩ (M (xl X) (xD X) (xcy X) H.size) (cwv C hdd hY hV hm) ⟨pk_blind, va_recv K.1 hP hcl (wsO_get hp |>.trans (by rw [cell_obj hs hc])), fun U hU hW => ⟨rfl, by rw [hU], by rw [hU]; exact hP, va_K.moved hW.alike K.1, hD.weaken (fun _ _ _ _ => trivial), NW.warm hW K.2⟩⟩ rfl hAs hl.1 rfl (lv_room (Nat.le_of_ble_eq_true hw)) hd hR) hS (fun q _ h => hA q h) hA (fun u t H1 locs1 ht hvm hpost hB hz hk hS1 => ?_)
  unfold QB at hB
  rw [ht] at hB
  exact hpost H1 locs1 ls hB (wsO_D hD) hS1 hl
theorem z_si (C : Cx X own cc d) (K : Kx X) {idx d' nl np : Nat} {y : MethodName} {b : ByteArray} {rt : FieldType} {As : List Value} (hd : decode cc pc = .ok (.invokestatic idx, 3)) (hn : pc + 3 = n) (hY : Yk y b nl (some rt) np) (hV : Cond.static y ∈ gW) (hm : Cond.methodLink own idx y ∈ gW) (hdd : d' < d) (hR : k0 ≤ (xRm X).cells ∧ n0 ≤ (xRm X).slots) (hAs : As.length = np) (hw : ((S.map fun (v : Value) => v.category).sum).ble 8 = true)
    (M : Mi d' y (wm y b nl (some rt)) As (xad X) I J Rf (fun r I' J' R' => Z X k0 n0 (V X I' J' R') n L (.int r :: S))) : Z X k0 n0 (V X I J Rf) pc L (As.reverse ++ S) := by
  subst hn
  intro H locs ls hP hD hS hl
  have hA := a_in C hD hS
  refine va_calli (va_runS (As := As) (rest := S) ⟨C.x, C.b, C.ml, C.own, C.ts⟩ (M (xl X) (xD X) (xcy X) H.size) (cws C hdd hY hV hm) ⟨pk_blind, fun U hU hW => ⟨rfl, by rw [hU], by rw [hU]; exact hP, va_K.moved hW.alike K.1, hD.weaken (fun _ _ _ _ => trivial), NW.warm hW K.2⟩⟩ rfl hAs hl.1 rfl (lv_room (Nat.le_of_ble_eq_true hw)) hd hR) hS (fun q _ h => hA q h) hA (fun r u t H1 locs1 ht hvm hpost hB hz hk hS1 => ?_)
  unfold QB at hB
  rw [ht] at hB
  exact hpost H1 locs1 ls hB (wsO_D hD) hS1 hl
theorem cwsN {X : KX} {own : String} {cc : ByteArray} {d d' : Nat} (C : Cx X own cc d) (K : Kx X) (hdd : d' < d) {idx : Nat} {y : MethodName} {b : ByteArray} {nl : Nat} {ret : Option FieldType} {np : Nat} (hY : Yk y b nl ret np) (hS : Cond.static y ∈ gW) {host : String} (hm : (own, idx, y, host) ∈ nestM) : va_CN (xRm X) (xs X) (xa X) own idx y host b nl ret (wm y b nl ret) (rmd d') 0 0 np ∧ (Cond.static y).before (xa X) (xs X) = true ∧ True := by
  refine ⟨va_cnB np C.ts (goodM hY) rfl rfl rfl (K.2.2 _ hm) (C.ts _ hY.2.2.1) ⟨hY.2.2.2.1, hY.2.2.2.2.1, hY.2.2.2.2.2.1⟩ ⟨?_, ?_⟩, C.ts _ hS, trivial⟩
  · have := C.rm.1; show d' + 1 ≤ _; omega
  · have := C.rm.2; have h2 := hY.2.2.2.2.2.2; show 8 + (nl + 11) + 40 * d' ≤ _; omega
theorem z_siN (C : Cx X own cc d) (K : Kx X) {idx d' nl np : Nat} {y : MethodName} {b : ByteArray} {rt : FieldType} {As : List Value} (hd : decode cc pc = .ok (.invokestatic idx, 3)) (hn : pc + 3 = n) (hY : Yk y b nl (some rt) np) (hV : Cond.static y ∈ gW) {host : String} (hm : (own, idx, y, host) ∈ nestM) (hdd : d' < d) (hR : k0 ≤ (xRm X).cells ∧ n0 ≤ (xRm X).slots) (hAs : As.length = np) (hw : ((S.map fun (v : Value) => v.category).sum).ble 8 = true)
    (M : Mi d' y (wm y b nl (some rt)) As (xad X) I J Rf (fun r I' J' R' => Z X k0 n0 (V X I' J' R') n L (.int r :: S))) : Z X k0 n0 (V X I J Rf) pc L (As.reverse ++ S) := by
  subst hn
  intro H locs ls hP hD hS hl
  have hA := a_in C hD hS
  refine va_calli (va_runSN (As := As) (rest := S) ⟨C.x, C.b, C.ml, C.own, C.ts⟩ (M (xl X) (xD X) (xcy X) H.size) (cwsN C K hdd hY hV hm) ⟨pk_blind, fun U hU hW => ⟨rfl, by rw [hU], by rw [hU]; exact hP, va_K.moved hW.alike K.1, hD.weaken (fun _ _ _ _ => trivial), NW.warm hW K.2⟩⟩ rfl hAs hl.1 rfl (lv_room (Nat.le_of_ble_eq_true hw)) hd hR) hS (fun q _ h => hA q h) hA (fun r u t H1 locs1 ht hvm hpost hB hz hk hS1 => ?_)
  unfold QB at hB
  rw [ht] at hB
  exact hpost H1 locs1 ls hB (wsO_D hD) hS1 hl
theorem z_sl (C : Cx X own cc d) (K : Kx X) {idx d' nl np : Nat} {y : MethodName} {b : ByteArray} {As : List Value} (hd : decode cc pc = .ok (.invokestatic idx, 3)) (hn : pc + 3 = n) (hY : Yk y b nl (some .long) np) (hV : Cond.static y ∈ gW) (hm : Cond.methodLink own idx y ∈ gW) (hdd : d' < d) (hR : k0 ≤ (xRm X).cells ∧ n0 ≤ (xRm X).slots) (hAs : As.length = np) (hw : ((S.map fun (v : Value) => v.category).sum).ble 8 = true)
    (M : Ml d' y (wm y b nl (some .long)) As (xad X) I J Rf (fun r I' J' R' => Z X k0 n0 (V X I' J' R') n L (.long r :: S))) : Z X k0 n0 (V X I J Rf) pc L (As.reverse ++ S) := by
  subst hn
  intro H locs ls hP hD hS hl
  have hA := a_in C hD hS
  refine va_calll (va_runS (As := As) (rest := S) ⟨C.x, C.b, C.ml, C.own, C.ts⟩ (M (xl X) (xD X) (xcy X) H.size) (cws C hdd hY hV hm) ⟨pk_blind, fun U hU hW => ⟨rfl, by rw [hU], by rw [hU]; exact hP, va_K.moved hW.alike K.1, hD.weaken (fun _ _ _ _ => trivial), NW.warm hW K.2⟩⟩ rfl hAs hl.1 rfl (lv_room (Nat.le_of_ble_eq_true hw)) hd hR) hS (fun q _ h => hA q h) hA (fun r u t H1 locs1 ht hvm hpost hB hz hk hS1 => ?_)
  unfold QB at hB
  rw [ht] at hB
  exact hpost H1 locs1 ls hB (wsO_D hD) hS1 hl
theorem z_sv (C : Cx X own cc d) (K : Kx X) {idx d' nl np : Nat} {y : MethodName} {b : ByteArray} {As : List Value} (hd : decode cc pc = .ok (.invokestatic idx, 3)) (hn : pc + 3 = n) (hY : Yk y b nl none np) (hV : Cond.static y ∈ gW) (hm : Cond.methodLink own idx y ∈ gW) (hdd : d' < d) (hR : k0 ≤ (xRm X).cells ∧ n0 ≤ (xRm X).slots) (hAs : As.length = np) (hw : ((S.map fun (v : Value) => v.category).sum).ble 8 = true)
    (M : Mv d' y (wm y b nl none) As (xad X) I J Rf (fun I' J' R' => Z X k0 n0 (V X I' J' R') n L S)) : Z X k0 n0 (V X I J Rf) pc L (As.reverse ++ S) := by
  subst hn
  intro H locs ls hP hD hS hl
  have hA := a_in C hD hS
  refine va_callv (va_runS (As := As) (rest := S) ⟨C.x, C.b, C.ml, C.own, C.ts⟩ (M (xl X) (xD X) (xcy X) H.size) (cws C hdd hY hV hm) ⟨pk_blind, fun U hU hW => ⟨rfl, by rw [hU], by rw [hU]; exact hP, va_K.moved hW.alike K.1, hD.weaken (fun _ _ _ _ => trivial), NW.warm hW K.2⟩⟩ rfl hAs hl.1 rfl (lv_room (Nat.le_of_ble_eq_true hw)) hd hR) hS (fun q _ h => hA q h) hA (fun u t H1 locs1 ht hvm hpost hB hz hk hS1 => ?_)
  unfold QB at hB
  rw [ht] at hB
  exact hpost H1 locs1 ls hB (wsO_D hD) hS1 hl
theorem z_min (C : Cx X own cc d) {idx : Nat} {x y : Int32} (hd : decode cc pc = .ok (.invokestatic idx, 3)) (hn : pc + 3 = n) (hm : Cond.methodLink own idx Lib.Math.min.name ∈ gW) (hd1 : 0 < d) (hR : k0 ≤ (xRm X).cells ∧ n0 ≤ (xRm X).slots) (hw : ((S.map fun (v : Value) => v.category).sum).ble 8 = true) (kk : Z X k0 n0 (V X I J Rf) n L (.int (if y < x then y else x) :: S)) : Z X k0 n0 (V X I J Rf) pc L (.int y :: .int x :: S) := by
  subst hn
  intro H locs ls hP hD hS hl
  have h1 := C.rm
  have h2 := Nat.le_of_ble_eq_true hw
  exact va_mmin C.x C.b (by rw [C.ml, hl.1]) C.own (C.ts _ hm) (C.ts _ kT_Lib_Math_min) (C.ts _ kN_RJ9) (C.ts _ kC_Lib_Math_min) (by omega) (by omega) hR.1 hR.2 hd (kk H locs ls hP hD hS hl)
theorem z_max (C : Cx X own cc d) {idx : Nat} {x y : Int32} (hd : decode cc pc = .ok (.invokestatic idx, 3)) (hn : pc + 3 = n) (hm : Cond.methodLink own idx Lib.Math.max.name ∈ gW) (hd1 : 0 < d) (hR : k0 ≤ (xRm X).cells ∧ n0 ≤ (xRm X).slots) (hw : ((S.map fun (v : Value) => v.category).sum).ble 8 = true) (kk : Z X k0 n0 (V X I J Rf) n L (.int (if x < y then y else x) :: S)) : Z X k0 n0 (V X I J Rf) pc L (.int y :: .int x :: S) := by
  subst hn
  intro H locs ls hP hD hS hl
  have h1 := C.rm
  have h2 := Nat.le_of_ble_eq_true hw
  exact va_mmax C.x C.b (by rw [C.ml, hl.1]) C.own (C.ts _ hm) (C.ts _ kT_Lib_Math_max) (C.ts _ kN_RJ9) (C.ts _ kC_Lib_Math_max) (by omega) (by omega) hR.1 hR.2 hd (kk H locs ls hP hD hS hl)
end METHODS
theorem hR0 {a b : Nat} : 0 ≤ a ∧ 0 ≤ b := ⟨Nat.zero_le _, Nat.zero_le _⟩

