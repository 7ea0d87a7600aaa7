/-! what late and mean ask, and answer: shared by the two sides -/
def isSB (c : Nat) (v : Int32) : Bool := decide (0 < v.toInt) && decide (v.toInt < ((2 ^ c : Nat) : Int))
theorem isSB_t {c : Nat} {v : Int32} (hc : c ≤ 10) : isSB c v = true ↔ isS c v := by
  unfold isSB isS
  rw [Bool.and_eq_true, decide_eq_true_eq, decide_eq_true_eq]
  have h2 : (2 : Nat) ^ c ≤ 2 ^ 10 := Nat.pow_le_pow_right (by decide) hc
  constructor
  · rintro ⟨h0, h1⟩
    obtain ⟨m, hm, rfl⟩ := i_nat (x := v) (by omega)
    rw [nI_toInt hm] at h0 h1
    exact ⟨m, by omega, by omega, rfl⟩
  · rintro ⟨m, h0, h1, rfl⟩
    rw [nI_toInt (by omega)]
    omega
def lnOk (n c : Nat) (setv cov kv sov : Int32) (okk : Bool) : Prop := isB 0 3 kv ∧ isN n cov ∧ isB 0 2 sov ∧ isSB c setv = true ∧ okk = true
def gatesOf (c : Nat) (co ki ag : Nat → Nat) (set : Nat) : List Nat := gL (pcG set c co ki ag) 7
def lnWk (c s : Nat) (C : Nat → Nat → Nat) (co ki ag : Nat → Nat) (cd : Nat → Int32) (set a n : Nat) : Bool := decide (n = (gatesOf c co ki ag set).length) && (odS (pcG set c co ki ag) cd n && wkB C s a (ogS cd n))
theorem lnWk_t {c s : Nat} {C : Nat → Nat → Nat} {co ki ag : Nat → Nat} {cd : Nat → Int32} {set a n : Nat} : lnWk c s C co ki ag cd set a n = true ↔ n = (gatesOf c co ki ag set).length ∧ odS (pcG set c co ki ag) cd n = true ∧ wkB C s a (ogS cd n) = true := by
  unfold lnWk; rw [Bool.and_eq_true, Bool.and_eq_true, decide_eq_true_eq]
def lnA (n c s : Nat) (C : Nat → Nat → Nat) (co ki ag : Nat → Nat) (th : Nat → Bool) (so ct : Nat → Nat) (cd : Nat → Int32) (setv cov kv sov iv nv : Int32) (okk : Bool) : Nat ⊕ List Nat :=
  if isB 0 3 kv ∧ isN n cov ∧ isB 0 2 sov ∧ isSB c setv = true ∧ okk = true then
    if rfS (th kv.toNatClampNeg) (so kv.toNatClampNeg) (ct kv.toNatClampNeg) sov iv nv = 0 then
      if lnWk c s C co ki ag cd setv.toNatClampNeg cov.toNatClampNeg nv.toNatClampNeg = true then .inr (ogS cd nv.toNatClampNeg) else .inl 0
    else .inl (rfS (th kv.toNatClampNeg) (so kv.toNatClampNeg) (ct kv.toNatClampNeg) sov iv nv)
  else .inl 0
section
variable {n c s : Nat} {C : Nat → Nat → Nat} {co ki ag : Nat → Nat} {th : Nat → Bool} {so ct : Nat → Nat} {cd : Nat → Int32} {setv cov kv sov iv nv : Int32} {okk : Bool}
theorem lnA_1 (h : ¬ lnOk n c setv cov kv sov okk) : lnA n c s C co ki ag th so ct cd setv cov kv sov iv nv okk = .inl 0 := by unfold lnA; exact if_neg h
theorem lnA_2 {k : Nat} (hk : k < 4) (h : lnOk n c setv cov (nI k) sov okk) (h2 : ¬ rfS (th k) (so k) (ct k) sov iv nv = 0) : lnA n c s C co ki ag th so ct cd setv cov (nI k) sov iv nv okk = .inl (rfS (th k) (so k) (ct k) sov iv nv) := by
  unfold lnA; unfold lnOk at h; rw [if_pos h, nI_clamp (by omega), if_neg h2]
theorem lnA_3 {k set a m : Nat} (hk : k < 4) (hm : m < 2 ^ 31) (hs : set < 2 ^ 31) (ha : a < 2 ^ 31) (h : lnOk n c (nI set) (nI a) (nI k) sov okk) (h2 : rfS (th k) (so k) (ct k) sov iv (nI m) = 0) (h3 : lnWk c s C co ki ag cd set a m = true) : lnA n c s C co ki ag th so ct cd (nI set) (nI a) (nI k) sov iv (nI m) okk = .inr (ogS cd m) := by
  unfold lnA; unfold lnOk at h; rw [if_pos h, nI_clamp (show k < 2 ^ 31 by omega), if_pos h2, nI_clamp hm, nI_clamp hs, nI_clamp ha, if_pos h3]
theorem lnA_4 {k set a m : Nat} (hk : k < 4) (hm : m < 2 ^ 31) (hs : set < 2 ^ 31) (ha : a < 2 ^ 31) (h : lnOk n c (nI set) (nI a) (nI k) sov okk) (h2 : rfS (th k) (so k) (ct k) sov iv (nI m) = 0) (h3 : ¬ lnWk c s C co ki ag cd set a m = true) : lnA n c s C co ki ag th so ct cd (nI set) (nI a) (nI k) sov iv (nI m) okk = .inl 0 := by
  unfold lnA; unfold lnOk at h; rw [if_pos h, nI_clamp (show k < 2 ^ 31 by omega), if_pos h2, nI_clamp hm, nI_clamp hs, nI_clamp ha, if_neg h3]
end
def lateB (mv bv qv : Int32) : Bool := decide (isB 0 200 mv ∧ isB 0 200 bv ∧ isB 0 1 qv)
def meanB (mv qv : Int32) : Bool := decide (isB 0 200 mv ∧ isB 0 1 qv)
def lnP (r s : Nat) (rd C : Nat → Nat → Nat) (c : Nat) (co ki ag re : Nat → Nat) (setv cov : Int32) (og : List Nat) : List St := stpL r rd C (rdG setv.toNatClampNeg c co re) (pcG setv.toNatClampNeg c co ki ag) s og cov.toNatClampNeg 1
def lateV (P : List St) (mv bv qv : Int32) : Int64 := lN (shS (ev P (ltS bv.toNatClampNeg) mv.toNatClampNeg) (10 ^ crs P) qv)
def meanV (P : List St) (mv qv : Int32) : Int64 := lN (shS (ev P (fun t => t) mv.toNatClampNeg) (10 ^ crs P) qv)
theorem gatesOf_lt {n c : Nat} {ki co ag re : Nat → Nat} {T : Nat → Nat → Nat} (ok : okKd n c ki co ag re T) {set x : Nat} (hx : x ∈ gatesOf c co ki ag set) : x < n := gL_lt (fun y hy => (ok.2.1 y hy).2.1) hx
theorem ogS_lt {n c : Nat} {ki co ag re : Nat → Nat} {T : Nat → Nat → Nat} (ok : okKd n c ki co ag re T) {set m x : Nat} {cd : Nat → Int32} (h : odS (pcG set c co ki ag) cd m = true) (hx : x ∈ ogS cd m) : x < n := pcG_lt (fun y hy => (ok.2.1 y hy).2.1) (ogS_gate m h x hx).2
theorem gatesOf_len (c : Nat) (co ki ag : Nat → Nat) (set : Nat) : (gatesOf c co ki ag set).length ≤ 7 := gL_len _ 7
theorem odS_cong {pc : Nat → Nat} {cd ce : Nat → Int32} : ∀ (k : Nat), (∀ j, j < k → cd j = ce j) → odS pc cd k = odS pc ce k ∧ seenS cd k = seenS ce k ∧ ogS cd k = ogS ce k
  | 0, _ => ⟨rfl, rfl, rfl⟩
  | k + 1, h => by
    obtain ⟨h1, h2, h3⟩ := odS_cong (pc := pc) k (fun j hj => h j (by omega))
    have h4 := h k (by omega)
    refine ⟨?_, ?_, ?_⟩
    · rw [odS, odS, h1, h2, h4]
    · rw [seenS, seenS, h2, h4]
    · rw [ogS, ogS, h3, h4]
