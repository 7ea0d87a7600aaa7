/-! start and gate: what is refused, what is answered; shared by the two sides -/
def stR (n c s : Nat) (C : Nat → Nat → Nat) (co ki ag : Nat → Nat) (setv cov bv hv : Int32) : Option Int32 :=
  if ¬ isN n cov then some (-1) else if ¬ (isSB c setv = true ∧ isB 0 200 bv ∧ isB 0 100 hv) then some (-2) else if ¬ stB C s cov.toNatClampNeg (gL (pcG setv.toNatClampNeg c co ki ag) 7) = true then some (-3) else none
def startS (r s : Nat) (rd C : Nat → Nat → Nat) (c : Nat) (co ki ag re : Nat → Nat) (setv cov bv hv : Int32) : Nat × List Nat := soS r rd C (rdG setv.toNatClampNeg c co re) (pcG setv.toNatClampNeg c co ki ag) s cov.toNatClampNeg bv.toNatClampNeg hv.toNatClampNeg
def gtR (n c s : Nat) (C : Nat → Nat → Nat) (co ki ag : Nat → Nat) (setv cov bv hv kv : Int32) : Option Int32 :=
  if ¬ (isN n cov ∧ isB 0 3 kv) then some (-1) else stR n c s C co ki ag setv cov bv hv
def gateV (S : Nat × List Nat) (L k : Nat) : Int32 := if S.1 = 0 ∨ L ≤ k then -9 else nI (S.2.getD k 0)
theorem stI_eq {b : Nat} (h : b ≤ 201) : stI b = -9 ↔ b = 0 := by
  unfold stI
  by_cases e : b = 0
  · rw [if_pos e]; exact ⟨fun _ => e, fun _ => rfl⟩
  · rw [if_neg e]
    refine ⟨fun q => ?_, fun q => absurd q e⟩
    have := congrArg Int32.toInt q
    rw [nI_toInt (by omega)] at this
    simp only [Int32.reduceToInt] at this
    omega
