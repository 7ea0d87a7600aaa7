theorem s_l : ∀ n, n < 32 → ((nI n &&& 31).toBitVec.smod 32).toNat = n := by decide +kernel
theorem and_nI (a b : Nat) : nI a &&& nI b = nI (a &&& b) := by
  apply Int32.toBitVec_inj.1
  show BitVec.ofNat 32 a &&& BitVec.ofNat 32 b = BitVec.ofNat 32 (a &&& b)
  rw [BitVec.ofNat_and]
theorem or_nI (a b : Nat) : nI a ||| nI b = nI (a ||| b) := by
  apply Int32.toBitVec_inj.1
  show BitVec.ofNat 32 a ||| BitVec.ofNat 32 b = BitVec.ofNat 32 (a ||| b)
  rw [BitVec.ofNat_or]
theorem xor_nI (a b : Nat) : nI a ^^^ nI b = nI (a ^^^ b) := by
  apply Int32.toBitVec_inj.1
  show BitVec.ofNat 32 a ^^^ BitVec.ofNat 32 b = BitVec.ofNat 32 (a ^^^ b)
  rw [BitVec.ofNat_xor]
theorem shr_nI {m y : Nat} (hm : m < 2 ^ 31) (hy : y < 32) : nI m >>> (nI y &&& 31) = nI (m >>> y) := by
  rw [pk_shrN hm _ y (s_l y hy), Nat.shiftRight_eq_div_pow]
theorem bt_nI {m y : Nat} (hm : m < 2 ^ 31) (hy : y < 32) : nI m >>> (nI y &&& 31) &&& 1 = if m.testBit y then 1 else 0 := by
  rw [shr_nI hm hy, show (1 : Int32) = nI 1 from rfl, and_nI, Nat.and_one_is_mod, Nat.testBit_eq_decide_div_mod_eq, Nat.shiftRight_eq_div_pow]
  rcases Nat.mod_two_eq_zero_or_one (m / 2 ^ y) with h | h <;> rw [h] <;> rfl
theorem one_shl : ∀ y, y < 31 → (1 : Int32) <<< (nI y &&& 31) = nI (2 ^ y) := by decide +kernel
def clr (a b : Nat) : Nat := a ^^^ (a &&& b)
theorem clr_bit (a b i : Nat) : (clr a b).testBit i = (a.testBit i && !b.testBit i) := by
  unfold clr
  rw [Nat.testBit_xor, Nat.testBit_and]
  cases a.testBit i <;> cases b.testBit i <;> rfl
theorem clr_nI (a b : Nat) : nI a &&& (nI b ^^^ (-1)) = nI (clr a b) := by
  apply Int32.toBitVec_inj.1
  show BitVec.ofNat 32 a &&& (BitVec.ofNat 32 b ^^^ BitVec.allOnes 32) = BitVec.ofNat 32 (clr a b)
  apply BitVec.eq_of_getLsbD_eq
  intro i hi
  simp only [BitVec.getLsbD_and, BitVec.getLsbD_xor, BitVec.getLsbD_ofNat, BitVec.getLsbD_allOnes, clr_bit]
  simp [hi]
theorem clr_le (a b : Nat) : clr a b ≤ a := by
  apply Nat.le_of_testBit
  intro i h
  rw [clr_bit] at h
  simp at h
  exact h.1
theorem bit_lt {m n i : Nat} (h : m < 2 ^ n) (hi : n ≤ i) : m.testBit i = false := Nat.testBit_lt_two_pow (Nat.lt_of_lt_of_le h (Nat.pow_le_pow_right (by decide) hi))
theorem or_lt {a b n : Nat} (ha : a < 2 ^ n) (hb : b < 2 ^ n) : a ||| b < 2 ^ n := Nat.or_lt_two_pow ha hb
/-- what one minute of a run says of a sheet's cells: fault of n cells from i on -/
def rfS (th : Bool) (so c : Nat) (w i n : Int32) : Nat := if th = false then 1 else if ¬ nI so = w then 2 else if n.toInt < 0 then 4 else if 0 ≤ i.toInt ∧ i.toInt + n.toInt ≤ c then 0 else 3
theorem rfS_le (th : Bool) (so c : Nat) (w i n : Int32) : rfS th so c w i n ≤ 4 := by
  unfold rfS
  repeat' split
  all_goals omega
def cutS (so : Nat) (v : Int32) : Int32 := if so = 0 then v.toInt8.toInt32 else if so = 1 then v.toInt16.toInt32 else v
def b2i (b : Bool) : Int32 := if b then 1 else 0
theorem b2i_0 {b : Bool} : b2i b = 0 ↔ b = false := by cases b <;> decide
theorem b2i_n0 {b : Bool} : ¬ b2i b = 0 ↔ b = true := by cases b <;> decide
def paceS (kd ag : Nat) : Nat := (if ag ≤ 5 then 3 else if ag ≤ 8 then 2 else 1) + (if 1 ≤ kd then 1 else 0)
def bondS (F G y : Nat) : Nat := if F.testBit y then 1 else if G.testBit y then 2 else 0
def bindS (F y v w : Nat) : Nat := if v = w then F ||| 2 ^ y else clr F (2 ^ y)
