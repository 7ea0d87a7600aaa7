def clrI (I : KI) (p i : Nat) : KI := fun q j => if q = p ∧ j < i then 0 else I q j
theorem clrI_0 (I : KI) (p : Nat) : clrI I p 0 = I := by funext q j; unfold clrI; simp
theorem clrI_s (I : KI) (p i : Nat) : upI (clrI I p i) p i 0 = clrI I p (i + 1) := by
  funext q j; unfold upI clrI
  by_cases h : q = p
  · by_cases h2 : j = i
    · simp [h, h2]
    · simp only [h, h2, true_and, and_false, if_false]
      by_cases h3 : j < i
      · rw [if_pos h3, if_pos (by omega)]
      · rw [if_neg h3, if_neg (by omega)]
  · simp [h]
theorem clrI_p (I : KI) {p q : Nat} (i : Nat) (h : q ≠ p) : clrI I p i q = I q := by funext j; unfold clrI; simp [h]
theorem clrI_at (I : KI) {p i j : Nat} (h : j < i) : clrI I p i p j = 0 := by unfold clrI; simp [h]
def cpI (I : KI) (p q sp dp n : Nat) : KI := fun a j => if a = q ∧ dp ≤ j ∧ j < dp + n then I p (sp + (j - dp)) else I a j
section ACOPY
variable {X : KX} {own : String} {cc : ByteArray} {d k0 n0 : Nat} {pc n : Nat} {L : List (Nat × Value)} {S : List Value} {I : KI} {J : KJ} {Rf : KR}
theorem z_acopy (C : Cx X own cc d) (K : Kx X) {idx p q np nq sp dp m : Nat} (hd : decode cc pc = .ok (.invokestatic idx, 3)) (hn : pc + 3 = n) (hm : Cond.methodLink own idx arraycopyName ∈ gW) (hs : sh p = (11, np)) (hp : p < 110) (hs2 : sh q = (11, nq)) (hq : q < 110) (h4 : sp + m ≤ np) (h5 : dp + m ≤ nq) (hb1 : np < 2 ^ 31) (hb2 : nq < 2 ^ 31) (hdd : nativeFrameWords "java/lang/System" "arraycopy" 5 + 19 ≤ 40 * d) (hw : ((S.map fun (v : Value) => v.category).sum).ble 8 = true)
    (kk : Z X k0 n0 (V X (cpI I p q sp dp m) J Rf) n L S) : Z X k0 n0 (V X I J Rf) pc L (.int (nI m) :: .int (nI dp) :: .ref (xad X q) :: .int (nI sp) :: .ref (xad X p) :: S) := by
  subst hn
  intro H locs ls hP hD hS hl
  have h1 := C.rm
  have h2 := Nat.le_of_ble_eq_true hw
  have hc : ∀ z : Nat, z < 2 ^ 31 → (nI z).toNatClampNeg = z := fun z hz => nI_clamp hz
  refine va_copyi C.x C.b (by rw [C.ml, hl.1]) C.own (C.ts _ hm) (C.ts _ kV_native) (C.ts _ kT_arraycopyName) (C.ts _ kN_RJ10) K.1 hP hD hS p q 0 0 (ty := .int) (wsO_get hp |>.trans (by rw [cell_I hs])) (wsO_get hq |>.trans (by rw [cell_I hs2])) rfl rfl rfl (nI_pos (by omega)) (nI_pos (by omega)) (nI_pos (by omega)) (by rw [hc sp (by omega), hc m (by omega)]; exact h4) (by rw [hc dp (by omega), hc m (by omega)]; exact h5) (fun _ _ => rfl) (by omega) (by omega) hd (fun H1 locs1 hP1 hD1 hS1 => ?_)
  rw [hc sp (by omega), hc m (by omega), hc dp (by omega)] at hP1 hD1
  have e : (V X I J Rf).set q (xad X q, .inl (xcy X 0, nq, .inl (va_cpy (I p) (I q) sp dp m))) = V X (cpI I p q sp dp m) J Rf := by
    refine wsO_set hq ?_ (fun a ha => ?_)
    · rw [cell_I hs2]
      congr 4
      funext j
      unfold cpI va_cpy
      simp
    · have hrow : cpI I p q sp dp m a = I a := by funext j; unfold cpI; simp [ha]
      unfold cellE flds fldv
      simp only [hrow]
  rw [e] at hP1 hD1
  exact kk H1 locs1 ls hP1 hD1 hS1 hl
end ACOPY
set_option maxHeartbeats 4000000 in
set_option maxRecDepth 100000 in
theorem l_X6_begin {X : KX} {J : KJ} {t : Nat} (C : Cx X RX6 cX6_begin 1) (K : Kx X) (hnL : xnL X = 4) {Q : KI → KJ → KR → Prop} (E : Ev X Q) {I : KI} {k : Nat} (hk : k < 4) {a b : Int32} (hQ : Q (clrI I (68 + 2 * k) 100) J (rf t)) : ∀ (f i : Nat), 100 - i < f → i ≤ 100 → Z X 0 0 (V X (clrI I (68 + 2 * k) i) J (rf t)) 26 [(3, .int (nI i)), (0, .ref (xad X (67 + 2 * k))), (1, .int a), (2, .int b)] [] := by
  intro f
  induction f with
  | zero => intro i h; omega
  | succ f ih =>
    intro i hk1 hic
    refine z_iload_n (n := 27) C 0 dX6_begin_26 rfl rfl ?_
    refine z_bipush (n := 29) (v := 100) C dX6_begin_27 rfl rfl ?_
    refine z_icmp_ge (tgt := 45) (n := 32) C dX6_begin_29 rfl rfl (fun c29 => ?_) (fun c29 => ?_)
    · rw [fa_le, nI_toInt (by omega)] at c29
      simp only [Int32.reduceToInt] at c29
      have e : i = 100 := by omega
      subst e
      refine z_vret C E dX6_begin_45 ?_
      exact hQ
    · rw [fa_le, nI_toInt (by omega)] at c29
      simp only [Int32.reduceToInt] at c29
      refine z_aload_n (n := 33) C 1 dX6_begin_32 rfl rfl ?_
      refine z_getR (n := 36) (q := (68 + 2 * k)) C K fF_RX6_22 dX6_begin_33 rfl rfl (sh_sheet hk) (lt_sheet hk) (rf_cells hk) ?_
      refine z_iload_n (n := 37) C 0 dX6_begin_36 rfl rfl ?_
      refine z_iconst (n := 38) (v := 0) C dX6_begin_37 rfl rfl ?_
      refine z_iastN (n := 39) C K i dX6_begin_38 rfl (sh_cells hk) (lt_cells hk) rfl (by omega) (by decide) ?_
      refine z_iincG (n := 42) (c := 1) (L' := [(3, _), (0, _), (1, _), (2, _)]) C 0 dX6_begin_39 rfl rfl rfl (by rw [hnL]; decide) rfl ?_
      refine z_goto (n := 26) C dX6_begin_42 rfl ?_
      rw [nI_1, clrI_s]
      exact ih (i + 1) (by omega) (by omega)
set_option maxHeartbeats 4000000 in
set_option maxRecDepth 100000 in
theorem c_X6_begin {ad : Nat → Nat} {I : KI} {J : KJ} {t : Nat} {k n : Nat} (hk : k < 4) (hn : n ≤ 100) {s : Int32} {Q : KI → KJ → KR → Prop} (hQ : Q (clrI (upI (upI (upI I (67 + 2 * k) 0 1) (67 + 2 * k) 1 s) (67 + 2 * k) 2 (nI n)) (68 + 2 * k) 100) J (rf t)) : Mv 1 yX6_begin (wm yX6_begin cX6_begin 4 none) [.ref (ad (67 + 2 * k)), .int (s), .int (nI n)] ad I J (rf t) Q := by
  refine mv_of (own := RX6) yk_X6_begin rfl (Nat.le_of_ble_eq_true rfl) rfl (fun X hA hnL C K E => ?_)
  subst hA
  refine z_aload_n (n := 1) C 0 dX6_begin_0 rfl rfl ?_
  refine z_iconst (n := 2) (v := 1) C dX6_begin_1 rfl rfl ?_
  refine z_putB (n := 5) C K fF_RX6_9 dX6_begin_2 rfl (sh_sheet hk) (lt_sheet hk) (by decide) ?_
  refine z_aload_n (n := 6) C 0 dX6_begin_5 rfl rfl ?_
  refine z_iload_n (n := 7) C 1 dX6_begin_6 rfl rfl ?_
  refine z_putI (n := 10) C K fF_RX6_15 dX6_begin_7 rfl (sh_sheet hk) (lt_sheet hk) ?_
  refine z_aload_n (n := 11) C 0 dX6_begin_10 rfl rfl ?_
  refine z_iconst (n := 12) (v := 0) C dX6_begin_11 rfl rfl ?_
  refine z_iload_n (n := 13) C 2 dX6_begin_12 rfl rfl ?_
  refine z_bipush (n := 15) (v := 100) C dX6_begin_13 rfl rfl ?_
  refine z_min (n := 18) C dX6_begin_15 rfl kM_RX6_26 (by decide) hR0 rfl ?_
  refine z_max (n := 21) C dX6_begin_18 rfl kM_RX6_32 (by decide) hR0 rfl ?_
  have e1 : (if (100 : Int32) < nI n then (100 : Int32) else nI n) = nI n := by
    split
    · rename_i h; rw [fa_lt, nI_toInt (by omega)] at h; simp only [Int32.reduceToInt] at h; omega
    · rfl
  have e2 : (if (0 : Int32) < nI n then nI n else 0) = nI n := by
    split
    · rfl
    · rename_i h; rw [fa_lt, nI_toInt (by omega)] at h; simp only [Int32.reduceToInt] at h; rw [show n = 0 by omega]; rfl
  rw [e1, e2]
  refine z_putI (n := 24) C K fF_RX6_19 dX6_begin_21 rfl (sh_sheet hk) (lt_sheet hk) ?_
  refine z_iconst (n := 25) (v := 0) C dX6_begin_24 rfl rfl ?_
  refine z_istore_n (n := 26) (L' := [(3, _), (0, _), (1, _), (2, _)]) C dX6_begin_25 rfl (by rw [hnL]; decide) rfl ?_
  have h1 := l_X6_begin (I := upI (upI (upI I (67 + 2 * k) 0 1) (67 + 2 * k) 1 s) (67 + 2 * k) 2 (nI n)) C K hnL E hk (a := s) (b := nI n) hQ 101 0 (by omega) (by omega)
  rw [clrI_0] at h1
  exact h1
theorem cSh.fa {I : KI} {th : Nat → Bool} {so ct : Nat → Nat} {ce : Nat → Nat → Int32} (h : cSh I th so ct ce) {j : Nat} {v : Int32} : cSh (upI I 0 j v) th so ct ce := h.fr (fun p hp _ => upI_row _ _ (by omega))
