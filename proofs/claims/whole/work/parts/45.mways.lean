set_option maxHeartbeats 4000000 in
set_option maxRecDepth 100000 in
theorem c_X10_costOf {ad : Nat → Nat} {I : KI} {J : KJ} {t : Nat} {n r s : Nat} {rd : Nat → Nat → Nat} (hw : mTw I n r s rd) (ok : okTw n r s rd) {k : Nat} (hk : k < r) {Q : Int32 → KI → KJ → KR → Prop} (hQ : Q (nI (w100 rd k)) I J (rf t)) : Mi 1 yX10_costOf (wm yX10_costOf cX10_costOf 2 (some .int)) [.ref (ad 85), .int (nI k)] ad I J (rf t) Q := by
  refine mi_of (own := RX10) yk_X10_costOf rfl (Nat.le_of_ble_eq_true rfl) rfl (fun X hA hnL C K E => ?_)
  subst hA
  have hr12 := ok.2.1
  have hz := hw.2.2.2 k hk
  have hb := ok.2.2.2 k hk
  refine z_bipush (n := 2) (v := 100) C dX10_costOf_0 rfl rfl ?_
  refine z_aload_n (n := 3) C 0 dX10_costOf_2 rfl rfl ?_
  refine z_getR (n := 6) (q := 91) C K fF_RX10_25 dX10_costOf_3 rfl rfl sh_85 (by decide) rfl ?_
  refine z_iload_n (n := 7) C 1 dX10_costOf_6 rfl rfl ?_
  refine z_ialdN (n := 8) C K k dX10_costOf_7 rfl sh_91 (by decide) rfl (by omega) (by decide) ?_
  rw [hz.2.2.1, show (100 : Int32) = nI 100 from rfl]
  refine z_imul (n := 9) C dX10_costOf_8 rfl ?_
  rw [mul_nI]
  refine z_aload_n (n := 10) C 0 dX10_costOf_9 rfl rfl ?_
  refine z_getR (n := 13) (q := 92) C K fF_RX10_28 dX10_costOf_10 rfl rfl sh_85 (by decide) rfl ?_
  refine z_iload_n (n := 14) C 1 dX10_costOf_13 rfl rfl ?_
  refine z_ialdN (n := 15) C K k dX10_costOf_14 rfl sh_92 (by decide) rfl (by omega) (by decide) ?_
  rw [hz.2.2.2.1]
  refine z_if_le (tgt := 22) (n := 18) C dX10_costOf_15 rfl rfl (fun c15 => ?_) (fun c15 => ?_)
  · refine z_iconst (n := 23) (v := 0) C dX10_costOf_22 rfl rfl ?_
    refine z_iadd (n := 24) C dX10_costOf_23 rfl ?_
    refine z_iret C E dX10_costOf_24 ?_
    rw [fa_le, nI_toInt (by omega)] at c15
    simp only [Int32.reduceToInt] at c15
    exact eqQ (by unfold w100; rw [if_neg (by omega), show (0 : Int32) = nI 0 from rfl, nI_add]) hQ
  · refine z_iconst (n := 19) (v := 1) C dX10_costOf_18 rfl rfl ?_
    refine z_goto (n := 23) C dX10_costOf_19 rfl ?_
    refine z_iadd (n := 24) C dX10_costOf_23 rfl ?_
    refine z_iret C E dX10_costOf_24 ?_
    rw [fa_le, nI_toInt (by omega)] at c15
    simp only [Int32.reduceToInt] at c15
    exact eqQ (by unfold w100; rw [if_pos (by omega), nI_1]) hQ
set_option maxHeartbeats 4000000 in
set_option maxRecDepth 100000 in
theorem la_X10_layFar {X : KX} {J : KJ} {t : Nat} (C : Cx X RX10 cX10_layFar 2) (K : Kx X) (hnL : xnL X = 6) {I : KI} {n : Nat} (hn7 : n ≤ 7) (hN : ∀ I1, fr94 I I1 → mA n I1 (fun a b => if a = b then 0 else 1000000) → Z X 0 0 (V X I1 J (rf t)) 37 [(0, .ref (xad X 85))] []) : ∀ (f k : Nat) (I1 : KI), 49 - k < f → (k ≤ 49 ∧ fr94 I I1 ∧ ∀ a b, a < n → b < n → 7 * a + b < k → I1 94 (7 * a + b) = nI (if a = b then 0 else 1000000)) → Z X 0 0 (V X I1 J (rf t)) 2 [(1, .int (nI k)), (0, .ref (xad X 85))] [] := by
  intro f
  induction f with
  | zero => intro k I1 h; omega
  | succ f ih =>
    intro k I1 hf hi
    obtain ⟨hk49, hfr, hA⟩ := hi
    refine z_iload_n (n := 3) C 0 dX10_layFar_2 rfl rfl ?_
    refine z_bipush (n := 5) (v := 49) C dX10_layFar_3 rfl rfl ?_
    refine z_icmp_ge (tgt := 37) (n := 8) C dX10_layFar_5 rfl rfl (fun c5 => ?_) (fun c5 => ?_)
    · refine z_sub (L' := [(0, _)]) [1] rfl ?_
      rw [fa_le, nI_toInt (by omega)] at c5
      simp only [Int32.reduceToInt] at c5
      exact hN I1 hfr (fun a b ha hb => hA a b ha hb (by omega))
    · rw [fa_le, nI_toInt (by omega)] at c5
      simp only [Int32.reduceToInt] at c5
      have hk : k < 49 := by omega
      refine z_aload_n (n := 9) C 1 dX10_layFar_8 rfl rfl ?_
      refine z_getR (n := 12) (q := 94) C K fF_RX10_34 dX10_layFar_9 rfl rfl sh_85 (by decide) rfl ?_
      refine z_iload_n (n := 13) C 0 dX10_layFar_12 rfl rfl ?_
      refine z_iload_n (n := 14) C 0 dX10_layFar_13 rfl rfl ?_
      refine z_bipush (n := 16) (v := 7) C dX10_layFar_14 rfl rfl ?_
      rw [show (7 : Int32) = nI 7 from rfl]
      refine z_idiv (n := 17) C dX10_layFar_16 rfl (by decide) ?_
      rw [pk_div (by omega) (by decide) (by decide)]
      refine z_iload_n (n := 18) C 0 dX10_layFar_17 rfl rfl ?_
      refine z_bipush (n := 20) (v := 7) C dX10_layFar_18 rfl rfl ?_
      refine z_irem (n := 21) C dX10_layFar_20 rfl (by decide) ?_
      rw [show (7 : Int32) = nI 7 from rfl, pk_rem (by omega) (by decide) (by decide)]
      refine z_icmp_ne (tgt := 28) (n := 24) C dX10_layFar_21 rfl rfl (fun c21 => ?_) (fun c21 => ?_)
      · refine z_ldc (n := 30) C dX10_layFar_28 kK_RX10_152 rfl ?_
        refine z_iastN (n := 31) C K k dX10_layFar_30 rfl sh_94 (by decide) rfl (by omega) (by decide) ?_
        refine z_iincG (n := 34) (c := 1) (L' := [(1, _), (0, _)]) C 0 dX10_layFar_31 rfl rfl rfl (by rw [hnL]; decide) rfl ?_
        refine z_goto (n := 2) C dX10_layFar_34 rfl ?_
        rw [nI_1]
        refine ih (k + 1) _ (by omega) ⟨by omega, hfr.u, fun a b ha hb hab => ?_⟩
        by_cases e : 7 * a + b = k
        · rw [e, upI_same]
          have e1 : a = k / 7 := by omega
          have e2 : b = k % 7 := by omega
          rw [if_neg (fun q => c21 (by rw [← e1, ← e2, q]))]
          rfl
        · rw [upI_k _ _ e]; exact hA a b ha hb (by omega)
      · refine z_iconst (n := 25) (v := 0) C dX10_layFar_24 rfl rfl ?_
        refine z_goto (n := 30) C dX10_layFar_25 rfl ?_
        refine z_iastN (n := 31) C K k dX10_layFar_30 rfl sh_94 (by decide) rfl (by omega) (by decide) ?_
        refine z_iincG (n := 34) (c := 1) (L' := [(1, _), (0, _)]) C 0 dX10_layFar_31 rfl rfl rfl (by rw [hnL]; decide) rfl ?_
        refine z_goto (n := 2) C dX10_layFar_34 rfl ?_
        rw [nI_1]
        refine ih (k + 1) _ (by omega) ⟨by omega, hfr.u, fun a b ha hb hab => ?_⟩
        by_cases e : 7 * a + b = k
        · rw [e, upI_same]
          have e1 : a = k / 7 := by omega
          have e2 : b = k % 7 := by omega
          rw [if_pos (by rw [e1, e2]; exact nI_inj c21 (by omega) (by omega))]
          rfl
        · rw [upI_k _ _ e]; exact hA a b ha hb (by omega)
theorem rlx_eq {rd A : Nat → Nat → Nat} {k y : Nat} {P Qv : Nat} (hd : rd 0 k ≠ rd 1 k) (hP : P = min (A (rd 0 k) y) (A (rd 1 k) y + w100 rd k)) (hQ : Qv = min (A (rd 1 k) y) (A (rd 0 k) y + w100 rd k)) (a b : Nat) : (if b = y ∧ a = rd 1 k then Qv else if b = y ∧ a = rd 0 k then P else A a b) = rlx rd A k y a b := by
  unfold rlx
  by_cases h1 : b = y ∧ a = rd 0 k
  · rw [if_pos h1, if_pos h1, if_neg (fun q => hd (h1.2.symm.trans q.2)), hP]
  · rw [if_neg h1, if_neg h1]
    by_cases h2 : b = y ∧ a = rd 1 k
    · rw [if_pos h2, if_pos h2, hQ]
    · rw [if_neg h2, if_neg h2]
theorem mA.id {n : Nat} {I : KI} {A : Nat → Nat → Nat} (h : mA n I A) (x y : Nat) : mA n I (fun a b => if b = y ∧ a = x then A x y else A a b) := h.cg (fun a b _ _ => by
  show A a b = if b = y ∧ a = x then A x y else A a b
  by_cases e : b = y ∧ a = x
  · rw [if_pos e, e.1, e.2]
  · rw [if_neg e])
set_option maxHeartbeats 4000000 in
set_option maxRecDepth 100000 in
theorem lh_X10_layFar {X : KX} {J : KJ} {t : Nat} (C : Cx X RX10 cX10_layFar 2) (K : Kx X) (hnL : xnL X = 6) {n r s : Nat} {rd : Nat → Nat → Nat} {I1 : KI} (hw1 : mTw I1 n r s rd) (ok : okTw n r s rd) {k y P : Nat} (hk : k < r) (hy : y < n) {A : Nat → Nat → Nat} (hpl : A (rd 0 k) y ≤ 1000000) (hql : A (rd 1 k) y ≤ 1000000) (hP : P = min (A (rd 0 k) y) (A (rd 1 k) y + w100 rd k)) (hA : mA n I1 (fun a b => if b = y ∧ a = rd 0 k then P else A a b)) {m : Nat} (hN : ∀ I2, fr94 I1 I2 → mA n I2 (rlx rd A k y) → Z X 0 0 (V X I2 J (rf t)) 177 [(3, .int (nI y)), (2, .int (nI k)), (1, .int (nI m)), (0, .ref (xad X 85))] []) : Z X 0 0 (V X I1 J (rf t)) 134 [(5, .int (nI (7 * rd 1 k + y))), (4, .int (nI (7 * rd 0 k + y))), (3, .int (nI y)), (2, .int (nI k)), (1, .int (nI m)), (0, .ref (xad X 85))] [] := by
  have hn7 := ok.1
  have hr12 := ok.2.1
  have hrd : okRd n r rd := ok.2.2.2
  have hb9 := ok.2.2.2 k hk
  have hwl := w100_le hrd hk
  have hp : I1 94 (7 * rd 0 k + y) = nI P := (hA _ y hb9.1 hy).trans (by show nI (if y = y ∧ rd 0 k = rd 0 k then P else A (rd 0 k) y) = nI P; rw [if_pos ⟨rfl, rfl⟩])
  have hq : I1 94 (7 * rd 1 k + y) = nI (A (rd 1 k) y) := (hA _ y hb9.2.1 hy).trans (by show nI (if y = y ∧ rd 1 k = rd 0 k then P else A (rd 1 k) y) = _; rw [if_neg (fun e => hb9.2.2.1 e.2.symm)])
  refine z_aload_n (n := 135) C 5 dX10_layFar_134 rfl rfl ?_
  refine z_getR (n := 138) (q := 94) C K fF_RX10_34 dX10_layFar_135 rfl rfl sh_85 (by decide) rfl ?_
  refine z_iload (n := 140) C 1 dX10_layFar_138 rfl rfl ?_
  refine z_ialdN (n := 141) C K (7 * rd 0 k + y) dX10_layFar_140 rfl sh_94 (by decide) rfl (by omega) (by decide) ?_
  rw [hp]
  refine z_aload_n (n := 142) C 5 dX10_layFar_141 rfl rfl ?_
  refine z_iload_n (n := 143) C 3 dX10_layFar_142 rfl rfl ?_
  refine z_vi_1 (n := 146) (d' := 1) C K dX10_layFar_143 rfl yk_X10_costOf yv_X10_costOf kM_RX10_153 (by decide) hR0 rfl rfl sh_85 (by decide) (by decide) ?_
  refine c_X10_costOf hw1 ok hk ?_
  refine z_iadd (n := 147) C dX10_layFar_146 rfl ?_
  rw [nI_add]
  refine z_aload_n (n := 148) C 5 dX10_layFar_147 rfl rfl ?_
  refine z_getR (n := 151) (q := 94) C K fF_RX10_34 dX10_layFar_148 rfl rfl sh_85 (by decide) rfl ?_
  refine z_iload (n := 153) C 0 dX10_layFar_151 rfl rfl ?_
  refine z_ialdN (n := 154) C K (7 * rd 1 k + y) dX10_layFar_153 rfl sh_94 (by decide) rfl (by omega) (by decide) ?_
  rw [hq]
  refine z_icmp_ge (tgt := 177) (n := 157) C dX10_layFar_154 rfl rfl (fun c154 => ?_) (fun c154 => ?_)
  · refine z_sub (L' := [(3, _), (2, _), (1, _), (0, _)]) [2, 3, 4, 5] rfl ?_
    rw [fa_le, nI_toInt (by omega), nI_toInt (by omega)] at c154
    refine hN _ (fun q _ => rfl) ((hA.id (rd 1 k) y).cg (fun a b ha hb => ?_))
    show (if b = y ∧ a = rd 1 k then (if y = y ∧ rd 1 k = rd 0 k then P else A (rd 1 k) y) else if b = y ∧ a = rd 0 k then P else A a b) = _
    rw [if_neg (show ¬ (y = y ∧ rd 1 k = rd 0 k) from fun e => hb9.2.2.1 e.2.symm)]
    exact rlx_eq hb9.2.2.1 hP (by omega) a b
  · refine z_aload_n (n := 158) C 5 dX10_layFar_157 rfl rfl ?_
    refine z_getR (n := 161) (q := 94) C K fF_RX10_34 dX10_layFar_158 rfl rfl sh_85 (by decide) rfl ?_
    refine z_iload (n := 163) C 0 dX10_layFar_161 rfl rfl ?_
    refine z_aload_n (n := 164) C 5 dX10_layFar_163 rfl rfl ?_
    refine z_getR (n := 167) (q := 94) C K fF_RX10_34 dX10_layFar_164 rfl rfl sh_85 (by decide) rfl ?_
    refine z_iload (n := 169) C 1 dX10_layFar_167 rfl rfl ?_
    refine z_ialdN (n := 170) C K (7 * rd 0 k + y) dX10_layFar_169 rfl sh_94 (by decide) rfl (by omega) (by decide) ?_
    rw [hp]
    refine z_aload_n (n := 171) C 5 dX10_layFar_170 rfl rfl ?_
    refine z_iload_n (n := 172) C 3 dX10_layFar_171 rfl rfl ?_
    refine z_vi_1 (n := 175) (d' := 1) C K dX10_layFar_172 rfl yk_X10_costOf yv_X10_costOf kM_RX10_153 (by decide) hR0 rfl rfl sh_85 (by decide) (by decide) ?_
    refine c_X10_costOf hw1 ok hk ?_
    refine z_iadd (n := 176) C dX10_layFar_175 rfl ?_
    rw [nI_add]
    refine z_iastN (n := 177) C K (7 * rd 1 k + y) dX10_layFar_176 rfl sh_94 (by decide) rfl (by omega) (by decide) ?_
    refine z_sub (L' := [(3, _), (2, _), (1, _), (0, _)]) [2, 3, 4, 5] rfl ?_
    rw [fa_le, nI_toInt (by omega), nI_toInt (by omega)] at c154
    refine hN _ (fun q hq2 => upI_row _ _ hq2) ((hA.up hn7 hb9.2.1 hy).cg (fun a b ha hb => ?_))
    exact rlx_eq hb9.2.2.1 hP (by omega) a b
set_option maxHeartbeats 4000000 in
set_option maxRecDepth 100000 in
theorem lb_X10_layFar {X : KX} {J : KJ} {t : Nat} (C : Cx X RX10 cX10_layFar 2) (K : Kx X) (hnL : xnL X = 6) {n r s : Nat} {rd : Nat → Nat → Nat} {I : KI} (hw : mTw I n r s rd) (ok : okTw n r s rd) {C0 : Nat → Nat → Nat} (hc : okW n r rd C0) {m k : Nat} (hk : k < r) (hm : m < 7) (hN : ∀ I1 A, fr94 I I1 → mA n I1 A → okB n r rd C0 m k n A → Z X 0 0 (V X I1 J (rf t)) 183 [(2, .int (nI k)), (1, .int (nI m)), (0, .ref (xad X 85))] []) : ∀ (f y : Nat) (I1 : KI) (A : Nat → Nat → Nat), n - y < f → (y ≤ n ∧ fr94 I I1 ∧ mA n I1 A ∧ okB n r rd C0 m k y A) → Z X 0 0 (V X I1 J (rf t)) 57 [(3, .int (nI y)), (2, .int (nI k)), (1, .int (nI m)), (0, .ref (xad X 85))] [] := by
  intro f
  induction f with
  | zero => intro y I1 A h; omega
  | succ f ih =>
    intro y I1 A hf hi
    have hn7 := ok.1
    have hr12 := ok.2.1
    have hrd : okRd n r rd := ok.2.2.2

    obtain ⟨hyn, hfr, hA, hB⟩ := hi
    have hw1 := hfr.tw hw
    refine z_iload_n (n := 58) C 0 dX10_layFar_57 rfl rfl ?_
    refine z_aload_n (n := 59) C 3 dX10_layFar_58 rfl rfl ?_
    refine z_getI (n := 62) C K fF_RX10_96 dX10_layFar_59 rfl sh_85 (by decide) ?_
    rw [hw1.1]
    refine z_icmp_ge (tgt := 183) (n := 65) C dX10_layFar_62 rfl rfl (fun c62 => ?_) (fun c62 => ?_)
    · refine z_sub (L' := [(2, _), (1, _), (0, _)]) [1, 2, 3] rfl ?_
      rw [fa_le, nI_toInt (by omega), nI_toInt (by omega)] at c62
      have e : y = n := by omega
      subst e
      exact hN I1 A hfr hA hB
    · rw [fa_le, nI_toInt (by omega), nI_toInt (by omega)] at c62
      have hy : y < n := by omega
      have hz := hw1.2.2.2 k hk
      have hb9 := ok.2.2.2 k hk
      have e7 : (7 : Int32) = nI 7 := rfl
      have hp := hA (rd 0 k) y hb9.1 hy
      have hq := hA (rd 1 k) y hb9.2.1 hy
      have hpl := hB.2.1 (rd 0 k) y hb9.1 hy
      have hql := hB.2.1 (rd 1 k) y hb9.2.1 hy
      have hwl := w100_le hrd hk
      refine z_bipush (n := 67) (v := 7) C dX10_layFar_65 rfl rfl ?_
      refine z_aload_n (n := 68) C 3 dX10_layFar_67 rfl rfl ?_
      refine z_getR (n := 71) (q := 89) C K fF_RX10_19 dX10_layFar_68 rfl rfl sh_85 (by decide) rfl ?_
      refine z_iload_n (n := 72) C 1 dX10_layFar_71 rfl rfl ?_
      refine z_ialdN (n := 73) C K k dX10_layFar_72 rfl sh_89 (by decide) rfl (by omega) (by decide) ?_
      rw [hz.1, e7]
      refine z_imul (n := 74) C dX10_layFar_73 rfl ?_
      rw [mul_nI]
      refine z_iload_n (n := 75) C 0 dX10_layFar_74 rfl rfl ?_
      refine z_iadd (n := 76) C dX10_layFar_75 rfl ?_
      rw [nI_add]
      refine z_istore (n := 78) (L' := [(4, _), (3, _), (2, _), (1, _), (0, _)]) C dX10_layFar_76 rfl (by rw [hnL]; decide) rfl ?_
      refine z_bipush (n := 80) (v := 7) C dX10_layFar_78 rfl rfl ?_
      refine z_aload_n (n := 81) C 4 dX10_layFar_80 rfl rfl ?_
      refine z_getR (n := 84) (q := 90) C K fF_RX10_22 dX10_layFar_81 rfl rfl sh_85 (by decide) rfl ?_
      refine z_iload_n (n := 85) C 2 dX10_layFar_84 rfl rfl ?_
      refine z_ialdN (n := 86) C K k dX10_layFar_85 rfl sh_90 (by decide) rfl (by omega) (by decide) ?_
      rw [hz.2.1, e7]
      refine z_imul (n := 87) C dX10_layFar_86 rfl ?_
      rw [mul_nI]
      refine z_iload_n (n := 88) C 1 dX10_layFar_87 rfl rfl ?_
      refine z_iadd (n := 89) C dX10_layFar_88 rfl ?_
      rw [nI_add]
      refine z_istore (n := 91) (L' := [(5, _), (4, _), (3, _), (2, _), (1, _), (0, _)]) C dX10_layFar_89 rfl (by rw [hnL]; decide) rfl ?_
      refine z_aload_n (n := 92) C 5 dX10_layFar_91 rfl rfl ?_
      refine z_getR (n := 95) (q := 94) C K fF_RX10_34 dX10_layFar_92 rfl rfl sh_85 (by decide) rfl ?_
      refine z_iload (n := 97) C 0 dX10_layFar_95 rfl rfl ?_
      refine z_ialdN (n := 98) C K (7 * rd 1 k + y) dX10_layFar_97 rfl sh_94 (by decide) rfl (by omega) (by decide) ?_
      rw [hq]
      refine z_aload_n (n := 99) C 5 dX10_layFar_98 rfl rfl ?_
      refine z_iload_n (n := 100) C 3 dX10_layFar_99 rfl rfl ?_
      refine z_vi_1 (n := 103) (d' := 1) C K dX10_layFar_100 rfl yk_X10_costOf yv_X10_costOf kM_RX10_153 (by decide) hR0 rfl rfl sh_85 (by decide) (by decide) ?_
      refine c_X10_costOf hw1 ok hk ?_
      refine z_iadd (n := 104) C dX10_layFar_103 rfl ?_
      rw [nI_add]
      refine z_aload_n (n := 105) C 5 dX10_layFar_104 rfl rfl ?_
      refine z_getR (n := 108) (q := 94) C K fF_RX10_34 dX10_layFar_105 rfl rfl sh_85 (by decide) rfl ?_
      refine z_iload (n := 110) C 1 dX10_layFar_108 rfl rfl ?_
      refine z_ialdN (n := 111) C K (7 * rd 0 k + y) dX10_layFar_110 rfl sh_94 (by decide) rfl (by omega) (by decide) ?_
      rw [hp]
      refine z_icmp_ge (tgt := 134) (n := 114) C dX10_layFar_111 rfl rfl (fun c111 => ?_) (fun c111 => ?_)
      · rw [fa_le, nI_toInt (by omega), nI_toInt (by omega)] at c111
        refine lh_X10_layFar C K hnL hw1 ok hk hy (A := A) (P := A (rd 0 k) y) hpl hql (by omega) (hA.id (rd 0 k) y) (fun I2 hf2 hA2 => ?_)
        refine z_iincG (n := 180) (c := 1) (L' := [(3, _), (2, _), (1, _), (0, _)]) C 0 dX10_layFar_177 rfl rfl rfl (by rw [hnL]; decide) rfl ?_
        refine z_goto (n := 57) C dX10_layFar_180 rfl ?_
        rw [nI_1]
        exact ih (y + 1) I2 _ (by omega) ⟨by omega, fun q hq2 => by rw [hf2 q hq2]; exact hfr q hq2, hA2, hB.step hn7 hrd hc hk hy⟩
      · refine z_aload_n (n := 115) C 5 dX10_layFar_114 rfl rfl ?_
        refine z_getR (n := 118) (q := 94) C K fF_RX10_34 dX10_layFar_115 rfl rfl sh_85 (by decide) rfl ?_
        refine z_iload (n := 120) C 1 dX10_layFar_118 rfl rfl ?_
        refine z_aload_n (n := 121) C 5 dX10_layFar_120 rfl rfl ?_
        refine z_getR (n := 124) (q := 94) C K fF_RX10_34 dX10_layFar_121 rfl rfl sh_85 (by decide) rfl ?_
        refine z_iload (n := 126) C 0 dX10_layFar_124 rfl rfl ?_
        refine z_ialdN (n := 127) C K (7 * rd 1 k + y) dX10_layFar_126 rfl sh_94 (by decide) rfl (by omega) (by decide) ?_
        rw [hq]
        refine z_aload_n (n := 128) C 5 dX10_layFar_127 rfl rfl ?_
        refine z_iload_n (n := 129) C 3 dX10_layFar_128 rfl rfl ?_
        refine z_vi_1 (n := 132) (d' := 1) C K dX10_layFar_129 rfl yk_X10_costOf yv_X10_costOf kM_RX10_153 (by decide) hR0 rfl rfl sh_85 (by decide) (by decide) ?_
        refine c_X10_costOf hw1 ok hk ?_
        refine z_iadd (n := 133) C dX10_layFar_132 rfl ?_
        rw [nI_add]
        refine z_iastN (n := 134) C K (7 * rd 0 k + y) dX10_layFar_133 rfl sh_94 (by decide) rfl (by omega) (by decide) ?_
        rw [fa_le, nI_toInt (by omega), nI_toInt (by omega)] at c111
        refine lh_X10_layFar C K hnL (hfr.u.tw hw) ok hk hy (A := A) (P := A (rd 1 k) y + w100 rd k) hpl hql (by omega) (hA.up hn7 hb9.1 hy) (fun I2 hf2 hA2 => ?_)
        refine z_iincG (n := 180) (c := 1) (L' := [(3, _), (2, _), (1, _), (0, _)]) C 0 dX10_layFar_177 rfl rfl rfl (by rw [hnL]; decide) rfl ?_
        refine z_goto (n := 57) C dX10_layFar_180 rfl ?_
        rw [nI_1]
        exact ih (y + 1) I2 _ (by omega) ⟨by omega, fun q hq2 => by rw [hf2 q hq2]; rw [upI_row _ _ hq2]; exact hfr q hq2, hA2, hB.step hn7 hrd hc hk hy⟩
set_option maxHeartbeats 4000000 in
set_option maxRecDepth 100000 in
theorem lc_X10_layFar {X : KX} {J : KJ} {t : Nat} (C : Cx X RX10 cX10_layFar 2) (K : Kx X) (hnL : xnL X = 6) {n r s : Nat} {rd : Nat → Nat → Nat} {I : KI} (hw : mTw I n r s rd) (ok : okTw n r s rd) {C0 : Nat → Nat → Nat} (hc : okW n r rd C0) {m : Nat} (hm : m < 7) (hN : ∀ I1 A, fr94 I I1 → mA n I1 A → okB n r rd C0 m r 0 A → Z X 0 0 (V X I1 J (rf t)) 189 [(1, .int (nI m)), (0, .ref (xad X 85))] []) : ∀ (f k : Nat) (I1 : KI) (A : Nat → Nat → Nat), r - k < f → (k ≤ r ∧ fr94 I I1 ∧ mA n I1 A ∧ okB n r rd C0 m k 0 A) → Z X 0 0 (V X I1 J (rf t)) 47 [(2, .int (nI k)), (1, .int (nI m)), (0, .ref (xad X 85))] [] := by
  intro f
  induction f with
  | zero => intro k I1 A h; omega
  | succ f ih =>
    intro k I1 A hf hi
    have hn7 := ok.1
    have hr12 := ok.2.1
    have hrd : okRd n r rd := ok.2.2.2

    obtain ⟨hkr, hfr, hA, hB⟩ := hi
    have hw1 := hfr.tw hw
    refine z_iload_n (n := 48) C 0 dX10_layFar_47 rfl rfl ?_
    refine z_aload_n (n := 49) C 2 dX10_layFar_48 rfl rfl ?_
    refine z_getI (n := 52) C K fF_RX10_124 dX10_layFar_49 rfl sh_85 (by decide) ?_
    rw [hw1.2.1]
    refine z_icmp_ge (tgt := 189) (n := 55) C dX10_layFar_52 rfl rfl (fun c52 => ?_) (fun c52 => ?_)
    · refine z_sub (L' := [(1, _), (0, _)]) [1, 2] rfl ?_
      rw [fa_le, nI_toInt (by omega), nI_toInt (by omega)] at c52
      have e : k = r := by omega
      subst e
      exact hN I1 A hfr hA hB
    · refine z_iconst (n := 56) (v := 0) C dX10_layFar_55 rfl rfl ?_
      refine z_istore_n (n := 57) (L' := [(3, _), (2, _), (1, _), (0, _)]) C dX10_layFar_56 rfl (by rw [hnL]; decide) rfl ?_
      rw [fa_le, nI_toInt (by omega), nI_toInt (by omega)] at c52
      refine lb_X10_layFar C K hnL hw1 ok hc (show k < r by omega) hm (fun I2 A2 hf2 hA2 hB2 => ?_) (n + 1) 0 I1 A (by omega) ⟨by omega, fun _ _ => rfl, hA, hB⟩
      refine z_iincG (n := 186) (c := 1) (L' := [(2, _), (1, _), (0, _)]) C 0 dX10_layFar_183 rfl rfl rfl (by rw [hnL]; decide) rfl ?_
      refine z_goto (n := 47) C dX10_layFar_186 rfl ?_
      rw [nI_1]
      exact ih (k + 1) I2 A2 (by omega) ⟨by omega, fun q hq => by rw [hf2 q hq, hfr q hq], hA2, hB2.col⟩
set_option maxHeartbeats 4000000 in
set_option maxRecDepth 100000 in
theorem ld_X10_layFar {X : KX} {J : KJ} {t : Nat} (C : Cx X RX10 cX10_layFar 2) (K : Kx X) (hnL : xnL X = 6) {Q : KI → KJ → KR → Prop} (E : Ev X Q) {n r s : Nat} {rd : Nat → Nat → Nat} {I : KI} (hw : mTw I n r s rd) (ok : okTw n r s rd) {C0 : Nat → Nat → Nat} (hc : okW n r rd C0) (hQ : ∀ I1, fr94 I I1 → mWy I1 n C0 → Q I1 J (rf t)) : ∀ (f m : Nat) (I1 : KI) (A : Nat → Nat → Nat), 7 - m < f → (m ≤ 7 ∧ fr94 I I1 ∧ mA n I1 A ∧ okB n r rd C0 m 0 0 A) → Z X 0 0 (V X I1 J (rf t)) 39 [(1, .int (nI m)), (0, .ref (xad X 85))] [] := by
  intro f
  induction f with
  | zero => intro m I1 A h; omega
  | succ f ih =>
    intro m I1 A hf hi
    have hn7 := ok.1
    have hr12 := ok.2.1
    have hrd : okRd n r rd := ok.2.2.2

    obtain ⟨hm7, hfr, hA, hB⟩ := hi
    have hw1 := hfr.tw hw
    refine z_iload_n (n := 40) C 0 dX10_layFar_39 rfl rfl ?_
    refine z_bipush (n := 42) (v := 7) C dX10_layFar_40 rfl rfl ?_
    refine z_icmp_ge (tgt := 195) (n := 45) C dX10_layFar_42 rfl rfl (fun c42 => ?_) (fun c42 => ?_)
    · refine z_vret C E dX10_layFar_195 ?_
      rw [fa_le, nI_toInt (by omega)] at c42
      simp only [Int32.reduceToInt] at c42
      have e : m = 7 := by omega
      subst e
      exact hQ I1 hfr (hA.cg (hB.fin hn7 hrd hc))
    · refine z_iconst (n := 46) (v := 0) C dX10_layFar_45 rfl rfl ?_
      refine z_istore_n (n := 47) (L' := [(2, _), (1, _), (0, _)]) C dX10_layFar_46 rfl (by rw [hnL]; decide) rfl ?_
      rw [fa_le, nI_toInt (by omega)] at c42
      simp only [Int32.reduceToInt] at c42
      refine lc_X10_layFar C K hnL hw1 ok hc (show m < 7 by omega) (fun I2 A2 hf2 hA2 hB2 => ?_) (r + 1) 0 I1 A (by omega) ⟨by omega, fun _ _ => rfl, hA, hB⟩
      refine z_iincG (n := 192) (c := 1) (L' := [(1, _), (0, _)]) C 0 dX10_layFar_189 rfl rfl rfl (by rw [hnL]; decide) rfl ?_
      refine z_goto (n := 39) C dX10_layFar_192 rfl ?_
      rw [nI_1]
      exact ih (m + 1) I2 A2 (by omega) ⟨by omega, fun q hq => by rw [hf2 q hq, hfr q hq], hA2, hB2.row hrd hc⟩
set_option maxHeartbeats 4000000 in
set_option maxRecDepth 100000 in
theorem c_X10_layFar {ad : Nat → Nat} {I : KI} {J : KJ} {t : Nat} {n r s : Nat} {rd : Nat → Nat → Nat} (hw : mTw I n r s rd) (ok : okTw n r s rd) {C0 : Nat → Nat → Nat} (hc : okW n r rd C0)  {Q : KI → KJ → KR → Prop} (hQ : ∀ I1, fr94 I I1 → mWy I1 n C0 → Q I1 J (rf t)) : Mv 2 yX10_layFar (wm yX10_layFar cX10_layFar 6 none) [.ref (ad 85)] ad I J (rf t) Q := by
  refine mv_of (own := RX10) yk_X10_layFar rfl (Nat.le_of_ble_eq_true rfl) rfl (fun X hA hnL C K E => ?_)
  subst hA
  refine z_iconst (n := 1) (v := 0) C dX10_layFar_0 rfl rfl ?_
  refine z_istore_n (n := 2) (L' := [(1, _), (0, _)]) C dX10_layFar_1 rfl (by rw [hnL]; decide) rfl ?_
  refine la_X10_layFar C K hnL ok.1 (fun I1 hf1 hA1 => ?_) 50 0 I (by omega) ⟨by omega, fun _ _ => rfl, fun a b _ _ h => by omega⟩
  refine z_iconst (n := 38) (v := 0) C dX10_layFar_37 rfl rfl ?_
  refine z_istore_n (n := 39) (L' := [(1, _), (0, _)]) C dX10_layFar_38 rfl (by rw [hnL]; decide) rfl ?_
  exact ld_X10_layFar C K hnL E (hf1.tw hw) ok hc (fun I2 hf2 h2 => hQ I2 (fun q hq => by rw [hf2 q hq, hf1 q hq]) h2) 8 0 I1 _ (by omega) ⟨by omega, fun _ _ => rfl, hA1, okB.start ok.1 ok.2.2.2 hc⟩
