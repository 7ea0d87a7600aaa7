/-- how many bits: of the first k -/
def pop (m : Nat) : Nat → Nat
  | 0 => 0
  | k + 1 => pop m k + if m.testBit k then 1 else 0
theorem pop_le (m : Nat) : ∀ k, pop m k ≤ k
  | 0 => Nat.le_refl 0
  | k + 1 => by have := pop_le m k; rw [pop]; split <;> omega
theorem pop_more {m n : Nat} (h : m < 2 ^ n) : ∀ k, pop m (n + k) = pop m n
  | 0 => rfl
  | k + 1 => by
    rw [← Nat.add_assoc, pop, pop_more h k, bit_lt h (by omega)]
    rfl
def popS (m : Nat) : Nat := pop m 30
theorem popS_of {m n : Nat} (h : m < 2 ^ n) (hn : n ≤ 30) : popS m = pop m n := by
  have := pop_more h (30 - n)
  rw [show n + (30 - n) = 30 by omega] at this
  exact this
theorem popS_le {m n : Nat} (h : m < 2 ^ n) (hn : n ≤ 30) : popS m ≤ n := by rw [popS_of h hn]; exact pop_le m n
/-- pairs that are tied by v -/
def prS (T : Nat → Nat → Nat) (c v : Nat) : Nat → Nat
  | 0 => 0
  | x + 1 => prS T c v x + popS (tm T c x v)
theorem prS_le {T : Nat → Nat → Nat} {c v : Nat} (hc : c ≤ 10) : ∀ x, prS T c v x ≤ 10 * x
  | 0 => Nat.le_refl 0
  | x + 1 => by
    have := prS_le (T := T) (v := v) hc x
    have h2 : popS (tm T c x v) ≤ 10 := popS_le (n := 10) (msk_lt1024 (fun y => T x y == v) hc) (by decide)
    rw [prS]
    omega
theorem mul_nI (a b : Nat) : nI a * nI b = nI (a * b) := pk_mul a b


set_option maxHeartbeats 4000000 in
set_option maxRecDepth 100000 in
theorem l_X10_bitsOf {X : KX} {J : KJ} {t : Nat} (C : Cx X RX10 cX10_bitsOf 1) (K : Kx X) (hnL : xnL X = 3) {Q : Int32 → KI → KJ → KR → Prop} (E : Ei X .int Q) {I : KI} {m : Nat} (hm : m < 2 ^ 31) (hQ : Q (nI (popS m)) I J (rf t)) : ∀ (f : Nat) (i : Nat), 30 - i < f → i ≤ 30 → Z X 0 0 (V X I J (rf t)) 4 [(2, .int (nI i)), (1, .int (nI (pop m i))), (0, .int (nI m))] [] := by
  intro f
  induction f with
  | zero => intro i h; omega
  | succ f ih =>
    intro i hf hi
    refine z_iload_n (n := 5) C 0 dX10_bitsOf_4 rfl rfl ?_
    refine z_bipush (n := 7) (v := 30) C dX10_bitsOf_5 rfl rfl ?_
    refine z_icmp_ge (tgt := 24) (n := 10) C dX10_bitsOf_7 rfl rfl (fun c7 => ?_) (fun c7 => ?_)
    · rw [fa_le, nI_toInt (by omega)] at c7
      simp only [Int32.reduceToInt] at c7
      have e : i = 30 := by omega
      subst e
      refine z_iload_n (n := 25) C 1 dX10_bitsOf_24 rfl rfl ?_
      refine z_iret C E dX10_bitsOf_25 ?_
      exact hQ
    · rw [fa_le, nI_toInt (by omega)] at c7
      simp only [Int32.reduceToInt] at c7
      refine z_iload_n (n := 11) C 1 dX10_bitsOf_10 rfl rfl ?_
      refine z_iload_n (n := 12) C 2 dX10_bitsOf_11 rfl rfl ?_
      refine z_iload_n (n := 13) C 0 dX10_bitsOf_12 rfl rfl ?_
      refine z_ishr (n := 14) C dX10_bitsOf_13 rfl ?_
      refine z_iconst (n := 15) (v := 1) C dX10_bitsOf_14 rfl rfl ?_
      refine z_iand (n := 16) C dX10_bitsOf_15 rfl ?_
      rw [bt_nI hm (by omega)]
      refine z_iadd (n := 17) C dX10_bitsOf_16 rfl ?_
      refine z_istore_n (n := 18) (L' := [(1, _), (2, _), (0, _)]) C dX10_bitsOf_17 rfl (by rw [hnL]; decide) rfl ?_
      refine z_iincG (n := 21) (c := 1) (L' := [(2, _), (1, _), (0, _)]) C 1 dX10_bitsOf_18 rfl rfl rfl (by rw [hnL]; decide) rfl ?_
      refine z_goto (n := 4) C dX10_bitsOf_21 rfl ?_
      rw [nI_1, show nI (pop m i) + (if m.testBit i = true then (1 : Int32) else 0) = nI (pop m (i + 1)) by
        rw [pop]
        split
        · exact nI_1 _
        · exact nI_add _ 0]
      exact ih (i + 1) (by omega) (by omega)
set_option maxHeartbeats 4000000 in
set_option maxRecDepth 100000 in
theorem c_X10_bitsOf {ad : Nat → Nat} {I : KI} {J : KJ} {t : Nat} {m : Nat} (hm : m < 2 ^ 31) {Q : Int32 → KI → KJ → KR → Prop} (hQ : Q (nI (popS m)) I J (rf t)) : Mi 1 yX10_bitsOf (wm yX10_bitsOf cX10_bitsOf 3 (some .int)) [.int (nI m)] ad I J (rf t) Q := by
  refine mi_of (own := RX10) yk_X10_bitsOf rfl (Nat.le_of_ble_eq_true rfl) rfl (fun X hA hnL C K E => ?_)
  subst hA
  refine z_iconst (n := 1) (v := 0) C dX10_bitsOf_0 rfl rfl ?_
  refine z_istore_n (n := 2) (L' := [(1, _), (0, _)]) C dX10_bitsOf_1 rfl (by rw [hnL]; decide) rfl ?_
  refine z_iconst (n := 3) (v := 0) C dX10_bitsOf_2 rfl rfl ?_
  refine z_istore_n (n := 4) (L' := [(2, _), (1, _), (0, _)]) C dX10_bitsOf_3 rfl (by rw [hnL]; decide) rfl ?_
  exact l_X10_bitsOf C K hnL E hm hQ 31 0 (by omega) (by omega)
set_option maxHeartbeats 4000000 in
set_option maxRecDepth 100000 in
theorem l_X10_tiedTo {X : KX} {J : KJ} {t : Nat} (C : Cx X RX10 cX10_tiedTo 1) (K : Kx X) (hnL : xnL X = 5) {Q : Int32 → KI → KJ → KR → Prop} (E : Ei X .int Q) {I : KI} {c : Nat} {ki co ag re : Nat → Nat} {T : Nat → Nat → Nat}(hk : mKd I c ki co ag re T){n : Nat} (ok : okKd n c ki co ag re T){x v : Nat} (hx : x < c) (hv : v < 3) (hQ : Q (nI (tm T c x v)) I J (rf t)) : ∀ (f : Nat) (i : Nat), c - i < f → i ≤ c → Z X 0 0 (V X I J (rf t)) 5 [(4, .int (nI i)), (3, .int (nI (msk (fun y => T x y == v) i))), (0, .ref (xad X 85)), (1, .int (nI x)), (2, .int (nI v))] [] := by
  intro f
  induction f with
  | zero => intro i h; omega
  | succ f ih =>
    intro i hf hi
    have hc10 := ok.1
    refine z_iload (n := 7) C 0 dX10_tiedTo_5 rfl rfl ?_
    refine z_aload_n (n := 8) C 2 dX10_tiedTo_7 rfl rfl ?_
    refine z_getI (n := 11) C K fF_RX10_133 dX10_tiedTo_8 rfl sh_85 (by decide) ?_
    refine z_icmp_ge (tgt := 47) (n := 14) C dX10_tiedTo_11 rfl rfl (fun c11 => ?_) (fun c11 => ?_)
    · rw [hk.1, fa_le, nI_toInt (by omega), nI_toInt (by omega)] at c11
      have e : i = c := by omega
      subst e
      refine z_iload_n (n := 48) C 1 dX10_tiedTo_47 rfl rfl ?_
      refine z_iret C E dX10_tiedTo_48 ?_
      exact hQ
    · rw [hk.1, fa_le, nI_toInt (by omega), nI_toInt (by omega)] at c11
      refine z_iload_n (n := 15) C 1 dX10_tiedTo_14 rfl rfl ?_
      refine z_aload_n (n := 16) C 2 dX10_tiedTo_15 rfl rfl ?_
      refine z_getR (n := 19) (q := 100) C K fF_RX10_52 dX10_tiedTo_16 rfl rfl sh_85 (by decide) rfl ?_
      refine z_bipush (n := 21) (v := 10) C dX10_tiedTo_19 rfl rfl ?_
      refine z_iload_n (n := 22) C 3 dX10_tiedTo_21 rfl rfl ?_
      refine z_imul (n := 23) C dX10_tiedTo_22 rfl ?_
      refine z_iload (n := 25) C 0 dX10_tiedTo_23 rfl rfl ?_
      refine z_iadd (n := 26) C dX10_tiedTo_25 rfl ?_
      refine z_ialdN (n := 27) C K (10 * x + i) dX10_tiedTo_26 rfl sh_100 (by decide) (by rw [show (10 : Int32) = nI 10 from rfl, mul_nI, nI_add]) (by omega) (by decide) ?_
      refine z_iload_n (n := 28) C 4 dX10_tiedTo_27 rfl rfl ?_
      rw [hk.2.2 x i hx (by omega)]
      refine z_icmp_ne (tgt := 38) (n := 31) C dX10_tiedTo_28 rfl rfl (fun c28 => ?_) (fun c28 => ?_)
      · refine z_iconst (n := 39) (v := 0) C dX10_tiedTo_38 rfl rfl ?_
        refine z_ior (n := 40) C dX10_tiedTo_39 rfl ?_
        refine z_istore_n (n := 41) (L' := [(3, _), (4, _), (0, _), (1, _), (2, _)]) C dX10_tiedTo_40 rfl (by rw [hnL]; decide) rfl ?_
        refine z_iincG (n := 44) (c := 1) (L' := [(4, _), (3, _), (0, _), (1, _), (2, _)]) C 1 dX10_tiedTo_41 rfl rfl rfl (by rw [hnL]; decide) rfl ?_
        refine z_goto (n := 5) C dX10_tiedTo_44 rfl ?_
        have e2 : msk (fun y => T x y == v) (i + 1) = msk (fun y => T x y == v) i ||| (if (T x i == v) = true then 2 ^ i else 0) := rfl
        have e3 : ¬ T x i = v := fun e => c28 (by rw [e])
        rw [nI_1, show nI (msk (fun y => T x y == v) i) ||| (0 : Int32) = nI (msk (fun y => T x y == v) (i + 1)) by
          rw [e2, if_neg (by simp [e3])]; exact or_nI _ 0]
        exact ih (i + 1) (by omega) (by omega)
      · refine z_iconst (n := 32) (v := 1) C dX10_tiedTo_31 rfl rfl ?_
        refine z_iload (n := 34) C 0 dX10_tiedTo_32 rfl rfl ?_
        refine z_ishl (n := 35) C dX10_tiedTo_34 rfl ?_
        rw [one_shl i (by omega)]
        refine z_goto (n := 39) C dX10_tiedTo_35 rfl ?_
        refine z_ior (n := 40) C dX10_tiedTo_39 rfl ?_
        refine z_istore_n (n := 41) (L' := [(3, _), (4, _), (0, _), (1, _), (2, _)]) C dX10_tiedTo_40 rfl (by rw [hnL]; decide) rfl ?_
        refine z_iincG (n := 44) (c := 1) (L' := [(4, _), (3, _), (0, _), (1, _), (2, _)]) C 1 dX10_tiedTo_41 rfl rfl rfl (by rw [hnL]; decide) rfl ?_
        refine z_goto (n := 5) C dX10_tiedTo_44 rfl ?_
        have e2 : msk (fun y => T x y == v) (i + 1) = msk (fun y => T x y == v) i ||| (if (T x i == v) = true then 2 ^ i else 0) := rfl
        have e3 : T x i = v := nI_inj c28 (by have := (ok.2.2 x i hx (by omega)).1; omega) (by omega)
        rw [nI_1, or_nI, show msk (fun y => T x y == v) i ||| 2 ^ i = msk (fun y => T x y == v) (i + 1) by rw [e2, if_pos (by simp [e3])]]
        exact ih (i + 1) (by omega) (by omega)
set_option maxHeartbeats 4000000 in
set_option maxRecDepth 100000 in
theorem c_X10_tiedTo {ad : Nat → Nat} {I : KI} {J : KJ} {t : Nat} {c : Nat} {ki co ag re : Nat → Nat} {T : Nat → Nat → Nat}(hk : mKd I c ki co ag re T){n : Nat} (ok : okKd n c ki co ag re T){x v : Nat} (hx : x < c) (hv : v < 3) {Q : Int32 → KI → KJ → KR → Prop} (hQ : Q (nI (tm T c x v)) I J (rf t)) : Mi 1 yX10_tiedTo (wm yX10_tiedTo cX10_tiedTo 5 (some .int)) [.ref (ad 85), .int (nI x), .int (nI v)] ad I J (rf t) Q := by
  refine mi_of (own := RX10) yk_X10_tiedTo rfl (Nat.le_of_ble_eq_true rfl) rfl (fun X hA hnL C K E => ?_)
  subst hA
  refine z_iconst (n := 1) (v := 0) C dX10_tiedTo_0 rfl rfl ?_
  refine z_istore_n (n := 2) (L' := [(3, _), (0, _), (1, _), (2, _)]) C dX10_tiedTo_1 rfl (by rw [hnL]; decide) rfl ?_
  refine z_iconst (n := 3) (v := 0) C dX10_tiedTo_2 rfl rfl ?_
  refine z_istore (n := 5) (L' := [(4, _), (3, _), (0, _), (1, _), (2, _)]) C dX10_tiedTo_3 rfl (by rw [hnL]; decide) rfl ?_
  exact l_X10_tiedTo C K hnL E hk ok hx hv hQ (c + 1) 0 (by omega) (by omega)
set_option maxHeartbeats 4000000 in
set_option maxRecDepth 100000 in
theorem c_X10_ofChild {ad : Nat → Nat} {I : KI} {J : KJ} {t : Nat} {c : Nat} {ki co ag re : Nat → Nat} {T : Nat → Nat → Nat}(hk : mKd I c ki co ag re T){n : Nat} (ok : okKd n c ki co ag re T){xv w : Int32} {Q : Int32 → KI → KJ → KR → Prop} (hR : ∀ a, ofChildR c xv w = some a → Q a I J (rf t)) (hS : ofChildR c xv w = none → ∀ x i : Nat, xv = nI x → x < c → w = nI i → i < 8 → Q (ofChildS ki co ag re T c x i) I J (rf t)) : Mi 3 yX10_ofChild (wm yX10_ofChild cX10_ofChild 3 (some .int)) [.ref (ad 85), .int (xv), .int (w)] ad I J (rf t) Q := by
  refine mi_of (own := RX10) yk_X10_ofChild rfl (Nat.le_of_ble_eq_true rfl) rfl (fun X hA hnL C K E => ?_)
  subst hA
  refine z_aload_n (n := 1) C 0 dX10_ofChild_0 rfl rfl ?_
  refine z_iload_n (n := 2) C 1 dX10_ofChild_1 rfl rfl ?_
  refine z_vi_1 (n := 5) (d' := 1) C K dX10_ofChild_2 rfl yk_X10_isChild yv_X10_isChild kM_RX10_169 (by decide) hR0 rfl rfl sh_85 (by decide) (by decide) ?_
  refine c_X10_isChild hk.1 ok.1 (fun b2 => ?_) (fun b2 => ?_)
  · refine z_ifT_ne (tgt := 10) C (by decide) dX10_ofChild_5 rfl ?_
    obtain ⟨x, hxc, rfl⟩ := isN_of b2
    have hx : x < 10 := by have := ok.1; omega
    have hz := hk.2.1 x hxc
    have hb := ok.2.1 x hxc
    refine z_iload_n (n := 11) C 2 dX10_ofChild_10 rfl rfl ?_
    refine z_sw C 0 8 [56, 63, 70, 77, 84, 90, 106, 113] 120 dX10_ofChild_11 rfl (by decide) (by decide) (fun i hi => ?_) rfl (fun i u hi hu hx2 => ?_) (fun hx2 => ?_)
    · match i, hi with
      | 0, _ => exact ⟨_, _, rfl, rfl, rfl⟩
      | 1, _ => exact ⟨_, _, rfl, rfl, rfl⟩
      | 2, _ => exact ⟨_, _, rfl, rfl, rfl⟩
      | 3, _ => exact ⟨_, _, rfl, rfl, rfl⟩
      | 4, _ => exact ⟨_, _, rfl, rfl, rfl⟩
      | 5, _ => exact ⟨_, _, rfl, rfl, rfl⟩
      | 6, _ => exact ⟨_, _, rfl, rfl, rfl⟩
      | 7, _ => exact ⟨_, _, rfl, rfl, rfl⟩
    · match i, hi, hu, hx2 with
      | 0, _, hu, hx2 =>
        cases hu
        refine z_aload_n (n := 57) C 0 dX10_ofChild_56 rfl rfl ?_
        refine z_getR (n := 60) (q := 96) C K fF_RX10_40 dX10_ofChild_57 rfl rfl sh_85 (by decide) rfl ?_
        refine z_iload_n (n := 61) C 1 dX10_ofChild_60 rfl rfl ?_
        refine z_ialdN (n := 62) C K x dX10_ofChild_61 rfl sh_96 (by decide) rfl hx (by decide) ?_
        refine z_iret C E dX10_ofChild_62 ?_
        have hsp : ofChildR c (nI x) w = none := by
          unfold ofChildR
          rw [if_neg (fun q => q b2), if_neg]
          intro q; apply q
          rw [hx2]; decide
        refine eqQ ?_ (hS hsp x _ rfl hxc hx2 (by decide))
        have e : ki x = 0 ∨ ki x = 1 ∨ ki x = 2 := by omega
        first | exact hz.1 | exact hz.2.1 | exact hz.2.2.1 | exact hz.2.2.2 | rfl | (rw [hz.1] at c97; rcases e with e | e | e <;> rw [e] at c97 <;> first | (exfalso; revert c97; decide) | (simp [ofChildS, e]; done) | (simp [ofChildS, e]; rfl))
      | 1, _, hu, hx2 =>
        cases hu
        refine z_aload_n (n := 64) C 0 dX10_ofChild_63 rfl rfl ?_
        refine z_getR (n := 67) (q := 97) C K fF_RX10_43 dX10_ofChild_64 rfl rfl sh_85 (by decide) rfl ?_
        refine z_iload_n (n := 68) C 1 dX10_ofChild_67 rfl rfl ?_
        refine z_ialdN (n := 69) C K x dX10_ofChild_68 rfl sh_97 (by decide) rfl hx (by decide) ?_
        refine z_iret C E dX10_ofChild_69 ?_
        have hsp : ofChildR c (nI x) w = none := by
          unfold ofChildR
          rw [if_neg (fun q => q b2), if_neg]
          intro q; apply q
          rw [hx2]; decide
        refine eqQ ?_ (hS hsp x _ rfl hxc hx2 (by decide))
        have e : ki x = 0 ∨ ki x = 1 ∨ ki x = 2 := by omega
        first | exact hz.1 | exact hz.2.1 | exact hz.2.2.1 | exact hz.2.2.2 | rfl | (rw [hz.1] at c97; rcases e with e | e | e <;> rw [e] at c97 <;> first | (exfalso; revert c97; decide) | (simp [ofChildS, e]; done) | (simp [ofChildS, e]; rfl))
      | 2, _, hu, hx2 =>
        cases hu
        refine z_aload_n (n := 71) C 0 dX10_ofChild_70 rfl rfl ?_
        refine z_getR (n := 74) (q := 98) C K fF_RX10_46 dX10_ofChild_71 rfl rfl sh_85 (by decide) rfl ?_
        refine z_iload_n (n := 75) C 1 dX10_ofChild_74 rfl rfl ?_
        refine z_ialdN (n := 76) C K x dX10_ofChild_75 rfl sh_98 (by decide) rfl hx (by decide) ?_
        refine z_iret C E dX10_ofChild_76 ?_
        have hsp : ofChildR c (nI x) w = none := by
          unfold ofChildR
          rw [if_neg (fun q => q b2), if_neg]
          intro q; apply q
          rw [hx2]; decide
        refine eqQ ?_ (hS hsp x _ rfl hxc hx2 (by decide))
        have e : ki x = 0 ∨ ki x = 1 ∨ ki x = 2 := by omega
        first | exact hz.1 | exact hz.2.1 | exact hz.2.2.1 | exact hz.2.2.2 | rfl | (rw [hz.1] at c97; rcases e with e | e | e <;> rw [e] at c97 <;> first | (exfalso; revert c97; decide) | (simp [ofChildS, e]; done) | (simp [ofChildS, e]; rfl))
      | 3, _, hu, hx2 =>
        cases hu
        refine z_aload_n (n := 78) C 0 dX10_ofChild_77 rfl rfl ?_
        refine z_getR (n := 81) (q := 99) C K fF_RX10_49 dX10_ofChild_78 rfl rfl sh_85 (by decide) rfl ?_
        refine z_iload_n (n := 82) C 1 dX10_ofChild_81 rfl rfl ?_
        refine z_ialdN (n := 83) C K x dX10_ofChild_82 rfl sh_99 (by decide) rfl hx (by decide) ?_
        refine z_iret C E dX10_ofChild_83 ?_
        have hsp : ofChildR c (nI x) w = none := by
          unfold ofChildR
          rw [if_neg (fun q => q b2), if_neg]
          intro q; apply q
          rw [hx2]; decide
        refine eqQ ?_ (hS hsp x _ rfl hxc hx2 (by decide))
        have e : ki x = 0 ∨ ki x = 1 ∨ ki x = 2 := by omega
        first | exact hz.1 | exact hz.2.1 | exact hz.2.2.1 | exact hz.2.2.2 | rfl | (rw [hz.1] at c97; rcases e with e | e | e <;> rw [e] at c97 <;> first | (exfalso; revert c97; decide) | (simp [ofChildS, e]; done) | (simp [ofChildS, e]; rfl))
      | 4, _, hu, hx2 =>
        cases hu
        refine z_aload_n (n := 85) C 0 dX10_ofChild_84 rfl rfl ?_
        refine z_iload_n (n := 86) C 1 dX10_ofChild_85 rfl rfl ?_
        refine z_vi_1 (n := 89) (d' := 1) C K dX10_ofChild_86 rfl yk_X10_paceOf yv_X10_paceOf kM_RX10_172 (by decide) hR0 rfl rfl sh_85 (by decide) (by decide) ?_
        refine c_X10_paceOf hx hz.1 hz.2.2.1 hb.1 (by omega) ?_
        refine z_iret C E dX10_ofChild_89 ?_
        have hsp : ofChildR c (nI x) w = none := by
          unfold ofChildR
          rw [if_neg (fun q => q b2), if_neg]
          intro q; apply q
          rw [hx2]; decide
        refine eqQ ?_ (hS hsp x _ rfl hxc hx2 (by decide))
        have e : ki x = 0 ∨ ki x = 1 ∨ ki x = 2 := by omega
        first | exact hz.1 | exact hz.2.1 | exact hz.2.2.1 | exact hz.2.2.2 | rfl | (rw [hz.1] at c97; rcases e with e | e | e <;> rw [e] at c97 <;> first | (exfalso; revert c97; decide) | (simp [ofChildS, e]; done) | (simp [ofChildS, e]; rfl))
      | 5, _, hu, hx2 =>
        cases hu
        refine z_aload_n (n := 91) C 0 dX10_ofChild_90 rfl rfl ?_
        refine z_getR (n := 94) (q := 96) C K fF_RX10_40 dX10_ofChild_91 rfl rfl sh_85 (by decide) rfl ?_
        refine z_iload_n (n := 95) C 1 dX10_ofChild_94 rfl rfl ?_
        refine z_ialdN (n := 96) C K x dX10_ofChild_95 rfl sh_96 (by decide) rfl hx (by decide) ?_
        refine z_iconst (n := 97) (v := 2) C dX10_ofChild_96 rfl rfl ?_
        refine z_icmp_ne (tgt := 104) (n := 100) C dX10_ofChild_97 rfl rfl (fun c97 => ?_) (fun c97 => ?_)
        · refine z_iconst (n := 105) (v := 1) C dX10_ofChild_104 rfl rfl ?_
          refine z_iret C E dX10_ofChild_105 ?_
          have hsp : ofChildR c (nI x) w = none := by
            unfold ofChildR
            rw [if_neg (fun q => q b2), if_neg]
            intro q; apply q
            rw [hx2]; decide
          refine eqQ ?_ (hS hsp x _ rfl hxc hx2 (by decide))
          have e : ki x = 0 ∨ ki x = 1 ∨ ki x = 2 := by omega
          first | exact hz.1 | exact hz.2.1 | exact hz.2.2.1 | exact hz.2.2.2 | rfl | (rw [hz.1] at c97; rcases e with e | e | e <;> rw [e] at c97 <;> first | (exfalso; revert c97; decide) | (simp [ofChildS, e]; done) | (simp [ofChildS, e]; rfl))
        · refine z_iconst (n := 101) (v := 3) C dX10_ofChild_100 rfl rfl ?_
          refine z_goto (n := 105) C dX10_ofChild_101 rfl ?_
          refine z_iret C E dX10_ofChild_105 ?_
          have hsp : ofChildR c (nI x) w = none := by
            unfold ofChildR
            rw [if_neg (fun q => q b2), if_neg]
            intro q; apply q
            rw [hx2]; decide
          refine eqQ ?_ (hS hsp x _ rfl hxc hx2 (by decide))
          have e : ki x = 0 ∨ ki x = 1 ∨ ki x = 2 := by omega
          first | exact hz.1 | exact hz.2.1 | exact hz.2.2.1 | exact hz.2.2.2 | rfl | (rw [hz.1] at c97; rcases e with e | e | e <;> rw [e] at c97 <;> first | (exfalso; revert c97; decide) | (simp [ofChildS, e]; done) | (simp [ofChildS, e]; rfl))
      | 6, _, hu, hx2 =>
        cases hu
        refine z_aload_n (n := 107) C 0 dX10_ofChild_106 rfl rfl ?_
        refine z_iload_n (n := 108) C 1 dX10_ofChild_107 rfl rfl ?_
        refine z_iconst (n := 109) (v := 1) C dX10_ofChild_108 rfl rfl ?_
        refine z_vi_2 (n := 112) (d' := 1) C K dX10_ofChild_109 rfl yk_X10_tiedTo yv_X10_tiedTo kM_RX10_175 (by decide) hR0 rfl rfl sh_85 (by decide) (by decide) ?_
        refine c_X10_tiedTo (v := 1) hk ok hxc (by decide) ?_
        refine z_iret C E dX10_ofChild_112 ?_
        have hsp : ofChildR c (nI x) w = none := by
          unfold ofChildR
          rw [if_neg (fun q => q b2), if_neg]
          intro q; apply q
          rw [hx2]; decide
        refine eqQ ?_ (hS hsp x _ rfl hxc hx2 (by decide))
        have e : ki x = 0 ∨ ki x = 1 ∨ ki x = 2 := by omega
        first | exact hz.1 | exact hz.2.1 | exact hz.2.2.1 | exact hz.2.2.2 | rfl | (rw [hz.1] at c97; rcases e with e | e | e <;> rw [e] at c97 <;> first | (exfalso; revert c97; decide) | (simp [ofChildS, e]; done) | (simp [ofChildS, e]; rfl))
      | 7, _, hu, hx2 =>
        cases hu
        refine z_aload_n (n := 114) C 0 dX10_ofChild_113 rfl rfl ?_
        refine z_iload_n (n := 115) C 1 dX10_ofChild_114 rfl rfl ?_
        refine z_iconst (n := 116) (v := 2) C dX10_ofChild_115 rfl rfl ?_
        refine z_vi_2 (n := 119) (d' := 1) C K dX10_ofChild_116 rfl yk_X10_tiedTo yv_X10_tiedTo kM_RX10_175 (by decide) hR0 rfl rfl sh_85 (by decide) (by decide) ?_
        refine c_X10_tiedTo (v := 2) hk ok hxc (by decide) ?_
        refine z_iret C E dX10_ofChild_119 ?_
        have hsp : ofChildR c (nI x) w = none := by
          unfold ofChildR
          rw [if_neg (fun q => q b2), if_neg]
          intro q; apply q
          rw [hx2]; decide
        refine eqQ ?_ (hS hsp x _ rfl hxc hx2 (by decide))
        have e : ki x = 0 ∨ ki x = 1 ∨ ki x = 2 := by omega
        first | exact hz.1 | exact hz.2.1 | exact hz.2.2.1 | exact hz.2.2.2 | rfl | (rw [hz.1] at c97; rcases e with e | e | e <;> rw [e] at c97 <;> first | (exfalso; revert c97; decide) | (simp [ofChildS, e]; done) | (simp [ofChildS, e]; rfl))
    · refine z_bipush (n := 122) (v := (-2)) C dX10_ofChild_120 rfl rfl ?_
      refine z_iret C E dX10_ofChild_122 ?_
      exact hR _ (by
        unfold ofChildR
        rw [if_neg (fun q => q b2), if_pos]
        intro q
        obtain ⟨i, hi, rfl⟩ := isB_of (h := 7) q
        exact hx2 i (by omega) (by rw [Nat.zero_add]))
  · refine z_ifF_ne (n := 8) (tgt := 10) C (by decide) dX10_ofChild_5 rfl rfl ?_
    refine z_iconst (n := 9) (v := (-1)) C dX10_ofChild_8 rfl rfl ?_
    refine z_iret C E dX10_ofChild_9 ?_
    exact hR _ (by unfold ofChildR; rw [if_pos b2])
set_option maxHeartbeats 4000000 in
set_option maxRecDepth 100000 in
theorem c_X10_tie {ad : Nat → Nat} {I : KI} {J : KJ} {t : Nat} {c : Nat} {ki co ag re : Nat → Nat} {T : Nat → Nat → Nat}(hk : mKd I c ki co ag re T){n : Nat} (ok : okKd n c ki co ag re T){xv yv v : Int32} {Q : Int32 → KI → KJ → KR → Prop} (hR : ∀ a, tieR c xv yv v = some a → Q a I J (rf t)) (hS : tieR c xv yv v = none → ∀ x y w : Nat, xv = nI x → x < c → yv = nI y → y < c → x ≠ y → v = nI w → w < 3 → ∀ I', (∀ q, q ≠ 100 → I' q = I q) → mKd I' c ki co ag re (Tset T x y w) → Q (nI (T x y)) I' J (rf t)) : Mi 3 yX10_tie (wm yX10_tie cX10_tie 5 (some .int)) [.ref (ad 85), .int (xv), .int (yv), .int (v)] ad I J (rf t) Q := by
  refine mi_of (own := RX10) yk_X10_tie rfl (Nat.le_of_ble_eq_true rfl) rfl (fun X hA hnL C K E => ?_)
  subst hA
  refine z_aload_n (n := 1) C 0 dX10_tie_0 rfl rfl ?_
  refine z_iload_n (n := 2) C 1 dX10_tie_1 rfl rfl ?_
  refine z_vi_1 (n := 5) (d' := 1) C K dX10_tie_2 rfl yk_X10_isChild yv_X10_isChild kM_RX10_169 (by decide) hR0 rfl rfl sh_85 (by decide) (by decide) ?_
  refine c_X10_isChild hk.1 ok.1 (fun b2 => ?_) (fun b2 => ?_)
  · refine z_ifF_eq (n := 8) (tgt := 16) C (by decide) dX10_tie_5 rfl rfl ?_
    refine z_aload_n (n := 9) C 0 dX10_tie_8 rfl rfl ?_
    refine z_iload_n (n := 10) C 2 dX10_tie_9 rfl rfl ?_
    refine z_vi_1 (n := 13) (d' := 1) C K dX10_tie_10 rfl yk_X10_isChild yv_X10_isChild kM_RX10_169 (by decide) hR0 rfl rfl sh_85 (by decide) (by decide) ?_
    refine c_X10_isChild hk.1 ok.1 (fun b10 => ?_) (fun b10 => ?_)
    · refine z_ifT_ne (tgt := 18) C (by decide) dX10_tie_13 rfl ?_
      refine z_iload_n (n := 19) C 1 dX10_tie_18 rfl rfl ?_
      refine z_iload_n (n := 20) C 2 dX10_tie_19 rfl rfl ?_
      refine z_icmp_eq (tgt := 32) (n := 23) C dX10_tie_20 rfl rfl (fun c20 => ?_) (fun c20 => ?_)
      · refine z_bipush (n := 34) (v := (-2)) C dX10_tie_32 rfl rfl ?_
        refine z_iret C E dX10_tie_34 ?_
        exact hR _ (by unfold tieR; rw [if_neg (fun q => q ⟨b2, b10⟩), if_pos (Or.inl c20)])
      · refine z_iload_n (n := 24) C 3 dX10_tie_23 rfl rfl ?_
        refine z_iconst (n := 25) (v := 0) C dX10_tie_24 rfl rfl ?_
        refine z_iconst (n := 26) (v := 2) C dX10_tie_25 rfl rfl ?_
        refine z_si_3 (n := 29) (d' := 1) C K dX10_tie_26 rfl yk_X10_within kT_yX10_within kM_RX10_92 (by decide) hR0 rfl ?_
        refine m_inB (lo := 0) (hi := 2) (by decide) (by decide) (fun b26 => ?_) (fun b26 => ?_)
        · refine z_ifT_ne (tgt := 35) C (by decide) dX10_tie_29 rfl ?_
          have hnone : tieR c xv yv v = none := by unfold tieR; rw [if_neg (fun q => q ⟨b2, b10⟩), if_neg (fun q => q.elim c20 (fun q => q b26))]
          obtain ⟨x, hxc, rfl⟩ := isN_of b2
          obtain ⟨y, hyc, rfl⟩ := isN_of b10
          obtain ⟨w, hw, rfl⟩ := isB_of (h := 2) b26
          have hc10 := ok.1
          have hxy : x ≠ y := fun e => c20 (by rw [e])
          refine z_aload_n (n := 36) C 0 dX10_tie_35 rfl rfl ?_
          refine z_getR (n := 39) (q := 100) C K fF_RX10_52 dX10_tie_36 rfl rfl sh_85 (by decide) rfl ?_
          refine z_bipush (n := 41) (v := 10) C dX10_tie_39 rfl rfl ?_
          refine z_iload_n (n := 42) C 1 dX10_tie_41 rfl rfl ?_
          refine z_imul (n := 43) C dX10_tie_42 rfl ?_
          refine z_iload_n (n := 44) C 2 dX10_tie_43 rfl rfl ?_
          refine z_iadd (n := 45) C dX10_tie_44 rfl ?_
          refine z_ialdN (n := 46) C K (10 * x + y) dX10_tie_45 rfl sh_100 (by decide) (by rw [show (10 : Int32) = nI 10 from rfl, mul_nI, nI_add]) (by omega) (by decide) ?_
          refine z_istore (n := 48) (L' := [(4, _), (0, _), (1, _), (2, _), (3, _)]) C dX10_tie_46 rfl (by rw [hnL]; decide) rfl ?_
          refine z_aload_n (n := 49) C 1 dX10_tie_48 rfl rfl ?_
          refine z_getR (n := 52) (q := 100) C K fF_RX10_52 dX10_tie_49 rfl rfl sh_85 (by decide) rfl ?_
          refine z_bipush (n := 54) (v := 10) C dX10_tie_52 rfl rfl ?_
          refine z_iload_n (n := 55) C 2 dX10_tie_54 rfl rfl ?_
          refine z_imul (n := 56) C dX10_tie_55 rfl ?_
          refine z_iload_n (n := 57) C 3 dX10_tie_56 rfl rfl ?_
          refine z_iadd (n := 58) C dX10_tie_57 rfl ?_
          refine z_iload_n (n := 59) C 4 dX10_tie_58 rfl rfl ?_
          refine z_iastN (n := 60) C K (10 * x + y) dX10_tie_59 rfl sh_100 (by decide) (by rw [show (10 : Int32) = nI 10 from rfl, mul_nI, nI_add]) (by omega) (by decide) ?_
          refine z_aload_n (n := 61) C 1 dX10_tie_60 rfl rfl ?_
          refine z_getR (n := 64) (q := 100) C K fF_RX10_52 dX10_tie_61 rfl rfl sh_85 (by decide) rfl ?_
          refine z_bipush (n := 66) (v := 10) C dX10_tie_64 rfl rfl ?_
          refine z_iload_n (n := 67) C 3 dX10_tie_66 rfl rfl ?_
          refine z_imul (n := 68) C dX10_tie_67 rfl ?_
          refine z_iload_n (n := 69) C 2 dX10_tie_68 rfl rfl ?_
          refine z_iadd (n := 70) C dX10_tie_69 rfl ?_
          refine z_iload_n (n := 71) C 4 dX10_tie_70 rfl rfl ?_
          refine z_iastN (n := 72) C K (10 * y + x) dX10_tie_71 rfl sh_100 (by decide) (by rw [show (10 : Int32) = nI 10 from rfl, mul_nI, nI_add]) (by omega) (by decide) ?_
          refine z_iload (n := 74) C 0 dX10_tie_72 rfl rfl ?_
          refine z_iret C E dX10_tie_74 ?_
          refine eqQ (hk.2.2 x y hxc hyc) (hS hnone x y w rfl hxc rfl hyc hxy rfl (by omega) _ (fun q h => ?_) ⟨?_, fun z hz => ?_, fun a b ha hb => ?_⟩)
          · rw [upI_row _ _ h, upI_row _ _ h]
          · rw [upI_p _ _ (by omega), upI_p _ _ (by omega)]; exact hk.1
          · rw [upI_row _ _ (by decide), upI_row _ _ (by decide), upI_row _ _ (by decide), upI_row _ _ (by decide), upI_row _ _ (by decide), upI_row _ _ (by decide), upI_row _ _ (by decide), upI_row _ _ (by decide)]; exact hk.2.1 z hz
          · unfold Tset
            by_cases h1 : a = y ∧ b = x
            · obtain ⟨rfl, rfl⟩ := h1
              rw [upI_same, if_pos (Or.inr ⟨rfl, rfl⟩)]
            · rw [upI_k _ _ (by omega)]
              by_cases h2 : a = x ∧ b = y
              · obtain ⟨rfl, rfl⟩ := h2
                rw [upI_same, if_pos (Or.inl ⟨rfl, rfl⟩)]
              · rw [upI_k _ _ (by omega), if_neg (by omega)]
                exact hk.2.2 a b ha hb
        · refine z_ifF_ne (n := 32) (tgt := 35) C (by decide) dX10_tie_29 rfl rfl ?_
          refine z_bipush (n := 34) (v := (-2)) C dX10_tie_32 rfl rfl ?_
          refine z_iret C E dX10_tie_34 ?_
          exact hR _ (by unfold tieR; rw [if_neg (fun q => q ⟨b2, b10⟩), if_pos (Or.inr b26)])
    · refine z_ifF_ne (n := 16) (tgt := 18) C (by decide) dX10_tie_13 rfl rfl ?_
      refine z_iconst (n := 17) (v := (-1)) C dX10_tie_16 rfl rfl ?_
      refine z_iret C E dX10_tie_17 ?_
      exact hR _ (by unfold tieR; rw [if_pos (fun q => b10 q.2)])
  · refine z_ifT_eq (tgt := 16) C (by decide) dX10_tie_5 rfl ?_
    refine z_iconst (n := 17) (v := (-1)) C dX10_tie_16 rfl rfl ?_
    refine z_iret C E dX10_tie_17 ?_
    exact hR _ (by unfold tieR; rw [if_pos (fun q => b2 q.1)])
