def cnS (rd : Nat → Nat → Nat) : Nat → Nat
  | 0 => 0
  | k + 1 => cnS rd k + if 0 < rd 3 k then 1 else 0
theorem cnS_le (rd : Nat → Nat → Nat) : ∀ k, cnS rd k ≤ k
  | 0 => Nat.le_refl 0
  | k + 1 => by have := cnS_le rd k; rw [cnS]; split <;> omega
def roadR (r : Nat) (k w : Int32) : Option Int32 := if ¬ isN r k then some (-1) else if ¬ isB 0 4 w then some (-2) else none
def manyS (n r : Nat) (rd : Nat → Nat → Nat) (c hc : Nat) (T : Nat → Nat → Nat) (w : Int32) : Int32 := if w = nI 0 then nI n else if w = nI 1 then nI r else if w = nI 2 then nI (cnS rd r) else if w = nI 3 then nI c else if w = nI 4 then nI hc else if w = nI 5 then nI (prS T c 1 c / 2) else if w = nI 6 then nI (prS T c 2 c / 2) else -2
set_option maxHeartbeats 4000000 in
set_option maxRecDepth 100000 in
theorem l_X9_pairs {X : KX} {J : KJ} {t : Nat} (C : Cx X RX9 cX9_pairs 2) (K : Kx X) (hnL : xnL X = 4) {Q : Int32 → KI → KJ → KR → Prop} (E : Ei X .int Q) {I : KI} {c : Nat} {ki co ag re : Nat → Nat} {T : Nat → Nat → Nat}(hk : cKd I c ki co ag re T){n : Nat} (ok : okKd n c ki co ag re T){v : Nat} (hv : v = 1 ∨ v = 2) (hQ : Q (nI (prS T c v c / 2)) I J (rf t)) : ∀ (f : Nat) (i : Nat), c - i < f → i ≤ c → Z X 0 0 (V X I J (rf t)) 4 [(3, .int (nI i)), (2, .int (nI (prS T c v i))), (0, .ref (xad X 0)), (1, .int (nI v))] [] := by
  intro f
  induction f with
  | zero => intro i h; omega
  | succ f ih =>
    intro i hf hi
    have hc10 := ok.1
    refine z_iload_n (n := 5) C 0 dX9_pairs_4 rfl rfl ?_
    refine z_aload_n (n := 6) C 2 dX9_pairs_5 rfl rfl ?_
    refine z_getI (n := 9) C K fF_RX9_40 dX9_pairs_6 rfl sh_0 (by decide) ?_
    refine z_icmp_ge (tgt := 50) (n := 12) C dX9_pairs_9 rfl rfl (fun c9 => ?_) (fun c9 => ?_)
    · rw [hk.1, fa_le, nI_toInt (by omega), nI_toInt (by omega)] at c9
      have e : i = c := by omega
      subst e
      refine z_iload_n (n := 51) C 1 dX9_pairs_50 rfl rfl ?_
      refine z_iconst (n := 52) (v := 2) C dX9_pairs_51 rfl rfl ?_
      refine z_idiv (n := 53) C dX9_pairs_52 rfl (by decide) ?_
      refine z_iret C E dX9_pairs_53 ?_
      have hle := prS_le (T := T) (v := v) hc10 i
      rw [show (2 : Int32) = nI 2 from rfl, pk_div (by omega) (by decide) (by decide)]
      exact hQ
    · rw [hk.1, fa_le, nI_toInt (by omega), nI_toInt (by omega)] at c9
      have hx : i < 10 := by omega
      have hz := hk.2 i (by omega)
      refine z_iload_n (n := 13) C 1 dX9_pairs_12 rfl rfl ?_
      refine z_iload_n (n := 14) C 3 dX9_pairs_13 rfl rfl ?_
      refine z_iconst (n := 15) (v := 1) C dX9_pairs_14 rfl rfl ?_
      refine z_icmp_ne (tgt := 30) (n := 18) C dX9_pairs_15 rfl rfl (fun c15 => ?_) (fun c15 => ?_)
      · refine z_aload_n (n := 31) C 2 dX9_pairs_30 rfl rfl ?_
        refine z_getR (n := 34) (q := 48) C K fF_RX9_36 dX9_pairs_31 rfl rfl sh_0 (by decide) rfl ?_
        refine z_iload_n (n := 35) C 0 dX9_pairs_34 rfl rfl ?_
        refine z_aaldN (n := 36) (q := (75 + i)) (ci := 0) C K i dX9_pairs_35 rfl (by decide) sh_48 (by decide) rfl hx (by decide) (rf_children hx) ?_
        refine z_getI (n := 39) C K fF_RX9_187 dX9_pairs_36 rfl (sh_child hx) (lt_child hx) ?_
        have e : v = 2 := hv.resolve_left (fun e => c15 (by rw [e]; rfl))
        rw [hz.2.2.2.2.2]
        refine z_si_1 (n := 42) (d' := 1) C K dX9_pairs_39 rfl yk_J6_bitCount_0f7a4 kT_yJ6_bitCount_0f7a4 kM_RX9_255 (by decide) hR0 rfl ?_
        refine c_J6_bitCount_0f7a4 (msk_lt1024 _ hc10) ?_
        refine z_iadd (n := 43) C dX9_pairs_42 rfl ?_
        refine z_istore_n (n := 44) (L' := [(2, _), (3, _), (0, _), (1, _)]) C dX9_pairs_43 rfl (by rw [hnL]; decide) rfl ?_
        refine z_iincG (n := 47) (c := 1) (L' := [(3, _), (2, _), (0, _), (1, _)]) C 1 dX9_pairs_44 rfl rfl rfl (by rw [hnL]; decide) rfl ?_
        refine z_goto (n := 4) C dX9_pairs_47 rfl ?_
        rw [nI_1, nI_add, show prS T c v i + popS (msk (fun y => T i y == 2) c) = prS T c v (i + 1) by rw [e]; rfl]
        exact ih (i + 1) (by omega) (by omega)
      · refine z_aload_n (n := 19) C 2 dX9_pairs_18 rfl rfl ?_
        refine z_getR (n := 22) (q := 48) C K fF_RX9_36 dX9_pairs_19 rfl rfl sh_0 (by decide) rfl ?_
        refine z_iload_n (n := 23) C 0 dX9_pairs_22 rfl rfl ?_
        refine z_aaldN (n := 24) (q := (75 + i)) (ci := 0) C K i dX9_pairs_23 rfl (by decide) sh_48 (by decide) rfl hx (by decide) (rf_children hx) ?_
        refine z_getI (n := 27) C K fF_RX9_184 dX9_pairs_24 rfl (sh_child hx) (lt_child hx) ?_
        refine z_goto (n := 39) C dX9_pairs_27 rfl ?_
        have e : v = 1 := nI_inj (b := 1) c15 (by omega) (by decide)
        rw [hz.2.2.2.2.1]
        refine z_si_1 (n := 42) (d' := 1) C K dX9_pairs_39 rfl yk_J6_bitCount_0f7a4 kT_yJ6_bitCount_0f7a4 kM_RX9_255 (by decide) hR0 rfl ?_
        refine c_J6_bitCount_0f7a4 (msk_lt1024 _ hc10) ?_
        refine z_iadd (n := 43) C dX9_pairs_42 rfl ?_
        refine z_istore_n (n := 44) (L' := [(2, _), (3, _), (0, _), (1, _)]) C dX9_pairs_43 rfl (by rw [hnL]; decide) rfl ?_
        refine z_iincG (n := 47) (c := 1) (L' := [(3, _), (2, _), (0, _), (1, _)]) C 1 dX9_pairs_44 rfl rfl rfl (by rw [hnL]; decide) rfl ?_
        refine z_goto (n := 4) C dX9_pairs_47 rfl ?_
        rw [nI_1, nI_add, show prS T c v i + popS (msk (fun y => T i y == 1) c) = prS T c v (i + 1) by rw [e]; rfl]
        exact ih (i + 1) (by omega) (by omega)
set_option maxHeartbeats 4000000 in
set_option maxRecDepth 100000 in
theorem c_X9_pairs {ad : Nat → Nat} {I : KI} {J : KJ} {t : Nat} {c : Nat} {ki co ag re : Nat → Nat} {T : Nat → Nat → Nat}(hk : cKd I c ki co ag re T){n : Nat} (ok : okKd n c ki co ag re T){v : Nat} (hv : v = 1 ∨ v = 2) {Q : Int32 → KI → KJ → KR → Prop} (hQ : Q (nI (prS T c v c / 2)) I J (rf t)) : Mi 2 yX9_pairs (wm yX9_pairs cX9_pairs 4 (some .int)) [.ref (ad 0), .int (nI v)] ad I J (rf t) Q := by
  refine mi_of (own := RX9) yk_X9_pairs rfl (Nat.le_of_ble_eq_true rfl) rfl (fun X hA hnL C K E => ?_)
  subst hA
  refine z_iconst (n := 1) (v := 0) C dX9_pairs_0 rfl rfl ?_
  refine z_istore_n (n := 2) (L' := [(2, _), (0, _), (1, _)]) C dX9_pairs_1 rfl (by rw [hnL]; decide) rfl ?_
  refine z_iconst (n := 3) (v := 0) C dX9_pairs_2 rfl rfl ?_
  refine z_istore_n (n := 4) (L' := [(3, _), (2, _), (0, _), (1, _)]) C dX9_pairs_3 rfl (by rw [hnL]; decide) rfl ?_
  exact l_X9_pairs C K hnL E hk ok hv hQ (c + 1) 0 (by omega) (by omega)
set_option maxHeartbeats 4000000 in
set_option maxRecDepth 100000 in
theorem l_X10_pairsOf {X : KX} {J : KJ} {t : Nat} (C : Cx X RX10 cX10_pairsOf 2) (K : Kx X) (hnL : xnL X = 4) {Q : Int32 → KI → KJ → KR → Prop} (E : Ei X .int Q) {I : KI} {c : Nat} {ki co ag re : Nat → Nat} {T : Nat → Nat → Nat}(hk : mKd I c ki co ag re T){n : Nat} (ok : okKd n c ki co ag re T){v : Nat} (hv : v = 1 ∨ v = 2) (hQ : Q (nI (prS T c v c / 2)) I J (rf t)) : ∀ (f : Nat) (i : Nat), c - i < f → i ≤ c → Z X 0 0 (V X I J (rf t)) 4 [(3, .int (nI i)), (2, .int (nI (prS T c v i))), (0, .ref (xad X 85)), (1, .int (nI v))] [] := by
  intro f
  induction f with
  | zero => intro i h; omega
  | succ f ih =>
    intro i hf hi
    have hc10 := ok.1
    refine z_iload_n (n := 5) C 0 dX10_pairsOf_4 rfl rfl ?_
    refine z_aload_n (n := 6) C 2 dX10_pairsOf_5 rfl rfl ?_
    refine z_getI (n := 9) C K fF_RX10_133 dX10_pairsOf_6 rfl sh_85 (by decide) ?_
    refine z_icmp_ge (tgt := 30) (n := 12) C dX10_pairsOf_9 rfl rfl (fun c9 => ?_) (fun c9 => ?_)
    · rw [hk.1, fa_le, nI_toInt (by omega), nI_toInt (by omega)] at c9
      have e : i = c := by omega
      subst e
      refine z_iload_n (n := 31) C 1 dX10_pairsOf_30 rfl rfl ?_
      refine z_iconst (n := 32) (v := 2) C dX10_pairsOf_31 rfl rfl ?_
      refine z_idiv (n := 33) C dX10_pairsOf_32 rfl (by decide) ?_
      refine z_iret C E dX10_pairsOf_33 ?_
      have hle := prS_le (T := T) (v := v) hc10 i
      rw [show (2 : Int32) = nI 2 from rfl, pk_div (by omega) (by decide) (by decide)]
      exact hQ
    · rw [hk.1, fa_le, nI_toInt (by omega), nI_toInt (by omega)] at c9
      refine z_iload_n (n := 13) C 1 dX10_pairsOf_12 rfl rfl ?_
      refine z_aload_n (n := 14) C 2 dX10_pairsOf_13 rfl rfl ?_
      refine z_iload_n (n := 15) C 0 dX10_pairsOf_14 rfl rfl ?_
      refine z_iload_n (n := 16) C 3 dX10_pairsOf_15 rfl rfl ?_
      refine z_vi_2 (n := 19) (d' := 1) C K dX10_pairsOf_16 rfl yk_X10_tiedTo yv_X10_tiedTo kM_RX10_175 (by decide) hR0 rfl rfl sh_85 (by decide) (by decide) ?_
      refine c_X10_tiedTo (v := v) hk ok (by omega) (by omega) ?_
      refine z_si_1 (n := 22) (d' := 1) C K dX10_pairsOf_19 rfl yk_X10_bitsOf kT_yX10_bitsOf kM_RX10_211 (by decide) hR0 rfl ?_
      refine c_X10_bitsOf (Nat.lt_trans (msk_lt1024 (fun y => T i y == v) hc10) (by decide)) ?_
      refine z_iadd (n := 23) C dX10_pairsOf_22 rfl ?_
      refine z_istore_n (n := 24) (L' := [(2, _), (3, _), (0, _), (1, _)]) C dX10_pairsOf_23 rfl (by rw [hnL]; decide) rfl ?_
      refine z_iincG (n := 27) (c := 1) (L' := [(3, _), (2, _), (0, _), (1, _)]) C 1 dX10_pairsOf_24 rfl rfl rfl (by rw [hnL]; decide) rfl ?_
      refine z_goto (n := 4) C dX10_pairsOf_27 rfl ?_
      rw [nI_1, nI_add]
      exact ih (i + 1) (by omega) (by omega)
set_option maxHeartbeats 4000000 in
set_option maxRecDepth 100000 in
theorem c_X10_pairsOf {ad : Nat → Nat} {I : KI} {J : KJ} {t : Nat} {c : Nat} {ki co ag re : Nat → Nat} {T : Nat → Nat → Nat}(hk : mKd I c ki co ag re T){n : Nat} (ok : okKd n c ki co ag re T){v : Nat} (hv : v = 1 ∨ v = 2) {Q : Int32 → KI → KJ → KR → Prop} (hQ : Q (nI (prS T c v c / 2)) I J (rf t)) : Mi 2 yX10_pairsOf (wm yX10_pairsOf cX10_pairsOf 4 (some .int)) [.ref (ad 85), .int (nI v)] ad I J (rf t) Q := by
  refine mi_of (own := RX10) yk_X10_pairsOf rfl (Nat.le_of_ble_eq_true rfl) rfl (fun X hA hnL C K E => ?_)
  subst hA
  refine z_iconst (n := 1) (v := 0) C dX10_pairsOf_0 rfl rfl ?_
  refine z_istore_n (n := 2) (L' := [(2, _), (0, _), (1, _)]) C dX10_pairsOf_1 rfl (by rw [hnL]; decide) rfl ?_
  refine z_iconst (n := 3) (v := 0) C dX10_pairsOf_2 rfl rfl ?_
  refine z_istore_n (n := 4) (L' := [(3, _), (2, _), (0, _), (1, _)]) C dX10_pairsOf_3 rfl (by rw [hnL]; decide) rfl ?_
  exact l_X10_pairsOf C K hnL E hk ok hv hQ (c + 1) 0 (by omega) (by omega)
set_option maxHeartbeats 4000000 in
set_option maxRecDepth 100000 in
theorem c_X7_isCrossing {ad : Nat → Nat} {I : KI} {J : KJ} {t : Nat} {u r : Nat} (ht : Tw u) {k o : Nat} (hk : k < 12) (h : I (u + 4) k = nI o) (ho : o ≤ 9) {Q : Int32 → KI → KJ → KR → Prop} (h1 : 0 < o → Q 1 I J (rf t)) (h0 : o = 0 → Q 0 I J (rf t)) : Mi 1 yX7_isCrossing (wm yX7_isCrossing cX7_isCrossing 2 (some .boolean)) [.ref (ad u), .int (nI k)] ad I J (rf t) Q := by
  refine mi_of (own := RX7) yk_X7_isCrossing rfl (Nat.le_of_ble_eq_true rfl) rfl (fun X hA hnL C K E => ?_)
  subst hA
  refine z_aload_n (n := 1) C 0 dX7_isCrossing_0 rfl rfl ?_
  refine z_getR (n := 4) (q := (u + 4)) C K fF_RX7_31 dX7_isCrossing_1 rfl rfl (sh_tw ht) (Tw.lt0 ht) (rf_tw6 ht) ?_
  refine z_iload_n (n := 5) C 1 dX7_isCrossing_4 rfl rfl ?_
  refine z_ialdN (n := 6) C K k dX7_isCrossing_5 rfl (sh_tw4 ht) (Tw.lt ht (by decide)) rfl hk (by decide) ?_
  refine z_if_le (tgt := 13) (n := 9) C dX7_isCrossing_6 rfl rfl (fun c6 => ?_) (fun c6 => ?_)
  · refine z_iconst (n := 14) (v := 0) C dX7_isCrossing_13 rfl rfl ?_
    refine z_zret C E dX7_isCrossing_14 (by decide) ?_
    rw [h, fa_le, nI_toInt (by omega)] at c6
    simp only [Int32.reduceToInt] at c6
    exact h0 (by omega)
  · refine z_iconst (n := 10) (v := 1) C dX7_isCrossing_9 rfl rfl ?_
    refine z_goto (n := 14) C dX7_isCrossing_10 rfl ?_
    refine z_zret C E dX7_isCrossing_14 (by decide) ?_
    rw [h, fa_le, nI_toInt (by omega)] at c6
    simp only [Int32.reduceToInt] at c6
    exact h1 (by omega)
set_option maxHeartbeats 4000000 in
set_option maxRecDepth 100000 in
theorem l_X7_crossings {X : KX} {J : KJ} {t : Nat} (C : Cx X RX7 cX7_crossings 2) (K : Kx X) (hnL : xnL X = 3) {Q : Int32 → KI → KJ → KR → Prop} (E : Ei X .int Q) {I : KI} (ht : Tw t) {n r s : Nat} {rd : Nat → Nat → Nat}(hw : cTw t I n r s rd) (ok : okTw n r s rd) (hQ : Q (nI (cnS rd r)) I J (rf t)) : ∀ (f : Nat) (i : Nat), r - i < f → i ≤ r → Z X 0 0 (V X I J (rf t)) 4 [(2, .int (nI i)), (1, .int (nI (cnS rd i))), (0, .ref (xad X t))] [] := by
  intro f
  induction f with
  | zero => intro i h; omega
  | succ f ih =>
    intro i hf hi
    have hr12 := ok.2.1
    refine z_iload_n (n := 5) C 0 dX7_crossings_4 rfl rfl ?_
    refine z_aload_n (n := 6) C 2 dX7_crossings_5 rfl rfl ?_
    refine z_getI (n := 9) C K fF_RX7_15 dX7_crossings_6 rfl (sh_tw ht) (Tw.lt0 ht) ?_
    refine z_icmp_ge (tgt := 34) (n := 12) C dX7_crossings_9 rfl rfl (fun c9 => ?_) (fun c9 => ?_)
    · rw [hw.2.1, fa_le, nI_toInt (by omega), nI_toInt (by omega)] at c9
      have e : i = r := by omega
      subst e
      refine z_iload_n (n := 35) C 1 dX7_crossings_34 rfl rfl ?_
      refine z_iret C E dX7_crossings_35 ?_
      exact hQ
    · rw [hw.2.1, fa_le, nI_toInt (by omega), nI_toInt (by omega)] at c9
      have hz := hw.2.2.2 i (by omega)
      have hb := ok.2.2.2 i (by omega)
      refine z_iload_n (n := 13) C 1 dX7_crossings_12 rfl rfl ?_
      refine z_aload_n (n := 14) C 2 dX7_crossings_13 rfl rfl ?_
      refine z_iload_n (n := 15) C 0 dX7_crossings_14 rfl rfl ?_
      refine z_vi_1 (n := 18) (d' := 1) C K dX7_crossings_15 rfl yk_X7_isCrossing yv_X7_isCrossing kM_RX7_45 (by decide) hR0 rfl rfl (sh_tw ht) (by decide) (Tw.lt0 ht) ?_
      refine c_X7_isCrossing (u := t) (r := r) ht (by omega) hz.2.2.2.1 (by omega) (fun b15 => ?_) (fun b15 => ?_)
      · refine z_ifF_eq (n := 21) (tgt := 25) C (by decide) dX7_crossings_18 rfl rfl ?_
        refine z_iconst (n := 22) (v := 1) C dX7_crossings_21 rfl rfl ?_
        refine z_goto (n := 26) C dX7_crossings_22 rfl ?_
        refine z_iadd (n := 27) C dX7_crossings_26 rfl ?_
        refine z_istore_n (n := 28) (L' := [(1, _), (2, _), (0, _)]) C dX7_crossings_27 rfl (by rw [hnL]; decide) rfl ?_
        refine z_iincG (n := 31) (c := 1) (L' := [(2, _), (1, _), (0, _)]) C 1 dX7_crossings_28 rfl rfl rfl (by rw [hnL]; decide) rfl ?_
        refine z_goto (n := 4) C dX7_crossings_31 rfl ?_
        have e2 : cnS rd (i + 1) = cnS rd i + if 0 < rd 3 i then 1 else 0 := rfl
        rw [nI_1, nI_1, show cnS rd i + 1 = cnS rd (i + 1) by rw [e2, if_pos b15]]
        exact ih (i + 1) (by omega) (by omega)
      · refine z_ifT_eq (tgt := 25) C (by decide) dX7_crossings_18 rfl ?_
        refine z_iconst (n := 26) (v := 0) C dX7_crossings_25 rfl rfl ?_
        refine z_iadd (n := 27) C dX7_crossings_26 rfl ?_
        refine z_istore_n (n := 28) (L' := [(1, _), (2, _), (0, _)]) C dX7_crossings_27 rfl (by rw [hnL]; decide) rfl ?_
        refine z_iincG (n := 31) (c := 1) (L' := [(2, _), (1, _), (0, _)]) C 1 dX7_crossings_28 rfl rfl rfl (by rw [hnL]; decide) rfl ?_
        refine z_goto (n := 4) C dX7_crossings_31 rfl ?_
        have e2 : cnS rd (i + 1) = cnS rd i + if 0 < rd 3 i then 1 else 0 := rfl
        rw [nI_1, show nI (cnS rd i) + (0 : Int32) = nI (cnS rd (i + 1)) by rw [e2, if_neg (by omega)]; exact nI_add _ 0]
        exact ih (i + 1) (by omega) (by omega)
set_option maxHeartbeats 4000000 in
set_option maxRecDepth 100000 in
theorem c_X7_crossings {ad : Nat → Nat} {I : KI} {J : KJ} {t : Nat} (ht : Tw t) {n r s : Nat} {rd : Nat → Nat → Nat}(hw : cTw t I n r s rd) (ok : okTw n r s rd) {Q : Int32 → KI → KJ → KR → Prop} (hQ : Q (nI (cnS rd r)) I J (rf t)) : Mi 2 yX7_crossings (wm yX7_crossings cX7_crossings 3 (some .int)) [.ref (ad t)] ad I J (rf t) Q := by
  refine mi_of (own := RX7) yk_X7_crossings rfl (Nat.le_of_ble_eq_true rfl) rfl (fun X hA hnL C K E => ?_)
  subst hA
  refine z_iconst (n := 1) (v := 0) C dX7_crossings_0 rfl rfl ?_
  refine z_istore_n (n := 2) (L' := [(1, _), (0, _)]) C dX7_crossings_1 rfl (by rw [hnL]; decide) rfl ?_
  refine z_iconst (n := 3) (v := 0) C dX7_crossings_2 rfl rfl ?_
  refine z_istore_n (n := 4) (L' := [(2, _), (1, _), (0, _)]) C dX7_crossings_3 rfl (by rw [hnL]; decide) rfl ?_
  exact l_X7_crossings C K hnL E ht hw ok hQ (r + 1) 0 (by omega) (by omega)
set_option maxHeartbeats 4000000 in
set_option maxRecDepth 100000 in
theorem l_X10_crossingRoads {X : KX} {J : KJ} {t : Nat} (C : Cx X RX10 cX10_crossingRoads 2) (K : Kx X) (hnL : xnL X = 3) {Q : Int32 → KI → KJ → KR → Prop} (E : Ei X .int Q) {I : KI} {n r s : Nat} {rd : Nat → Nat → Nat}(hw : mTw I n r s rd) (ok : okTw n r s rd) (hQ : Q (nI (cnS rd r)) I J (rf t)) : ∀ (f : Nat) (i : Nat), r - i < f → i ≤ r → Z X 0 0 (V X I J (rf t)) 4 [(2, .int (nI i)), (1, .int (nI (cnS rd i))), (0, .ref (xad X 85))] [] := by
  intro f
  induction f with
  | zero => intro i h; omega
  | succ f ih =>
    intro i hf hi
    have hr12 := ok.2.1
    refine z_iload_n (n := 5) C 0 dX10_crossingRoads_4 rfl rfl ?_
    refine z_aload_n (n := 6) C 2 dX10_crossingRoads_5 rfl rfl ?_
    refine z_getI (n := 9) C K fF_RX10_124 dX10_crossingRoads_6 rfl sh_85 (by decide) ?_
    refine z_icmp_ge (tgt := 35) (n := 12) C dX10_crossingRoads_9 rfl rfl (fun c9 => ?_) (fun c9 => ?_)
    · rw [hw.2.1, fa_le, nI_toInt (by omega), nI_toInt (by omega)] at c9
      have e : i = r := by omega
      subst e
      refine z_iload_n (n := 36) C 1 dX10_crossingRoads_35 rfl rfl ?_
      refine z_iret C E dX10_crossingRoads_36 ?_
      exact hQ
    · rw [hw.2.1, fa_le, nI_toInt (by omega), nI_toInt (by omega)] at c9
      have hz := hw.2.2.2 i (by omega)
      have hb := ok.2.2.2 i (by omega)
      refine z_iload_n (n := 13) C 1 dX10_crossingRoads_12 rfl rfl ?_
      refine z_aload_n (n := 14) C 2 dX10_crossingRoads_13 rfl rfl ?_
      refine z_getR (n := 17) (q := 92) C K fF_RX10_28 dX10_crossingRoads_14 rfl rfl sh_85 (by decide) rfl ?_
      refine z_iload_n (n := 18) C 0 dX10_crossingRoads_17 rfl rfl ?_
      refine z_ialdN (n := 19) C K i dX10_crossingRoads_18 rfl sh_92 (by decide) rfl (by omega) (by decide) ?_
      rw [hz.2.2.2.1]
      refine z_if_le (tgt := 26) (n := 22) C dX10_crossingRoads_19 rfl rfl (fun c19 => ?_) (fun c19 => ?_)
      · refine z_iconst (n := 27) (v := 0) C dX10_crossingRoads_26 rfl rfl ?_
        refine z_iadd (n := 28) C dX10_crossingRoads_27 rfl ?_
        refine z_istore_n (n := 29) (L' := [(1, _), (2, _), (0, _)]) C dX10_crossingRoads_28 rfl (by rw [hnL]; decide) rfl ?_
        refine z_iincG (n := 32) (c := 1) (L' := [(2, _), (1, _), (0, _)]) C 1 dX10_crossingRoads_29 rfl rfl rfl (by rw [hnL]; decide) rfl ?_
        refine z_goto (n := 4) C dX10_crossingRoads_32 rfl ?_
        have e2 : cnS rd (i + 1) = cnS rd i + if 0 < rd 3 i then 1 else 0 := rfl
        rw [fa_le, nI_toInt (by omega)] at c19
        simp only [Int32.reduceToInt] at c19
        rw [nI_1, show nI (cnS rd i) + (0 : Int32) = nI (cnS rd (i + 1)) by rw [e2, if_neg (by omega)]; exact nI_add _ 0]
        exact ih (i + 1) (by omega) (by omega)
      · refine z_iconst (n := 23) (v := 1) C dX10_crossingRoads_22 rfl rfl ?_
        refine z_goto (n := 27) C dX10_crossingRoads_23 rfl ?_
        refine z_iadd (n := 28) C dX10_crossingRoads_27 rfl ?_
        refine z_istore_n (n := 29) (L' := [(1, _), (2, _), (0, _)]) C dX10_crossingRoads_28 rfl (by rw [hnL]; decide) rfl ?_
        refine z_iincG (n := 32) (c := 1) (L' := [(2, _), (1, _), (0, _)]) C 1 dX10_crossingRoads_29 rfl rfl rfl (by rw [hnL]; decide) rfl ?_
        refine z_goto (n := 4) C dX10_crossingRoads_32 rfl ?_
        have e2 : cnS rd (i + 1) = cnS rd i + if 0 < rd 3 i then 1 else 0 := rfl
        rw [fa_le, nI_toInt (by omega)] at c19
        simp only [Int32.reduceToInt] at c19
        rw [nI_1, nI_1, show cnS rd i + 1 = cnS rd (i + 1) by rw [e2, if_pos (by omega)]]
        exact ih (i + 1) (by omega) (by omega)
set_option maxHeartbeats 4000000 in
set_option maxRecDepth 100000 in
theorem c_X10_crossingRoads {ad : Nat → Nat} {I : KI} {J : KJ} {t : Nat} {n r s : Nat} {rd : Nat → Nat → Nat}(hw : mTw I n r s rd) (ok : okTw n r s rd) {Q : Int32 → KI → KJ → KR → Prop} (hQ : Q (nI (cnS rd r)) I J (rf t)) : Mi 2 yX10_crossingRoads (wm yX10_crossingRoads cX10_crossingRoads 3 (some .int)) [.ref (ad 85)] ad I J (rf t) Q := by
  refine mi_of (own := RX10) yk_X10_crossingRoads rfl (Nat.le_of_ble_eq_true rfl) rfl (fun X hA hnL C K E => ?_)
  subst hA
  refine z_iconst (n := 1) (v := 0) C dX10_crossingRoads_0 rfl rfl ?_
  refine z_istore_n (n := 2) (L' := [(1, _), (0, _)]) C dX10_crossingRoads_1 rfl (by rw [hnL]; decide) rfl ?_
  refine z_iconst (n := 3) (v := 0) C dX10_crossingRoads_2 rfl rfl ?_
  refine z_istore_n (n := 4) (L' := [(2, _), (1, _), (0, _)]) C dX10_crossingRoads_3 rfl (by rw [hnL]; decide) rfl ?_
  exact l_X10_crossingRoads C K hnL E hw ok hQ (r + 1) 0 (by omega) (by omega)
set_option maxHeartbeats 4000000 in
set_option maxRecDepth 100000 in
theorem c_X9_ofRoad {ad : Nat → Nat} {I : KI} {J : KJ} {t : Nat} (ht : Tw t) {n r s : Nat} {rd : Nat → Nat → Nat}(hw : cTw t I n r s rd) (ok : okTw n r s rd) {kv w : Int32} {Q : Int32 → KI → KJ → KR → Prop} (hR : ∀ a, roadR r kv w = some a → Q a I J (rf t)) (hS : roadR r kv w = none → ∀ k i : Nat, kv = nI k → k < r → w = nI i → i < 5 → Q (nI (rd i k)) I J (rf t)) : Mi 2 yX9_ofRoad (wm yX9_ofRoad cX9_ofRoad 3 (some .int)) [.ref (ad 0), .int (kv), .int (w)] ad I J (rf t) Q := by
  refine mi_of (own := RX9) yk_X9_ofRoad rfl (Nat.le_of_ble_eq_true rfl) rfl (fun X hA hnL C K E => ?_)
  subst hA
  refine z_iload_n (n := 1) C 1 dX9_ofRoad_0 rfl rfl ?_
  refine z_if_lt (tgt := 15) (n := 4) C dX9_ofRoad_1 rfl rfl (fun c1 => ?_) (fun c1 => ?_)
  · refine z_iconst (n := 16) (v := (-1)) C dX9_ofRoad_15 rfl rfl ?_
    refine z_iret C E dX9_ofRoad_16 ?_
    simp only [fa_lt, Int32.reduceToInt] at c1
    exact hR _ (by unfold roadR; rw [if_pos (fun q => by unfold isN at q; omega)])
  · refine z_iload_n (n := 5) C 1 dX9_ofRoad_4 rfl rfl ?_
    refine z_aload_n (n := 6) C 0 dX9_ofRoad_5 rfl rfl ?_
    refine z_getR (n := 9) (q := t) C K fF_RX9_27 dX9_ofRoad_6 rfl rfl sh_0 (by decide) rfl ?_
    refine z_getI (n := 12) C K fF_RX9_110 dX9_ofRoad_9 rfl (sh_tw ht) (Tw.lt0 ht) ?_
    refine z_icmp_lt (tgt := 17) (n := 15) C dX9_ofRoad_12 rfl rfl (fun c12 => ?_) (fun c12 => ?_)
    · simp only [fa_lt, Int32.reduceToInt] at c1
      rw [hw.2.1, fa_lt, nI_toInt (by have := ok.2.1; omega)] at c12
      have hN : isN r kv := ⟨by omega, c12⟩
      obtain ⟨k, hkr, rfl⟩ := isN_of hN
      have hz := hw.2.2.2 k hkr
      refine z_iload_n (n := 18) C 2 dX9_ofRoad_17 rfl rfl ?_
      refine z_sw C 0 5 [52, 62, 72, 82, 92] 102 dX9_ofRoad_18 rfl (by decide) (by decide) (fun i hi => ?_) rfl (fun i u hi hu hx => ?_) (fun hx => ?_)
      · match i, hi with
        | 0, _ => exact ⟨_, _, rfl, rfl, rfl⟩
        | 1, _ => exact ⟨_, _, rfl, rfl, rfl⟩
        | 2, _ => exact ⟨_, _, rfl, rfl, rfl⟩
        | 3, _ => exact ⟨_, _, rfl, rfl, rfl⟩
        | 4, _ => exact ⟨_, _, rfl, rfl, rfl⟩
      · match i, hi, hu, hx with
        | 0, _, hu, hx =>
          cases hu
          refine z_aload_n (n := 53) C 0 dX9_ofRoad_52 rfl rfl ?_
          refine z_getR (n := 56) (q := t) C K fF_RX9_27 dX9_ofRoad_53 rfl rfl sh_0 (by decide) rfl ?_
          refine z_getR (n := 59) (q := (t + 1)) C K fF_RX9_113 dX9_ofRoad_56 rfl rfl (sh_tw ht) (Tw.lt0 ht) (rf_tw3 ht) ?_
          refine z_iload_n (n := 60) C 1 dX9_ofRoad_59 rfl rfl ?_
          refine z_ialdN (n := 61) C K k dX9_ofRoad_60 rfl (sh_tw1 ht) (Tw.lt ht (by decide)) rfl (by have := ok.2.1; omega) (by decide) ?_
          refine z_iret C E dX9_ofRoad_61 ?_
          have hsp : roadR r (nI k) w = none := by
            unfold roadR
            rw [if_neg (fun q => q hN), if_neg]
            intro q; apply q
            rw [hx]; decide
          refine eqQ ?_ (hS hsp k _ rfl hkr hx (by decide))
          first | exact hz.1 | exact hz.2.1 | exact hz.2.2.1 | exact hz.2.2.2.1 | exact hz.2.2.2.2
        | 1, _, hu, hx =>
          cases hu
          refine z_aload_n (n := 63) C 0 dX9_ofRoad_62 rfl rfl ?_
          refine z_getR (n := 66) (q := t) C K fF_RX9_27 dX9_ofRoad_63 rfl rfl sh_0 (by decide) rfl ?_
          refine z_getR (n := 69) (q := (t + 2)) C K fF_RX9_116 dX9_ofRoad_66 rfl rfl (sh_tw ht) (Tw.lt0 ht) (rf_tw4 ht) ?_
          refine z_iload_n (n := 70) C 1 dX9_ofRoad_69 rfl rfl ?_
          refine z_ialdN (n := 71) C K k dX9_ofRoad_70 rfl (sh_tw2 ht) (Tw.lt ht (by decide)) rfl (by have := ok.2.1; omega) (by decide) ?_
          refine z_iret C E dX9_ofRoad_71 ?_
          have hsp : roadR r (nI k) w = none := by
            unfold roadR
            rw [if_neg (fun q => q hN), if_neg]
            intro q; apply q
            rw [hx]; decide
          refine eqQ ?_ (hS hsp k _ rfl hkr hx (by decide))
          first | exact hz.1 | exact hz.2.1 | exact hz.2.2.1 | exact hz.2.2.2.1 | exact hz.2.2.2.2
        | 2, _, hu, hx =>
          cases hu
          refine z_aload_n (n := 73) C 0 dX9_ofRoad_72 rfl rfl ?_
          refine z_getR (n := 76) (q := t) C K fF_RX9_27 dX9_ofRoad_73 rfl rfl sh_0 (by decide) rfl ?_
          refine z_getR (n := 79) (q := (t + 3)) C K fF_RX9_119 dX9_ofRoad_76 rfl rfl (sh_tw ht) (Tw.lt0 ht) (rf_tw5 ht) ?_
          refine z_iload_n (n := 80) C 1 dX9_ofRoad_79 rfl rfl ?_
          refine z_ialdN (n := 81) C K k dX9_ofRoad_80 rfl (sh_tw3 ht) (Tw.lt ht (by decide)) rfl (by have := ok.2.1; omega) (by decide) ?_
          refine z_iret C E dX9_ofRoad_81 ?_
          have hsp : roadR r (nI k) w = none := by
            unfold roadR
            rw [if_neg (fun q => q hN), if_neg]
            intro q; apply q
            rw [hx]; decide
          refine eqQ ?_ (hS hsp k _ rfl hkr hx (by decide))
          first | exact hz.1 | exact hz.2.1 | exact hz.2.2.1 | exact hz.2.2.2.1 | exact hz.2.2.2.2
        | 3, _, hu, hx =>
          cases hu
          refine z_aload_n (n := 83) C 0 dX9_ofRoad_82 rfl rfl ?_
          refine z_getR (n := 86) (q := t) C K fF_RX9_27 dX9_ofRoad_83 rfl rfl sh_0 (by decide) rfl ?_
          refine z_getR (n := 89) (q := (t + 4)) C K fF_RX9_122 dX9_ofRoad_86 rfl rfl (sh_tw ht) (Tw.lt0 ht) (rf_tw6 ht) ?_
          refine z_iload_n (n := 90) C 1 dX9_ofRoad_89 rfl rfl ?_
          refine z_ialdN (n := 91) C K k dX9_ofRoad_90 rfl (sh_tw4 ht) (Tw.lt ht (by decide)) rfl (by have := ok.2.1; omega) (by decide) ?_
          refine z_iret C E dX9_ofRoad_91 ?_
          have hsp : roadR r (nI k) w = none := by
            unfold roadR
            rw [if_neg (fun q => q hN), if_neg]
            intro q; apply q
            rw [hx]; decide
          refine eqQ ?_ (hS hsp k _ rfl hkr hx (by decide))
          first | exact hz.1 | exact hz.2.1 | exact hz.2.2.1 | exact hz.2.2.2.1 | exact hz.2.2.2.2
        | 4, _, hu, hx =>
          cases hu
          refine z_aload_n (n := 93) C 0 dX9_ofRoad_92 rfl rfl ?_
          refine z_getR (n := 96) (q := t) C K fF_RX9_27 dX9_ofRoad_93 rfl rfl sh_0 (by decide) rfl ?_
          refine z_getR (n := 99) (q := (t + 5)) C K fF_RX9_125 dX9_ofRoad_96 rfl rfl (sh_tw ht) (Tw.lt0 ht) (rf_tw7 ht) ?_
          refine z_iload_n (n := 100) C 1 dX9_ofRoad_99 rfl rfl ?_
          refine z_ialdN (n := 101) C K k dX9_ofRoad_100 rfl (sh_tw5 ht) (Tw.lt ht (by decide)) rfl (by have := ok.2.1; omega) (by decide) ?_
          refine z_iret C E dX9_ofRoad_101 ?_
          have hsp : roadR r (nI k) w = none := by
            unfold roadR
            rw [if_neg (fun q => q hN), if_neg]
            intro q; apply q
            rw [hx]; decide
          refine eqQ ?_ (hS hsp k _ rfl hkr hx (by decide))
          first | exact hz.1 | exact hz.2.1 | exact hz.2.2.1 | exact hz.2.2.2.1 | exact hz.2.2.2.2
      · refine z_bipush (n := 104) (v := (-2)) C dX9_ofRoad_102 rfl rfl ?_
        refine z_iret C E dX9_ofRoad_104 ?_
        exact hR _ (by
          unfold roadR
          rw [if_neg (fun q => q hN), if_pos]
          intro q
          obtain ⟨i, hi, rfl⟩ := isB_of (h := 4) q
          exact hx i (by omega) (by rw [Nat.zero_add]))
    · refine z_iconst (n := 16) (v := (-1)) C dX9_ofRoad_15 rfl rfl ?_
      refine z_iret C E dX9_ofRoad_16 ?_
      simp only [fa_lt, Int32.reduceToInt] at c1
      rw [hw.2.1, fa_lt, nI_toInt (by have := ok.2.1; omega)] at c12
      exact hR _ (by unfold roadR; rw [if_pos (fun q => by unfold isN at q; omega)])
set_option maxHeartbeats 4000000 in
set_option maxRecDepth 100000 in
theorem c_X10_ofRoad {ad : Nat → Nat} {I : KI} {J : KJ} {t : Nat} {n r s : Nat} {rd : Nat → Nat → Nat}(hw : mTw I n r s rd) (ok : okTw n r s rd) {kv w : Int32} {Q : Int32 → KI → KJ → KR → Prop} (hR : ∀ a, roadR r kv w = some a → Q a I J (rf t)) (hS : roadR r kv w = none → ∀ k i : Nat, kv = nI k → k < r → w = nI i → i < 5 → Q (nI (rd i k)) I J (rf t)) : Mi 2 yX10_ofRoad (wm yX10_ofRoad cX10_ofRoad 3 (some .int)) [.ref (ad 85), .int (kv), .int (w)] ad I J (rf t) Q := by
  refine mi_of (own := RX10) yk_X10_ofRoad rfl (Nat.le_of_ble_eq_true rfl) rfl (fun X hA hnL C K E => ?_)
  subst hA
  refine z_iload_n (n := 1) C 1 dX10_ofRoad_0 rfl rfl ?_
  refine z_if_lt (tgt := 12) (n := 4) C dX10_ofRoad_1 rfl rfl (fun c1 => ?_) (fun c1 => ?_)
  · refine z_iconst (n := 13) (v := (-1)) C dX10_ofRoad_12 rfl rfl ?_
    refine z_iret C E dX10_ofRoad_13 ?_
    simp only [fa_lt, Int32.reduceToInt] at c1
    exact hR _ (by unfold roadR; rw [if_pos (fun q => by unfold isN at q; omega)])
  · refine z_iload_n (n := 5) C 1 dX10_ofRoad_4 rfl rfl ?_
    refine z_aload_n (n := 6) C 0 dX10_ofRoad_5 rfl rfl ?_
    refine z_getI (n := 9) C K fF_RX10_124 dX10_ofRoad_6 rfl sh_85 (by decide) ?_
    refine z_icmp_lt (tgt := 14) (n := 12) C dX10_ofRoad_9 rfl rfl (fun c9 => ?_) (fun c9 => ?_)
    · simp only [fa_lt, Int32.reduceToInt] at c1
      rw [hw.2.1, fa_lt, nI_toInt (by have := ok.2.1; omega)] at c9
      have hN : isN r kv := ⟨by omega, c9⟩
      obtain ⟨k, hkr, rfl⟩ := isN_of hN
      have hz := hw.2.2.2 k hkr
      refine z_iload_n (n := 15) C 2 dX10_ofRoad_14 rfl rfl ?_
      refine z_sw C 0 5 [48, 55, 62, 69, 76] 83 dX10_ofRoad_15 rfl (by decide) (by decide) (fun i hi => ?_) rfl (fun i u hi hu hx => ?_) (fun hx => ?_)
      · match i, hi with
        | 0, _ => exact ⟨_, _, rfl, rfl, rfl⟩
        | 1, _ => exact ⟨_, _, rfl, rfl, rfl⟩
        | 2, _ => exact ⟨_, _, rfl, rfl, rfl⟩
        | 3, _ => exact ⟨_, _, rfl, rfl, rfl⟩
        | 4, _ => exact ⟨_, _, rfl, rfl, rfl⟩
      · match i, hi, hu, hx with
        | 0, _, hu, hx =>
          cases hu
          refine z_aload_n (n := 49) C 0 dX10_ofRoad_48 rfl rfl ?_
          refine z_getR (n := 52) (q := 89) C K fF_RX10_19 dX10_ofRoad_49 rfl rfl sh_85 (by decide) rfl ?_
          refine z_iload_n (n := 53) C 1 dX10_ofRoad_52 rfl rfl ?_
          refine z_ialdN (n := 54) C K k dX10_ofRoad_53 rfl sh_89 (by decide) rfl (by have := ok.2.1; omega) (by decide) ?_
          refine z_iret C E dX10_ofRoad_54 ?_
          have hsp : roadR r (nI k) w = none := by
            unfold roadR
            rw [if_neg (fun q => q hN), if_neg]
            intro q; apply q
            rw [hx]; decide
          refine eqQ ?_ (hS hsp k _ rfl hkr hx (by decide))
          first | exact hz.1 | exact hz.2.1 | exact hz.2.2.1 | exact hz.2.2.2.1 | exact hz.2.2.2.2
        | 1, _, hu, hx =>
          cases hu
          refine z_aload_n (n := 56) C 0 dX10_ofRoad_55 rfl rfl ?_
          refine z_getR (n := 59) (q := 90) C K fF_RX10_22 dX10_ofRoad_56 rfl rfl sh_85 (by decide) rfl ?_
          refine z_iload_n (n := 60) C 1 dX10_ofRoad_59 rfl rfl ?_
          refine z_ialdN (n := 61) C K k dX10_ofRoad_60 rfl sh_90 (by decide) rfl (by have := ok.2.1; omega) (by decide) ?_
          refine z_iret C E dX10_ofRoad_61 ?_
          have hsp : roadR r (nI k) w = none := by
            unfold roadR
            rw [if_neg (fun q => q hN), if_neg]
            intro q; apply q
            rw [hx]; decide
          refine eqQ ?_ (hS hsp k _ rfl hkr hx (by decide))
          first | exact hz.1 | exact hz.2.1 | exact hz.2.2.1 | exact hz.2.2.2.1 | exact hz.2.2.2.2
        | 2, _, hu, hx =>
          cases hu
          refine z_aload_n (n := 63) C 0 dX10_ofRoad_62 rfl rfl ?_
          refine z_getR (n := 66) (q := 91) C K fF_RX10_25 dX10_ofRoad_63 rfl rfl sh_85 (by decide) rfl ?_
          refine z_iload_n (n := 67) C 1 dX10_ofRoad_66 rfl rfl ?_
          refine z_ialdN (n := 68) C K k dX10_ofRoad_67 rfl sh_91 (by decide) rfl (by have := ok.2.1; omega) (by decide) ?_
          refine z_iret C E dX10_ofRoad_68 ?_
          have hsp : roadR r (nI k) w = none := by
            unfold roadR
            rw [if_neg (fun q => q hN), if_neg]
            intro q; apply q
            rw [hx]; decide
          refine eqQ ?_ (hS hsp k _ rfl hkr hx (by decide))
          first | exact hz.1 | exact hz.2.1 | exact hz.2.2.1 | exact hz.2.2.2.1 | exact hz.2.2.2.2
        | 3, _, hu, hx =>
          cases hu
          refine z_aload_n (n := 70) C 0 dX10_ofRoad_69 rfl rfl ?_
          refine z_getR (n := 73) (q := 92) C K fF_RX10_28 dX10_ofRoad_70 rfl rfl sh_85 (by decide) rfl ?_
          refine z_iload_n (n := 74) C 1 dX10_ofRoad_73 rfl rfl ?_
          refine z_ialdN (n := 75) C K k dX10_ofRoad_74 rfl sh_92 (by decide) rfl (by have := ok.2.1; omega) (by decide) ?_
          refine z_iret C E dX10_ofRoad_75 ?_
          have hsp : roadR r (nI k) w = none := by
            unfold roadR
            rw [if_neg (fun q => q hN), if_neg]
            intro q; apply q
            rw [hx]; decide
          refine eqQ ?_ (hS hsp k _ rfl hkr hx (by decide))
          first | exact hz.1 | exact hz.2.1 | exact hz.2.2.1 | exact hz.2.2.2.1 | exact hz.2.2.2.2
        | 4, _, hu, hx =>
          cases hu
          refine z_aload_n (n := 77) C 0 dX10_ofRoad_76 rfl rfl ?_
          refine z_getR (n := 80) (q := 93) C K fF_RX10_31 dX10_ofRoad_77 rfl rfl sh_85 (by decide) rfl ?_
          refine z_iload_n (n := 81) C 1 dX10_ofRoad_80 rfl rfl ?_
          refine z_ialdN (n := 82) C K k dX10_ofRoad_81 rfl sh_93 (by decide) rfl (by have := ok.2.1; omega) (by decide) ?_
          refine z_iret C E dX10_ofRoad_82 ?_
          have hsp : roadR r (nI k) w = none := by
            unfold roadR
            rw [if_neg (fun q => q hN), if_neg]
            intro q; apply q
            rw [hx]; decide
          refine eqQ ?_ (hS hsp k _ rfl hkr hx (by decide))
          first | exact hz.1 | exact hz.2.1 | exact hz.2.2.1 | exact hz.2.2.2.1 | exact hz.2.2.2.2
      · refine z_bipush (n := 85) (v := (-2)) C dX10_ofRoad_83 rfl rfl ?_
        refine z_iret C E dX10_ofRoad_85 ?_
        exact hR _ (by
          unfold roadR
          rw [if_neg (fun q => q hN), if_pos]
          intro q
          obtain ⟨i, hi, rfl⟩ := isB_of (h := 4) q
          exact hx i (by omega) (by rw [Nat.zero_add]))
    · refine z_iconst (n := 13) (v := (-1)) C dX10_ofRoad_12 rfl rfl ?_
      refine z_iret C E dX10_ofRoad_13 ?_
      simp only [fa_lt, Int32.reduceToInt] at c1
      rw [hw.2.1, fa_lt, nI_toInt (by have := ok.2.1; omega)] at c9
      exact hR _ (by unfold roadR; rw [if_pos (fun q => by unfold isN at q; omega)])
set_option maxHeartbeats 4000000 in
set_option maxRecDepth 100000 in
theorem c_X9_many {ad : Nat → Nat} {I : KI} {J : KJ} {t : Nat} (ht : Tw t) {n r s : Nat} {rd : Nat → Nat → Nat}(hw : cTw t I n r s rd) (ok : okTw n r s rd) {c : Nat} {ki co ag re : Nat → Nat} {T : Nat → Nat → Nat}(hk : cKd I c ki co ag re T) (okk : okKd n c ki co ag re T) {h hc : Nat} {hd : Nat → Nat} (hm : cMi I h hc hd) {w : Int32} {Q : Int32 → KI → KJ → KR → Prop} (hQ : Q (manyS n r rd c hc T w) I J (rf t)) : Mi 3 yX9_many (wm yX9_many cX9_many 2 (some .int)) [.ref (ad 0), .int (w)] ad I J (rf t) Q := by
  refine mi_of (own := RX9) yk_X9_many rfl (Nat.le_of_ble_eq_true rfl) rfl (fun X hA hnL C K E => ?_)
  subst hA
  refine z_iload_n (n := 1) C 1 dX9_many_0 rfl rfl ?_
  refine z_sw C 0 7 [44, 52, 60, 68, 73, 78, 84] 90 dX9_many_1 rfl (by decide) (by decide) (fun i hi => ?_) rfl (fun i u hi hu hx => ?_) (fun hx => ?_)
  · match i, hi with
    | 0, _ => exact ⟨_, _, rfl, rfl, rfl⟩
    | 1, _ => exact ⟨_, _, rfl, rfl, rfl⟩
    | 2, _ => exact ⟨_, _, rfl, rfl, rfl⟩
    | 3, _ => exact ⟨_, _, rfl, rfl, rfl⟩
    | 4, _ => exact ⟨_, _, rfl, rfl, rfl⟩
    | 5, _ => exact ⟨_, _, rfl, rfl, rfl⟩
    | 6, _ => exact ⟨_, _, rfl, rfl, rfl⟩
  · match i, hi, hu, hx with
    | 0, _, hu, hx =>
      cases hu
      refine z_aload_n (n := 45) C 0 dX9_many_44 rfl rfl ?_
      refine z_getR (n := 48) (q := t) C K fF_RX9_27 dX9_many_45 rfl rfl sh_0 (by decide) rfl ?_
      refine z_getI (n := 51) C K fF_RX9_348 dX9_many_48 rfl (sh_tw ht) (Tw.lt0 ht) ?_
      refine z_iret C E dX9_many_51 ?_
      subst hx
      first | exact hQ | exact eqQ hw.1 hQ | exact eqQ hw.2.1 hQ | exact eqQ hk.1 hQ | exact eqQ hm.2.1 hQ
    | 1, _, hu, hx =>
      cases hu
      refine z_aload_n (n := 53) C 0 dX9_many_52 rfl rfl ?_
      refine z_getR (n := 56) (q := t) C K fF_RX9_27 dX9_many_53 rfl rfl sh_0 (by decide) rfl ?_
      refine z_getI (n := 59) C K fF_RX9_110 dX9_many_56 rfl (sh_tw ht) (Tw.lt0 ht) ?_
      refine z_iret C E dX9_many_59 ?_
      subst hx
      first | exact hQ | exact eqQ hw.1 hQ | exact eqQ hw.2.1 hQ | exact eqQ hk.1 hQ | exact eqQ hm.2.1 hQ
    | 2, _, hu, hx =>
      cases hu
      refine z_aload_n (n := 61) C 0 dX9_many_60 rfl rfl ?_
      refine z_getR (n := 64) (q := t) C K fF_RX9_27 dX9_many_61 rfl rfl sh_0 (by decide) rfl ?_
      refine z_vi_0 (n := 67) (d' := 2) C K dX9_many_64 rfl yk_X7_crossings yv_X7_crossings kM_RX9_351 (by decide) hR0 rfl rfl (sh_tw ht) (by decide) (Tw.lt0 ht) ?_
      refine c_X7_crossings ht hw ok ?_
      refine z_iret C E dX9_many_67 ?_
      subst hx
      first | exact hQ | exact eqQ hw.1 hQ | exact eqQ hw.2.1 hQ | exact eqQ hk.1 hQ | exact eqQ hm.2.1 hQ
    | 3, _, hu, hx =>
      cases hu
      refine z_aload_n (n := 69) C 0 dX9_many_68 rfl rfl ?_
      refine z_getI (n := 72) C K fF_RX9_40 dX9_many_69 rfl sh_0 (by decide) ?_
      refine z_iret C E dX9_many_72 ?_
      subst hx
      first | exact hQ | exact eqQ hw.1 hQ | exact eqQ hw.2.1 hQ | exact eqQ hk.1 hQ | exact eqQ hm.2.1 hQ
    | 4, _, hu, hx =>
      cases hu
      refine z_aload_n (n := 74) C 0 dX9_many_73 rfl rfl ?_
      refine z_getI (n := 77) C K fF_RX9_65 dX9_many_74 rfl sh_0 (by decide) ?_
      refine z_iret C E dX9_many_77 ?_
      subst hx
      first | exact hQ | exact eqQ hw.1 hQ | exact eqQ hw.2.1 hQ | exact eqQ hk.1 hQ | exact eqQ hm.2.1 hQ
    | 5, _, hu, hx =>
      cases hu
      refine z_aload_n (n := 79) C 0 dX9_many_78 rfl rfl ?_
      refine z_iconst (n := 80) (v := 1) C dX9_many_79 rfl rfl ?_
      refine z_vi_1 (n := 83) (d' := 2) C K dX9_many_80 rfl yk_X9_pairs yv_X9_pairs kM_RX9_354 (by decide) hR0 rfl rfl sh_0 (by decide) (by decide) ?_
      refine c_X9_pairs hk okk (Or.inl rfl) ?_
      refine z_iret C E dX9_many_83 ?_
      subst hx
      first | exact hQ | exact eqQ hw.1 hQ | exact eqQ hw.2.1 hQ | exact eqQ hk.1 hQ | exact eqQ hm.2.1 hQ
    | 6, _, hu, hx =>
      cases hu
      refine z_aload_n (n := 85) C 0 dX9_many_84 rfl rfl ?_
      refine z_iconst (n := 86) (v := 2) C dX9_many_85 rfl rfl ?_
      refine z_vi_1 (n := 89) (d' := 2) C K dX9_many_86 rfl yk_X9_pairs yv_X9_pairs kM_RX9_354 (by decide) hR0 rfl rfl sh_0 (by decide) (by decide) ?_
      refine c_X9_pairs hk okk (Or.inr rfl) ?_
      refine z_iret C E dX9_many_89 ?_
      subst hx
      first | exact hQ | exact eqQ hw.1 hQ | exact eqQ hw.2.1 hQ | exact eqQ hk.1 hQ | exact eqQ hm.2.1 hQ
  · refine z_bipush (n := 92) (v := (-2)) C dX9_many_90 rfl rfl ?_
    refine z_iret C E dX9_many_92 ?_
    unfold manyS at hQ
    rw [if_neg (hx 0 (by decide)), if_neg (hx 1 (by decide)), if_neg (hx 2 (by decide)), if_neg (hx 3 (by decide)), if_neg (hx 4 (by decide)), if_neg (hx 5 (by decide)), if_neg (hx 6 (by decide))] at hQ
    exact hQ
set_option maxHeartbeats 4000000 in
set_option maxRecDepth 100000 in
theorem c_X10_many {ad : Nat → Nat} {I : KI} {J : KJ} {t : Nat} {n r s : Nat} {rd : Nat → Nat → Nat}(hw : mTw I n r s rd) (ok : okTw n r s rd) {c : Nat} {ki co ag re : Nat → Nat} {T : Nat → Nat → Nat}(hk : mKd I c ki co ag re T) (okk : okKd n c ki co ag re T) {h hc : Nat} {hd : Nat → Nat} (hm : mMi I h hc hd) {w : Int32} {Q : Int32 → KI → KJ → KR → Prop} (hQ : Q (manyS n r rd c hc T w) I J (rf t)) : Mi 3 yX10_many (wm yX10_many cX10_many 2 (some .int)) [.ref (ad 85), .int (w)] ad I J (rf t) Q := by
  refine mi_of (own := RX10) yk_X10_many rfl (Nat.le_of_ble_eq_true rfl) rfl (fun X hA hnL C K E => ?_)
  subst hA
  refine z_iload_n (n := 1) C 1 dX10_many_0 rfl rfl ?_
  refine z_sw C 0 7 [44, 49, 54, 59, 64, 69, 75] 81 dX10_many_1 rfl (by decide) (by decide) (fun i hi => ?_) rfl (fun i u hi hu hx => ?_) (fun hx => ?_)
  · match i, hi with
    | 0, _ => exact ⟨_, _, rfl, rfl, rfl⟩
    | 1, _ => exact ⟨_, _, rfl, rfl, rfl⟩
    | 2, _ => exact ⟨_, _, rfl, rfl, rfl⟩
    | 3, _ => exact ⟨_, _, rfl, rfl, rfl⟩
    | 4, _ => exact ⟨_, _, rfl, rfl, rfl⟩
    | 5, _ => exact ⟨_, _, rfl, rfl, rfl⟩
    | 6, _ => exact ⟨_, _, rfl, rfl, rfl⟩
  · match i, hi, hu, hx with
    | 0, _, hu, hx =>
      cases hu
      refine z_aload_n (n := 45) C 0 dX10_many_44 rfl rfl ?_
      refine z_getI (n := 48) C K fF_RX10_96 dX10_many_45 rfl sh_85 (by decide) ?_
      refine z_iret C E dX10_many_48 ?_
      subst hx
      first | exact hQ | exact eqQ hw.1 hQ | exact eqQ hw.2.1 hQ | exact eqQ hk.1 hQ | exact eqQ hm.2.1 hQ
    | 1, _, hu, hx =>
      cases hu
      refine z_aload_n (n := 50) C 0 dX10_many_49 rfl rfl ?_
      refine z_getI (n := 53) C K fF_RX10_124 dX10_many_50 rfl sh_85 (by decide) ?_
      refine z_iret C E dX10_many_53 ?_
      subst hx
      first | exact hQ | exact eqQ hw.1 hQ | exact eqQ hw.2.1 hQ | exact eqQ hk.1 hQ | exact eqQ hm.2.1 hQ
    | 2, _, hu, hx =>
      cases hu
      refine z_aload_n (n := 55) C 0 dX10_many_54 rfl rfl ?_
      refine z_vi_0 (n := 58) (d' := 2) C K dX10_many_55 rfl yk_X10_crossingRoads yv_X10_crossingRoads kM_RX10_316 (by decide) hR0 rfl rfl sh_85 (by decide) (by decide) ?_
      refine c_X10_crossingRoads hw ok ?_
      refine z_iret C E dX10_many_58 ?_
      subst hx
      first | exact hQ | exact eqQ hw.1 hQ | exact eqQ hw.2.1 hQ | exact eqQ hk.1 hQ | exact eqQ hm.2.1 hQ
    | 3, _, hu, hx =>
      cases hu
      refine z_aload_n (n := 60) C 0 dX10_many_59 rfl rfl ?_
      refine z_getI (n := 63) C K fF_RX10_133 dX10_many_60 rfl sh_85 (by decide) ?_
      refine z_iret C E dX10_many_63 ?_
      subst hx
      first | exact hQ | exact eqQ hw.1 hQ | exact eqQ hw.2.1 hQ | exact eqQ hk.1 hQ | exact eqQ hm.2.1 hQ
    | 4, _, hu, hx =>
      cases hu
      refine z_aload_n (n := 65) C 0 dX10_many_64 rfl rfl ?_
      refine z_getI (n := 68) C K fF_RX10_295 dX10_many_65 rfl sh_85 (by decide) ?_
      refine z_iret C E dX10_many_68 ?_
      subst hx
      first | exact hQ | exact eqQ hw.1 hQ | exact eqQ hw.2.1 hQ | exact eqQ hk.1 hQ | exact eqQ hm.2.1 hQ
    | 5, _, hu, hx =>
      cases hu
      refine z_aload_n (n := 70) C 0 dX10_many_69 rfl rfl ?_
      refine z_iconst (n := 71) (v := 1) C dX10_many_70 rfl rfl ?_
      refine z_vi_1 (n := 74) (d' := 2) C K dX10_many_71 rfl yk_X10_pairsOf yv_X10_pairsOf kM_RX10_320 (by decide) hR0 rfl rfl sh_85 (by decide) (by decide) ?_
      refine c_X10_pairsOf (v := 1) hk okk (Or.inl rfl) ?_
      refine z_iret C E dX10_many_74 ?_
      subst hx
      first | exact hQ | exact eqQ hw.1 hQ | exact eqQ hw.2.1 hQ | exact eqQ hk.1 hQ | exact eqQ hm.2.1 hQ
    | 6, _, hu, hx =>
      cases hu
      refine z_aload_n (n := 76) C 0 dX10_many_75 rfl rfl ?_
      refine z_iconst (n := 77) (v := 2) C dX10_many_76 rfl rfl ?_
      refine z_vi_1 (n := 80) (d' := 2) C K dX10_many_77 rfl yk_X10_pairsOf yv_X10_pairsOf kM_RX10_320 (by decide) hR0 rfl rfl sh_85 (by decide) (by decide) ?_
      refine c_X10_pairsOf (v := 2) hk okk (Or.inr rfl) ?_
      refine z_iret C E dX10_many_80 ?_
      subst hx
      first | exact hQ | exact eqQ hw.1 hQ | exact eqQ hw.2.1 hQ | exact eqQ hk.1 hQ | exact eqQ hm.2.1 hQ
  · refine z_bipush (n := 83) (v := (-2)) C dX10_many_81 rfl rfl ?_
    refine z_iret C E dX10_many_83 ?_
    unfold manyS at hQ
    rw [if_neg (hx 0 (by decide)), if_neg (hx 1 (by decide)), if_neg (hx 2 (by decide)), if_neg (hx 3 (by decide)), if_neg (hx 4 (by decide)), if_neg (hx 5 (by decide)), if_neg (hx 6 (by decide))] at hQ
    exact hQ
