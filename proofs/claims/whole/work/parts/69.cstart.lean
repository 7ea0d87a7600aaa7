set_option maxHeartbeats 4000000 in
set_option maxRecDepth 100000 in
theorem l_X2_hasStarts {X : KX} {t : Nat} (C : Cx X RX2 cX2_hasStarts 3) (K : Kx X) (hnL : xnL X = 4) {J : KJ} {Q : Int32 → KI → KJ → KR → Prop} (E : Ei X .boolean Q) {I : KI} (ht : Tw t) {n r s : Nat} {rd : Nat → Nat → Nat} (hw : cTw t I n r s rd) (ok : okTw n r s rd) {C0 : Nat → Nat → Nat} (hc : okW n r rd C0) (hW : cWy t I n r rd C0) {pc rdy : Nat → Nat} {og : List Nat} (hG : cGt I pc rdy og) (hlen : og.length = (gL pc 7).length) (hp4 : ∀ g, pc g ≤ 4) (hm : ∀ x, x ∈ gL pc 7 → x < n) (hL1 : 1 ≤ (gL pc 7).length) {a : Nat} (ha : a < n) (hL4 : (gL pc 7).length ≤ 4) (h1 : ∀ og' I', (∀ q, ¬ (50 ≤ q ∧ q ≤ 53) → I' q = I q) → stB C0 s a (gL pc 7) = true → cGt I' pc rdy og' → og'.length = (gL pc 7).length → Q 1 I' J (rf t)) (h0 : ∀ og' I', (∀ q, ¬ (50 ≤ q ∧ q ≤ 53) → I' q = I q) → ¬ stB C0 s a (gL pc 7) = true → cGt I' pc rdy og' → og'.length = (gL pc 7).length → Q 0 I' J (rf t)) : ∀ (f k : Nat) (I1 : KI) (q : List Nat), 24 - k < f → ((∀ q, ¬ (50 ≤ q ∧ q ≤ 53) → I1 q = I q) ∧ (pmE (gL pc 7).length)[k]? = some q ∧ cGt I1 pc rdy (od (gL pc 7) q) ∧ (ords (gL pc 7)).all (wkB C0 s a) = ((ords (gL pc 7)).drop k).all (wkB C0 s a)) → Z X 0 0 (V X I1 J (rf t)) 22 [(3, .int (nI k)), (0, .ref (xad X 49)), (1, .ref (xad X t)), (2, .int (nI a))] [] := by
  intro f
  induction f with
  | zero => intro k I1 q h; omega
  | succ f ih =>
    intro k I1 q hf hi
    obtain ⟨hfr, hq, hG1, hal⟩ := hi
    have hn7 := ok.1
    have htq := ht
    unfold Tw at htq
    have hk24 : k < 24 := by
      have := (List.getElem?_eq_some_iff.mp hq).1
      have := (pmE_fact hL4).1
      omega
    obtain ⟨hql, hqm⟩ := (pmE_fact hL4).2 q (List.mem_of_getElem? hq)
    have hol : (od (gL pc 7) q).length ≤ 7 := by rw [od_len]; omega
    have hom : ∀ x, x ∈ od (gL pc 7) q → x < n := fun x hx => hm x (od_mem hqm hx)
    have hw1 : cTw t I1 n r s rd := hw.fr (fun q q1 q2 => hfr q (by omega))
    have hW1 : cWy t I1 n r rd C0 := hW.fr hn7 (fun q q1 q2 => hfr q (by omega))
    refine z_iload_n (n := 23) C 0 dX2_hasStarts_22 rfl rfl ?_
    refine z_bipush (n := 25) (v := 24) C dX2_hasStarts_23 rfl rfl ?_
    refine z_icmpF_ge (n := 28) (tgt := 58) C (by rw [fa_le, nI_toInt (by omega)]; simp only [Int32.reduceToInt]; omega) dX2_hasStarts_25 rfl rfl ?_
    refine z_aload_n (n := 29) C 1 dX2_hasStarts_28 rfl rfl ?_
    refine z_aload_n (n := 30) C 2 dX2_hasStarts_29 rfl rfl ?_
    refine z_iload_n (n := 31) C 3 dX2_hasStarts_30 rfl rfl ?_
    refine z_vi_2 (n := 34) (d' := 2) C K dX2_hasStarts_31 rfl yk_X2_isWalkable yv_X2_isWalkable kM_RX2_105 (by decide) hR0 rfl rfl sh_49 (by decide) (by decide) ?_
    refine c_X2_isWalkable ht hw1 ok hc hW1 hG1 hol hom ha (fun b31 => ?_) (fun b31 => ?_)
    · refine z_ifT_ne (tgt := 39) C (by decide) dX2_hasStarts_34 rfl ?_
      refine z_aload_n (n := 40) C 1 dX2_hasStarts_39 rfl rfl ?_
      refine z_getR (n := 43) (q := 50) C K fF_RX2_12 dX2_hasStarts_40 rfl rfl sh_49 (by decide) rfl ?_
      refine z_vi_0 (n := 46) (d' := 2) C K dX2_hasStarts_43 rfl yk_X1_toNextOrder yv_X1_toNextOrder kM_RX2_109 (by decide) hR0 rfl rfl sh_50 (by decide) (by decide) ?_
      refine c2_X1_toNextOrder (rise_of (gL_pw pc 7)) hL1 hL4 (fun x hx => (gL_mem 7 |>.mp hx).1) hG1 hq (fun hnn => ?_) (fun q' I2 hq' hf2 hG2 => ?_)
      · refine z_ifF_ne (n := 49) (tgt := 52) C (by decide) dX2_hasStarts_46 rfl rfl ?_
        refine z_goto (n := 58) C dX2_hasStarts_49 rfl ?_
        refine z_iconst (n := 59) (v := 1) C dX2_hasStarts_58 rfl rfl ?_
        refine z_zret C E dX2_hasStarts_59 (by decide) ?_
        exact h1 _ I1 hfr (stB_t.mpr ⟨hL4, by rw [hal, ords_drop hq, List.all_cons, b31, ords_end hnn]; rfl⟩) hG1 (by rw [od_len]; exact hql)
      · refine z_ifT_ne (tgt := 52) C (by decide) dX2_hasStarts_46 rfl ?_
        refine z_iincG (n := 55) (c := 1) (L' := [(3, _), (0, _), (1, _), (2, _)]) C 0 dX2_hasStarts_52 rfl rfl rfl (by rw [hnL]; decide) rfl ?_
        refine z_goto (n := 22) C dX2_hasStarts_55 rfl ?_
        rw [nI_1]
        exact ih (k + 1) I2 q' (by omega) ⟨fun x hx => by rw [hf2 x (by omega)]; exact hfr x hx, hq', hG2, by rw [hal, ords_drop hq, List.all_cons, b31, Bool.true_and]⟩
    · refine z_ifF_ne (n := 37) (tgt := 39) C (by decide) dX2_hasStarts_34 rfl rfl ?_
      refine z_iconst (n := 38) (v := 0) C dX2_hasStarts_37 rfl rfl ?_
      refine z_zret C E dX2_hasStarts_38 (by decide) ?_
      exact h0 _ I1 hfr (fun q => by have := (stB_t.mp q).2; rw [hal, ords_drop hq, List.all_cons, eq_false_of_ne_true b31, Bool.false_and] at this; cases this) hG1 (by rw [od_len]; exact hql)
set_option maxHeartbeats 4000000 in
set_option maxRecDepth 100000 in
theorem c_X2_hasStarts {ad : Nat → Nat} {I : KI} {J : KJ} {t : Nat} (ht : Tw t) {n r s : Nat} {rd : Nat → Nat → Nat} (hw : cTw t I n r s rd) (ok : okTw n r s rd) {C0 : Nat → Nat → Nat} (hc : okW n r rd C0) (hW : cWy t I n r rd C0) {pc rdy : Nat → Nat} {og : List Nat} (hG : cGt I pc rdy og) (hlen : og.length = (gL pc 7).length) (hp4 : ∀ g, pc g ≤ 4) (hm : ∀ x, x ∈ gL pc 7 → x < n) (hL1 : 1 ≤ (gL pc 7).length) {a : Nat} (ha : a < n)  {Q : Int32 → KI → KJ → KR → Prop} (h1 : ∀ og' I', (∀ q, ¬ (50 ≤ q ∧ q ≤ 53) → I' q = I q) → stB C0 s a (gL pc 7) = true → cGt I' pc rdy og' → og'.length = (gL pc 7).length → Q 1 I' J (rf t)) (h0 : ∀ og' I', (∀ q, ¬ (50 ≤ q ∧ q ≤ 53) → I' q = I q) → ¬ stB C0 s a (gL pc 7) = true → cGt I' pc rdy og' → og'.length = (gL pc 7).length → Q 0 I' J (rf t))  : Mi 3 yX2_hasStarts (wm yX2_hasStarts cX2_hasStarts 4 (some .boolean)) [.ref (ad 49), .ref (ad t), .int (nI a)] ad I J (rf t) Q := by
  refine mi_of (own := RX2) yk_X2_hasStarts rfl (Nat.le_of_ble_eq_true rfl) rfl (fun X hA hnL C K E => ?_)
  subst hA
  have hlen7 := gL_len pc 7
  refine z_aload_n (n := 1) C 0 dX2_hasStarts_0 rfl rfl ?_
  refine z_getR (n := 4) (q := 50) C K fF_RX2_12 dX2_hasStarts_1 rfl rfl sh_49 (by decide) rfl ?_
  refine z_getI (n := 7) C K fF_RX2_29 dX2_hasStarts_4 rfl sh_50 (by decide) ?_
  refine z_iconst (n := 8) (v := 4) C dX2_hasStarts_7 rfl rfl ?_
  rw [hG.1, hlen]
  refine z_icmp_le (tgt := 13) (n := 11) C dX2_hasStarts_8 rfl rfl (fun c8 => ?_) (fun c8 => ?_)
  · rw [fa_le, nI_toInt (by omega)] at c8
    simp only [Int32.reduceToInt] at c8
    have hL4 : (gL pc 7).length ≤ 4 := by omega
    obtain ⟨q, hq, eq1⟩ := od_first hL4
    refine z_aload_n (n := 14) C 0 dX2_hasStarts_13 rfl rfl ?_
    refine z_getR (n := 17) (q := 50) C K fF_RX2_12 dX2_hasStarts_14 rfl rfl sh_49 (by decide) rfl ?_
    refine z_vv_0 (n := 20) (d' := 2) C K dX2_hasStarts_17 rfl yk_X1_setFirstOrder yv_X1_setFirstOrder kM_RX2_102 (by decide) hR0 rfl rfl sh_50 (by decide) (by decide) ?_
    refine c_X1_setFirstOrder hp4 hG.2.1 (fun I1 hf1 hG1 => ?_)
    rw [← eq1] at hG1
    refine z_iconst (n := 21) (v := 0) C dX2_hasStarts_20 rfl rfl ?_
    refine z_istore_n (n := 22) (L' := [(3, _), (0, _), (1, _), (2, _)]) C dX2_hasStarts_21 rfl (by rw [hnL]; decide) rfl ?_
    exact l_X2_hasStarts C K hnL E ht hw ok hc hW hG hlen hp4 hm hL1 ha hL4 h1 h0 25 0 I1 q (by omega) ⟨hf1, hq, hG1, rfl⟩
  · refine z_iconst (n := 12) (v := 0) C dX2_hasStarts_11 rfl rfl ?_
    refine z_zret C E dX2_hasStarts_12 (by decide) ?_
    rw [fa_le, nI_toInt (by omega)] at c8
    simp only [Int32.reduceToInt] at c8
    exact h0 _ I (fun _ _ => rfl) (fun q => by have := (stB_t.mp q).1; omega) hG hlen
set_option maxHeartbeats 4000000 in
set_option maxRecDepth 100000 in
theorem l_X2_keepOrder {X : KX} {t : Nat} (C : Cx X RX2 cX2_keepOrder 1) (K : Kx X) (hnL : xnL X = 2) {J : KJ} {Q : KI → KJ → KR → Prop} (E : Ev X Q) {I : KI} {L : Nat} {og : List Nat} (hN : I 50 0 = nI L) (hL : L ≤ 4) (hol : og.length = L) (ho : ordA I 51 og) (hQ : ∀ I', (∀ q, q ≠ 56 → I' q = I q) → (∀ i, i < 4 → I' 56 i = (if i < L then nI (og.getD i 0) else -9)) → Q I' J (rf t)) : ∀ (f k : Nat) (I1 : KI), 4 - k < f → (k ≤ 4 ∧ (∀ q, q ≠ 56 → I1 q = I q) ∧ ∀ i, i < k → I1 56 i = (if i < L then nI (og.getD i 0) else -9)) → Z X 0 0 (V X I1 J (rf t)) 2 [(1, .int (nI k)), (0, .ref (xad X 49))] [] := by
  intro f
  induction f with
  | zero => intro k I1 h; omega
  | succ f ih =>
    intro k I1 hf hi
    obtain ⟨hk4, hfr, hv⟩ := hi
    refine z_iload_n (n := 3) C 0 dX2_keepOrder_2 rfl rfl ?_
    refine z_iconst (n := 4) (v := 4) C dX2_keepOrder_3 rfl rfl ?_
    refine z_icmp_ge (tgt := 44) (n := 7) C dX2_keepOrder_4 rfl rfl (fun c4 => ?_) (fun c4 => ?_)
    · refine z_vret C E dX2_keepOrder_44 ?_
      rw [fa_le, nI_toInt (by omega)] at c4
      simp only [Int32.reduceToInt] at c4
      exact hQ I1 hfr (fun i hi => hv i (by omega))
    · rw [fa_le, nI_toInt (by omega)] at c4
      simp only [Int32.reduceToInt] at c4
      refine z_aload_n (n := 8) C 1 dX2_keepOrder_7 rfl rfl ?_
      refine z_getR (n := 11) (q := 56) C K fF_RX2_25 dX2_keepOrder_8 rfl rfl sh_49 (by decide) rfl ?_
      refine z_iload_n (n := 12) C 0 dX2_keepOrder_11 rfl rfl ?_
      refine z_iload_n (n := 13) C 0 dX2_keepOrder_12 rfl rfl ?_
      refine z_aload_n (n := 14) C 1 dX2_keepOrder_13 rfl rfl ?_
      refine z_getR (n := 17) (q := 50) C K fF_RX2_12 dX2_keepOrder_14 rfl rfl sh_49 (by decide) rfl ?_
      refine z_getI (n := 20) C K fF_RX2_29 dX2_keepOrder_17 rfl sh_50 (by decide) ?_
      rw [hfr 50 (by decide), hN]
      refine z_icmp_ge (tgt := 35) (n := 23) C dX2_keepOrder_20 rfl rfl (fun c20 => ?_) (fun c20 => ?_)
      · rw [fa_le, nI_toInt (by omega), nI_toInt (by omega)] at c20
        have ek : (-9 : Int32) = (if k < L then nI (og.getD k 0) else -9) := by rw [if_neg (by omega)]
        refine z_bipush (n := 37) (v := (-9)) C dX2_keepOrder_35 rfl rfl ?_
        rw [ek]
        refine z_iastN (n := 38) C K k dX2_keepOrder_37 rfl sh_56 (by decide) rfl (by omega) (by decide) ?_
        refine z_iincG (n := 41) (c := 1) (L' := [(1, _), (0, _)]) C 0 dX2_keepOrder_38 rfl rfl rfl (by rw [hnL]; decide) rfl ?_
        refine z_goto (n := 2) C dX2_keepOrder_41 rfl ?_
        rw [nI_1]
        exact ih (k + 1) _ (by omega) ⟨by omega, fun q hq => by rw [upI_row _ _ hq]; exact hfr q hq, fun i hi => by
          by_cases e : i = k
          · subst e; rw [upI_same]
          · rw [upI_k _ _ e]; exact hv i (by omega)⟩
      · rw [fa_le, nI_toInt (by omega), nI_toInt (by omega)] at c20
        have ek : I1 51 k = (if k < L then nI (og.getD k 0) else -9) := by rw [if_pos (by omega), hfr 51 (by decide)]; exact ho k (by omega)
        refine z_aload_n (n := 24) C 1 dX2_keepOrder_23 rfl rfl ?_
        refine z_getR (n := 27) (q := 50) C K fF_RX2_12 dX2_keepOrder_24 rfl rfl sh_49 (by decide) rfl ?_
        refine z_getR (n := 30) (q := 51) C K fF_RX2_47 dX2_keepOrder_27 rfl rfl sh_50 (by decide) rfl ?_
        refine z_iload_n (n := 31) C 0 dX2_keepOrder_30 rfl rfl ?_
        refine z_ialdN (n := 32) C K k dX2_keepOrder_31 rfl sh_51 (by decide) rfl (by omega) (by decide) ?_
        refine z_goto (n := 37) C dX2_keepOrder_32 rfl ?_
        rw [ek]
        refine z_iastN (n := 38) C K k dX2_keepOrder_37 rfl sh_56 (by decide) rfl (by omega) (by decide) ?_
        refine z_iincG (n := 41) (c := 1) (L' := [(1, _), (0, _)]) C 0 dX2_keepOrder_38 rfl rfl rfl (by rw [hnL]; decide) rfl ?_
        refine z_goto (n := 2) C dX2_keepOrder_41 rfl ?_
        rw [nI_1]
        exact ih (k + 1) _ (by omega) ⟨by omega, fun q hq => by rw [upI_row _ _ hq]; exact hfr q hq, fun i hi => by
          by_cases e : i = k
          · subst e; rw [upI_same]
          · rw [upI_k _ _ e]; exact hv i (by omega)⟩
set_option maxHeartbeats 4000000 in
set_option maxRecDepth 100000 in
theorem c_X2_keepOrder {ad : Nat → Nat} {I : KI} {J : KJ} {t : Nat} {L : Nat} {og : List Nat} (hN : I 50 0 = nI L) (hL : L ≤ 4) (hol : og.length = L) (ho : ordA I 51 og)  {Q : KI → KJ → KR → Prop} (hQ : ∀ I', (∀ q, q ≠ 56 → I' q = I q) → (∀ i, i < 4 → I' 56 i = (if i < L then nI (og.getD i 0) else -9)) → Q I' J (rf t))  : Mv 1 yX2_keepOrder (wm yX2_keepOrder cX2_keepOrder 2 none) [.ref (ad 49)] ad I J (rf t) Q := by
  refine mv_of (own := RX2) yk_X2_keepOrder rfl (Nat.le_of_ble_eq_true rfl) rfl (fun X hA hnL C K E => ?_)
  subst hA
  refine z_iconst (n := 1) (v := 0) C dX2_keepOrder_0 rfl rfl ?_
  refine z_istore_n (n := 2) (L' := [(1, _), (0, _)]) C dX2_keepOrder_1 rfl (by rw [hnL]; decide) rfl ?_
  exact l_X2_keepOrder C K hnL E hN hL hol ho hQ 5 0 I (by omega) ⟨by omega, fun _ _ => rfl, fun i hi => by omega⟩
theorem sub_m1 (hi lo : Nat) (h1 : hi < 2 ^ 30) (h2 : lo < 2 ^ 30) : (nI hi - (nI lo + (-1))).toInt = (hi : Int) - lo + 1 := by
  rw [fb_subI (by rw [nI_m1 _ (by omega), nI_toInt (by omega)]; omega) (by rw [nI_m1 _ (by omega), nI_toInt (by omega)]; omega), nI_m1 _ (by omega), nI_toInt (by omega)]
  omega
theorem mid_l (lo hi : Nat) (h : 1 ≤ lo + hi) (h1 : hi < 2 ^ 30) (h2 : lo < 2 ^ 30) : nI lo + (-1) + nI hi = nI (lo + hi - 1) := by
  apply i_ext
  rw [fb_addI (by rw [nI_m1 _ (by omega), nI_toInt (by omega)]; omega) (by rw [nI_m1 _ (by omega), nI_toInt (by omega)]; omega), nI_m1 _ (by omega), nI_toInt (by omega), nI_toInt (by omega)]
  omega
theorem nI_ms (m : Nat) : nI m + (-1) + 1 = nI m := by rw [Int32.add_assoc, show ((-1 : Int32) + 1) = 0 from rfl, Int32.add_zero]
theorem nI_back (m : Nat) : nI m = nI (m + 1) + (-1) := (nI_prd m).symm
set_option maxHeartbeats 4000000 in
set_option maxRecDepth 100000 in
theorem l_X2_latestStart {X : KX} {t : Nat} (C : Cx X RX2 cX2_latestStart 4) (K : Kx X) (hnL : xnL X = 10) {Q : Int32 → KI → KJ → KR → Prop} (E : Ei X .int Q) {I : KI} {J : KJ} {fv : Int32} (ht : Tw t) {n r s : Nat} {rd : Nat → Nat → Nat} (hw : cTw t I n r s rd) (ok : okTw n r s rd) {C0 : Nat → Nat → Nat} (hc : okW n r rd C0) (hW : cWy t I n r rd C0) {pc rdy : Nat → Nat} {og : List Nat} (hG : cGt I pc rdy og) (hl7 : og.length ≤ 7) (hm : ∀ x, x ∈ og → x < n) (hp4 : ∀ g, pc g ≤ 4) (hr6 : ∀ g, rdy g ≤ 60) {a bell h b0 : Nat} (ha : a < n) (hwk : wkB C0 s a og = true) (hbell : bell ≤ 200) (hh : h ≤ 100) (hb0 : b0 ≤ bell) (hQ : ∀ I' J', (∀ q, q ≠ 54 → I' q = I q) → (∀ q, q ≠ 54 → q ≠ 55 → J' q = J q) → cZs I' J' → Q (nI (max b0 (slF r rd C0 rdy pc s a bell h og)) + (-1)) I' J' (rf t)) : ∀ (f st lo hi : Nat) (I1 : KI) (J1 : KJ), hi + 1 - lo < f → (lo ≤ hi ∧ hi ≤ bell + 1 ∧ b0 ≤ lo ∧ (lo = b0 ∨ (0 < lo ∧ gdB (stpL r rd C0 rdy pc s og a 1) bell h (lo - 1) = true)) ∧ (∀ m, hi ≤ m → m < bell + 1 → gdB (stpL r rd C0 rdy pc s og a 1) bell h m = false) ∧ st + (hi - lo + 1) ≤ 202 ∧ (st ≤ 1 ∨ st + (hi - lo + 1) ≤ 199) ∧ (∀ q, q ≠ 54 → I1 q = I q) ∧ (∀ q, q ≠ 54 → q ≠ 55 → J1 q = J q) ∧ cZs I1 J1) → Z X 0 0 (V X I1 J1 (rf t)) 12 [(8, .int (nI st)), (7, .int (nI hi)), (6, .int (nI lo + (-1))), (0, .ref (xad X 49)), (1, .ref (xad X t)), (2, .int (nI a)), (3, .int (nI bell)), (4, .int (nI h)), (5, .int fv)] [] := by
  intro f
  induction f with
  | zero => intro st lo hi I1 J1 h; omega
  | succ f ih =>
    intro st lo hi I1 J1 hf hii
    obtain ⟨hlh, hhb, hbl, hgo, hbad, hs1, hs2, hfI, hfJ, hz⟩ := hii
    have hn7 := ok.1
    have htq := ht
    unfold Tw at htq
    have hsn : s < n := ok.2.2.1 (by omega)
    have hG1 : cGt I1 pc rdy og := hG.fr (fun q q1 q2 => hfI q (by omega))
    have hw1 : cTw t I1 n r s rd := hw.fr (fun q q1 q2 => hfI q (by omega))
    have hW1 : cWy t I1 n r rd C0 := hW.fr hn7 (fun q q1 q2 => hfI q (by omega))
    obtain ⟨fc, fo, ft⟩ := stpL_fact hn7 ok.2.2.2 hc hsn hp4 hr6 og a 1 hm ha (by decide) (wkB_t.mp hwk).1
    have hcr := (wkB_t.mp hwk).2
    rw [← fc] at hcr
    have hp15 := p10_le hcr
    refine z_iload (n := 14) C 0 dX2_latestStart_12 rfl rfl ?_
    refine z_sipush (n := 17) (v := 200) C dX2_latestStart_14 rfl rfl ?_
    refine z_icmpF_ge (n := 20) (tgt := 102) C (by rw [fa_le, nI_toInt (by omega)]; simp only [Int32.reduceToInt]; omega) dX2_latestStart_17 rfl rfl ?_
    refine z_iload (n := 22) C 1 dX2_latestStart_20 rfl rfl ?_
    refine z_iload (n := 24) C 2 dX2_latestStart_22 rfl rfl ?_
    refine z_isub (n := 25) C dX2_latestStart_24 rfl ?_
    refine z_iconst (n := 26) (v := 1) C dX2_latestStart_25 rfl rfl ?_
    refine z_icmp_le (tgt := 102) (n := 29) C dX2_latestStart_26 rfl rfl (fun c26 => ?_) (fun c26 => ?_)
    · refine z_iload (n := 104) C 2 dX2_latestStart_102 rfl rfl ?_
      refine z_iret C E dX2_latestStart_104 ?_
      rw [fa_le, sub_m1 _ _ (by omega) (by omega)] at c26
      simp only [Int32.reduceToInt] at c26
      have e : hi = lo := by omega
      subst e
      have hx := hQ I1 J1 hfI hfJ hz
      have h1 : slF r rd C0 rdy pc s a bell h og ≤ hi := lgS_cut _ (fun m q1 q2 => hbad m q1 q2)
      rw [show max b0 (slF r rd C0 rdy pc s a bell h og) = hi from ?_] at hx
      · exact hx
      · rcases hgo with hgo | ⟨g0, hgo⟩
        · omega
        · have h2 : hi - 1 + 1 ≤ slF r rd C0 rdy pc s a bell h og := lgS_ge hgo _ (by omega)
          omega
    · rw [fa_le, sub_m1 _ _ (by omega) (by omega)] at c26
      simp only [Int32.reduceToInt] at c26
      refine z_iload (n := 31) C 0 dX2_latestStart_29 rfl rfl ?_
      refine z_if_ne (tgt := 41) (n := 34) C dX2_latestStart_31 rfl rfl (fun c31 => ?_) (fun c31 => ?_)
      · refine z_iload (n := 43) C 2 dX2_latestStart_41 rfl rfl ?_
        refine z_iload (n := 45) C 1 dX2_latestStart_43 rfl rfl ?_
        refine z_iadd (n := 46) C dX2_latestStart_45 rfl ?_
        rw [mid_l _ _ (by omega) (by omega) (by omega)]
        refine z_iconst (n := 47) (v := 2) C dX2_latestStart_46 rfl rfl ?_
        refine z_idiv (n := 48) C dX2_latestStart_47 rfl (by decide) ?_
        rw [show (2 : Int32) = nI 2 from rfl, pk_div (by omega) (by decide) (by decide)]
        obtain ⟨m, em⟩ : ∃ m, (lo + hi - 1) / 2 = m := ⟨_, rfl⟩
        rw [em]
        refine z_istore (n := 50) (L' := [(9, _), (8, _), (7, _), (6, _), (0, _), (1, _), (2, _), (3, _), (4, _), (5, _)]) C dX2_latestStart_48 rfl (by rw [hnL]; decide) rfl ?_
        refine z_aload_n (n := 51) C 4 dX2_latestStart_50 rfl rfl ?_
        refine z_aload_n (n := 52) C 5 dX2_latestStart_51 rfl rfl ?_
        refine z_iload_n (n := 53) C 6 dX2_latestStart_52 rfl rfl ?_
        refine z_iload (n := 55) C 0 dX2_latestStart_53 rfl rfl ?_
        refine z_vv_3 (n := 58) (d' := 3) C K dX2_latestStart_55 rfl yk_X2_walk yv_X2_walk kM_RX2_123 (by decide) hR0 rfl rfl sh_49 (by decide) (by decide) ?_
        refine c_X2_walk hz ht hw1 ok hc hW1 hG1 hl7 hm hp4 hr6 ha hwk (by omega) (fun I2 J2 hf2 hg2 hM => ?_)
        have htm := ft m
        have hle := ev_le (h := ltS bell) (c := 1) _ fo m (fun t _ => by unfold ltS; split <;> omega)
        have hz2 := hM.z hcr
        refine z_aload_n (n := 59) C 4 dX2_latestStart_58 rfl rfl ?_
        refine z_getR (n := 62) (q := 54) C K fF_RX2_21 dX2_latestStart_59 rfl rfl sh_49 (by decide) rfl ?_
        refine z_iload_n (n := 63) C 7 dX2_latestStart_62 rfl rfl ?_
        refine z_vl_1 (n := 66) (d' := 1) C K dX2_latestStart_63 rfl yk_X3_casesBehind yv_X3_casesBehind kM_RX2_127 (by decide) hR0 rfl rfl sh_54 (by decide) (by decide) ?_
        refine c_X3_casesBehind hcr (by omega) hM hbell ?_
        refine z_ldc2 (n := 69) C dX2_latestStart_66 kK_RX2_131 rfl ?_
        refine z_lmul (n := 70) C dX2_latestStart_69 rfl ?_
        rw [show (100 : Int64) = lN 100 from rfl, lN_mul]
        refine z_aload_n (n := 71) C 4 dX2_latestStart_70 rfl rfl ?_
        refine z_getR (n := 74) (q := 54) C K fF_RX2_21 dX2_latestStart_71 rfl rfl sh_49 (by decide) rfl ?_
        refine z_getJ (n := 77) C K fF_RX2_133 dX2_latestStart_74 rfl sh_54 (by decide) ?_
        rw [(show J2 54 3 = lN (10 ^ crs (stpL r rd C0 rdy pc s og a 1)) by obtain ⟨f, e, s, h1, h2, h3, h4⟩ := hM; exact h3)]
        refine z_iload (n := 79) C 8 dX2_latestStart_77 rfl rfl ?_
        refine z_i2l (n := 80) C dX2_latestStart_79 rfl ?_
        rw [lN_i2l (by omega)]
        refine z_lmul (n := 81) C dX2_latestStart_80 rfl ?_
        rw [lN_mul]
        have hmul : 10 ^ crs (stpL r rd C0 rdy pc s og a 1) * h ≤ 1000000000000000 * 100 := Nat.mul_le_mul hp15 hh
        refine z_lcmp (n := 82) C dX2_latestStart_81 rfl ?_
        refine z_if_gt (tgt := 92) (n := 85) C dX2_latestStart_82 rfl rfl (fun c82 => ?_) (fun c82 => ?_)
        · refine z_iload (n := 94) C 0 dX2_latestStart_92 rfl rfl ?_
          refine z_istore (n := 96) (L' := [(7, _), (9, _), (8, _), (6, _), (0, _), (1, _), (2, _), (3, _), (4, _), (5, _)]) C dX2_latestStart_94 rfl (by rw [hnL]; decide) rfl ?_
          refine z_iincG (n := 99) (c := 1) (L' := [(8, _), (7, _), (9, _), (6, _), (0, _), (1, _), (2, _), (3, _), (4, _), (5, _)]) C 2 dX2_latestStart_96 rfl rfl rfl (by rw [hnL]; decide) rfl ?_
          refine z_goto (n := 12) C dX2_latestStart_99 rfl ?_
          refine z_sub (L' := [(8, _), (7, _), (6, _), (0, _), (1, _), (2, _), (3, _), (4, _), (5, _)]) [0, 1, 3, 4, 5, 6, 7, 8, 9] rfl ?_
          rw [lg_cmp_gt, pk_lLT (by omega) (by omega)] at c82
          rw [nI_1]
          have hqm : gdB (stpL r rd C0 rdy pc s og a 1) bell h m = false := by unfold gdB; rw [decide_eq_false_iff_not]; omega
          exact ih (st + 1) lo m I2 J2 (by omega) ⟨by omega, by omega, hbl, hgo, fun x h1 h2 => gdB_down h1 hqm, by omega, by omega, fun q hq => by rw [hf2 q hq]; exact hfI q hq, fun q q1 q2 => by rw [hg2 q q1 q2]; exact hfJ q q1 q2, hz2⟩
        · refine z_iload (n := 87) C 0 dX2_latestStart_85 rfl rfl ?_
          refine z_istore (n := 89) (L' := [(6, _), (9, _), (8, _), (7, _), (0, _), (1, _), (2, _), (3, _), (4, _), (5, _)]) C dX2_latestStart_87 rfl (by rw [hnL]; decide) rfl ?_
          refine z_goto (n := 96) C dX2_latestStart_89 rfl ?_
          refine z_iincG (n := 99) (c := 1) (L' := [(8, _), (6, _), (9, _), (7, _), (0, _), (1, _), (2, _), (3, _), (4, _), (5, _)]) C 2 dX2_latestStart_96 rfl rfl rfl (by rw [hnL]; decide) rfl ?_
          refine z_goto (n := 12) C dX2_latestStart_99 rfl ?_
          refine z_sub (L' := [(8, _), (7, _), (6, _), (0, _), (1, _), (2, _), (3, _), (4, _), (5, _)]) [0, 3, 1, 4, 5, 6, 7, 8, 9] rfl ?_
          rw [lg_cmp_gt, pk_lLT (by omega) (by omega)] at c82
          rw [nI_1]
          have hqm : gdB (stpL r rd C0 rdy pc s og a 1) bell h m = true := by unfold gdB; rw [decide_eq_true_eq]; omega
          rw [nI_back m]
          exact ih (st + 1) (m + 1) hi I2 J2 (by omega) ⟨by omega, by omega, by omega, Or.inr ⟨by omega, hqm⟩, hbad, by omega, by omega, fun q hq => by rw [hf2 q hq]; exact hfI q hq, fun q q1 q2 => by rw [hg2 q q1 q2]; exact hfJ q q1 q2, hz2⟩
      · have hst0 : st = 0 := nI_inj (show nI st = nI 0 from c31) (by omega) (by decide)
        refine z_iload (n := 36) C 2 dX2_latestStart_34 rfl rfl ?_
        refine z_iconst (n := 37) (v := 1) C dX2_latestStart_36 rfl rfl ?_
        refine z_iadd (n := 38) C dX2_latestStart_37 rfl ?_
        obtain ⟨m, em⟩ : ∃ m, m = lo := ⟨_, rfl⟩
        rw [show nI lo + (-1) + 1 = nI m from by rw [em]; exact nI_ms lo]
        refine z_goto (n := 48) C dX2_latestStart_38 rfl ?_
        refine z_istore (n := 50) (L' := [(9, _), (8, _), (7, _), (6, _), (0, _), (1, _), (2, _), (3, _), (4, _), (5, _)]) C dX2_latestStart_48 rfl (by rw [hnL]; decide) rfl ?_
        refine z_aload_n (n := 51) C 4 dX2_latestStart_50 rfl rfl ?_
        refine z_aload_n (n := 52) C 5 dX2_latestStart_51 rfl rfl ?_
        refine z_iload_n (n := 53) C 6 dX2_latestStart_52 rfl rfl ?_
        refine z_iload (n := 55) C 0 dX2_latestStart_53 rfl rfl ?_
        refine z_vv_3 (n := 58) (d' := 3) C K dX2_latestStart_55 rfl yk_X2_walk yv_X2_walk kM_RX2_123 (by decide) hR0 rfl rfl sh_49 (by decide) (by decide) ?_
        refine c_X2_walk hz ht hw1 ok hc hW1 hG1 hl7 hm hp4 hr6 ha hwk (by omega) (fun I2 J2 hf2 hg2 hM => ?_)
        have htm := ft m
        have hle := ev_le (h := ltS bell) (c := 1) _ fo m (fun t _ => by unfold ltS; split <;> omega)
        have hz2 := hM.z hcr
        refine z_aload_n (n := 59) C 4 dX2_latestStart_58 rfl rfl ?_
        refine z_getR (n := 62) (q := 54) C K fF_RX2_21 dX2_latestStart_59 rfl rfl sh_49 (by decide) rfl ?_
        refine z_iload_n (n := 63) C 7 dX2_latestStart_62 rfl rfl ?_
        refine z_vl_1 (n := 66) (d' := 1) C K dX2_latestStart_63 rfl yk_X3_casesBehind yv_X3_casesBehind kM_RX2_127 (by decide) hR0 rfl rfl sh_54 (by decide) (by decide) ?_
        refine c_X3_casesBehind hcr (by omega) hM hbell ?_
        refine z_ldc2 (n := 69) C dX2_latestStart_66 kK_RX2_131 rfl ?_
        refine z_lmul (n := 70) C dX2_latestStart_69 rfl ?_
        rw [show (100 : Int64) = lN 100 from rfl, lN_mul]
        refine z_aload_n (n := 71) C 4 dX2_latestStart_70 rfl rfl ?_
        refine z_getR (n := 74) (q := 54) C K fF_RX2_21 dX2_latestStart_71 rfl rfl sh_49 (by decide) rfl ?_
        refine z_getJ (n := 77) C K fF_RX2_133 dX2_latestStart_74 rfl sh_54 (by decide) ?_
        rw [(show J2 54 3 = lN (10 ^ crs (stpL r rd C0 rdy pc s og a 1)) by obtain ⟨f, e, s, h1, h2, h3, h4⟩ := hM; exact h3)]
        refine z_iload (n := 79) C 8 dX2_latestStart_77 rfl rfl ?_
        refine z_i2l (n := 80) C dX2_latestStart_79 rfl ?_
        rw [lN_i2l (by omega)]
        refine z_lmul (n := 81) C dX2_latestStart_80 rfl ?_
        rw [lN_mul]
        have hmul : 10 ^ crs (stpL r rd C0 rdy pc s og a 1) * h ≤ 1000000000000000 * 100 := Nat.mul_le_mul hp15 hh
        refine z_lcmp (n := 82) C dX2_latestStart_81 rfl ?_
        refine z_if_gt (tgt := 92) (n := 85) C dX2_latestStart_82 rfl rfl (fun c82 => ?_) (fun c82 => ?_)
        · refine z_iload (n := 94) C 0 dX2_latestStart_92 rfl rfl ?_
          refine z_istore (n := 96) (L' := [(7, _), (9, _), (8, _), (6, _), (0, _), (1, _), (2, _), (3, _), (4, _), (5, _)]) C dX2_latestStart_94 rfl (by rw [hnL]; decide) rfl ?_
          refine z_iincG (n := 99) (c := 1) (L' := [(8, _), (7, _), (9, _), (6, _), (0, _), (1, _), (2, _), (3, _), (4, _), (5, _)]) C 2 dX2_latestStart_96 rfl rfl rfl (by rw [hnL]; decide) rfl ?_
          refine z_goto (n := 12) C dX2_latestStart_99 rfl ?_
          refine z_sub (L' := [(8, _), (7, _), (6, _), (0, _), (1, _), (2, _), (3, _), (4, _), (5, _)]) [0, 1, 3, 4, 5, 6, 7, 8, 9] rfl ?_
          rw [lg_cmp_gt, pk_lLT (by omega) (by omega)] at c82
          rw [nI_1]
          have hqm : gdB (stpL r rd C0 rdy pc s og a 1) bell h m = false := by unfold gdB; rw [decide_eq_false_iff_not]; omega
          exact ih (st + 1) lo m I2 J2 (by omega) ⟨by omega, by omega, hbl, hgo, fun x h1 h2 => gdB_down h1 hqm, by omega, by omega, fun q hq => by rw [hf2 q hq]; exact hfI q hq, fun q q1 q2 => by rw [hg2 q q1 q2]; exact hfJ q q1 q2, hz2⟩
        · refine z_iload (n := 87) C 0 dX2_latestStart_85 rfl rfl ?_
          refine z_istore (n := 89) (L' := [(6, _), (9, _), (8, _), (7, _), (0, _), (1, _), (2, _), (3, _), (4, _), (5, _)]) C dX2_latestStart_87 rfl (by rw [hnL]; decide) rfl ?_
          refine z_goto (n := 96) C dX2_latestStart_89 rfl ?_
          refine z_iincG (n := 99) (c := 1) (L' := [(8, _), (6, _), (9, _), (7, _), (0, _), (1, _), (2, _), (3, _), (4, _), (5, _)]) C 2 dX2_latestStart_96 rfl rfl rfl (by rw [hnL]; decide) rfl ?_
          refine z_goto (n := 12) C dX2_latestStart_99 rfl ?_
          refine z_sub (L' := [(8, _), (7, _), (6, _), (0, _), (1, _), (2, _), (3, _), (4, _), (5, _)]) [0, 3, 1, 4, 5, 6, 7, 8, 9] rfl ?_
          rw [lg_cmp_gt, pk_lLT (by omega) (by omega)] at c82
          rw [nI_1]
          have hqm : gdB (stpL r rd C0 rdy pc s og a 1) bell h m = true := by unfold gdB; rw [decide_eq_true_eq]; omega
          rw [nI_back m]
          exact ih (st + 1) (m + 1) hi I2 J2 (by omega) ⟨by omega, by omega, by omega, Or.inr ⟨by omega, hqm⟩, hbad, by omega, by omega, fun q hq => by rw [hf2 q hq]; exact hfI q hq, fun q q1 q2 => by rw [hg2 q q1 q2]; exact hfJ q q1 q2, hz2⟩
set_option maxHeartbeats 4000000 in
set_option maxRecDepth 100000 in
theorem c_X2_latestStart {ad : Nat → Nat} {I : KI} {J : KJ} {t : Nat} (ht : Tw t) {n r s : Nat} {rd : Nat → Nat → Nat} (hw : cTw t I n r s rd) (ok : okTw n r s rd) {C0 : Nat → Nat → Nat} (hc : okW n r rd C0) (hW : cWy t I n r rd C0) {pc rdy : Nat → Nat} {og : List Nat} (hG : cGt I pc rdy og) (hl7 : og.length ≤ 7) (hm : ∀ x, x ∈ og → x < n) (hp4 : ∀ g, pc g ≤ 4) (hr6 : ∀ g, rdy g ≤ 60) {a bell h b0 : Nat} (ha : a < n) (hwk : wkB C0 s a og = true) (hbell : bell ≤ 200) (hh : h ≤ 100) (hb0 : b0 ≤ bell) (hz : cZs I J) {Q : Int32 → KI → KJ → KR → Prop} (hQ : ∀ I' J', (∀ q, q ≠ 54 → I' q = I q) → (∀ q, q ≠ 54 → q ≠ 55 → J' q = J q) → cZs I' J' → Q (nI (max b0 (slF r rd C0 rdy pc s a bell h og)) + (-1)) I' J' (rf t))  : Mi 4 yX2_latestStart (wm yX2_latestStart cX2_latestStart 10 (some .int)) [.ref (ad 49), .ref (ad t), .int (nI a), .int (nI bell), .int (nI h), .int (nI b0 + (-1))] ad I J (rf t) Q := by
  refine mi_of (own := RX2) yk_X2_latestStart rfl (Nat.le_of_ble_eq_true rfl) rfl (fun X hA hnL C K E => ?_)
  subst hA
  refine z_iload (n := 2) C 5 dX2_latestStart_0 rfl rfl ?_
  refine z_istore (n := 4) (L' := [(6, _), (0, _), (1, _), (2, _), (3, _), (4, _), (5, _)]) C dX2_latestStart_2 rfl (by rw [hnL]; decide) rfl ?_
  refine z_iload_n (n := 5) C 4 dX2_latestStart_4 rfl rfl ?_
  refine z_iconst (n := 6) (v := 1) C dX2_latestStart_5 rfl rfl ?_
  refine z_iadd (n := 7) C dX2_latestStart_6 rfl ?_
  rw [nI_1]
  refine z_istore (n := 9) (L' := [(7, _), (6, _), (0, _), (1, _), (2, _), (3, _), (4, _), (5, _)]) C dX2_latestStart_7 rfl (by rw [hnL]; decide) rfl ?_
  refine z_iconst (n := 10) (v := 0) C dX2_latestStart_9 rfl rfl ?_
  refine z_istore (n := 12) (L' := [(8, _), (7, _), (6, _), (0, _), (1, _), (2, _), (3, _), (4, _), (5, _)]) C dX2_latestStart_10 rfl (by rw [hnL]; decide) rfl ?_
  exact l_X2_latestStart C K hnL E ht hw ok hc hW hG hl7 hm hp4 hr6 ha hwk hbell hh hb0 hQ (bell + 3) 0 b0 (bell + 1) I J (by omega) ⟨by omega, by omega, by omega, Or.inl rfl, fun m q1 q2 => by omega, by omega, Or.inl (by decide), fun _ _ => rfl, fun _ _ _ => rfl, hz⟩
set_option maxHeartbeats 4000000 in
set_option maxRecDepth 100000 in
theorem l_X2_findStart {X : KX} {t : Nat} (C : Cx X RX2 cX2_findStart 5) (K : Kx X) (hnL : xnL X = 8) {Q : Int32 → KI → KJ → KR → Prop} (E : Ei X .int Q) {I : KI} {J : KJ} (ht : Tw t) {n r s : Nat} {rd : Nat → Nat → Nat} (hw : cTw t I n r s rd) (ok : okTw n r s rd) {C0 : Nat → Nat → Nat} (hc : okW n r rd C0) (hW : cWy t I n r rd C0) {pc rdy : Nat → Nat} {og : List Nat} (hG : cGt I pc rdy og) (hlen : og.length = (gL pc 7).length) (hp4 : ∀ g, pc g ≤ 4) (hm : ∀ x, x ∈ gL pc 7 → x < n) (hL1 : 1 ≤ (gL pc 7).length) {a : Nat} (ha : a < n) (hr6 : ∀ g, rdy g ≤ 60) {bell h : Nat} (hbell : bell ≤ 200) (hh : h ≤ 100) (hst : stB C0 s a (gL pc 7) = true) (hQ : ∀ og' I' J', (∀ q, ¬ (50 ≤ q ∧ q ≤ 56) → I' q = I q) → (∀ q, q ≠ 54 → q ≠ 55 → J' q = J q) → cZs I' J' → cGt I' pc rdy og' → og'.length = (gL pc 7).length → ((soS r rd C0 rdy pc s a bell h).1 ≠ 0 → (∀ i, i < 4 → I' 56 i = (if i < (gL pc 7).length then nI ((soS r rd C0 rdy pc s a bell h).2.getD i 0) else -9))) → Q (stI (soS r rd C0 rdy pc s a bell h).1) I' J' (rf t)) : ∀ (f k : Nat) (I1 : KI) (J1 : KJ) (q : List Nat) (b : Nat × List Nat), 24 - k < f → ((∀ q, ¬ (50 ≤ q ∧ q ≤ 56) → I1 q = I q) ∧ (∀ q, q ≠ 54 → q ≠ 55 → J1 q = J q) ∧ cZs I1 J1 ∧ (pmE (gL pc 7).length)[k]? = some q ∧ cGt I1 pc rdy (od (gL pc 7) q) ∧ b.1 ≤ bell + 1 ∧ (b.1 ≠ 0 → (∀ i, i < 4 → I1 56 i = (if i < (gL pc 7).length then nI (b.2.getD i 0) else -9))) ∧ bsF (slF r rd C0 rdy pc s a bell h) (ords (gL pc 7)) (0, []) = bsF (slF r rd C0 rdy pc s a bell h) ((ords (gL pc 7)).drop k) b) → Z X 0 0 (V X I1 J1 (rf t)) 25 [(6, .int (nI k)), (5, .int (nI b.1 + (-1))), (0, .ref (xad X 49)), (1, .ref (xad X t)), (2, .int (nI a)), (3, .int (nI bell)), (4, .int (nI h))] [] := by
  intro f
  induction f with
  | zero => intro k I1 J1 q b h; omega
  | succ f ih =>
    intro k I1 J1 q b hf hi
    obtain ⟨hfI, hfJ, hz, hq, hG1, hb1, hbv, hal⟩ := hi
    have hL4 := (stB_t.mp hst).1
    have hn7 := ok.1
    have htq := ht
    unfold Tw at htq
    have hk24 : k < 24 := by
      have := (List.getElem?_eq_some_iff.mp hq).1
      have := (pmE_fact hL4).1
      omega
    obtain ⟨hql, hqm⟩ := (pmE_fact hL4).2 q (List.mem_of_getElem? hq)
    have hol : (od (gL pc 7) q).length ≤ 7 := by rw [od_len]; omega
    have hom : ∀ x, x ∈ od (gL pc 7) q → x < n := fun x hx => hm x (od_mem hqm hx)
    have hw1 : cTw t I1 n r s rd := hw.fr (fun q q1 q2 => hfI q (by omega))
    have hW1 : cWy t I1 n r rd C0 := hW.fr hn7 (fun q q1 q2 => hfI q (by omega))
    have hwk : wkB C0 s a (od (gL pc 7) q) = true := List.all_eq_true.mp (stB_t.mp hst).2 _ (List.mem_of_getElem? (ords_get hq))
    have hle := slF_le r rd C0 rdy pc s a bell h (od (gL pc 7) q)
    refine z_iload (n := 27) C 0 dX2_findStart_25 rfl rfl ?_
    refine z_bipush (n := 29) (v := 24) C dX2_findStart_27 rfl rfl ?_
    refine z_icmpF_ge (n := 32) (tgt := 85) C (by rw [fa_le, nI_toInt (by omega)]; simp only [Int32.reduceToInt]; omega) dX2_findStart_29 rfl rfl ?_
    refine z_iload (n := 34) C 1 dX2_findStart_32 rfl rfl ?_
    refine z_iload_n (n := 35) C 5 dX2_findStart_34 rfl rfl ?_
    refine z_icmp_ge (tgt := 85) (n := 38) C dX2_findStart_35 rfl rfl (fun c35 => ?_) (fun c35 => ?_)
    · refine z_sub (L' := [(5, _), (0, _), (1, _), (2, _), (3, _), (4, _)]) [1, 2, 3, 4, 5, 6] rfl ?_
      rw [fa_le, nI_m1 _ (by omega), nI_toInt (by omega)] at c35
      have hst2 : bsF (slF r rd C0 rdy pc s a bell h) (ords (gL pc 7)) (0, []) = b := by rw [hal]; exact bsF_full (B := bell + 1) (fun o => slF_le _ _ _ _ _ _ _ _ _ _) _ _ (by omega)
      have hso : soS r rd C0 rdy pc s a bell h = b := by unfold soS; rw [if_pos hst, hst2]
      have hx := hQ _ I1 J1 (fun x hx => hfI x hx) (fun x q1 q2 => hfJ x q1 q2) hz hG1 (by rw [od_len]; exact hql) (by rw [hso]; exact hbv)
      rw [hso] at hx
      obtain ⟨b1, eb⟩ : ∃ b1, b.1 = b1 := ⟨_, rfl⟩
      rw [eb] at hx hb1 ⊢
      refine z_iload (n := 87) C 0 dX2_findStart_85 rfl rfl ?_
      refine z_if_ge (tgt := 95) (n := 90) C dX2_findStart_87 rfl rfl (fun c87 => ?_) (fun c87 => ?_)
      · refine z_iload (n := 97) C 0 dX2_findStart_95 rfl rfl ?_
        refine z_iret C E dX2_findStart_97 ?_
        rw [fa_le, nI_m1 _ (by omega)] at c87
        simp only [Int32.reduceToInt] at c87
        obtain ⟨b2, rfl⟩ : ∃ b2, b1 = b2 + 1 := ⟨b1 - 1, by omega⟩
        rw [nI_prd]
        exact hx
      · refine z_bipush (n := 92) (v := (-9)) C dX2_findStart_90 rfl rfl ?_
        refine z_goto (n := 97) C dX2_findStart_92 rfl ?_
        refine z_iret C E dX2_findStart_97 ?_
        rw [fa_le, nI_m1 _ (by omega)] at c87
        simp only [Int32.reduceToInt] at c87
        have e0 : b1 = 0 := by omega
        subst e0
        exact hx
    · rw [fa_le, nI_m1 _ (by omega), nI_toInt (by omega)] at c35
      refine z_aload_n (n := 39) C 2 dX2_findStart_38 rfl rfl ?_
      refine z_aload_n (n := 40) C 3 dX2_findStart_39 rfl rfl ?_
      refine z_iload_n (n := 41) C 4 dX2_findStart_40 rfl rfl ?_
      refine z_iload_n (n := 42) C 5 dX2_findStart_41 rfl rfl ?_
      refine z_iload (n := 44) C 6 dX2_findStart_42 rfl rfl ?_
      refine z_iload (n := 46) C 1 dX2_findStart_44 rfl rfl ?_
      refine z_vi_5 (n := 49) (d' := 4) C K dX2_findStart_46 rfl yk_X2_latestStart yv_X2_latestStart kM_RX2_116 (by decide) hR0 rfl rfl sh_49 (by decide) (by decide) ?_
      refine c_X2_latestStart ht hw1 ok hc hW1 hG1 hol hom hp4 hr6 ha hwk hbell hh (by omega) hz (fun I2 J2 hf2 hg2 hz2 => ?_)
      have hG2 : cGt I2 pc rdy (od (gL pc 7) q) := hG1.fr (fun x q1 q2 => hf2 x (by omega))
      refine z_istore (n := 51) (L' := [(7, _), (6, _), (5, _), (0, _), (1, _), (2, _), (3, _), (4, _)]) C dX2_findStart_49 rfl (by rw [hnL]; decide) rfl ?_
      refine z_iload (n := 53) C 0 dX2_findStart_51 rfl rfl ?_
      refine z_iload (n := 55) C 2 dX2_findStart_53 rfl rfl ?_
      refine z_icmp_le (tgt := 66) (n := 58) C dX2_findStart_55 rfl rfl (fun c55 => ?_) (fun c55 => ?_)
      · rw [fa_le, nI_m1 _ (by omega), nI_m1 _ (by omega)] at c55
        have hnl : ¬ b.1 < slF r rd C0 rdy pc s a bell h (od (gL pc 7) q) := by omega
        have hst2 : bsF (slF r rd C0 rdy pc s a bell h) (ords (gL pc 7)) (0, []) = bsF (slF r rd C0 rdy pc s a bell h) ((ords (gL pc 7)).drop (k + 1)) b := by rw [hal, ords_drop hq, bsF, if_neg hnl]
        refine z_aload_n (n := 67) C 3 dX2_findStart_66 rfl rfl ?_
        refine z_getR (n := 70) (q := 50) C K fF_RX2_12 dX2_findStart_67 rfl rfl sh_49 (by decide) rfl ?_
        refine z_vi_0 (n := 73) (d' := 2) C K dX2_findStart_70 rfl yk_X1_toNextOrder yv_X1_toNextOrder kM_RX2_109 (by decide) hR0 rfl rfl sh_50 (by decide) (by decide) ?_
        refine c2_X1_toNextOrder (rise_of (gL_pw pc 7)) hL1 hL4 (fun x hx => (gL_mem 7 |>.mp hx).1) hG2 hq (fun hnn => ?_) (fun q' I4 hq' hf4 hG4 => ?_)
        · refine z_ifF_ne (n := 76) (tgt := 79) C (by decide) dX2_findStart_73 rfl rfl ?_
          refine z_goto (n := 85) C dX2_findStart_76 rfl ?_
          refine z_sub (L' := [(5, _), (0, _), (1, _), (2, _), (3, _), (4, _)]) [2, 3, 4, 5, 6, 7] rfl ?_
          rw [ords_end hnn, bsF] at hst2
          have hso : soS r rd C0 rdy pc s a bell h = b := by unfold soS; rw [if_pos hst, hst2]
          have hx := hQ _ I2 J2 (fun x hx => by rw [hf2 x (by omega)]; exact hfI x hx) (fun x q1 q2 => by rw [hg2 x q1 q2]; exact hfJ x q1 q2) hz2 hG2 (by rw [od_len]; exact hql) (by rw [hso]; exact fun e i hi => by rw [hf2 56 (by decide)]; exact hbv e i hi)
          rw [hso] at hx
          obtain ⟨b1, eb⟩ : ∃ b1, b.1 = b1 := ⟨_, rfl⟩
          rw [eb] at hx hb1 ⊢
          refine z_iload (n := 87) C 0 dX2_findStart_85 rfl rfl ?_
          refine z_if_ge (tgt := 95) (n := 90) C dX2_findStart_87 rfl rfl (fun c87 => ?_) (fun c87 => ?_)
          · refine z_iload (n := 97) C 0 dX2_findStart_95 rfl rfl ?_
            refine z_iret C E dX2_findStart_97 ?_
            rw [fa_le, nI_m1 _ (by omega)] at c87
            simp only [Int32.reduceToInt] at c87
            obtain ⟨b2, rfl⟩ : ∃ b2, b1 = b2 + 1 := ⟨b1 - 1, by omega⟩
            rw [nI_prd]
            exact hx
          · refine z_bipush (n := 92) (v := (-9)) C dX2_findStart_90 rfl rfl ?_
            refine z_goto (n := 97) C dX2_findStart_92 rfl ?_
            refine z_iret C E dX2_findStart_97 ?_
            rw [fa_le, nI_m1 _ (by omega)] at c87
            simp only [Int32.reduceToInt] at c87
            have e0 : b1 = 0 := by omega
            subst e0
            exact hx
        · refine z_ifT_ne (tgt := 79) C (by decide) dX2_findStart_73 rfl ?_
          refine z_iincG (n := 82) (c := 1) (L' := [(6, _), (7, _), (5, _), (0, _), (1, _), (2, _), (3, _), (4, _)]) C 1 dX2_findStart_79 rfl rfl rfl (by rw [hnL]; decide) rfl ?_
          refine z_goto (n := 25) C dX2_findStart_82 rfl ?_
          refine z_sub (L' := [(6, _), (5, _), (0, _), (1, _), (2, _), (3, _), (4, _)]) [0, 2, 3, 4, 5, 6, 7] rfl ?_
          rw [nI_1]
          exact ih (k + 1) I4 J2 q' b (by omega) ⟨fun x hx => by rw [hf4 x (by omega), hf2 x (by omega)]; exact hfI x hx, fun x q1 q2 => by rw [hg2 x q1 q2]; exact hfJ x q1 q2, hz2.fr (hf4 54 (by decide)) rfl, hq', hG4, hb1, fun e i hi => by rw [hf4 56 (by decide), hf2 56 (by decide)]; exact hbv e i hi, hst2⟩
      · rw [fa_le, nI_m1 _ (by omega), nI_m1 _ (by omega)] at c55
        have hlt : b.1 < slF r rd C0 rdy pc s a bell h (od (gL pc 7) q) := by omega
        rw [show max b.1 (slF r rd C0 rdy pc s a bell h (od (gL pc 7) q)) = slF r rd C0 rdy pc s a bell h (od (gL pc 7) q) by omega]
        refine z_iload (n := 60) C 0 dX2_findStart_58 rfl rfl ?_
        refine z_istore (n := 62) (L' := [(5, _), (7, _), (6, _), (0, _), (1, _), (2, _), (3, _), (4, _)]) C dX2_findStart_60 rfl (by rw [hnL]; decide) rfl ?_
        refine z_aload_n (n := 63) C 3 dX2_findStart_62 rfl rfl ?_
        refine z_vv_0 (n := 66) (d' := 1) C K dX2_findStart_63 rfl yk_X2_keepOrder yv_X2_keepOrder kM_RX2_120 (by decide) hR0 rfl rfl sh_49 (by decide) (by decide) ?_
        refine c_X2_keepOrder (L := (gL pc 7).length) (og := od (gL pc 7) q) (by rw [hG2.1, od_len, hql]) hL4 (by rw [od_len, hql]) hG2.2.2 (fun I3 hf3 hv3 => ?_)
        have hG3 : cGt I3 pc rdy (od (gL pc 7) q) := hG2.fr (fun x q1 q2 => hf3 x (by omega))
        have hz3 : cZs I3 J2 := hz2.fr (hf3 54 (by decide)) rfl
        have hst2 : bsF (slF r rd C0 rdy pc s a bell h) (ords (gL pc 7)) (0, []) = bsF (slF r rd C0 rdy pc s a bell h) ((ords (gL pc 7)).drop (k + 1)) (slF r rd C0 rdy pc s a bell h (od (gL pc 7) q), od (gL pc 7) q) := by rw [hal, ords_drop hq, bsF, if_pos hlt]
        refine z_aload_n (n := 67) C 3 dX2_findStart_66 rfl rfl ?_
        refine z_getR (n := 70) (q := 50) C K fF_RX2_12 dX2_findStart_67 rfl rfl sh_49 (by decide) rfl ?_
        refine z_vi_0 (n := 73) (d' := 2) C K dX2_findStart_70 rfl yk_X1_toNextOrder yv_X1_toNextOrder kM_RX2_109 (by decide) hR0 rfl rfl sh_50 (by decide) (by decide) ?_
        refine c2_X1_toNextOrder (rise_of (gL_pw pc 7)) hL1 hL4 (fun x hx => (gL_mem 7 |>.mp hx).1) hG3 hq (fun hnn => ?_) (fun q' I4 hq' hf4 hG4 => ?_)
        · refine z_ifF_ne (n := 76) (tgt := 79) C (by decide) dX2_findStart_73 rfl rfl ?_
          refine z_goto (n := 85) C dX2_findStart_76 rfl ?_
          refine z_sub (L' := [(5, _), (0, _), (1, _), (2, _), (3, _), (4, _)]) [0, 3, 4, 5, 6, 7] rfl ?_
          rw [ords_end hnn, bsF] at hst2
          have hso : soS r rd C0 rdy pc s a bell h = (slF r rd C0 rdy pc s a bell h (od (gL pc 7) q), od (gL pc 7) q) := by unfold soS; rw [if_pos hst, hst2]
          have hx := hQ _ I3 J2 (fun x hx => by rw [hf3 x (by omega), hf2 x (by omega)]; exact hfI x hx) (fun x q1 q2 => by rw [hg2 x q1 q2]; exact hfJ x q1 q2) hz3 hG3 (by rw [od_len]; exact hql) (by rw [hso]; exact fun _ => hv3)
          rw [hso] at hx
          have hx : Q (stI (slF r rd C0 rdy pc s a bell h (od (gL pc 7) q))) I3 J2 (rf t) := hx
          obtain ⟨b1, eb⟩ : ∃ b1, slF r rd C0 rdy pc s a bell h (od (gL pc 7) q) = b1 := ⟨_, rfl⟩
          rw [eb] at hx hle ⊢
          refine z_iload (n := 87) C 0 dX2_findStart_85 rfl rfl ?_
          refine z_if_ge (tgt := 95) (n := 90) C dX2_findStart_87 rfl rfl (fun c87 => ?_) (fun c87 => ?_)
          · refine z_iload (n := 97) C 0 dX2_findStart_95 rfl rfl ?_
            refine z_iret C E dX2_findStart_97 ?_
            rw [fa_le, nI_m1 _ (by omega)] at c87
            simp only [Int32.reduceToInt] at c87
            obtain ⟨b2, rfl⟩ : ∃ b2, b1 = b2 + 1 := ⟨b1 - 1, by omega⟩
            rw [nI_prd]
            exact hx
          · refine z_bipush (n := 92) (v := (-9)) C dX2_findStart_90 rfl rfl ?_
            refine z_goto (n := 97) C dX2_findStart_92 rfl ?_
            refine z_iret C E dX2_findStart_97 ?_
            rw [fa_le, nI_m1 _ (by omega)] at c87
            simp only [Int32.reduceToInt] at c87
            have e0 : b1 = 0 := by omega
            subst e0
            exact hx
        · refine z_ifT_ne (tgt := 79) C (by decide) dX2_findStart_73 rfl ?_
          refine z_iincG (n := 82) (c := 1) (L' := [(6, _), (5, _), (7, _), (0, _), (1, _), (2, _), (3, _), (4, _)]) C 2 dX2_findStart_79 rfl rfl rfl (by rw [hnL]; decide) rfl ?_
          refine z_goto (n := 25) C dX2_findStart_82 rfl ?_
          refine z_sub (L' := [(6, _), (5, _), (0, _), (1, _), (2, _), (3, _), (4, _)]) [0, 1, 3, 4, 5, 6, 7] rfl ?_
          rw [nI_1]
          exact ih (k + 1) I4 J2 q' (slF r rd C0 rdy pc s a bell h (od (gL pc 7) q), od (gL pc 7) q) (by omega) ⟨fun x hx => by rw [hf4 x (by omega), hf3 x (by omega), hf2 x (by omega)]; exact hfI x hx, fun x q1 q2 => by rw [hg2 x q1 q2]; exact hfJ x q1 q2, hz3.fr (hf4 54 (by decide)) rfl, hq', hG4, hle, fun e i hi => by rw [hf4 56 (by decide)]; exact hv3 i hi, hst2⟩
set_option maxHeartbeats 4000000 in
set_option maxRecDepth 100000 in
theorem c_X2_findStart {ad : Nat → Nat} {I : KI} {J : KJ} {t : Nat} (ht : Tw t) {n r s : Nat} {rd : Nat → Nat → Nat} (hw : cTw t I n r s rd) (ok : okTw n r s rd) {C0 : Nat → Nat → Nat} (hc : okW n r rd C0) (hW : cWy t I n r rd C0) {pc rdy : Nat → Nat} {og : List Nat} (hG : cGt I pc rdy og) (hlen : og.length = (gL pc 7).length) (hp4 : ∀ g, pc g ≤ 4) (hm : ∀ x, x ∈ gL pc 7 → x < n) (hL1 : 1 ≤ (gL pc 7).length) {a : Nat} (ha : a < n) (hr6 : ∀ g, rdy g ≤ 60) {bell h : Nat} (hbell : bell ≤ 200) (hh : h ≤ 100) (hz : cZs I J) {Q : Int32 → KI → KJ → KR → Prop} (hQ : ∀ og' I' J', (∀ q, ¬ (50 ≤ q ∧ q ≤ 56) → I' q = I q) → (∀ q, q ≠ 54 → q ≠ 55 → J' q = J q) → cZs I' J' → cGt I' pc rdy og' → og'.length = (gL pc 7).length → ((soS r rd C0 rdy pc s a bell h).1 ≠ 0 → (∀ i, i < 4 → I' 56 i = (if i < (gL pc 7).length then nI ((soS r rd C0 rdy pc s a bell h).2.getD i 0) else -9))) → Q (stI (soS r rd C0 rdy pc s a bell h).1) I' J' (rf t))  : Mi 5 yX2_findStart (wm yX2_findStart cX2_findStart 8 (some .int)) [.ref (ad 49), .ref (ad t), .int (nI a), .int (nI bell), .int (nI h)] ad I J (rf t) Q := by
  refine mi_of (own := RX2) yk_X2_findStart rfl (Nat.le_of_ble_eq_true rfl) rfl (fun X hA hnL C K E => ?_)
  subst hA
  refine z_aload_n (n := 1) C 0 dX2_findStart_0 rfl rfl ?_
  refine z_aload_n (n := 2) C 1 dX2_findStart_1 rfl rfl ?_
  refine z_iload_n (n := 3) C 2 dX2_findStart_2 rfl rfl ?_
  refine z_vi_2 (n := 6) (d' := 3) C K dX2_findStart_3 rfl yk_X2_hasStarts yv_X2_hasStarts kM_RX2_113 (by decide) hR0 rfl rfl sh_49 (by decide) (by decide) ?_
  refine c_X2_hasStarts ht hw ok hc hW hG hlen hp4 hm hL1 ha (fun og1 I1 hf1 hst hG1 hl1 => ?_) (fun og1 I1 hf1 hst hG1 hl1 => ?_)
  · refine z_ifT_ne (tgt := 12) C (by decide) dX2_findStart_6 rfl ?_
    refine z_iconst (n := 13) (v := (-1)) C dX2_findStart_12 rfl rfl ?_
    refine z_istore (n := 15) (L' := [(5, _), (0, _), (1, _), (2, _), (3, _), (4, _)]) C dX2_findStart_13 rfl (by rw [hnL]; decide) rfl ?_
    refine z_aload_n (n := 16) C 1 dX2_findStart_15 rfl rfl ?_
    refine z_getR (n := 19) (q := 50) C K fF_RX2_12 dX2_findStart_16 rfl rfl sh_49 (by decide) rfl ?_
    refine z_vv_0 (n := 22) (d' := 2) C K dX2_findStart_19 rfl yk_X1_setFirstOrder yv_X1_setFirstOrder kM_RX2_102 (by decide) hR0 rfl rfl sh_50 (by decide) (by decide) ?_
    obtain ⟨q, hq, eq1⟩ := od_first (stB_t.mp hst).1
    refine c_X1_setFirstOrder hp4 hG1.2.1 (fun I2 hf2 hG2 => ?_)
    rw [← eq1] at hG2
    refine z_iconst (n := 23) (v := 0) C dX2_findStart_22 rfl rfl ?_
    refine z_istore (n := 25) (L' := [(6, _), (5, _), (0, _), (1, _), (2, _), (3, _), (4, _)]) C dX2_findStart_23 rfl (by rw [hnL]; decide) rfl ?_
    exact l_X2_findStart C K hnL E ht hw ok hc hW hG hlen hp4 hm hL1 ha hr6 hbell hh hst hQ 25 0 I2 J q (0, []) (by omega) ⟨fun x hx => by rw [hf2 x (by omega)]; exact hf1 x (by omega), fun _ _ _ => rfl, hz.fr (by rw [hf2 54 (by omega)]; exact hf1 54 (by omega)) rfl, hq, hG2, Nat.zero_le _, fun e => absurd rfl e, rfl⟩
  · refine z_ifF_ne (n := 9) (tgt := 12) C (by decide) dX2_findStart_6 rfl rfl ?_
    refine z_bipush (n := 11) (v := (-9)) C dX2_findStart_9 rfl rfl ?_
    refine z_iret C E dX2_findStart_11 ?_
    have hso : soS r rd C0 rdy pc s a bell h = (0, []) := by unfold soS; rw [if_neg hst]
    have hx := hQ og1 I1 J (fun x hx => hf1 x (by omega)) (fun _ _ _ => rfl) (hz.fr (hf1 54 (by omega)) rfl) hG1 hl1 (by rw [hso]; exact fun e => absurd rfl e)
    rw [hso] at hx
    exact hx
