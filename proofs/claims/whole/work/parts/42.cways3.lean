theorem rfS_0 {th : Bool} {so c : Nat} {w i n : Int32} (h : rfS th so c w i n = 0) : 0 ≤ i.toInt ∧ 0 ≤ n.toInt ∧ i.toInt + n.toInt ≤ c := by
  unfold rfS at h
  split at h
  · omega
  · split at h
    · omega
    · split at h
      · omega
      · split at h
        · omega
        · omega
/-- what streets answers, or the streets it takes -/
def strA (th : Nat → Bool) (so ct : Nat → Nat) (cd : Nat → Int32) (kv sv iv nv : Int32) : (Int32 × Nat) ⊕ (Nat × Nat × Nat × (Nat → Nat → Nat)) :=
  if ¬ isB 0 3 kv then .inl (-1, 0) else if ¬ isB 0 2 sv then .inl (-2, 0) else
  if rfS (th kv.toNatClampNeg) (so kv.toNatClampNeg) (ct kv.toNatClampNeg) sv iv nv ≠ 0 then .inl (-10 - nI (rfS (th kv.toNatClampNeg) (so kv.toNatClampNeg) (ct kv.toNatClampNeg) sv iv nv), rfS (th kv.toNatClampNeg) (so kv.toNatClampNeg) (ct kv.toNatClampNeg) sv iv nv) else
  match txP cd nv.toNatClampNeg with
  | .inl p => .inl (-100 - nI p, 0)
  | .inr q => .inr q
theorem strA_1 {th : Nat → Bool} {so ct : Nat → Nat} {cd : Nat → Int32} {kv sv iv nv : Int32} (h : ¬ isB 0 3 kv) : strA th so ct cd kv sv iv nv = .inl (-1, 0) := if_pos h
theorem strA_2 {th : Nat → Bool} {so ct : Nat → Nat} {cd : Nat → Int32} {kv sv iv nv : Int32} (h : isB 0 3 kv) (h2 : ¬ isB 0 2 sv) : strA th so ct cd kv sv iv nv = .inl (-2, 0) := by
  unfold strA; rw [if_neg (fun q => q h), if_pos h2]
theorem strA_3 {th : Nat → Bool} {so ct : Nat → Nat} {cd : Nat → Int32} {k : Nat} (hk : k < 4) {sv iv nv : Int32} (h : isB 0 3 (nI k)) (h2 : isB 0 2 sv) (h3 : rfS (th k) (so k) (ct k) sv iv nv ≠ 0) : strA th so ct cd (nI k) sv iv nv = .inl (-10 - nI (rfS (th k) (so k) (ct k) sv iv nv), rfS (th k) (so k) (ct k) sv iv nv) := by
  unfold strA; rw [if_neg (fun q => q h), if_neg (fun q => q h2), nI_clamp (by omega), if_pos h3]
theorem strA_4 {th : Nat → Bool} {so ct : Nat → Nat} {cd : Nat → Int32} {k n : Nat} (hk : k < 4) {sv iv : Int32} (hn : n < 2 ^ 31) (h : isB 0 3 (nI k)) (h2 : isB 0 2 sv) (h3 : rfS (th k) (so k) (ct k) sv iv (nI n) = 0) {p : Nat} (h4 : txP cd n = .inl p) : strA th so ct cd (nI k) sv iv (nI n) = .inl (-100 - nI p, 0) := by
  unfold strA; rw [if_neg (fun q => q h), if_neg (fun q => q h2), nI_clamp (show k < 2 ^ 31 by omega), nI_clamp hn, if_neg (fun q => q h3), h4]
theorem strA_5 {th : Nat → Bool} {so ct : Nat → Nat} {cd : Nat → Int32} {k n : Nat} (hk : k < 4) {sv iv : Int32} (hn : n < 2 ^ 31) (h : isB 0 3 (nI k)) (h2 : isB 0 2 sv) (h3 : rfS (th k) (so k) (ct k) sv iv (nI n) = 0) {q : Nat × Nat × Nat × (Nat → Nat → Nat)} (h4 : txP cd n = .inr q) : strA th so ct cd (nI k) sv iv (nI n) = .inr q := by
  unfold strA; rw [if_neg (fun q => q h), if_neg (fun q => q h2), nI_clamp (show k < 2 ^ 31 by omega), nI_clamp hn, if_neg (fun q => q h3), h4]
/-- the cells that streets reads -/
def cdC (I : KI) (kv iv : Int32) : Nat → Int32 := fun j => I (68 + 2 * kv.toNatClampNeg) (iv.toNatClampNeg + j)
theorem cdC_nI (I : KI) {k i : Nat} (hk : k < 4) (hi : i < 2 ^ 31) : cdC I (nI k) (nI i) = fun j => I (68 + 2 * k) (i + j) := by unfold cdC; rw [nI_clamp (show k < 2 ^ 31 by omega), nI_clamp hi]
def wayS (r : Nat) (rd C : Nat → Nat → Nat) (a b w : Nat) : Int32 := if 1048576 ≤ C a b then -9 else if w = 0 then nI (C a b / 16) else if w = 1 then nI (C a b % 16) else nI (wy r rd C a b).length
def wayR (n : Nat) (av bv w : Int32) : Option Int32 := if ¬ (isN n av ∧ isN n bv) then some (-1) else if ¬ isB 0 2 w then some (-2) else none
def alR (n : Nat) (av bv kv : Int32) : Option Int32 := if ¬ (isN n av ∧ isN n bv) then some (-1) else if kv.toInt < 0 then some (-2) else none
def alS (r : Nat) (rd C : Nat → Nat → Nat) (a b : Nat) (kv : Int32) : Int32 := if 1048576 ≤ C a b then -9 else match (wy r rd C a b)[kv.toNatClampNeg]? with | some k => nI k | none => -9

set_option maxHeartbeats 4000000 in
set_option maxRecDepth 100000 in
theorem c_X9_streets {ad : Nat → Nat} {I : KI} {J : KJ} {t : Nat} (ht : Tw t) {th : Nat → Bool} {so ct : Nat → Nat} {ce : Nat → Nat → Int32} (hs : cSh I th so ct ce) (oks : okSh so ct) {kv sv iv nv : Int32} {Q : Int32 → KI → KJ → KR → Prop} (hR : ∀ a f I1, strA th so ct (cdC I kv iv) kv sv iv nv = .inl (a, f) → (∀ x, x ≠ 0 → x ≠ 2 → x ≠ 3 → ¬ (30 - t ≤ x ∧ x ≤ 30 - t + 21) → I1 x = I x) → (∀ j, j ≠ 13 → I1 0 j = I 0 j) → I1 0 13 = nI f → Q a I1 J (rf t)) (hS : ∀ q I1 C0, strA th so ct (cdC I kv iv) kv sv iv nv = .inr q → (∀ x, x ≠ 0 → x ≠ 2 → x ≠ 3 → ¬ (30 - t ≤ x ∧ x ≤ 30 - t + 21) → I1 x = I x) → (∀ j, j ≠ 13 → j ≠ 5 → I1 0 j = I 0 j) → I1 0 13 = 0 → I1 0 5 = 0 → cTw (30 - t) I1 q.1 q.2.1 q.2.2.1 q.2.2.2 → okW q.1 q.2.1 q.2.2.2 C0 → cWy (30 - t) I1 q.1 q.2.1 q.2.2.2 C0 → Q (nI q.2.1) I1 J (rf (30 - t))) : Mi 8 yX9_streets (wm yX9_streets cX9_streets 6 (some .int)) [.ref (ad 0), .int (kv), .int (sv), .int (iv), .int (nv)] ad I J (rf t) Q := by
  refine mi_of (own := RX9) yk_X9_streets rfl (Nat.le_of_ble_eq_true rfl) rfl (fun X hA hnL C K E => ?_)
  subst hA
  refine z_aload_n (n := 1) C 0 dX9_streets_0 rfl rfl ?_
  refine z_iconst (n := 2) (v := 0) C dX9_streets_1 rfl rfl ?_
  refine z_putI (n := 5) C K fF_RX9_78 dX9_streets_2 rfl sh_0 (by decide) ?_
  refine z_iload_n (n := 6) C 1 dX9_streets_5 rfl rfl ?_
  refine z_si_1 (n := 9) (d' := 2) C K dX9_streets_6 rfl yk_X9_isSheet kT_yX9_isSheet kM_RX9_92 (by decide) hR0 rfl ?_
  refine c_X9_isSheet (fun b6 => ?_) (fun b6 => ?_)
  · refine z_ifT_ne (tgt := 14) C (by decide) dX9_streets_9 rfl ?_
    refine z_iload_n (n := 15) C 2 dX9_streets_14 rfl rfl ?_
    refine z_si_1 (n := 18) (d' := 2) C K dX9_streets_15 rfl yk_X9_isSort kT_yX9_isSort kM_RX9_96 (by decide) hR0 rfl ?_
    refine c_X9_isSort (fun b15 => ?_) (fun b15 => ?_)
    · refine z_ifT_ne (tgt := 24) C (by decide) dX9_streets_18 rfl ?_
      obtain ⟨k, hk3, rfl⟩ := isB_of (h := 3) b6
      have hk : k < 4 := by omega
      have hz := hs.fa (j := 13) (v := 0) k hk
      have hok := oks k hk
      refine z_aload_n (n := 25) C 0 dX9_streets_24 rfl rfl ?_
      refine z_aload_n (n := 26) C 0 dX9_streets_25 rfl rfl ?_
      refine z_getR (n := 29) (q := 1) C K fF_RX9_13 dX9_streets_26 rfl rfl sh_0 (by decide) rfl ?_
      refine z_iload_n (n := 30) C 1 dX9_streets_29 rfl rfl ?_
      refine z_aaldN (n := 31) (q := (67 + 2 * k)) (ci := 1) C K k dX9_streets_30 rfl (by decide) sh_1 (by decide) rfl hk (by decide) (rf_sheets hk) ?_
      refine z_iload_n (n := 32) C 2 dX9_streets_31 rfl rfl ?_
      refine z_iload_n (n := 33) C 3 dX9_streets_32 rfl rfl ?_
      refine z_iload (n := 35) C 4 dX9_streets_33 rfl rfl ?_
      refine z_vi_3 (n := 38) (d' := 2) C K dX9_streets_35 rfl yk_X6_rowFault yv_X6_rowFault kM_RX9_99 (by decide) hR0 rfl rfl (sh_sheet hk) (by decide) (lt_sheet hk) ?_
      refine c_X6_rowFault hk hz.1 hz.2.1 hok.2 hz.2.2.1 ?_
      refine z_putI (n := 41) C K fF_RX9_78 dX9_streets_38 rfl sh_0 (by decide) ?_
      refine z_aload_n (n := 42) C 0 dX9_streets_41 rfl rfl ?_
      refine z_getI (n := 45) C K fF_RX9_78 dX9_streets_42 rfl sh_0 (by decide) ?_
      rw [upI_same]
      refine z_if_eq (tgt := 56) (n := 48) C dX9_streets_45 rfl rfl (fun c45 => ?_) (fun c45 => ?_)
      · rw [upI_upI]
        have hr0 : rfS (th k) (so k) (ct k) sv iv nv = 0 := nI_inj (b := 0) c45 (by have := rfS_le (th k) (so k) (ct k) sv iv nv; omega) (by decide)
        rw [hr0]
        obtain ⟨hi0, hn0, hin⟩ := rfS_0 hr0
        obtain ⟨i, hi31, rfl⟩ := i_nat hi0
        obtain ⟨n, hn31, rfl⟩ := i_nat hn0
        rw [nI_toInt hi31, nI_toInt hn31] at hin
        have hto := ht.o.n2
        have htt : 4 ≤ 30 - t ∧ 30 - t ≤ 26 := by have := ht.o; unfold Tw at this; omega
        refine z_aload_n (n := 57) C 0 dX9_streets_56 rfl rfl ?_
        refine z_getR (n := 60) (q := 2) C K fF_RX9_20 dX9_streets_57 rfl rfl sh_0 (by decide) rfl ?_
        refine z_aload_n (n := 61) C 0 dX9_streets_60 rfl rfl ?_
        refine z_getR (n := 64) (q := 1) C K fF_RX9_13 dX9_streets_61 rfl rfl sh_0 (by decide) rfl ?_
        refine z_iload_n (n := 65) C 1 dX9_streets_64 rfl rfl ?_
        refine z_aaldN (n := 66) (q := (67 + 2 * k)) (ci := 1) C K k dX9_streets_65 rfl (by decide) sh_1 (by decide) rfl hk (by decide) (rf_sheets hk) ?_
        refine z_iload_n (n := 67) C 3 dX9_streets_66 rfl rfl ?_
        refine z_iload (n := 69) C 4 dX9_streets_67 rfl rfl ?_
        refine z_aload_n (n := 70) C 0 dX9_streets_69 rfl rfl ?_
        refine z_getR (n := 73) (q := (30 - t)) C K fF_RX9_31 dX9_streets_70 rfl rfl sh_0 (by decide) rfl ?_
        refine z_vi_4 (n := 76) (d' := 7) C K dX9_streets_73 rfl yk_X4_read yv_X4_read kM_RX9_103 (by decide) hR0 rfl rfl sh_2 (by decide) (by decide) ?_
        refine c_X4_read (c := ct k) hk hok.2 (by rw [upI_row _ _ (by omega)]; exact (hs k hk).2.2.1) (by omega) ht.o (fun p I2 hp hf => ?_) (fun q I2 hq hf g0 g1 g2 g3 => ?_)
        all_goals (first | rw [upI_row I _ (show 68 + 2 * k ≠ 0 by omega)] at hp | rw [upI_row I _ (show 68 + 2 * k ≠ 0 by omega)] at hq)
        · refine z_istore (n := 78) (L' := [(5, _), (0, _), (1, _), (2, _), (3, _), (4, _)]) C dX9_streets_76 rfl (by rw [hnL]; decide) rfl ?_
          refine z_iload (n := 80) C 0 dX9_streets_78 rfl rfl ?_
          refine z_iconst (n := 81) (v := (-1)) C dX9_streets_80 rfl rfl ?_
          have hpl := txP_le hp
          have hle := hok.2
          refine z_icmpF_eq (n := 84) (tgt := 90) C (fun e => by rw [fa_eq, nI_toInt (by omega)] at e; simp only [Int32.reduceToInt] at e; omega) dX9_streets_81 rfl rfl ?_
          refine z_bipush (n := 86) (v := (-100)) C dX9_streets_84 rfl rfl ?_
          refine z_iload (n := 88) C 0 dX9_streets_86 rfl rfl ?_
          refine z_isub (n := 89) C dX9_streets_88 rfl ?_
          refine z_iret C E dX9_streets_89 ?_
          exact hR _ _ _ (strA_4 hk hn31 b6 b15 hr0 (cdC_nI I hk hi31 ▸ hp)) (fun x h0 h2 h3 hx => by rw [hf x h2 h3 (by omega), upI_row _ _ h0]) (fun j hj => by rw [hf 0 (by decide) (by decide) (by have := ht.o; unfold Tw at this; omega), upI_k _ _ hj]) (by rw [hf 0 (by decide) (by decide) (by have := ht.o; unfold Tw at this; omega), upI_same])
        · refine z_istore (n := 78) (L' := [(5, _), (0, _), (1, _), (2, _), (3, _), (4, _)]) C dX9_streets_76 rfl (by rw [hnL]; decide) rfl ?_
          refine z_iload (n := 80) C 0 dX9_streets_78 rfl rfl ?_
          refine z_iconst (n := 81) (v := (-1)) C dX9_streets_80 rfl rfl ?_
          refine z_icmpT_eq (tgt := 90) C (by decide) dX9_streets_81 rfl ?_
          refine z_aload_n (n := 91) C 1 dX9_streets_90 rfl rfl ?_
          refine z_vv_0 (n := 94) (d' := 5) C K dX9_streets_91 rfl yk_X9_moveToSpareTown yv_X9_moveToSpareTown kM_RX9_107 (by decide) hR0 rfl rfl sh_0 (by decide) (by decide) ?_
          have hok5 := txP_ok hq
          refine c_X9_moveToSpareTown (s := q.2.2.1) ht ⟨g0, g1, g2, g3⟩ hok5.1 (fun I1 C0 hf1 hc1 h1 => ?_)
          have hcw1 := hf1.tw (s := q.2.2.1) ⟨g0, g1, g2, g3⟩
          refine z_aload_n (n := 95) C 1 dX9_streets_94 rfl rfl ?_
          refine z_getR (n := 98) (q := (30 - t)) C K fF_RX9_27 dX9_streets_95 rfl rfl sh_0 (by decide) rfl ?_
          refine z_getI (n := 101) C K fF_RX9_110 dX9_streets_98 rfl (sh_tw ht.o) (Tw.lt0 ht.o) ?_
          refine z_iret C E dX9_streets_101 ?_
          rw [upI_row _ _ (show (30 - t) ≠ 0 by omega), hcw1.2.1]
          exact hS q _ C0 (strA_5 hk hn31 b6 b15 hr0 (cdC_nI I hk hi31 ▸ hq)) (fun x h0 h2 h3 hx => by rw [upI_row _ _ h0, hf1 x (by omega), hf x h2 h3 (by omega), upI_row _ _ h0]) (fun j h13 h5 => by rw [upI_k _ _ h5, hf1 0 (by omega), hf 0 (by decide) (by decide) (by omega), upI_k _ _ h13]) (by rw [upI_k _ _ (by decide), hf1 0 (by omega), hf 0 (by decide) (by decide) (by omega), upI_same]; rfl) (upI_same _ _ _ _) (hcw1.fr (fun p h1 h2 => upI_row _ _ (by omega))) hc1 (h1.fr hok5.1.1 (fun p h1 h2 => upI_row _ _ (by omega)))
      · refine z_bipush (n := 50) (v := (-10)) C dX9_streets_48 rfl rfl ?_
        refine z_aload_n (n := 51) C 0 dX9_streets_50 rfl rfl ?_
        refine z_getI (n := 54) C K fF_RX9_78 dX9_streets_51 rfl sh_0 (by decide) ?_
        refine z_isub (n := 55) C dX9_streets_54 rfl ?_
        refine z_iret C E dX9_streets_55 ?_
        rw [upI_upI, upI_same]
        exact hR _ _ _ (strA_3 hk b6 b15 (fun e => c45 (by rw [e]; rfl))) (fun x h0 _ _ _ => upI_row _ _ h0) (fun j hj => upI_k _ _ hj) (upI_same _ _ _ _)
    · refine z_ifF_ne (n := 21) (tgt := 24) C (by decide) dX9_streets_18 rfl rfl ?_
      refine z_bipush (n := 23) (v := (-2)) C dX9_streets_21 rfl rfl ?_
      refine z_iret C E dX9_streets_23 ?_
      exact hR _ _ _ (strA_2 b6 b15) (fun x h0 _ _ _ => upI_row _ _ h0) (fun j hj => upI_k _ _ hj) (upI_same _ _ _ _)
  · refine z_ifF_ne (n := 12) (tgt := 14) C (by decide) dX9_streets_9 rfl rfl ?_
    refine z_iconst (n := 13) (v := (-1)) C dX9_streets_12 rfl rfl ?_
    refine z_iret C E dX9_streets_13 ?_
    exact hR _ _ _ (strA_1 b6) (fun x h0 _ _ _ => upI_row _ _ h0) (fun j hj => upI_k _ _ hj) (upI_same _ _ _ _)
set_option maxHeartbeats 4000000 in
set_option maxRecDepth 100000 in
theorem l_X7_roadsOfWay {X : KX} {J : KJ} {t : Nat} (C : Cx X RX7 cX7_roadsOfWay 2) (K : Kx X) (hnL : xnL X = 6) {Q : Int32 → KI → KJ → KR → Prop} (E : Ei X .int Q) {I : KI} (ht : Tw t) {n r s : Nat} {rd : Nat → Nat → Nat} (hw : cTw t I n r s rd) (ok : okTw n r s rd) {C0 : Nat → Nat → Nat} (hc : okW n r rd C0) (hW : cWy t I n r rd C0) {a b : Nat} (hb : b < n) (hQ : Q (nI (wy r rd C0 a b).length) I J (rf t)) : ∀ (f : Nat) (m x : Nat), 7 - m < f → (x < n ∧ C0 x b < 1048576 ∧ rnk C0 n x b + m ≤ 6 ∧ (wy r rd C0 a b).length = m + (wy r rd C0 x b).length) → Z X 0 0 (V X I J (rf t)) 8 [(5, .int (nI m)), (4, .int (nI m)), (3, .int (nI x)), (0, .ref (xad X t)), (1, .int (nI a)), (2, .int (nI b))] [] := by
  intro f
  induction f with
  | zero => intro m x h; omega
  | succ f ih =>
    intro m x hf hi
    obtain ⟨hx, hlt, hm, hlen⟩ := hi
    have hn7 := ok.1
    have hrd : okRd n r rd := ok.2.2.2
    have hrk := rnk_lt (C := C0) (b := b) hx
    refine z_iload (n := 10) C 0 dX7_roadsOfWay_8 rfl rfl ?_
    refine z_bipush (n := 12) (v := 7) C dX7_roadsOfWay_10 rfl rfl ?_
    refine z_icmpF_ge (n := 15) (tgt := 51) C (fun e => by rw [fa_le, nI_toInt (by omega)] at e; simp only [Int32.reduceToInt] at e; omega) dX7_roadsOfWay_12 rfl rfl ?_
    refine z_aload_n (n := 16) C 3 dX7_roadsOfWay_15 rfl rfl ?_
    refine z_getR (n := 19) (q := (t + 14)) C K fF_RX7_42 dX7_roadsOfWay_16 rfl rfl (sh_tw ht) (Tw.lt0 ht) (rf_tw9 ht) ?_
    refine z_iload_n (n := 20) C 2 dX7_roadsOfWay_19 rfl rfl ?_
    refine z_aaldN (n := 21) (q := (t + 15 + x)) (ci := 2) C K x dX7_roadsOfWay_20 rfl (by decide) (sh_tw14 ht) (Tw.lt ht (by decide)) rfl (by omega) (by decide) (rf_tr15 ht (by omega)) ?_
    refine z_iload_n (n := 22) C 5 dX7_roadsOfWay_21 rfl rfl ?_
    refine z_ialdN (n := 23) C K b dX7_roadsOfWay_22 rfl (sh_tr15 ht (by omega)) (Tw.ltr ht (by decide) (by omega)) rfl (by omega) (by decide) ?_
    rw [hW.2 x b hx hb]
    refine z_bipush (n := 25) (v := (-9)) C dX7_roadsOfWay_23 rfl rfl ?_
    refine z_icmp_eq (tgt := 51) (n := 28) C dX7_roadsOfWay_25 rfl rfl (fun c25 => ?_) (fun c25 => ?_)
    · have e : x = b := by
        by_cases e : x = b
        · exact e
        · exfalso
          obtain ⟨q1, -⟩ := hc.next hrd hx hb e hlt
          have hr12 := ok.2.1
          unfold nxI at c25
          rw [if_neg (by omega), fa_eq, nI_toInt (by omega)] at c25
          simp only [Int32.reduceToInt] at c25
          omega
      subst e
      rw [wy_self] at hlen
      rw [hlen] at hQ
      refine z_iload (n := 53) C 1 dX7_roadsOfWay_51 rfl rfl ?_
      refine z_iret C E dX7_roadsOfWay_53 ?_
      exact hQ
    · have hne : x ≠ b := fun e => c25 (by unfold nxI; rw [if_pos (Or.inl e)])
      obtain ⟨q1, q2, q3, q4, q5, q6⟩ := hc.next hrd hx hb hne hlt
      have enx : nxI r rd C0 x b = nI (nxS rd C0 x b r) := by unfold nxI; rw [if_neg (by omega)]
      refine z_aload_n (n := 29) C 3 dX7_roadsOfWay_28 rfl rfl ?_
      refine z_aload_n (n := 30) C 3 dX7_roadsOfWay_29 rfl rfl ?_
      refine z_getR (n := 33) (q := (t + 14)) C K fF_RX7_42 dX7_roadsOfWay_30 rfl rfl (sh_tw ht) (Tw.lt0 ht) (rf_tw9 ht) ?_
      refine z_iload_n (n := 34) C 2 dX7_roadsOfWay_33 rfl rfl ?_
      refine z_aaldN (n := 35) (q := (t + 15 + x)) (ci := 2) C K x dX7_roadsOfWay_34 rfl (by decide) (sh_tw14 ht) (Tw.lt ht (by decide)) rfl (by omega) (by decide) (rf_tr15 ht (by omega)) ?_
      refine z_iload_n (n := 36) C 5 dX7_roadsOfWay_35 rfl rfl ?_
      refine z_ialdN (n := 37) C K b dX7_roadsOfWay_36 rfl (sh_tr15 ht (by omega)) (Tw.ltr ht (by decide) (by omega)) rfl (by omega) (by decide) ?_
      rw [hW.2 x b hx hb, enx]
      refine z_iload_n (n := 38) C 2 dX7_roadsOfWay_37 rfl rfl ?_
      refine z_vi_2 (n := 41) (d' := 1) C K dX7_roadsOfWay_38 rfl yk_X7_otherEnd yv_X7_otherEnd kM_RX7_70 (by decide) hR0 rfl rfl (sh_tw ht) (by decide) (Tw.lt0 ht) ?_
      refine c_X7_otherEnd ht hw ok q1 (by omega) ?_
      refine z_istore_n (n := 42) (L' := [(3, _), (5, _), (4, _), (0, _), (1, _), (2, _)]) C dX7_roadsOfWay_41 rfl (by rw [hnL]; decide) rfl ?_
      refine z_iincG (n := 45) (c := 1) (L' := [(4, _), (3, _), (5, _), (0, _), (1, _), (2, _)]) C 2 dX7_roadsOfWay_42 rfl rfl rfl (by rw [hnL]; decide) rfl ?_
      refine z_iincG (n := 48) (c := 1) (L' := [(5, _), (4, _), (3, _), (0, _), (1, _), (2, _)]) C 2 dX7_roadsOfWay_45 rfl rfl rfl (by rw [hnL]; decide) rfl ?_
      refine z_goto (n := 8) C dX7_roadsOfWay_48 rfl ?_
      rw [nI_1]
      exact ih (m + 1) _ (by omega) ⟨q4, q5, by omega, by rw [hlen, wy_step hn7 hrd hc hx hb hne hlt, List.length_cons]; omega⟩
set_option maxHeartbeats 4000000 in
set_option maxRecDepth 100000 in
theorem c_X7_roadsOfWay {ad : Nat → Nat} {I : KI} {J : KJ} {t : Nat} (ht : Tw t) {n r s : Nat} {rd : Nat → Nat → Nat} (hw : cTw t I n r s rd) (ok : okTw n r s rd) {C0 : Nat → Nat → Nat} (hc : okW n r rd C0) (hW : cWy t I n r rd C0) {a b : Nat} (ha : a < n) (hb : b < n) (hlt : C0 a b < 1048576) {Q : Int32 → KI → KJ → KR → Prop} (hQ : Q (nI (wy r rd C0 a b).length) I J (rf t)) : Mi 2 yX7_roadsOfWay (wm yX7_roadsOfWay cX7_roadsOfWay 6 (some .int)) [.ref (ad t), .int (nI a), .int (nI b)] ad I J (rf t) Q := by
  refine mi_of (own := RX7) yk_X7_roadsOfWay rfl (Nat.le_of_ble_eq_true rfl) rfl (fun X hA hnL C K E => ?_)
  subst hA
  refine z_iload_n (n := 1) C 1 dX7_roadsOfWay_0 rfl rfl ?_
  refine z_istore_n (n := 2) (L' := [(3, _), (0, _), (1, _), (2, _)]) C dX7_roadsOfWay_1 rfl (by rw [hnL]; decide) rfl ?_
  refine z_iconst (n := 3) (v := 0) C dX7_roadsOfWay_2 rfl rfl ?_
  refine z_istore (n := 5) (L' := [(4, _), (3, _), (0, _), (1, _), (2, _)]) C dX7_roadsOfWay_3 rfl (by rw [hnL]; decide) rfl ?_
  refine z_iconst (n := 6) (v := 0) C dX7_roadsOfWay_5 rfl rfl ?_
  refine z_istore (n := 8) (L' := [(5, _), (4, _), (3, _), (0, _), (1, _), (2, _)]) C dX7_roadsOfWay_6 rfl (by rw [hnL]; decide) rfl ?_
  have h1 := rnk_lt (C := C0) (b := b) ha
  have h2 := ok.1
  exact l_X7_roadsOfWay C K hnL E ht hw ok hc hW hb hQ 8 0 a (by omega) ⟨ha, hlt, by omega, by omega⟩
set_option maxHeartbeats 4000000 in
set_option maxRecDepth 100000 in
theorem l_X7_roadOfWay {X : KX} {J : KJ} {t : Nat} (C : Cx X RX7 cX7_roadOfWay 2) (K : Kx X) (hnL : xnL X = 6) {Q : Int32 → KI → KJ → KR → Prop} (E : Ei X .int Q) {I : KI} (ht : Tw t) {n r s : Nat} {rd : Nat → Nat → Nat} (hw : cTw t I n r s rd) (ok : okTw n r s rd) {C0 : Nat → Nat → Nat} (hc : okW n r rd C0) (hW : cWy t I n r rd C0) {a b k : Nat} (hb : b < n) (hk : k < 2 ^ 31) (hQ : Q (match (wy r rd C0 a b)[k]? with | some k => nI k | none => -9) I J (rf t)) : ∀ (f : Nat) (m x : Nat), 7 - m < f → (x < n ∧ C0 x b < 1048576 ∧ rnk C0 n x b + m ≤ 6 ∧ m ≤ k ∧ (wy r rd C0 a b)[k]? = (wy r rd C0 x b)[k - m]?) → Z X 0 0 (V X I J (rf t)) 6 [(5, .int (nI m)), (4, .int (nI x)), (0, .ref (xad X t)), (1, .int (nI a)), (2, .int (nI b)), (3, .int (nI k))] [] := by
  intro f
  induction f with
  | zero => intro m x h; omega
  | succ f ih =>
    intro m x hf hi
    obtain ⟨hx, hlt, hm, hmk, hget⟩ := hi
    have hn7 := ok.1
    have hrd : okRd n r rd := ok.2.2.2
    have hrk := rnk_lt (C := C0) (b := b) hx
    refine z_iload (n := 8) C 0 dX7_roadOfWay_6 rfl rfl ?_
    refine z_bipush (n := 10) (v := 7) C dX7_roadOfWay_8 rfl rfl ?_
    refine z_icmpF_ge (n := 13) (tgt := 66) C (fun e => by rw [fa_le, nI_toInt (by omega)] at e; simp only [Int32.reduceToInt] at e; omega) dX7_roadOfWay_10 rfl rfl ?_
    refine z_aload_n (n := 14) C 2 dX7_roadOfWay_13 rfl rfl ?_
    refine z_getR (n := 17) (q := (t + 14)) C K fF_RX7_42 dX7_roadOfWay_14 rfl rfl (sh_tw ht) (Tw.lt0 ht) (rf_tw9 ht) ?_
    refine z_iload (n := 19) C 1 dX7_roadOfWay_17 rfl rfl ?_
    refine z_aaldN (n := 20) (q := (t + 15 + x)) (ci := 2) C K x dX7_roadOfWay_19 rfl (by decide) (sh_tw14 ht) (Tw.lt ht (by decide)) rfl (by omega) (by decide) (rf_tr15 ht (by omega)) ?_
    refine z_iload_n (n := 21) C 4 dX7_roadOfWay_20 rfl rfl ?_
    refine z_ialdN (n := 22) C K b dX7_roadOfWay_21 rfl (sh_tr15 ht (by omega)) (Tw.ltr ht (by decide) (by omega)) rfl (by omega) (by decide) ?_
    rw [hW.2 x b hx hb]
    refine z_bipush (n := 24) (v := (-9)) C dX7_roadOfWay_22 rfl rfl ?_
    refine z_icmp_eq (tgt := 66) (n := 27) C dX7_roadOfWay_24 rfl rfl (fun c24 => ?_) (fun c24 => ?_)
    · refine z_bipush (n := 68) (v := (-9)) C dX7_roadOfWay_66 rfl rfl ?_
      refine z_iret C E dX7_roadOfWay_68 ?_
      have e : x = b := by
        by_cases e : x = b
        · exact e
        · exfalso
          obtain ⟨q1, -⟩ := hc.next hrd hx hb e hlt
          have hr12 := ok.2.1
          unfold nxI at c24
          rw [if_neg (by omega), fa_eq, nI_toInt (by omega)] at c24
          simp only [Int32.reduceToInt] at c24
          omega
      subst e
      rw [wy_self] at hget
      rw [hget] at hQ
      exact hQ
    · have hne : x ≠ b := fun e => c24 (by unfold nxI; rw [if_pos (Or.inl e)])
      obtain ⟨q1, q2, q3, q4, q5, q6⟩ := hc.next hrd hx hb hne hlt
      have enx : nxI r rd C0 x b = nI (nxS rd C0 x b r) := by unfold nxI; rw [if_neg (by omega)]
      rw [wy_step hn7 hrd hc hx hb hne hlt] at hget
      refine z_iload (n := 29) C 0 dX7_roadOfWay_27 rfl rfl ?_
      refine z_iload_n (n := 30) C 5 dX7_roadOfWay_29 rfl rfl ?_
      refine z_icmp_ne (tgt := 43) (n := 33) C dX7_roadOfWay_30 rfl rfl (fun c30 => ?_) (fun c30 => ?_)
      · refine z_aload_n (n := 44) C 2 dX7_roadOfWay_43 rfl rfl ?_
        refine z_aload_n (n := 45) C 2 dX7_roadOfWay_44 rfl rfl ?_
        refine z_getR (n := 48) (q := (t + 14)) C K fF_RX7_42 dX7_roadOfWay_45 rfl rfl (sh_tw ht) (Tw.lt0 ht) (rf_tw9 ht) ?_
        refine z_iload (n := 50) C 1 dX7_roadOfWay_48 rfl rfl ?_
        refine z_aaldN (n := 51) (q := (t + 15 + x)) (ci := 2) C K x dX7_roadOfWay_50 rfl (by decide) (sh_tw14 ht) (Tw.lt ht (by decide)) rfl (by omega) (by decide) (rf_tr15 ht (by omega)) ?_
        refine z_iload_n (n := 52) C 4 dX7_roadOfWay_51 rfl rfl ?_
        refine z_ialdN (n := 53) C K b dX7_roadOfWay_52 rfl (sh_tr15 ht (by omega)) (Tw.ltr ht (by decide) (by omega)) rfl (by omega) (by decide) ?_
        rw [hW.2 x b hx hb, enx]
        refine z_iload (n := 55) C 1 dX7_roadOfWay_53 rfl rfl ?_
        refine z_vi_2 (n := 58) (d' := 1) C K dX7_roadOfWay_55 rfl yk_X7_otherEnd yv_X7_otherEnd kM_RX7_70 (by decide) hR0 rfl rfl (sh_tw ht) (by decide) (Tw.lt0 ht) ?_
        refine c_X7_otherEnd ht hw ok q1 (by omega) ?_
        refine z_istore (n := 60) (L' := [(4, _), (5, _), (0, _), (1, _), (2, _), (3, _)]) C dX7_roadOfWay_58 rfl (by rw [hnL]; decide) rfl ?_
        refine z_iincG (n := 63) (c := 1) (L' := [(5, _), (4, _), (0, _), (1, _), (2, _), (3, _)]) C 1 dX7_roadOfWay_60 rfl rfl rfl (by rw [hnL]; decide) rfl ?_
        refine z_goto (n := 6) C dX7_roadOfWay_63 rfl ?_
        have hne2 : m ≠ k := fun e => c30 (by rw [e])
        rw [nI_1]
        exact ih (m + 1) _ (by omega) ⟨q4, q5, by omega, by omega, by rw [hget, show k - m = (k - (m + 1)) + 1 by omega, List.getElem?_cons_succ]⟩
      · refine z_aload_n (n := 34) C 2 dX7_roadOfWay_33 rfl rfl ?_
        refine z_getR (n := 37) (q := (t + 14)) C K fF_RX7_42 dX7_roadOfWay_34 rfl rfl (sh_tw ht) (Tw.lt0 ht) (rf_tw9 ht) ?_
        refine z_iload (n := 39) C 1 dX7_roadOfWay_37 rfl rfl ?_
        refine z_aaldN (n := 40) (q := (t + 15 + x)) (ci := 2) C K x dX7_roadOfWay_39 rfl (by decide) (sh_tw14 ht) (Tw.lt ht (by decide)) rfl (by omega) (by decide) (rf_tr15 ht (by omega)) ?_
        refine z_iload_n (n := 41) C 4 dX7_roadOfWay_40 rfl rfl ?_
        refine z_ialdN (n := 42) C K b dX7_roadOfWay_41 rfl (sh_tr15 ht (by omega)) (Tw.ltr ht (by decide) (by omega)) rfl (by omega) (by decide) ?_
        refine z_iret C E dX7_roadOfWay_42 ?_
        have e : m = k := nI_inj c30 (by omega) hk
        subst e
        rw [hget, Nat.sub_self] at hQ
        rw [hW.2 x b hx hb, enx]
        exact hQ
set_option maxHeartbeats 4000000 in
set_option maxRecDepth 100000 in
theorem c_X7_roadOfWay {ad : Nat → Nat} {I : KI} {J : KJ} {t : Nat} (ht : Tw t) {n r s : Nat} {rd : Nat → Nat → Nat} (hw : cTw t I n r s rd) (ok : okTw n r s rd) {C0 : Nat → Nat → Nat} (hc : okW n r rd C0) (hW : cWy t I n r rd C0) {a b : Nat} (ha : a < n) (hb : b < n) (hlt : C0 a b < 1048576) {k : Nat} (hk : k < 2 ^ 31) {Q : Int32 → KI → KJ → KR → Prop} (hQ : Q (match (wy r rd C0 a b)[k]? with | some k => nI k | none => -9) I J (rf t)) : Mi 2 yX7_roadOfWay (wm yX7_roadOfWay cX7_roadOfWay 6 (some .int)) [.ref (ad t), .int (nI a), .int (nI b), .int (nI k)] ad I J (rf t) Q := by
  refine mi_of (own := RX7) yk_X7_roadOfWay rfl (Nat.le_of_ble_eq_true rfl) rfl (fun X hA hnL C K E => ?_)
  subst hA
  refine z_iload_n (n := 1) C 1 dX7_roadOfWay_0 rfl rfl ?_
  refine z_istore (n := 3) (L' := [(4, _), (0, _), (1, _), (2, _), (3, _)]) C dX7_roadOfWay_1 rfl (by rw [hnL]; decide) rfl ?_
  refine z_iconst (n := 4) (v := 0) C dX7_roadOfWay_3 rfl rfl ?_
  refine z_istore (n := 6) (L' := [(5, _), (4, _), (0, _), (1, _), (2, _), (3, _)]) C dX7_roadOfWay_4 rfl (by rw [hnL]; decide) rfl ?_
  have h1 := rnk_lt (C := C0) (b := b) ha
  have h2 := ok.1
  exact l_X7_roadOfWay C K hnL E ht hw ok hc hW hb hk hQ 8 0 a (by omega) ⟨ha, hlt, by omega, by omega, by rw [Nat.sub_zero]⟩
