set_option maxHeartbeats 4000000 in
set_option maxRecDepth 100000 in
theorem c_X1_swap {ad : Nat → Nat} {I : KI} {J : KJ} {t : Nat} {k o : Nat} (hk : k < 7) (ho : o < 7) {Q : KI → KJ → KR → Prop} (hQ : Q (upI (upI I 51 k (I 51 o)) 51 o (I 51 k)) J (rf t)) : Mv 1 yX1_swap (wm yX1_swap cX1_swap 4 none) [.ref (ad 50), .int (nI k), .int (nI o)] ad I J (rf t) Q := by
  refine mv_of (own := RX1) yk_X1_swap rfl (Nat.le_of_ble_eq_true rfl) rfl (fun X hA hnL C K E => ?_)
  subst hA
  refine z_aload_n (n := 1) C 0 dX1_swap_0 rfl rfl ?_
  refine z_getR (n := 4) (q := 51) C K fF_RX1_15 dX1_swap_1 rfl rfl sh_50 (by decide) rfl ?_
  refine z_iload_n (n := 5) C 1 dX1_swap_4 rfl rfl ?_
  refine z_ialdN (n := 6) C K k dX1_swap_5 rfl sh_51 (by decide) rfl hk (by decide) ?_
  refine z_istore_n (n := 7) (L' := [(3, _), (0, _), (1, _), (2, _)]) C dX1_swap_6 rfl (by rw [hnL]; decide) rfl ?_
  refine z_aload_n (n := 8) C 1 dX1_swap_7 rfl rfl ?_
  refine z_getR (n := 11) (q := 51) C K fF_RX1_15 dX1_swap_8 rfl rfl sh_50 (by decide) rfl ?_
  refine z_iload_n (n := 12) C 2 dX1_swap_11 rfl rfl ?_
  refine z_aload_n (n := 13) C 1 dX1_swap_12 rfl rfl ?_
  refine z_getR (n := 16) (q := 51) C K fF_RX1_15 dX1_swap_13 rfl rfl sh_50 (by decide) rfl ?_
  refine z_iload_n (n := 17) C 3 dX1_swap_16 rfl rfl ?_
  refine z_ialdN (n := 18) C K o dX1_swap_17 rfl sh_51 (by decide) rfl ho (by decide) ?_
  refine z_iastN (n := 19) C K k dX1_swap_18 rfl sh_51 (by decide) rfl hk (by decide) ?_
  refine z_aload_n (n := 20) C 1 dX1_swap_19 rfl rfl ?_
  refine z_getR (n := 23) (q := 51) C K fF_RX1_15 dX1_swap_20 rfl rfl sh_50 (by decide) rfl ?_
  refine z_iload_n (n := 24) C 3 dX1_swap_23 rfl rfl ?_
  refine z_iload_n (n := 25) C 0 dX1_swap_24 rfl rfl ?_
  refine z_iastN (n := 26) C K o dX1_swap_25 rfl sh_51 (by decide) rfl ho (by decide) ?_
  refine z_vret C E dX1_swap_26 ?_
  exact hQ
theorem nI_m1 (D : Nat) (h : D < 2 ^ 31) : (nI D + (-1)).toInt = (D : Int) - 1 := by
  have em : (-1 : Int32).toInt = -1 := by decide
  rw [fb_addI (by rw [nI_toInt (by omega), em]; omega) (by rw [nI_toInt (by omega), em]; omega), nI_toInt (by omega), em]
  omega
theorem nI_m2 (L : Nat) (h : 1 ≤ L) (h2 : L < 2 ^ 31) : nI L - 2 = nI (L - 1) + (-1) := by
  apply i_ext
  rw [nI_m1 _ (by omega), fb_subI (by rw [nI_toInt (by omega)]; simp only [Int32.reduceToInt]; omega) (by rw [nI_toInt (by omega)]; simp only [Int32.reduceToInt]; omega), nI_toInt (by omega)]
  simp only [Int32.reduceToInt]
  omega
def nxi (d k L i : Nat) : Nat := if i ≤ d then (if i = d then k else i) else (if L + d - i = k then d else L + d - i)
theorem nxo_i (o : Nat → Nat) (d k L i : Nat) : nxo o d k L i = o (nxi d k L i) := by
  unfold nxo nxi
  split
  · split <;> rfl
  · split <;> rfl
theorem sw_lt {L k d x : Nat} (h1 : k < L) (h2 : d < L) (h3 : x < L) : sw k d x < L := by
  unfold sw
  by_cases e : x = d
  · rw [if_pos e]; exact h1
  · rw [if_neg e]
    by_cases e2 : x = k
    · rw [if_pos e2]; exact h2
    · rw [if_neg e2]; exact h3
def nxB : Bool := (List.range 5).all (fun L => (List.range 4).all (fun d => (List.range 4).all (fun k => (List.range 4).all (fun i => !(decide (d < k) && decide (k < L) && decide (i < L)) || ((!(decide (L - 1 ≤ d + 1)) || sw k d i == nxi d k L i) && (!(decide (d + 1 < L - 1)) || sw k d (sw (d + 1) (L - 1) i) == nxi d k L i))))))
theorem nxB_t : nxB = true := by decide +kernel
theorem nx_AB (L : Nat) (hL : L < 5) (d : Nat) (hd : d < 4) (k : Nat) (hk : k < 4) (i : Nat) (hi : i < 4) (h1 : d < k) (h2 : k < L) (h3 : i < L) : (L - 1 ≤ d + 1 → sw k d i = nxi d k L i) ∧ (d + 1 < L - 1 → sw k d (sw (d + 1) (L - 1) i) = nxi d k L i) := by
  have h := List.all_eq_true.mp (List.all_eq_true.mp (List.all_eq_true.mp (List.all_eq_true.mp nxB_t L (List.mem_range.mpr hL)) d (List.mem_range.mpr hd)) k (List.mem_range.mpr hk)) i (List.mem_range.mpr hi)
  simp only [decide_eq_true h1, decide_eq_true h2, decide_eq_true h3, Bool.and_true, Bool.not_true, Bool.false_or, Bool.and_eq_true, Bool.or_eq_true, Bool.not_eq_true', decide_eq_false_iff_not, beq_iff_eq] at h
  exact ⟨fun q => h.1.resolve_left (fun e => e q), fun q => h.2.resolve_left (fun e => e q)⟩
theorem nI_s1 (L : Nat) (h : 1 ≤ L) : nI L - 1 = nI (L - 1) := by
  obtain ⟨k, rfl⟩ : ∃ k, L = k + 1 := ⟨L - 1, by omega⟩
  rw [sub_one, nI_prd]; rfl
set_option maxHeartbeats 4000000 in
set_option maxRecDepth 100000 in
theorem lb_X1_toNextOrder {X : KX} {J : KJ} {t : Nat} (C : Cx X RX1 cX1_toNextOrder 2) (K : Kx X) (hnL : xnL X = 4) {Q : Int32 → KI → KJ → KR → Prop} (E : Ei X .boolean Q) {I : KI} {L : Nat} {o : Nat → Nat} (hN : I 50 0 = nI L) (hL1 : 1 ≤ L) (hL : L ≤ 4) (ho : ∀ i, i < L → I 51 i = nI (o i)) (hb : ∀ i, i < L → o i < 7) (h1 : ∀ d k I', d + 1 < L → o d < o (d + 1) → (∀ i, d < i → i + 1 < L → o (i + 1) ≤ o i) → d < k → k < L → o d < o k → (∀ i, k < i → i < L → o i ≤ o d) → (∀ q, q ≠ 51 → I' q = I q) → (∀ i, i < L → I' 51 i = nI (nxo o d k L i)) → Q 1 I' J (rf t)) {d : Nat} (hd : d + 1 < L) (hod : o d < o (d + 1)) (hno : ∀ i, d < i → i + 1 < L → o (i + 1) ≤ o i) : ∀ (f k : Nat), k < f → (d < k ∧ k < L ∧ ∀ i, k < i → i < L → o i ≤ o d) → Z X 0 0 (V X I J (rf t)) 50 [(2, .int (nI k)), (1, .int (nI d)), (0, .ref (xad X 50))] [] := by
  intro f
  induction f with
  | zero => intro k h; omega
  | succ f ih =>
    intro k hf hi
    obtain ⟨hdk, hkL, hnk⟩ := hi
    refine z_iload_n (n := 51) C 0 dX1_toNextOrder_50 rfl rfl ?_
    refine z_iload_n (n := 52) C 1 dX1_toNextOrder_51 rfl rfl ?_
    refine z_icmpF_le (n := 55) (tgt := 85) C (by rw [fa_le, nI_toInt (by omega), nI_toInt (by omega)]; omega) dX1_toNextOrder_52 rfl rfl ?_
    refine z_aload_n (n := 56) C 2 dX1_toNextOrder_55 rfl rfl ?_
    refine z_getR (n := 59) (q := 51) C K fF_RX1_15 dX1_toNextOrder_56 rfl rfl sh_50 (by decide) rfl ?_
    refine z_iload_n (n := 60) C 0 dX1_toNextOrder_59 rfl rfl ?_
    refine z_ialdN (n := 61) C K k dX1_toNextOrder_60 rfl sh_51 (by decide) rfl (by omega) (by decide) ?_
    refine z_aload_n (n := 62) C 2 dX1_toNextOrder_61 rfl rfl ?_
    refine z_getR (n := 65) (q := 51) C K fF_RX1_15 dX1_toNextOrder_62 rfl rfl sh_50 (by decide) rfl ?_
    refine z_iload_n (n := 66) C 1 dX1_toNextOrder_65 rfl rfl ?_
    refine z_ialdN (n := 67) C K d dX1_toNextOrder_66 rfl sh_51 (by decide) rfl (by omega) (by decide) ?_
    rw [ho k hkL, ho d (by omega)]
    refine z_icmp_le (tgt := 79) (n := 70) C dX1_toNextOrder_67 rfl rfl (fun c67 => ?_) (fun c67 => ?_)
    · rw [fa_le, nI_toInt (by have := hb k (by omega); omega), nI_toInt (by have := hb d (by omega); omega)] at c67
      obtain ⟨k, rfl⟩ : ∃ k2, k = k2 + 1 := ⟨k - 1, by omega⟩
      refine z_iincG (n := 82) (c := (-1)) (L' := [(2, _), (1, _), (0, _)]) C 0 dX1_toNextOrder_79 rfl rfl rfl (by rw [hnL]; decide) rfl ?_
      refine z_goto (n := 50) C dX1_toNextOrder_82 rfl ?_
      rw [nI_prd]
      exact ih k (by omega) ⟨by
        by_cases e : k = d
        · subst e; omega
        · omega, by omega, fun i hi hi2 => by
        by_cases e : i = k + 1
        · subst e; exact (by omega)
        · exact hnk i (by omega) hi2⟩
    · rw [fa_le, nI_toInt (by have := hb k (by omega); omega), nI_toInt (by have := hb d (by omega); omega)] at c67
      have c67 : o d < o k := by omega
      refine z_aload_n (n := 71) C 2 dX1_toNextOrder_70 rfl rfl ?_
      refine z_iload_n (n := 72) C 0 dX1_toNextOrder_71 rfl rfl ?_
      refine z_iload_n (n := 73) C 1 dX1_toNextOrder_72 rfl rfl ?_
      refine z_vv_2 (n := 76) (d' := 1) C K dX1_toNextOrder_73 rfl yk_X1_swap yv_X1_swap kM_RX1_54 (by decide) hR0 rfl rfl sh_50 (by decide) (by decide) ?_
      refine c_X1_swap (by omega) (by omega) ?_
      refine z_goto (n := 85) C dX1_toNextOrder_76 rfl ?_
      refine z_iload_n (n := 86) C 1 dX1_toNextOrder_85 rfl rfl ?_
      refine z_iconst (n := 87) (v := 1) C dX1_toNextOrder_86 rfl rfl ?_
      refine z_iadd (n := 88) C dX1_toNextOrder_87 rfl ?_
      rw [nI_1]
      refine z_istore_n (n := 89) (L' := [(2, _), (1, _), (0, _)]) C dX1_toNextOrder_88 rfl (by rw [hnL]; decide) rfl ?_
      refine z_aload_n (n := 90) C 2 dX1_toNextOrder_89 rfl rfl ?_
      refine z_getI (n := 93) C K fF_RX1_9 dX1_toNextOrder_90 rfl sh_50 (by decide) ?_
      rw [upI_row _ _ (by decide), upI_row _ _ (by decide), hN]
      refine z_iconst (n := 94) (v := 1) C dX1_toNextOrder_93 rfl rfl ?_
      refine z_isub (n := 95) C dX1_toNextOrder_94 rfl ?_
      rw [nI_s1 L hL1]
      refine z_istore_n (n := 96) (L' := [(3, _), (2, _), (1, _), (0, _)]) C dX1_toNextOrder_95 rfl (by rw [hnL]; decide) rfl ?_
      refine z_iload_n (n := 97) C 1 dX1_toNextOrder_96 rfl rfl ?_
      refine z_iload_n (n := 98) C 0 dX1_toNextOrder_97 rfl rfl ?_
      refine z_icmp_ge (tgt := 116) (n := 101) C dX1_toNextOrder_98 rfl rfl (fun c98 => ?_) (fun c98 => ?_)
      · refine z_iconst (n := 117) (v := 1) C dX1_toNextOrder_116 rfl rfl ?_
        refine z_zret C E dX1_toNextOrder_117 (by decide) ?_
        rw [fa_le, nI_toInt (by omega), nI_toInt (by omega)] at c98
        refine h1 d k _ (by omega) hod hno hdk hkL c67 hnk (fun q hq => by rw [upI_row _ _ hq, upI_row _ _ hq]) (fun i hi => ?_)
        rw [nxo_i, upI_swap, ho _ (sw_lt hkL (by omega) hi)]
        congr 2
        exact (nx_AB L (by omega) d (by omega) k (by omega) i (by omega) hdk hkL hi).1 (by omega)
      · refine z_aload_n (n := 102) C 3 dX1_toNextOrder_101 rfl rfl ?_
        refine z_iload_n (n := 103) C 1 dX1_toNextOrder_102 rfl rfl ?_
        refine z_iload_n (n := 104) C 0 dX1_toNextOrder_103 rfl rfl ?_
        rw [fa_le, nI_toInt (by omega), nI_toInt (by omega)] at c98
        refine z_vv_2 (n := 107) (d' := 1) C K dX1_toNextOrder_104 rfl yk_X1_swap yv_X1_swap kM_RX1_54 (by decide) hR0 rfl rfl sh_50 (by decide) (by decide) ?_
        refine c_X1_swap (k := d + 1) (o := L - 1) (by omega) (by omega) ?_
        refine z_iincG (n := 110) (c := 1) (L' := [(2, _), (3, _), (1, _), (0, _)]) C 1 dX1_toNextOrder_107 rfl rfl rfl (by rw [hnL]; decide) rfl ?_
        rw [nI_1]
        refine z_iincG (n := 113) (c := (-1)) (L' := [(3, _), (2, _), (1, _), (0, _)]) C 1 dX1_toNextOrder_110 rfl rfl rfl (by rw [hnL]; decide) rfl ?_
        rw [show nI (L - 1) + (-1) = nI (L - 2) from by obtain ⟨k2, e2⟩ : ∃ k2, L - 1 = k2 + 1 := ⟨L - 2, by omega⟩; rw [e2, nI_prd]; congr 1; omega]
        refine z_goto (n := 96) C dX1_toNextOrder_113 rfl ?_
        refine z_iload_n (n := 97) C 1 dX1_toNextOrder_96 rfl rfl ?_
        refine z_iload_n (n := 98) C 0 dX1_toNextOrder_97 rfl rfl ?_
        refine z_icmpT_ge (tgt := 116) C (by rw [fa_le, nI_toInt (by omega), nI_toInt (by omega)]; omega) dX1_toNextOrder_98 rfl ?_
        refine z_iconst (n := 117) (v := 1) C dX1_toNextOrder_116 rfl rfl ?_
        refine z_zret C E dX1_toNextOrder_117 (by decide) ?_
        refine h1 d k _ (by omega) hod hno hdk hkL c67 hnk (fun q hq => by rw [upI_row _ _ hq, upI_row _ _ hq, upI_row _ _ hq, upI_row _ _ hq]) (fun i hi => ?_)
        rw [nxo_i, upI_swap, upI_swap, ho _ (sw_lt hkL (by omega) (sw_lt (by omega) (by omega) hi))]
        congr 2
        exact (nx_AB L (by omega) d (by omega) k (by omega) i (by omega) hdk hkL hi).2 (by omega)
set_option maxHeartbeats 4000000 in
set_option maxRecDepth 100000 in
theorem la_X1_toNextOrder {X : KX} {J : KJ} {t : Nat} (C : Cx X RX1 cX1_toNextOrder 2) (K : Kx X) (hnL : xnL X = 4) {Q : Int32 → KI → KJ → KR → Prop} (E : Ei X .boolean Q) {I : KI} {L : Nat} {o : Nat → Nat} (hN : I 50 0 = nI L) (hL1 : 1 ≤ L) (hL : L ≤ 4) (ho : ∀ i, i < L → I 51 i = nI (o i)) (hb : ∀ i, i < L → o i < 7) (h0 : (∀ i, i + 1 < L → o (i + 1) ≤ o i) → Q 0 I J (rf t)) (h1 : ∀ d k I', d + 1 < L → o d < o (d + 1) → (∀ i, d < i → i + 1 < L → o (i + 1) ≤ o i) → d < k → k < L → o d < o k → (∀ i, k < i → i < L → o i ≤ o d) → (∀ q, q ≠ 51 → I' q = I q) → (∀ i, i < L → I' 51 i = nI (nxo o d k L i)) → Q 1 I' J (rf t)) : ∀ (f D : Nat), D < f → (D + 1 ≤ L ∧ ∀ i, D ≤ i → i + 1 < L → o (i + 1) ≤ o i) → Z X 0 0 (V X I J (rf t)) 7 [(1, .int (nI D + (-1))), (0, .ref (xad X 50))] [] := by
  intro f
  induction f with
  | zero => intro D h; omega
  | succ f ih =>
    intro D hf hi
    obtain ⟨hDL, hno⟩ := hi
    refine z_iload_n (n := 8) C 0 dX1_toNextOrder_7 rfl rfl ?_
    refine z_if_lt (tgt := 37) (n := 11) C dX1_toNextOrder_8 rfl rfl (fun c8 => ?_) (fun c8 => ?_)
    · rw [fa_lt, nI_m1 D (by omega)] at c8
      simp only [Int32.reduceToInt] at c8
      have e : D = 0 := by omega
      subst e
      refine z_iload_n (n := 38) C 0 dX1_toNextOrder_37 rfl rfl ?_
      refine z_ifF_ge (n := 41) (tgt := 43) C (by decide) dX1_toNextOrder_38 rfl rfl ?_
      refine z_iconst (n := 42) (v := 0) C dX1_toNextOrder_41 rfl rfl ?_
      refine z_zret C E dX1_toNextOrder_42 (by decide) ?_
      exact h0 (fun i hi => hno i (Nat.zero_le _) hi)
    · rw [fa_lt, nI_m1 D (by omega)] at c8
      simp only [Int32.reduceToInt] at c8
      obtain ⟨d, rfl⟩ : ∃ d, D = d + 1 := ⟨D - 1, by omega⟩
      rw [nI_prd]
      refine z_aload_n (n := 12) C 1 dX1_toNextOrder_11 rfl rfl ?_
      refine z_getR (n := 15) (q := 51) C K fF_RX1_15 dX1_toNextOrder_12 rfl rfl sh_50 (by decide) rfl ?_
      refine z_iload_n (n := 16) C 0 dX1_toNextOrder_15 rfl rfl ?_
      refine z_ialdN (n := 17) C K d dX1_toNextOrder_16 rfl sh_51 (by decide) rfl (by omega) (by decide) ?_
      refine z_aload_n (n := 18) C 1 dX1_toNextOrder_17 rfl rfl ?_
      refine z_getR (n := 21) (q := 51) C K fF_RX1_15 dX1_toNextOrder_18 rfl rfl sh_50 (by decide) rfl ?_
      refine z_iload_n (n := 22) C 0 dX1_toNextOrder_21 rfl rfl ?_
      refine z_iconst (n := 23) (v := 1) C dX1_toNextOrder_22 rfl rfl ?_
      refine z_iadd (n := 24) C dX1_toNextOrder_23 rfl ?_
      rw [nI_1]
      refine z_ialdN (n := 25) C K (d + 1) dX1_toNextOrder_24 rfl sh_51 (by decide) rfl (by omega) (by decide) ?_
      rw [ho d (by omega), ho (d + 1) (by omega)]
      refine z_icmp_ge (tgt := 31) (n := 28) C dX1_toNextOrder_25 rfl rfl (fun c25 => ?_) (fun c25 => ?_)
      · rw [fa_le, nI_toInt (by have := hb (d + 1) (by omega); omega), nI_toInt (by have := hb d (by omega); omega)] at c25
        refine z_iincG (n := 34) (c := (-1)) (L' := [(1, _), (0, _)]) C 0 dX1_toNextOrder_31 rfl rfl rfl (by rw [hnL]; decide) rfl ?_
        refine z_goto (n := 7) C dX1_toNextOrder_34 rfl ?_
        exact ih d (by omega) ⟨by omega, fun i hi hi2 => by
          by_cases e : i = d
          · subst e; omega
          · exact hno i (by omega) hi2⟩
      · rw [fa_le, nI_toInt (by have := hb (d + 1) (by omega); omega), nI_toInt (by have := hb d (by omega); omega)] at c25
        refine z_goto (n := 37) C dX1_toNextOrder_28 rfl ?_
        refine z_iload_n (n := 38) C 0 dX1_toNextOrder_37 rfl rfl ?_
        refine z_ifT_ge (tgt := 43) C (by rw [fa_le, nI_toInt (by omega)]; simp only [Int32.reduceToInt]; omega) dX1_toNextOrder_38 rfl ?_
        refine z_aload_n (n := 44) C 1 dX1_toNextOrder_43 rfl rfl ?_
        refine z_getI (n := 47) C K fF_RX1_9 dX1_toNextOrder_44 rfl sh_50 (by decide) ?_
        rw [hN]
        refine z_iconst (n := 48) (v := 1) C dX1_toNextOrder_47 rfl rfl ?_
        refine z_isub (n := 49) C dX1_toNextOrder_48 rfl ?_
        rw [nI_s1 L hL1]
        refine z_istore_n (n := 50) (L' := [(2, _), (1, _), (0, _)]) C dX1_toNextOrder_49 rfl (by rw [hnL]; decide) rfl ?_
        exact lb_X1_toNextOrder C K hnL E hN hL1 hL ho hb h1 (d := d) (by omega) (by omega) (fun i hi hi2 => hno i (by omega) hi2) L (L - 1) (by omega) ⟨by omega, by omega, fun i hi hi2 => by omega⟩
set_option maxHeartbeats 4000000 in
set_option maxRecDepth 100000 in
theorem c_X1_toNextOrder {ad : Nat → Nat} {I : KI} {J : KJ} {t : Nat} {L : Nat} {o : Nat → Nat} (hN : I 50 0 = nI L) (hL1 : 1 ≤ L) (hL : L ≤ 4) (ho : ∀ i, i < L → I 51 i = nI (o i)) (hb : ∀ i, i < L → o i < 7)  {Q : Int32 → KI → KJ → KR → Prop} (h0 : (∀ i, i + 1 < L → o (i + 1) ≤ o i) → Q 0 I J (rf t)) (h1 : ∀ d k I', d + 1 < L → o d < o (d + 1) → (∀ i, d < i → i + 1 < L → o (i + 1) ≤ o i) → d < k → k < L → o d < o k → (∀ i, k < i → i < L → o i ≤ o d) → (∀ q, q ≠ 51 → I' q = I q) → (∀ i, i < L → I' 51 i = nI (nxo o d k L i)) → Q 1 I' J (rf t))  : Mi 2 yX1_toNextOrder (wm yX1_toNextOrder cX1_toNextOrder 4 (some .boolean)) [.ref (ad 50)] ad I J (rf t) Q := by
  refine mi_of (own := RX1) yk_X1_toNextOrder rfl (Nat.le_of_ble_eq_true rfl) rfl (fun X hA hnL C K E => ?_)
  subst hA
  refine z_aload_n (n := 1) C 0 dX1_toNextOrder_0 rfl rfl ?_
  refine z_getI (n := 4) C K fF_RX1_9 dX1_toNextOrder_1 rfl sh_50 (by decide) ?_
  rw [hN]
  refine z_iconst (n := 5) (v := 2) C dX1_toNextOrder_4 rfl rfl ?_
  refine z_isub (n := 6) C dX1_toNextOrder_5 rfl ?_
  rw [nI_m2 L hL1 (by omega)]
  refine z_istore_n (n := 7) (L' := [(1, _), (0, _)]) C dX1_toNextOrder_6 rfl (by rw [hnL]; decide) rfl ?_
  exact la_X1_toNextOrder C K hnL E hN hL1 hL ho hb h0 h1 L (L - 1) (by omega) ⟨by omega, fun i hi hi2 => by omega⟩
theorem c2_X1_toNextOrder {ad : Nat → Nat} {I : KI} {J : KJ} {t : Nat} {pc rdy : Nat → Nat} {G q : List Nat} {j : Nat} (hr : rise G) (hL1 : 1 ≤ G.length) (hL : G.length ≤ 4) (h7 : ∀ x, x ∈ G → x < 7) (hG : cGt I pc rdy (od G q)) (hp : (pmE G.length)[j]? = some q) {Q : Int32 → KI → KJ → KR → Prop} (h0 : (pmE G.length)[j + 1]? = none → Q 0 I J (rf t)) (h1 : ∀ q' I', (pmE G.length)[j + 1]? = some q' → (∀ x, x ≠ 51 → I' x = I x) → cGt I' pc rdy (od G q') → Q 1 I' J (rf t)) : Mi 2 yX1_toNextOrder (wm yX1_toNextOrder cX1_toNextOrder 4 (some .boolean)) [.ref (ad 50)] ad I J (rf t) Q := by
  obtain ⟨hl, hm⟩ := (pmE_fact hL).2 q (List.mem_of_getElem? hp)
  have ho : ∀ i, i < G.length → I 51 i = nI ((od G q).getD i 0) := fun i hi => hG.2.2 i (by rw [od_len]; omega)
  refine c_X1_toNextOrder (L := G.length) (o := fun i => (od G q).getD i 0) (by rw [hG.1, od_len, hl]) hL1 hL ho (fun i hi => h7 _ (od_mem hm (getD_mem (by rw [od_len]; omega)))) (fun h => h0 (od_A hr hL hp h)) (fun d k I' g1 g2 g3 g4 g5 g6 g7 hf hv => ?_)
  obtain ⟨q', hq', hv'⟩ := od_B hr hL hp g1 g2 g3 g4 g5 g6 g7
  obtain ⟨hl', -⟩ := (pmE_fact hL).2 q' (List.mem_of_getElem? hq')
  refine h1 q' I' hq' hf ⟨?_, fun g hg => ?_, fun i hi => ?_⟩
  · rw [hf 50 (by decide), hG.1, od_len, od_len, hl, hl']
  · rw [hf 52 (by decide), hf 53 (by decide)]; exact hG.2.1 g hg
  · rw [od_len] at hi
    rw [hv i (by omega), ← hv' i (by omega)]
