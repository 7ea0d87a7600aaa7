set_option maxHeartbeats 4000000 in
set_option maxRecDepth 100000 in
theorem l_X8_addDays {X : KX} {J : KJ} {t : Nat} (C : Cx X RX8 cX8_addDays 1) (K : Kx X) (hnL : xnL X = 4) {Q : KI → KJ → KR → Prop} (E : Ev X Q) {I : KI} {set : Nat} {ch : Int32} (hset : set < 32) (hQ : ∀ I', (∀ q, q ≠ 65 → I' q = I q) → (∀ x, x < 5 → I' 65 x = I 65 x + (if set.testBit x then (1 : Int32) else 0) * ch) → Q I' J (rf t)) : ∀ (f x : Nat) (I1 : KI), 5 - x < f → (x ≤ 5 ∧ (∀ q, q ≠ 65 → I1 q = I q) ∧ (∀ y, y < x → I1 65 y = I 65 y + (if set.testBit y then (1 : Int32) else 0) * ch) ∧ ∀ y, x ≤ y → I1 65 y = I 65 y) → Z X 0 0 (V X I1 J (rf t)) 2 [(3, .int (nI x)), (0, .ref (xad X 63)), (1, .int (nI set)), (2, .int ch)] [] := by
  intro f
  induction f with
  | zero => intro x I1 h; omega
  | succ f ih =>
    intro x I1 hf hi
    obtain ⟨hx5, hfr, hlo, hhi⟩ := hi
    refine z_iload_n (n := 3) C 0 dX8_addDays_2 rfl rfl ?_
    refine z_iconst (n := 4) (v := 5) C dX8_addDays_3 rfl rfl ?_
    refine z_icmp_ge (tgt := 29) (n := 7) C dX8_addDays_4 rfl rfl (fun c4 => ?_) (fun c4 => ?_)
    · refine z_vret C E dX8_addDays_29 ?_
      rw [fa_le, nI_toInt (by omega)] at c4
      simp only [Int32.reduceToInt] at c4
      exact hQ I1 hfr (fun y hy => hlo y (by omega))
    · rw [fa_le, nI_toInt (by omega)] at c4
      simp only [Int32.reduceToInt] at c4
      refine z_aload_n (n := 8) C 1 dX8_addDays_7 rfl rfl ?_
      refine z_getR (n := 11) (q := 65) C K fF_RX8_15 dX8_addDays_8 rfl rfl sh_63 (by decide) rfl ?_
      refine z_iload_n (n := 12) C 0 dX8_addDays_11 rfl rfl ?_
      refine z_dup2 (n := 13) C dX8_addDays_12 rfl rfl rfl ?_
      refine z_ialdN (n := 14) C K x dX8_addDays_13 rfl sh_65 (by decide) rfl (by omega) (by decide) ?_
      rw [hhi x (Nat.le_refl _)]
      refine z_iload_n (n := 15) C 2 dX8_addDays_14 rfl rfl ?_
      refine z_iload_n (n := 16) C 0 dX8_addDays_15 rfl rfl ?_
      refine z_ishr (n := 17) C dX8_addDays_16 rfl ?_
      refine z_iconst (n := 18) (v := 1) C dX8_addDays_17 rfl rfl ?_
      refine z_iand (n := 19) C dX8_addDays_18 rfl ?_
      rw [bt_nI (by omega) (by omega)]
      refine z_iload_n (n := 20) C 3 dX8_addDays_19 rfl rfl ?_
      refine z_imul (n := 21) C dX8_addDays_20 rfl ?_
      refine z_iadd (n := 22) C dX8_addDays_21 rfl ?_
      refine z_iastN (n := 23) C K x dX8_addDays_22 rfl sh_65 (by decide) rfl (by omega) (by decide) ?_
      refine z_iincG (n := 26) (c := 1) (L' := [(3, _), (0, _), (1, _), (2, _)]) C 0 dX8_addDays_23 rfl rfl rfl (by rw [hnL]; decide) rfl ?_
      refine z_goto (n := 2) C dX8_addDays_26 rfl ?_
      rw [nI_1]
      exact ih (x + 1) _ (by omega) ⟨by omega, fun q hq => by rw [upI_row _ _ hq]; exact hfr q hq, fun y hy => by
        by_cases e : y = x
        · subst e; rw [upI_same]
        · rw [upI_k _ _ e]; exact hlo y (by omega), fun y hy => by rw [upI_k _ _ (by omega)]; exact hhi y (by omega)⟩
set_option maxHeartbeats 4000000 in
set_option maxRecDepth 100000 in
theorem c_X8_addDays {ad : Nat → Nat} {I : KI} {J : KJ} {t : Nat} {set : Nat} {ch : Int32} (hset : set < 32)  {Q : KI → KJ → KR → Prop} (hQ : ∀ I', (∀ q, q ≠ 65 → I' q = I q) → (∀ x, x < 5 → I' 65 x = I 65 x + (if set.testBit x then (1 : Int32) else 0) * ch) → Q I' J (rf t))  : Mv 1 yX8_addDays (wm yX8_addDays cX8_addDays 4 none) [.ref (ad 63), .int (nI set), .int (ch)] ad I J (rf t) Q := by
  refine mv_of (own := RX8) yk_X8_addDays rfl (Nat.le_of_ble_eq_true rfl) rfl (fun X hA hnL C K E => ?_)
  subst hA
  refine z_iconst (n := 1) (v := 0) C dX8_addDays_0 rfl rfl ?_
  refine z_istore_n (n := 2) (L' := [(3, _), (0, _), (1, _), (2, _)]) C dX8_addDays_1 rfl (by rw [hnL]; decide) rfl ?_
  exact l_X8_addDays C K hnL E hset hQ 6 0 I (by omega) ⟨Nat.zero_le _, fun _ _ => rfl, fun y hy => by omega, fun _ _ => rfl⟩
set_option maxHeartbeats 4000000 in
set_option maxRecDepth 100000 in
theorem l_X8_mayHelp {X : KX} {J : KJ} {t : Nat} (C : Cx X RX8 cX8_mayHelp 2) (K : Kx X) (hnL : xnL X = 4) {Q : Int32 → KI → KJ → KR → Prop} (E : Ei X .boolean Q) {I : KI} {need most : Nat} {hd : Nat → Nat} {hc : Nat} (hc5 : hc ≤ 5) (hn : I 63 3 = nI need) (hm : I 63 4 = nI most) (hab : ∀ d, d < 5 → I 64 d = nI (ablS hd hc d)) {rs : List Nat} (hda : ∀ h, h < 5 → I 65 h = nI (dyS rs h)) (hn3 : need ≤ 3) (hm5 : most ≤ 5) (hl5 : rs.length < 5) {x : Nat} (hx : x < 32) (hcd : cdW hd hc need rs x = true) (h1 : (cdW hd hc need rs x = true ∧ ∀ h, h < 5 → x.testBit h = true → dyS rs h < most) → Q 1 I J (rf t)) (h0 : ¬ (cdW hd hc need rs x = true ∧ ∀ h, h < 5 → x.testBit h = true → dyS rs h < most) → Q 0 I J (rf t)) : ∀ (f i : Nat), 5 - i < f → (i ≤ 5 ∧ ∀ h, h < i → x.testBit h = true → dyS rs h < most) → Z X 0 0 (V X I J (rf t)) 28 [(3, .int (nI i)), (0, .ref (xad X 63)), (1, .int (nI x)), (2, .int (nI rs.length))] [] := by
  intro f
  induction f with
  | zero => intro i h; omega
  | succ f ih =>
    intro i hf hi
    obtain ⟨hi5, hlo⟩ := hi
    refine z_iload_n (n := 29) C 0 dX8_mayHelp_28 rfl rfl ?_
    refine z_iconst (n := 30) (v := 5) C dX8_mayHelp_29 rfl rfl ?_
    refine z_icmp_ge (tgt := 62) (n := 33) C dX8_mayHelp_30 rfl rfl (fun c30 => ?_) (fun c30 => ?_)
    · refine z_iconst (n := 63) (v := 1) C dX8_mayHelp_62 rfl rfl ?_
      refine z_zret C E dX8_mayHelp_63 (by decide) ?_
      rw [fa_le, nI_toInt (by omega)] at c30
      simp only [Int32.reduceToInt] at c30
      exact h1 ⟨hcd, fun h hh hb => hlo h (by omega) hb⟩
    · rw [fa_le, nI_toInt (by omega)] at c30
      simp only [Int32.reduceToInt] at c30
      refine z_iload_n (n := 34) C 2 dX8_mayHelp_33 rfl rfl ?_
      refine z_iload_n (n := 35) C 0 dX8_mayHelp_34 rfl rfl ?_
      refine z_ishr (n := 36) C dX8_mayHelp_35 rfl ?_
      refine z_iconst (n := 37) (v := 1) C dX8_mayHelp_36 rfl rfl ?_
      refine z_iand (n := 38) C dX8_mayHelp_37 rfl ?_
      rw [bt_nI (by omega) (by omega)]
      refine z_if_eq (tgt := 56) (n := 41) C dX8_mayHelp_38 rfl rfl (fun c38 => ?_) (fun c38 => ?_)
      · refine z_iincG (n := 59) (c := 1) (L' := [(3, _), (0, _), (1, _), (2, _)]) C 0 dX8_mayHelp_56 rfl rfl rfl (by rw [hnL]; decide) rfl ?_
        refine z_goto (n := 28) C dX8_mayHelp_59 rfl ?_
        rw [nI_1]
        exact ih (i + 1) (by omega) ⟨by omega, fun h hh hb => by
          by_cases e : h = i
          · subst e; rw [hb] at c38; exact absurd c38 (by decide)
          · exact hlo h (by omega) hb⟩
      · refine z_aload_n (n := 42) C 1 dX8_mayHelp_41 rfl rfl ?_
        refine z_getR (n := 45) (q := 65) C K fF_RX8_15 dX8_mayHelp_42 rfl rfl sh_63 (by decide) rfl ?_
        refine z_iload_n (n := 46) C 0 dX8_mayHelp_45 rfl rfl ?_
        refine z_ialdN (n := 47) C K i dX8_mayHelp_46 rfl sh_65 (by decide) rfl (by omega) (by decide) ?_
        rw [hda i (by omega)]
        have hdl := dyS_len rs i
        refine z_aload_n (n := 48) C 1 dX8_mayHelp_47 rfl rfl ?_
        refine z_getI (n := 51) C K fF_RX8_25 dX8_mayHelp_48 rfl sh_63 (by decide) ?_
        rw [hm]
        refine z_icmp_lt (tgt := 56) (n := 54) C dX8_mayHelp_51 rfl rfl (fun c51 => ?_) (fun c51 => ?_)
        · refine z_iincG (n := 59) (c := 1) (L' := [(3, _), (0, _), (1, _), (2, _)]) C 0 dX8_mayHelp_56 rfl rfl rfl (by rw [hnL]; decide) rfl ?_
          refine z_goto (n := 28) C dX8_mayHelp_59 rfl ?_
          rw [nI_1]
          exact ih (i + 1) (by omega) ⟨by omega, fun h hh hb => by
            by_cases e : h = i
            · subst e; rw [fa_lt, nI_toInt (by omega), nI_toInt (by omega)] at c51; omega
            · exact hlo h (by omega) hb⟩
        · refine z_iconst (n := 55) (v := 0) C dX8_mayHelp_54 rfl rfl ?_
          refine z_zret C E dX8_mayHelp_55 (by decide) ?_
          rw [fa_lt, nI_toInt (by omega), nI_toInt (by omega)] at c51
          exact h0 (fun q => by
            have hb : x.testBit i = true := by
              cases hz : x.testBit i with
              | true => rfl
              | false => rw [hz] at c38; exact absurd rfl c38
            have := q.2 i (by omega) hb
            omega)
set_option maxHeartbeats 4000000 in
set_option maxRecDepth 100000 in
theorem c_X8_mayHelp {ad : Nat → Nat} {I : KI} {J : KJ} {t : Nat} {need most : Nat} {hd : Nat → Nat} {hc : Nat} (hc5 : hc ≤ 5) (hn : I 63 3 = nI need) (hm : I 63 4 = nI most) (hab : ∀ d, d < 5 → I 64 d = nI (ablS hd hc d)) {rs : List Nat} (hda : ∀ h, h < 5 → I 65 h = nI (dyS rs h)) (hn3 : need ≤ 3) (hm5 : most ≤ 5) (hl5 : rs.length < 5) {x : Nat} (hx : x < 32)  {Q : Int32 → KI → KJ → KR → Prop} (h1 : (cdW hd hc need rs x = true ∧ ∀ h, h < 5 → x.testBit h = true → dyS rs h < most) → Q 1 I J (rf t)) (h0 : ¬ (cdW hd hc need rs x = true ∧ ∀ h, h < 5 → x.testBit h = true → dyS rs h < most) → Q 0 I J (rf t))  : Mi 2 yX8_mayHelp (wm yX8_mayHelp cX8_mayHelp 4 (some .boolean)) [.ref (ad 63), .int (nI x), .int (nI rs.length)] ad I J (rf t) Q := by
  refine mi_of (own := RX8) yk_X8_mayHelp rfl (Nat.le_of_ble_eq_true rfl) rfl (fun X hA hnL C K E => ?_)
  subst hA
  refine z_iload_n (n := 1) C 1 dX8_mayHelp_0 rfl rfl ?_
  refine z_si_1 (n := 4) (d' := 1) C K dX8_mayHelp_1 rfl yk_J6_bitCount_0f7a4 kT_yJ6_bitCount_0f7a4 kM_RX8_39 (by decide) hR0 rfl ?_
  refine c_J6_bitCount_0f7a4 (by omega) ?_
  have hpl : popS x ≤ 5 := popS_le (show x < 2 ^ 5 by omega) (by decide)
  refine z_aload_n (n := 5) C 0 dX8_mayHelp_4 rfl rfl ?_
  refine z_getI (n := 8) C K fF_RX8_21 dX8_mayHelp_5 rfl sh_63 (by decide) ?_
  rw [hn]
  refine z_icmp_ne (tgt := 24) (n := 11) C dX8_mayHelp_8 rfl rfl (fun c8 => ?_) (fun c8 => ?_)
  · refine z_iconst (n := 25) (v := 0) C dX8_mayHelp_24 rfl rfl ?_
    refine z_zret C E dX8_mayHelp_25 (by decide) ?_
    exact h0 (fun q => c8 (by rw [(cdW_t.mp q.1).1]))
  · refine z_iload_n (n := 12) C 1 dX8_mayHelp_11 rfl rfl ?_
    refine z_aload_n (n := 13) C 0 dX8_mayHelp_12 rfl rfl ?_
    refine z_getR (n := 16) (q := 64) C K fF_RX8_9 dX8_mayHelp_13 rfl rfl sh_63 (by decide) rfl ?_
    refine z_iload_n (n := 17) C 2 dX8_mayHelp_16 rfl rfl ?_
    refine z_ialdN (n := 18) C K rs.length dX8_mayHelp_17 rfl sh_64 (by decide) rfl (by omega) (by decide) ?_
    rw [hab _ hl5]
    refine z_iconst (n := 19) (v := (-1)) C dX8_mayHelp_18 rfl rfl ?_
    refine z_ixor (n := 20) C dX8_mayHelp_19 rfl ?_
    refine z_iand (n := 21) C dX8_mayHelp_20 rfl ?_
    rw [clr_nI]
    have hcle := clr_le x (ablS hd hc rs.length)
    refine z_if_eq (tgt := 26) (n := 24) C dX8_mayHelp_21 rfl rfl (fun c21 => ?_) (fun c21 => ?_)
    · refine z_iconst (n := 27) (v := 0) C dX8_mayHelp_26 rfl rfl ?_
      refine z_istore_n (n := 28) (L' := [(3, _), (0, _), (1, _), (2, _)]) C dX8_mayHelp_27 rfl (by rw [hnL]; decide) rfl ?_
      have hcd : cdW hd hc need rs x = true := cdW_t.mpr ⟨nI_inj c8 (by omega) (by omega), nI_inj (b := 0) c21 (by omega) (by decide)⟩
      exact l_X8_mayHelp C K hnL E hc5 hn hm hab hda hn3 hm5 hl5 hx hcd h1 h0 6 0 (by omega) ⟨Nat.zero_le _, fun h hh => by omega⟩
    · refine z_iconst (n := 25) (v := 0) C dX8_mayHelp_24 rfl rfl ?_
      refine z_zret C E dX8_mayHelp_25 (by decide) ?_
      exact h0 (fun q => c21 (by rw [(cdW_t.mp q.1).2]; rfl))
set_option maxHeartbeats 4000000 in
set_option maxRecDepth 100000 in
theorem wf_0 {ad : Nat → Nat} {J : KJ} {t : Nat} {need most : Nat} {hd : Nat → Nat} {hc : Nat} (hc5 : hc ≤ 5) (hn3 : need ≤ 3) (hm5 : most ≤ 5) : wfP ad J t need most hd hc 0 := by
  intro I rs Q hlk hn hm hab hda hdm hr h1 h0
  refine mi_of (own := RX8) yk_X8_fill rfl (Nat.le_of_ble_eq_true rfl) rfl (fun X hA hnL C K E => ?_)
  subst hA
  refine z_iload_n (n := 1) C 1 dX8_fill_0 rfl rfl ?_
  refine z_iconst (n := 2) (v := 5) C dX8_fill_1 rfl rfl ?_
  refine z_icmpF_lt (n := 5) (tgt := 7) C (by rw [fa_lt, nI_toInt (by omega)]; simp only [Int32.reduceToInt]; omega) dX8_fill_2 rfl rfl ?_
  refine z_iconst (n := 6) (v := 1) C dX8_fill_5 rfl rfl ?_
  refine z_zret C E dX8_fill_6 (by decide) ?_
  exact h1 I rs (by rw [fillV, List.find?_cons, show bdM most rs = true from decide_eq_true ((mxN_le 5).mpr hdm)]) (fun _ _ _ => rfl) hr
set_option maxHeartbeats 4000000 in
set_option maxRecDepth 100000 in
theorem wf_L {X : KX} {J : KJ} {t k : Nat} (C : Cx X RX8 cX8_fill (k + 1 + 3)) (K : Kx X) (hnL : xnL X = 3) {need most : Nat} {hd : Nat → Nat} {hc : Nat} (hc5 : hc ≤ 5) (hn3 : need ≤ 3) (hm5 : most ≤ 5) (hsub : wfP (xad X) J t need most hd hc k) {Q : Int32 → KI → KJ → KR → Prop} (E : Ei X .boolean Q) {I : KI} {rs : List Nat} (hlk : rs.length + (k + 1) = 5) (hn : I 63 3 = nI need) (hm : I 63 4 = nI most) (hab : ∀ d, d < 5 → I 64 d = nI (ablS hd hc d)) (hdm : ∀ h, h < 5 → dyS rs h ≤ most) (hr : rowB I 66 rs) (h1 : ∀ I' o, (vilX (cdW hd hc need) k rs 0).find? (bdM most) = some o → (∀ q, q ≠ 65 → q ≠ 66 → I' q = I q) → rowB I' 66 o → Q 1 I' J (rf t)) (h0 : ∀ I', (vilX (cdW hd hc need) k rs 0).find? (bdM most) = none → (∀ q, q ≠ 65 → q ≠ 66 → I' q = I q) → (∀ h, h < 5 → I' 65 h = nI (dyS rs h)) → (∀ i, i < rs.length → I' 66 i = I 66 i) → Q 0 I' J (rf t)) : ∀ (f x : Nat) (I1 : KI), 32 - x < f → (x ≤ 32 ∧ (∀ q, q ≠ 65 → q ≠ 66 → I1 q = I q) ∧ (∀ h, h < 5 → I1 65 h = nI (dyS rs h)) ∧ (∀ i, i < rs.length → I1 66 i = I 66 i) ∧ (vilX (cdW hd hc need) k rs x).find? (bdM most) = (vilX (cdW hd hc need) k rs 0).find? (bdM most)) → Z X 0 0 (V X I1 J (rf t)) 9 [(2, .int (nI x)), (0, .ref (xad X 63)), (1, .int (nI rs.length))] [] := by
  intro f
  induction f with
  | zero => intro x I1 h; omega
  | succ f ih =>
    intro x I1 hf hi
    obtain ⟨hx32, hfr, hda1, hrs1, hfd⟩ := hi
    have hn1 : I1 63 3 = nI need := by rw [hfr 63 (by decide) (by decide)]; exact hn
    have hm1 : I1 63 4 = nI most := by rw [hfr 63 (by decide) (by decide)]; exact hm
    have hab1 : ∀ d, d < 5 → I1 64 d = nI (ablS hd hc d) := fun d hd5 => by rw [hfr 64 (by decide) (by decide)]; exact hab d hd5
    have hr1 : rowB I1 66 rs := hr.fr hrs1
    refine z_iload_n (n := 10) C 0 dX8_fill_9 rfl rfl ?_
    refine z_bipush (n := 12) (v := 32) C dX8_fill_10 rfl rfl ?_
    refine z_icmp_ge (tgt := 61) (n := 15) C dX8_fill_12 rfl rfl (fun c12 => ?_) (fun c12 => ?_)
    · refine z_iconst (n := 62) (v := 0) C dX8_fill_61 rfl rfl ?_
      refine z_zret C E dX8_fill_62 (by decide) ?_
      rw [fa_le, nI_toInt (by omega)] at c12
      simp only [Int32.reduceToInt] at c12
      exact h0 I1 (by rw [← hfd, vilX_end _ _ _ (by omega)]; rfl) hfr hda1 hrs1
    · rw [fa_le, nI_toInt (by omega)] at c12
      simp only [Int32.reduceToInt] at c12
      refine z_aload_n (n := 16) C 1 dX8_fill_15 rfl rfl ?_
      refine z_iload_n (n := 17) C 0 dX8_fill_16 rfl rfl ?_
      refine z_iload_n (n := 18) C 2 dX8_fill_17 rfl rfl ?_
      refine z_vi_2 (n := 21) (d' := 2) C K dX8_fill_18 rfl yk_X8_mayHelp yv_X8_mayHelp kM_RX8_45 (by omega) hR0 rfl rfl sh_63 (by decide) (by decide) ?_
      refine c_X8_mayHelp hc5 hn1 hm1 hab1 hda1 hn3 hm5 (by omega) (by omega) (fun b18 => ?_) (fun b18 => ?_)
      · refine z_ifF_eq (n := 24) (tgt := 55) C (by decide) dX8_fill_21 rfl rfl ?_
        refine z_aload_n (n := 25) C 1 dX8_fill_24 rfl rfl ?_
        refine z_getR (n := 28) (q := 66) C K fF_RX8_18 dX8_fill_25 rfl rfl sh_63 (by decide) rfl ?_
        refine z_iload_n (n := 29) C 2 dX8_fill_28 rfl rfl ?_
        refine z_iload_n (n := 30) C 0 dX8_fill_29 rfl rfl ?_
        refine z_iastN (n := 31) C K rs.length dX8_fill_30 rfl sh_66 (by decide) rfl (by omega) (by decide) ?_
        refine z_aload_n (n := 32) C 1 dX8_fill_31 rfl rfl ?_
        refine z_iload_n (n := 33) C 0 dX8_fill_32 rfl rfl ?_
        refine z_iconst (n := 34) (v := 1) C dX8_fill_33 rfl rfl ?_
        refine z_vv_2 (n := 37) (d' := 1) C K dX8_fill_34 rfl yk_X8_addDays yv_X8_addDays kM_RX8_49 (by omega) hR0 rfl rfl sh_63 (by decide) (by decide) ?_
        refine c_X8_addDays (set := x) (by omega) (fun I2 hf2 hv2 => ?_)
        have hd2 : ∀ h, h < 5 → I2 65 h = nI (dyS (x :: rs) h) := fun h hh => by rw [hv2 h hh, upI_row _ _ (by decide), hda1 h hh]; exact add_one (dyS rs h) (x.testBit h)
        have hr2 : rowB I2 66 (x :: rs) := (hr1.fr (fun i hi => by rw [hf2 66 (by decide), upI_k _ _ (by omega)])).cons (by rw [hf2 66 (by decide), upI_same])
        refine z_aload_n (n := 38) C 1 dX8_fill_37 rfl rfl ?_
        refine z_iload_n (n := 39) C 2 dX8_fill_38 rfl rfl ?_
        refine z_iconst (n := 40) (v := 1) C dX8_fill_39 rfl rfl ?_
        refine z_iadd (n := 41) C dX8_fill_40 rfl ?_
        rw [nI_1]
        refine z_si_2 (n := 44) (d' := (k + 3)) C K dX8_fill_41 rfl yk_X8_fill kT_yX8_fill kM_RX8_35 (by omega) hR0 rfl ?_
        refine hsub I2 (x :: rs) _ (by rw [List.length_cons]; omega) (by rw [hf2 63 (by decide), upI_row _ _ (by decide)]; exact hn1) (by rw [hf2 63 (by decide), upI_row _ _ (by decide)]; exact hm1) (fun d hd5 => by rw [hf2 64 (by decide), upI_row _ _ (by decide)]; exact hab1 d hd5) hd2 (fun h hh => ?_) hr2 (fun I3 o hsome hf3 hr3 => ?_) (fun I3 hnone hf3 hd3 hr3 => ?_)
        · rw [dyS]
          by_cases e : x.testBit h = true
          · rw [if_pos e]; have := b18.2 h hh e; omega
          · rw [if_neg e]; exact hdm h hh
        · refine z_ifF_eq (n := 47) (tgt := 49) C (by decide) dX8_fill_44 rfl rfl ?_
          refine z_iconst (n := 48) (v := 1) C dX8_fill_47 rfl rfl ?_
          refine z_zret C E dX8_fill_48 (by decide) ?_
          exact h1 I3 o (by rw [← hfd, vilX_yes (by omega) b18.1, List.find?_append, hsome]; rfl) (fun q q1 q2 => by rw [hf3 q q1 q2, hf2 q q1, upI_row _ _ q2]; exact hfr q q1 q2) hr3
        · refine z_ifT_eq (tgt := 49) C (by decide) dX8_fill_44 rfl ?_
          refine z_aload_n (n := 50) C 1 dX8_fill_49 rfl rfl ?_
          refine z_iload_n (n := 51) C 0 dX8_fill_50 rfl rfl ?_
          refine z_iconst (n := 52) (v := (-1)) C dX8_fill_51 rfl rfl ?_
          refine z_vv_2 (n := 55) (d' := 1) C K dX8_fill_52 rfl yk_X8_addDays yv_X8_addDays kM_RX8_49 (by omega) hR0 rfl rfl sh_63 (by decide) (by decide) ?_
          refine c_X8_addDays (set := x) (by omega) (fun I4 hf4 hv4 => ?_)
          refine z_iincG (n := 58) (c := 1) (L' := [(2, _), (0, _), (1, _)]) C 0 dX8_fill_55 rfl rfl rfl (by rw [hnL]; decide) rfl ?_
          refine z_goto (n := 9) C dX8_fill_58 rfl ?_
          rw [nI_1]
          refine ih (x + 1) I4 (by omega) ⟨by omega, fun q q1 q2 => by rw [hf4 q q1, hf3 q q1 q2, hf2 q q1, upI_row _ _ q2]; exact hfr q q1 q2, fun h hh => by rw [hv4 h hh, hd3 h hh, dyS]; exact sub_back (dyS rs h) (x.testBit h), fun i hi => by rw [hf4 66 (by decide), hr3 i (by rw [List.length_cons]; omega), hf2 66 (by decide), upI_k _ _ (by omega)]; exact hrs1 i hi, ?_⟩
          rw [← hfd, vilX_yes (by omega) b18.1, List.find?_append, hnone]
          rfl
      · refine z_ifT_eq (tgt := 55) C (by decide) dX8_fill_21 rfl ?_
        refine z_iincG (n := 58) (c := 1) (L' := [(2, _), (0, _), (1, _)]) C 0 dX8_fill_55 rfl rfl rfl (by rw [hnL]; decide) rfl ?_
        refine z_goto (n := 9) C dX8_fill_58 rfl ?_
        rw [nI_1]
        refine ih (x + 1) I1 (by omega) ⟨by omega, hfr, hda1, hrs1, ?_⟩
        rw [← hfd]
        by_cases e : cdW hd hc need rs x = true
        · obtain ⟨h, hh⟩ := Classical.not_forall.mp (fun q => b18 ⟨e, q⟩)
          have hh5 : h < 5 ∧ x.testBit h = true ∧ most ≤ dyS rs h := by
            by_cases g1 : h < 5
            · by_cases g2 : x.testBit h = true
              · refine ⟨g1, g2, ?_⟩
                by_cases g3 : dyS rs h < most
                · exact absurd (fun _ _ => g3) hh
                · omega
              · exact absurd (fun _ q => absurd q g2) hh
            · exact absurd (fun q => absurd q g1) hh
          rw [vilX_yes (by omega) e, List.find?_append, find_more hh5.1 (by rw [dyS, if_pos hh5.2.1]; omega)]
          rfl
        · rw [vilX_no (by omega) (eq_false_of_ne_true e)]
set_option maxHeartbeats 4000000 in
set_option maxRecDepth 100000 in
theorem wf_S {ad : Nat → Nat} {J : KJ} {t : Nat} {need most : Nat} {hd : Nat → Nat} {hc : Nat} (hc5 : hc ≤ 5) (hn3 : need ≤ 3) (hm5 : most ≤ 5) {k : Nat} (hsub : wfP ad J t need most hd hc k) : wfP ad J t need most hd hc (k + 1) := by
  intro I rs Q hlk hn hm hab hda hdm hr h1 h0
  refine mi_of (own := RX8) yk_X8_fill rfl (Nat.le_of_ble_eq_true rfl) rfl (fun X hA hnL C K E => ?_)
  subst hA
  refine z_iload_n (n := 1) C 1 dX8_fill_0 rfl rfl ?_
  refine z_iconst (n := 2) (v := 5) C dX8_fill_1 rfl rfl ?_
  refine z_icmpT_lt (tgt := 7) C (by rw [fa_lt, nI_toInt (by omega)]; simp only [Int32.reduceToInt]; omega) dX8_fill_2 rfl ?_
  refine z_iconst (n := 8) (v := 0) C dX8_fill_7 rfl rfl ?_
  refine z_istore_n (n := 9) (L' := [(2, _), (0, _), (1, _)]) C dX8_fill_8 rfl (by rw [hnL]; decide) rfl ?_
  exact wf_L C K hnL hc5 hn3 hm5 hsub E hlk hn hm hab hdm hr h1 h0 33 0 I (by omega) ⟨Nat.zero_le _, fun _ _ _ => rfl, hda, fun _ _ => rfl, rfl⟩
theorem wf_all {ad : Nat → Nat} {J : KJ} {t : Nat} {need most : Nat} {hd : Nat → Nat} {hc : Nat} (hc5 : hc ≤ 5) (hn3 : need ≤ 3) (hm5 : most ≤ 5) : ∀ k, wfP ad J t need most hd hc k
  | 0 => wf_0 hc5 hn3 hm5
  | k + 1 => wf_S hc5 hn3 hm5 (wf_all hc5 hn3 hm5 k)
theorem bit_shl (b : Bool) (x : Nat) (hx : x < 31) : (if b then (1 : Int32) else 0) <<< (nI x &&& 31) = nI (if b then 2 ^ x else 0) := by
  cases b
  · show (0 : Int32) <<< (nI x &&& 31) = 0
    have : ∀ x, x < 31 → (0 : Int32) <<< (nI x &&& 31) = 0 := by decide +kernel
    exact this x hx
  · exact one_shl x hx
set_option maxHeartbeats 4000000 in
set_option maxRecDepth 100000 in
theorem la_X8_isEnough {X : KX} {J : KJ} {t : Nat} (C : Cx X RX8 cX8_isEnough 2) (K : Kx X) (hnL : xnL X = 6) {I : KI} {hd : Nat → Nat} {hc d e : Nat} (hc5 : hc ≤ 5) (hd5 : d < 5) (hh : ∀ x, x < hc → I 62 x = nI (hd x) ∧ hd x < 32) (hN : ∀ I1, (∀ q, q ≠ 64 → I1 q = I q) → (∀ i, i ≠ d → I1 64 i = I 64 i) → I1 64 d = nI (ablS hd hc d) → Z X 0 0 (V X I1 J (rf t)) 56 [(4, .int (nI d)), (3, .int (nI e)), (0, .ref (xad X 63)), (1, .ref (xad X 62)), (2, .int (nI hc))] []) : ∀ (f x : Nat) (I1 : KI), hc - x < f → (x ≤ hc ∧ (∀ q, q ≠ 64 → I1 q = I q) ∧ (∀ i, i ≠ d → I1 64 i = I 64 i) ∧ I1 64 d = nI (msk (fun h => (hd h).testBit d) x)) → Z X 0 0 (V X I1 J (rf t)) 22 [(5, .int (nI x)), (4, .int (nI d)), (3, .int (nI e)), (0, .ref (xad X 63)), (1, .ref (xad X 62)), (2, .int (nI hc))] [] := by
  intro f
  induction f with
  | zero => intro x I1 h; omega
  | succ f ih =>
    intro x I1 hf hi
    obtain ⟨hxc, hfr, hfo, hv⟩ := hi
    refine z_iload (n := 24) C 0 dX8_isEnough_22 rfl rfl ?_
    refine z_iload_n (n := 25) C 5 dX8_isEnough_24 rfl rfl ?_
    refine z_icmp_ge (tgt := 56) (n := 28) C dX8_isEnough_25 rfl rfl (fun c25 => ?_) (fun c25 => ?_)
    · refine z_sub (L' := [(4, _), (3, _), (0, _), (1, _), (2, _)]) [1, 2, 3, 4, 5] rfl ?_
      rw [fa_le, nI_toInt (by omega), nI_toInt (by omega)] at c25
      have e9 : x = hc := by omega
      subst e9
      exact hN I1 hfr hfo hv
    · rw [fa_le, nI_toInt (by omega), nI_toInt (by omega)] at c25
      refine z_aload_n (n := 29) C 3 dX8_isEnough_28 rfl rfl ?_
      refine z_getR (n := 32) (q := 64) C K fF_RX8_9 dX8_isEnough_29 rfl rfl sh_63 (by decide) rfl ?_
      refine z_iload (n := 34) C 1 dX8_isEnough_32 rfl rfl ?_
      refine z_dup2 (n := 35) C dX8_isEnough_34 rfl rfl rfl ?_
      refine z_ialdN (n := 36) C K d dX8_isEnough_35 rfl sh_64 (by decide) rfl (by omega) (by decide) ?_
      rw [hv]
      refine z_aload_n (n := 37) C 4 dX8_isEnough_36 rfl rfl ?_
      refine z_iload (n := 39) C 0 dX8_isEnough_37 rfl rfl ?_
      refine z_ialdN (n := 40) C K x dX8_isEnough_39 rfl sh_62 (by decide) rfl (by omega) (by decide) ?_
      rw [hfr 62 (by decide), (hh x (by omega)).1]
      have hhx := (hh x (by omega)).2
      refine z_iload (n := 42) C 1 dX8_isEnough_40 rfl rfl ?_
      refine z_ishr (n := 43) C dX8_isEnough_42 rfl ?_
      refine z_iconst (n := 44) (v := 1) C dX8_isEnough_43 rfl rfl ?_
      refine z_iand (n := 45) C dX8_isEnough_44 rfl ?_
      rw [bt_nI (by omega) (by omega)]
      refine z_iload (n := 47) C 0 dX8_isEnough_45 rfl rfl ?_
      refine z_ishl (n := 48) C dX8_isEnough_47 rfl ?_
      rw [bit_shl _ x (by omega)]
      refine z_ior (n := 49) C dX8_isEnough_48 rfl ?_
      rw [or_nI]
      refine z_iastN (n := 50) C K d dX8_isEnough_49 rfl sh_64 (by decide) rfl (by omega) (by decide) ?_
      refine z_iincG (n := 53) (c := 1) (L' := [(5, _), (4, _), (3, _), (0, _), (1, _), (2, _)]) C 0 dX8_isEnough_50 rfl rfl rfl (by rw [hnL]; decide) rfl ?_
      refine z_goto (n := 22) C dX8_isEnough_53 rfl ?_
      rw [nI_1]
      exact ih (x + 1) _ (by omega) ⟨by omega, fun q hq => by rw [upI_row _ _ hq]; exact hfr q hq, fun i hi => by rw [upI_k _ _ hi]; exact hfo i hi, by rw [upI_same]; rfl⟩
set_option maxHeartbeats 4000000 in
set_option maxRecDepth 100000 in
theorem l_X8_isEnough {X : KX} {J : KJ} {t : Nat} (C : Cx X RX8 cX8_isEnough 2) (K : Kx X) (hnL : xnL X = 6) {Q : Int32 → KI → KJ → KR → Prop} (E : Ei X .boolean Q) {I : KI} {need : Nat} {hd : Nat → Nat} {hc : Nat} (hc5 : hc ≤ 5) (hn : I 63 3 = nI need) (hn3 : need ≤ 3) (hh : ∀ x, x < hc → I 62 x = nI (hd x) ∧ hd x < 32) (h1 : ∀ I', (∀ q, q ≠ 64 → I' q = I q) → (∀ d, d < 5 → I' 64 d = nI (ablS hd hc d)) → Q 1 I' J (rf t)) (h0 : ∀ I' d, (∀ q, q ≠ 64 → I' q = I q) → d < 5 → popS (ablS hd hc d) < need → Q 0 I' J (rf t)) : ∀ (f d e : Nat) (I1 : KI), 5 - d < f → (d ≤ 5 ∧ e ≤ 1 ∧ (∀ q, q ≠ 64 → I1 q = I q) ∧ (∀ i, i < d → I1 64 i = nI (ablS hd hc i)) ∧ (e = 0 → ∃ i, i < 5 ∧ popS (ablS hd hc i) < need)) → Z X 0 0 (V X I1 J (rf t)) 5 [(4, .int (nI d)), (3, .int (nI e)), (0, .ref (xad X 63)), (1, .ref (xad X 62)), (2, .int (nI hc))] [] := by
  intro f
  induction f with
  | zero => intro d e I1 h; omega
  | succ f ih =>
    intro d e I1 hf hi
    obtain ⟨hd5, he1, hfr, hlo, hbad⟩ := hi
    refine z_iload (n := 7) C 0 dX8_isEnough_5 rfl rfl ?_
    refine z_iconst (n := 8) (v := 5) C dX8_isEnough_7 rfl rfl ?_
    refine z_icmp_ge (tgt := 87) (n := 11) C dX8_isEnough_8 rfl rfl (fun c8 => ?_) (fun c8 => ?_)
    · refine z_iload_n (n := 88) C 1 dX8_isEnough_87 rfl rfl ?_
      refine z_zret C E dX8_isEnough_88 (by rcases (show e = 0 ∨ e = 1 by omega) with e9 | e9 <;> rw [e9] <;> decide) ?_
      rw [fa_le, nI_toInt (by omega)] at c8
      simp only [Int32.reduceToInt] at c8
      rcases (show e = 0 ∨ e = 1 by omega) with e9 | e9
      · obtain ⟨i, hi5, hip⟩ := hbad e9
        subst e9
        exact h0 I1 i hfr hi5 hip
      · subst e9
        exact h1 I1 hfr (fun i hi => hlo i (by omega))
    · rw [fa_le, nI_toInt (by omega)] at c8
      simp only [Int32.reduceToInt] at c8
      refine z_aload_n (n := 12) C 2 dX8_isEnough_11 rfl rfl ?_
      refine z_getR (n := 15) (q := 64) C K fF_RX8_9 dX8_isEnough_12 rfl rfl sh_63 (by decide) rfl ?_
      refine z_iload (n := 17) C 0 dX8_isEnough_15 rfl rfl ?_
      refine z_iconst (n := 18) (v := 0) C dX8_isEnough_17 rfl rfl ?_
      refine z_iastN (n := 19) C K d dX8_isEnough_18 rfl sh_64 (by decide) rfl (by omega) (by decide) ?_
      refine z_iconst (n := 20) (v := 0) C dX8_isEnough_19 rfl rfl ?_
      refine z_istore (n := 22) (L' := [(5, _), (4, _), (3, _), (0, _), (1, _), (2, _)]) C dX8_isEnough_20 rfl (by rw [hnL]; decide) rfl ?_
      refine la_X8_isEnough C K hnL (I := upI I1 64 d 0) (hd := hd) (e := e) hc5 (show d < 5 by omega) (fun x hx => by rw [upI_row _ _ (by decide), hfr 62 (by decide)]; exact hh x hx) (fun I2 hf2 ho2 hv2 => ?_) 6 0 _ (by omega) ⟨Nat.zero_le _, fun _ _ => rfl, fun _ _ => rfl, by rw [upI_same]; rfl⟩
      refine z_iload_n (n := 57) C 1 dX8_isEnough_56 rfl rfl ?_
      refine z_aload_n (n := 58) C 2 dX8_isEnough_57 rfl rfl ?_
      refine z_getR (n := 61) (q := 64) C K fF_RX8_9 dX8_isEnough_58 rfl rfl sh_63 (by decide) rfl ?_
      refine z_iload (n := 63) C 0 dX8_isEnough_61 rfl rfl ?_
      refine z_ialdN (n := 64) C K d dX8_isEnough_63 rfl sh_64 (by decide) rfl (by omega) (by decide) ?_
      rw [hv2]
      have habl := ablS_lt (hd := hd) (hc := hc) (d := d)
      have h32 : 2 ^ hc ≤ 2 ^ 5 := Nat.pow_le_pow_right (by decide) hc5
      have hpl : popS (ablS hd hc d) ≤ 5 := popS_le (show ablS hd hc d < 2 ^ 5 by omega) (by decide)
      refine z_si_1 (n := 67) (d' := 1) C K dX8_isEnough_64 rfl yk_J6_bitCount_0f7a4 kT_yJ6_bitCount_0f7a4 kM_RX8_39 (by decide) hR0 rfl ?_
      refine c_J6_bitCount_0f7a4 (by omega) ?_
      refine z_aload_n (n := 68) C 2 dX8_isEnough_67 rfl rfl ?_
      refine z_getI (n := 71) C K fF_RX8_21 dX8_isEnough_68 rfl sh_63 (by decide) ?_
      rw [hf2 63 (by decide), upI_row _ _ (by decide), hfr 63 (by decide), hn]
      refine z_icmp_lt (tgt := 78) (n := 74) C dX8_isEnough_71 rfl rfl (fun c71 => ?_) (fun c71 => ?_)
      · rw [fa_lt, nI_toInt (by omega), nI_toInt (by omega)] at c71
        refine z_iconst (n := 79) (v := 0) C dX8_isEnough_78 rfl rfl ?_
        refine z_iand (n := 80) C dX8_isEnough_79 rfl ?_
        refine z_istore_n (n := 81) (L' := [(3, _), (4, _), (0, _), (1, _), (2, _)]) C dX8_isEnough_80 rfl (by rw [hnL]; decide) rfl ?_
        refine z_iincG (n := 84) (c := 1) (L' := [(4, _), (3, _), (0, _), (1, _), (2, _)]) C 1 dX8_isEnough_81 rfl rfl rfl (by rw [hnL]; decide) rfl ?_
        refine z_goto (n := 5) C dX8_isEnough_84 rfl ?_
        rw [nI_1, show nI e &&& (0 : Int32) = nI 0 from by rw [show (0 : Int32) = nI 0 from rfl, and_nI, Nat.and_zero]]
        exact ih (d + 1) 0 I2 (by omega) ⟨by omega, by decide, fun q hq => by rw [hf2 q hq, upI_row _ _ hq]; exact hfr q hq, fun i hi => by
          by_cases e9 : i = d
          · subst e9; exact hv2
          · rw [ho2 i e9, upI_k _ _ e9]; exact hlo i (by omega), fun _ => ⟨d, by omega, by omega⟩⟩
      · rw [fa_lt, nI_toInt (by omega), nI_toInt (by omega)] at c71
        refine z_iconst (n := 75) (v := 1) C dX8_isEnough_74 rfl rfl ?_
        refine z_goto (n := 79) C dX8_isEnough_75 rfl ?_
        refine z_iand (n := 80) C dX8_isEnough_79 rfl ?_
        refine z_istore_n (n := 81) (L' := [(3, _), (4, _), (0, _), (1, _), (2, _)]) C dX8_isEnough_80 rfl (by rw [hnL]; decide) rfl ?_
        refine z_iincG (n := 84) (c := 1) (L' := [(4, _), (3, _), (0, _), (1, _), (2, _)]) C 1 dX8_isEnough_81 rfl rfl rfl (by rw [hnL]; decide) rfl ?_
        refine z_goto (n := 5) C dX8_isEnough_84 rfl ?_
        rw [nI_1, show nI e &&& (1 : Int32) = nI e from by rcases (show e = 0 ∨ e = 1 by omega) with e9 | e9 <;> rw [e9] <;> decide]
        exact ih (d + 1) e I2 (by omega) ⟨by omega, he1, fun q hq => by rw [hf2 q hq, upI_row _ _ hq]; exact hfr q hq, fun i hi => by
          by_cases e9 : i = d
          · subst e9; exact hv2
          · rw [ho2 i e9, upI_k _ _ e9]; exact hlo i (by omega), hbad⟩
set_option maxHeartbeats 4000000 in
set_option maxRecDepth 100000 in
theorem c_X8_isEnough {ad : Nat → Nat} {I : KI} {J : KJ} {t : Nat} {need : Nat} {hd : Nat → Nat} {hc : Nat} (hc5 : hc ≤ 5) (hn : I 63 3 = nI need) (hn3 : need ≤ 3) (hh : ∀ x, x < hc → I 62 x = nI (hd x) ∧ hd x < 32)  {Q : Int32 → KI → KJ → KR → Prop} (h1 : ∀ I', (∀ q, q ≠ 64 → I' q = I q) → (∀ d, d < 5 → I' 64 d = nI (ablS hd hc d)) → Q 1 I' J (rf t)) (h0 : ∀ I' d, (∀ q, q ≠ 64 → I' q = I q) → d < 5 → popS (ablS hd hc d) < need → Q 0 I' J (rf t))  : Mi 2 yX8_isEnough (wm yX8_isEnough cX8_isEnough 6 (some .boolean)) [.ref (ad 63), .ref (ad 62), .int (nI hc)] ad I J (rf t) Q := by
  refine mi_of (own := RX8) yk_X8_isEnough rfl (Nat.le_of_ble_eq_true rfl) rfl (fun X hA hnL C K E => ?_)
  subst hA
  refine z_iconst (n := 1) (v := 1) C dX8_isEnough_0 rfl rfl ?_
  refine z_istore_n (n := 2) (L' := [(3, _), (0, _), (1, _), (2, _)]) C dX8_isEnough_1 rfl (by rw [hnL]; decide) rfl ?_
  refine z_iconst (n := 3) (v := 0) C dX8_isEnough_2 rfl rfl ?_
  refine z_istore (n := 5) (L' := [(4, _), (3, _), (0, _), (1, _), (2, _)]) C dX8_isEnough_3 rfl (by rw [hnL]; decide) rfl ?_
  exact l_X8_isEnough C K hnL E hc5 hn hn3 hh h1 h0 6 0 1 I (by omega) ⟨by omega, by decide, fun _ _ => rfl, fun i hi => by omega, fun e => by cases e⟩
