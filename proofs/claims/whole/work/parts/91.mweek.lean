set_option maxHeartbeats 4000000 in
set_option maxRecDepth 100000 in
theorem l_X10_mayHelp {X : KX} {t : Nat} (C : Cx X RX10 cX10_mayHelp 2) (K : Kx X) (hnL : xnL X = 5) {J : KJ} {Q : Int32 → KI → KJ → KR → Prop} (E : Ei X .boolean Q) {I : KI} {hd : Nat → Nat} {hc : Nat} (hc5 : hc ≤ 5) (hhc : I 85 37 = nI hc) (hh : ∀ x, x < hc → I 107 x = nI (hd x) ∧ hd x < 32) {need x : Nat} {rs : List Nat} (hn3 : need ≤ 3) (hl5 : rs.length < 5) (hx : x < 2 ^ hc) (hp : popS x = need) (h1 : cdW hd hc need rs x = true → Q 1 I J (rf t)) (h0 : ¬ cdW hd hc need rs x = true → Q 0 I J (rf t)) : ∀ (f i : Nat), hc - i < f → (i ≤ hc ∧ ∀ h, h < i → x.testBit h = true → (hd h).testBit rs.length = true) → Z X 0 0 (V X I J (rf t)) 13 [(4, .int (nI i)), (0, .ref (xad X 85)), (1, .int (nI x)), (2, .int (nI rs.length)), (3, .int (nI need))] [] := by
  intro f
  induction f with
  | zero => intro i h; omega
  | succ f ih =>
    intro i hf hi
    obtain ⟨hic, hlo⟩ := hi
    have h32 : 2 ^ hc ≤ 2 ^ 5 := Nat.pow_le_pow_right (by decide) hc5
    refine z_iload (n := 15) C 0 dX10_mayHelp_13 rfl rfl ?_
    refine z_aload_n (n := 16) C 1 dX10_mayHelp_15 rfl rfl ?_
    refine z_getI (n := 19) C K fF_RX10_295 dX10_mayHelp_16 rfl sh_85 (by decide) ?_
    rw [hhc]
    refine z_icmp_ge (tgt := 53) (n := 22) C dX10_mayHelp_19 rfl rfl (fun c19 => ?_) (fun c19 => ?_)
    · refine z_iconst (n := 54) (v := 1) C dX10_mayHelp_53 rfl rfl ?_
      refine z_zret C E dX10_mayHelp_54 (by decide) ?_
      rw [fa_le, nI_toInt (by omega), nI_toInt (by omega)] at c19
      exact h1 (cdW_t.mpr ⟨hp, clr_0.mpr (fun h hb => by
        have hhc2 : h < hc := by
          by_cases e : h < hc
          · exact e
          · rw [Nat.testBit_lt_two_pow (Nat.lt_of_lt_of_le hx (Nat.pow_le_pow_right (by decide) (by omega)))] at hb; cases hb
        rw [ablS_bit, decide_eq_true hhc2, hlo h (by omega) hb]; rfl)⟩)
    · rw [fa_le, nI_toInt (by omega), nI_toInt (by omega)] at c19
      have hhx := (hh i (by omega)).2
      refine z_iload_n (n := 23) C 2 dX10_mayHelp_22 rfl rfl ?_
      refine z_iload (n := 25) C 0 dX10_mayHelp_23 rfl rfl ?_
      refine z_si_2 (n := 28) (d' := 1) C K dX10_mayHelp_25 rfl yk_X10_has kT_yX10_has kM_RX10_178 (by decide) hR0 rfl ?_
      refine c_X10_has (by omega) (by omega) (fun b25 => ?_) (fun b25 => ?_)
      · refine z_ifF_eq (n := 31) (tgt := 47) C (by decide) dX10_mayHelp_28 rfl rfl ?_
        refine z_aload_n (n := 32) C 1 dX10_mayHelp_31 rfl rfl ?_
        refine z_getR (n := 35) (q := 107) C K fF_RX10_78 dX10_mayHelp_32 rfl rfl sh_85 (by decide) rfl ?_
        refine z_iload (n := 37) C 0 dX10_mayHelp_35 rfl rfl ?_
        refine z_ialdN (n := 38) C K i dX10_mayHelp_37 rfl sh_107 (by decide) rfl (by omega) (by decide) ?_
        rw [(hh i (by omega)).1]
        refine z_iload_n (n := 39) C 3 dX10_mayHelp_38 rfl rfl ?_
        refine z_si_2 (n := 42) (d' := 1) C K dX10_mayHelp_39 rfl yk_X10_has kT_yX10_has kM_RX10_178 (by decide) hR0 rfl ?_
        refine c_X10_has (by omega) (by omega) (fun b39 => ?_) (fun b39 => ?_)
        · refine z_ifT_ne (tgt := 47) C (by decide) dX10_mayHelp_42 rfl ?_
          refine z_iincG (n := 50) (c := 1) (L' := [(4, _), (0, _), (1, _), (2, _), (3, _)]) C 0 dX10_mayHelp_47 rfl rfl rfl (by rw [hnL]; decide) rfl ?_
          refine z_goto (n := 13) C dX10_mayHelp_50 rfl ?_
          rw [nI_1]
          exact ih (i + 1) (by omega) ⟨by omega, fun h hh2 hb => by
            by_cases e : h = i
            · subst e; exact b39
            · exact hlo h (by omega) hb⟩
        · refine z_ifF_ne (n := 45) (tgt := 47) C (by decide) dX10_mayHelp_42 rfl rfl ?_
          refine z_iconst (n := 46) (v := 0) C dX10_mayHelp_45 rfl rfl ?_
          refine z_zret C E dX10_mayHelp_46 (by decide) ?_
          exact h0 (fun q => by
            have := clr_0.mp (cdW_t.mp q).2 i b25
            rw [ablS_bit, b39, Bool.and_false] at this
            cases this)
      · refine z_ifT_eq (tgt := 47) C (by decide) dX10_mayHelp_28 rfl ?_
        refine z_iincG (n := 50) (c := 1) (L' := [(4, _), (0, _), (1, _), (2, _), (3, _)]) C 0 dX10_mayHelp_47 rfl rfl rfl (by rw [hnL]; decide) rfl ?_
        refine z_goto (n := 13) C dX10_mayHelp_50 rfl ?_
        rw [nI_1]
        exact ih (i + 1) (by omega) ⟨by omega, fun h hh2 hb => by
          by_cases e : h = i
          · subst e; rw [b25] at hb; cases hb
          · exact hlo h (by omega) hb⟩
set_option maxHeartbeats 4000000 in
set_option maxRecDepth 100000 in
theorem c_X10_mayHelp {ad : Nat → Nat} {I : KI} {J : KJ} {t : Nat} {hd : Nat → Nat} {hc : Nat} (hc5 : hc ≤ 5) (hhc : I 85 37 = nI hc) (hh : ∀ x, x < hc → I 107 x = nI (hd x) ∧ hd x < 32) {need x : Nat} {rs : List Nat} (hn3 : need ≤ 3) (hl5 : rs.length < 5) (hx : x < 2 ^ hc)  {Q : Int32 → KI → KJ → KR → Prop} (h1 : cdW hd hc need rs x = true → Q 1 I J (rf t)) (h0 : ¬ cdW hd hc need rs x = true → Q 0 I J (rf t))  : Mi 2 yX10_mayHelp (wm yX10_mayHelp cX10_mayHelp 5 (some .boolean)) [.ref (ad 85), .int (nI x), .int (nI rs.length), .int (nI need)] ad I J (rf t) Q := by
  refine mi_of (own := RX10) yk_X10_mayHelp rfl (Nat.le_of_ble_eq_true rfl) rfl (fun X hA hnL C K E => ?_)
  subst hA
  have h32 : 2 ^ hc ≤ 2 ^ 5 := Nat.pow_le_pow_right (by decide) hc5
  have hpl : popS x ≤ 5 := popS_le (show x < 2 ^ 5 by omega) (by decide)
  refine z_iload_n (n := 1) C 1 dX10_mayHelp_0 rfl rfl ?_
  refine z_si_1 (n := 4) (d' := 1) C K dX10_mayHelp_1 rfl yk_X10_bitsOf kT_yX10_bitsOf kM_RX10_211 (by decide) hR0 rfl ?_
  refine c_X10_bitsOf (by omega) ?_
  refine z_iload_n (n := 5) C 3 dX10_mayHelp_4 rfl rfl ?_
  refine z_icmp_eq (tgt := 10) (n := 8) C dX10_mayHelp_5 rfl rfl (fun c5 => ?_) (fun c5 => ?_)
  · refine z_iconst (n := 11) (v := 0) C dX10_mayHelp_10 rfl rfl ?_
    refine z_istore (n := 13) (L' := [(4, _), (0, _), (1, _), (2, _), (3, _)]) C dX10_mayHelp_11 rfl (by rw [hnL]; decide) rfl ?_
    exact l_X10_mayHelp C K hnL E hc5 hhc hh hn3 hl5 hx (nI_inj c5 (by omega) (by omega)) h1 h0 (hc + 1) 0 (by omega) ⟨Nat.zero_le _, fun h hh2 => by omega⟩
  · refine z_iconst (n := 9) (v := 0) C dX10_mayHelp_8 rfl rfl ?_
    refine z_zret C E dX10_mayHelp_9 (by decide) ?_
    exact h0 (fun q => c5 (by rw [(cdW_t.mp q).1]))
theorem dyS_hi {hc : Nat} : ∀ {rs : List Nat}, (∀ y, y ∈ rs → y < 2 ^ hc) → ∀ h, hc ≤ h → dyS rs h = 0
  | [], _, _, _ => rfl
  | x :: rs, hy, h, hh => by
    rw [dyS, dyS_hi (fun y q => hy y (List.mem_cons_of_mem _ q)) h hh, Nat.testBit_lt_two_pow (Nat.lt_of_lt_of_le (hy x (List.mem_cons_self)) (Nat.pow_le_pow_right (by decide) hh))]
    rfl
theorem mdS_hc {hc : Nat} {rs : List Nat} (hc5 : hc ≤ 5) (hy : ∀ y, y ∈ rs → y < 2 ^ hc) : mxN (dyS rs) hc = mdS rs := by
  have := mxN_ext (g := dyS rs) (c := hc) (fun i hi => dyS_hi hy i hi) (5 - hc)
  rw [show hc + (5 - hc) = 5 by omega] at this
  exact this.symm
theorem drop_revB {rs : List Nat} {k : Nat} (h : k < rs.length) : rs.drop k = rs.getD k 0 :: rs.drop (k + 1) := drop_cons h
theorem mxN_s (g : Nat → Nat) (n : Nat) : mxN g (n + 1) = max (mxN g n) (g n) := rfl
set_option maxHeartbeats 4000000 in
set_option maxRecDepth 100000 in
theorem la_X10_mostDays {X : KX} {t : Nat} (C : Cx X RX10 cX10_mostDays 1) (K : Kx X) (hnL : xnL X = 6) {J : KJ} {I : KI} {rs : List Nat} {d hc x mv : Nat} (hc5 : hc ≤ 5) (hx5 : x < 5) (hr : rowB I 108 rs) (hy : ∀ y, y ∈ rs → y < 2 ^ hc) (hl : rs.length = d + 1) (hd5 : d < 5) (hN : Z X 0 0 (V X I J (rf t)) 46 [(4, .int (nI (dyS rs x))), (3, .int (nI x)), (2, .int (nI mv)), (0, .ref (xad X 85)), (1, .int (nI d))] []) : ∀ (f i : Nat), d + 1 - i < f → i ≤ d + 1 → Z X 0 0 (V X I J (rf t)) 18 [(5, .int (nI i)), (4, .int (nI (dyS (rs.drop (d + 1 - i)) x))), (3, .int (nI x)), (2, .int (nI mv)), (0, .ref (xad X 85)), (1, .int (nI d))] [] := by
  intro f
  induction f with
  | zero => intro i h; omega
  | succ f ih =>
    intro i hf hi

    refine z_iload (n := 20) C 0 dX10_mostDays_18 rfl rfl ?_
    refine z_iload_n (n := 21) C 5 dX10_mostDays_20 rfl rfl ?_
    refine z_icmp_gt (tgt := 46) (n := 24) C dX10_mostDays_21 rfl rfl (fun c21 => ?_) (fun c21 => ?_)
    · refine z_sub (L' := [(4, _), (3, _), (2, _), (0, _), (1, _)]) [1, 2, 3, 4, 5] rfl ?_
      rw [fa_lt, nI_toInt (by omega), nI_toInt (by omega)] at c21
      have e : i = d + 1 := by omega
      subst e
      rw [Nat.sub_self, List.drop_zero]
      exact hN
    · rw [fa_lt, nI_toInt (by omega), nI_toInt (by omega)] at c21
      have h32 : 2 ^ hc ≤ 2 ^ 5 := Nat.pow_le_pow_right (by decide) hc5
      obtain ⟨w, ew⟩ : ∃ w, rs.getD (d + 1 - (i + 1)) 0 = w := ⟨_, rfl⟩
      have hrw : I 108 i = nI w := by rw [hr i (by omega), ← ew, show rs.length - 1 - i = d + 1 - (i + 1) by omega]
      have hw32 : w < 2 ^ hc := by rw [← ew]; exact hy _ (getD_mem (by omega))
      have hdr : rs.drop (d + 1 - (i + 1)) = w :: rs.drop (d + 1 - i) := by rw [drop_cons (show d + 1 - (i + 1) < rs.length by omega), ew, show d + 1 - (i + 1) + 1 = d + 1 - i by omega]
      refine z_iload (n := 26) C 1 dX10_mostDays_24 rfl rfl ?_
      refine z_aload_n (n := 27) C 4 dX10_mostDays_26 rfl rfl ?_
      refine z_getR (n := 30) (q := 108) C K fF_RX10_81 dX10_mostDays_27 rfl rfl sh_85 (by decide) rfl ?_
      refine z_iload (n := 32) C 0 dX10_mostDays_30 rfl rfl ?_
      refine z_ialdN (n := 33) C K i dX10_mostDays_32 rfl sh_108 (by decide) rfl (by omega) (by decide) ?_
      rw [hrw]
      refine z_iload_n (n := 34) C 2 dX10_mostDays_33 rfl rfl ?_
      refine z_ishr (n := 35) C dX10_mostDays_34 rfl ?_
      refine z_iconst (n := 36) (v := 1) C dX10_mostDays_35 rfl rfl ?_
      refine z_iand (n := 37) C dX10_mostDays_36 rfl ?_
      rw [bt_nI (by omega) (by omega)]
      refine z_iadd (n := 38) C dX10_mostDays_37 rfl ?_
      rw [show nI (dyS (rs.drop (d + 1 - i)) x) + (if w.testBit x = true then (1 : Int32) else 0) = nI (dyS (rs.drop (d + 1 - (i + 1))) x) by
        rw [hdr, dyS]
        split
        · exact nI_1 _
        · exact nI_add _ 0]
      refine z_istore (n := 40) (L' := [(4, _), (5, _), (3, _), (2, _), (0, _), (1, _)]) C dX10_mostDays_38 rfl (by rw [hnL]; decide) rfl ?_
      refine z_iincG (n := 43) (c := 1) (L' := [(5, _), (4, _), (3, _), (2, _), (0, _), (1, _)]) C 1 dX10_mostDays_40 rfl rfl rfl (by rw [hnL]; decide) rfl ?_
      refine z_goto (n := 18) C dX10_mostDays_43 rfl ?_
      rw [nI_1]
      exact ih (i + 1) (by omega) (by omega)
set_option maxHeartbeats 4000000 in
set_option maxRecDepth 100000 in
theorem l_X10_mostDays {X : KX} {t : Nat} (C : Cx X RX10 cX10_mostDays 1) (K : Kx X) (hnL : xnL X = 6) {J : KJ} {Q : Int32 → KI → KJ → KR → Prop} (E : Ei X .int Q) {I : KI} {hd : Nat → Nat} {hc : Nat} (hc5 : hc ≤ 5) (hhc : I 85 37 = nI hc) (hh : ∀ x, x < hc → I 107 x = nI (hd x) ∧ hd x < 32) {rs : List Nat} {d : Nat} (hr : rowB I 108 rs) (hy : ∀ y, y ∈ rs → y < 2 ^ hc) (hl : rs.length = d + 1) (hd5 : d < 5) (hQ : Q (nI (mdS rs)) I J (rf t)) : ∀ (f x : Nat), hc - x < f → x ≤ hc → Z X 0 0 (V X I J (rf t)) 4 [(3, .int (nI x)), (2, .int (nI (mxN (dyS rs) x))), (0, .ref (xad X 85)), (1, .int (nI d))] [] := by
  intro f
  induction f with
  | zero => intro x h; omega
  | succ f ih =>
    intro x hf hi

    refine z_iload_n (n := 5) C 0 dX10_mostDays_4 rfl rfl ?_
    refine z_aload_n (n := 6) C 2 dX10_mostDays_5 rfl rfl ?_
    refine z_getI (n := 9) C K fF_RX10_295 dX10_mostDays_6 rfl sh_85 (by decide) ?_
    rw [hhc]
    refine z_icmp_ge (tgt := 65) (n := 12) C dX10_mostDays_9 rfl rfl (fun c9 => ?_) (fun c9 => ?_)
    · refine z_iload_n (n := 66) C 1 dX10_mostDays_65 rfl rfl ?_
      refine z_iret C E dX10_mostDays_66 ?_
      rw [fa_le, nI_toInt (by omega), nI_toInt (by omega)] at c9
      have e : x = hc := by omega
      subst e
      rw [mdS_hc hc5 hy]
      exact hQ
    · rw [fa_le, nI_toInt (by omega), nI_toInt (by omega)] at c9
      refine z_iconst (n := 13) (v := 0) C dX10_mostDays_12 rfl rfl ?_
      refine z_istore (n := 15) (L' := [(4, _), (3, _), (2, _), (0, _), (1, _)]) C dX10_mostDays_13 rfl (by rw [hnL]; decide) rfl ?_
      refine z_iconst (n := 16) (v := 0) C dX10_mostDays_15 rfl rfl ?_
      refine z_istore (n := 18) (L' := [(5, _), (4, _), (3, _), (2, _), (0, _), (1, _)]) C dX10_mostDays_16 rfl (by rw [hnL]; decide) rfl ?_
      have hd0 : dyS (rs.drop (d + 1 - 0)) x = 0 := by rw [List.drop_eq_nil_of_le (by omega)]; rfl
      have hz := fun q => la_X10_mostDays (t := t) C K hnL (J := J) (I := I) (rs := rs) (d := d) (hc := hc) (x := x) (mv := mxN (dyS rs) x) hc5 (by omega) hr hy hl hd5 q (d + 2) 0 (by omega) (by omega)
      rw [hd0] at hz
      refine hz ?_
      refine z_iload (n := 48) C 0 dX10_mostDays_46 rfl rfl ?_
      have hb1 := dyS_len rs x
      have hb2 : mxN (dyS rs) x ≤ 10 := (mxN_le x).mpr (fun j _ => by have := dyS_len rs j; omega)
      refine z_iload_n (n := 49) C 2 dX10_mostDays_48 rfl rfl ?_
      refine z_icmp_le (tgt := 57) (n := 52) C dX10_mostDays_49 rfl rfl (fun c49 => ?_) (fun c49 => ?_)
      · rw [fa_le, nI_toInt (by omega), nI_toInt (by omega)] at c49
        refine z_iload_n (n := 58) C 2 dX10_mostDays_57 rfl rfl ?_
        refine z_istore_n (n := 59) (L' := [(2, _), (4, _), (3, _), (0, _), (1, _)]) C dX10_mostDays_58 rfl (by rw [hnL]; decide) rfl ?_
        refine z_iincG (n := 62) (c := 1) (L' := [(3, _), (2, _), (4, _), (0, _), (1, _)]) C 2 dX10_mostDays_59 rfl rfl rfl (by rw [hnL]; decide) rfl ?_
        refine z_goto (n := 4) C dX10_mostDays_62 rfl ?_
        refine z_sub (L' := [(3, _), (2, _), (0, _), (1, _)]) [0, 1, 3, 4] rfl ?_
        rw [nI_1, show nI (mxN (dyS rs) x) = nI (mxN (dyS rs) (x + 1)) by congr 1; rw [mxN_s]; omega]
        exact ih (x + 1) (by omega) (by omega)
      · rw [fa_le, nI_toInt (by omega), nI_toInt (by omega)] at c49
        refine z_iload (n := 54) C 0 dX10_mostDays_52 rfl rfl ?_
        refine z_goto (n := 58) C dX10_mostDays_54 rfl ?_
        refine z_istore_n (n := 59) (L' := [(2, _), (4, _), (3, _), (0, _), (1, _)]) C dX10_mostDays_58 rfl (by rw [hnL]; decide) rfl ?_
        refine z_iincG (n := 62) (c := 1) (L' := [(3, _), (2, _), (4, _), (0, _), (1, _)]) C 2 dX10_mostDays_59 rfl rfl rfl (by rw [hnL]; decide) rfl ?_
        refine z_goto (n := 4) C dX10_mostDays_62 rfl ?_
        refine z_sub (L' := [(3, _), (2, _), (0, _), (1, _)]) [0, 1, 3, 4] rfl ?_
        rw [nI_1, show nI (dyS rs x) = nI (mxN (dyS rs) (x + 1)) by congr 1; rw [mxN_s]; omega]
        exact ih (x + 1) (by omega) (by omega)
set_option maxHeartbeats 4000000 in
set_option maxRecDepth 100000 in
theorem c_X10_mostDays {ad : Nat → Nat} {I : KI} {J : KJ} {t : Nat} {hd : Nat → Nat} {hc : Nat} (hc5 : hc ≤ 5) (hhc : I 85 37 = nI hc) (hh : ∀ x, x < hc → I 107 x = nI (hd x) ∧ hd x < 32) {rs : List Nat} {d : Nat} (hr : rowB I 108 rs) (hy : ∀ y, y ∈ rs → y < 2 ^ hc) (hl : rs.length = d + 1) (hd5 : d < 5)  {Q : Int32 → KI → KJ → KR → Prop} (hQ : Q (nI (mdS rs)) I J (rf t)) : Mi 1 yX10_mostDays (wm yX10_mostDays cX10_mostDays 6 (some .int)) [.ref (ad 85), .int (nI d)] ad I J (rf t) Q := by
  refine mi_of (own := RX10) yk_X10_mostDays rfl (Nat.le_of_ble_eq_true rfl) rfl (fun X hA hnL C K E => ?_)
  subst hA
  refine z_iconst (n := 1) (v := 0) C dX10_mostDays_0 rfl rfl ?_
  refine z_istore_n (n := 2) (L' := [(2, _), (0, _), (1, _)]) C dX10_mostDays_1 rfl (by rw [hnL]; decide) rfl ?_
  refine z_iconst (n := 3) (v := 0) C dX10_mostDays_2 rfl rfl ?_
  refine z_istore_n (n := 4) (L' := [(3, _), (2, _), (0, _), (1, _)]) C dX10_mostDays_3 rfl (by rw [hnL]; decide) rfl ?_
  exact l_X10_mostDays C K hnL E hc5 hhc hh hr hy hl hd5 hQ (hc + 1) 0 (by omega) (Nat.zero_le _)
def lwS (I0 : KI) (I : KI) (hc : Nat) (rs : List Nat) (b : Nat × List Nat) : Prop := (∀ q, q ≠ 85 → q ≠ 108 → q ≠ 109 → I q = I0 q) ∧ (∀ j, j ≠ 41 → I 85 j = I0 85 j) ∧ rowB I 108 rs ∧ (∀ y, y ∈ rs → y < 2 ^ hc) ∧ I 85 41 = stI b.1 ∧ b.1 ≤ 10 ∧ (b.1 ≠ 0 → b.2.length = 5 ∧ rowB I 109 b.2)
abbrev LwR (X : KX) (need : Nat) : List (Nat × Value) := [(0, .ref (xad X 85)), (1, .int (nI need))]
def lwP (X : KX) (t : Nat) (I0 : KI) (J : KJ) (hd : Nat → Nat) (hc need k : Nat) : Prop :=
  ∀ (I : KI) (rs : List Nat) (cu : Nat) (b : Nat × List Nat), rs.length + (k + 1) = 5 → cu ≤ 2 ^ hc → lwS I0 I hc rs b → I 108 rs.length = nI cu + (-1) →
  (∀ I' b', lwS I0 I' hc rs b' → b' = bsW mdS (vilX (cdW hd hc need) k rs cu) b → Z X 0 0 (V X I' J (rf t)) 15 ((2, .int (nI rs.length + (-1))) :: LwR X need) []) →
  Z X 0 0 (V X I J (rf t)) 15 ((2, .int (nI rs.length)) :: LwR X need) []
theorem m1p1 (n : Nat) : nI n + (-1) + 1 = nI n := by rw [Int32.add_assoc]; exact Int32.add_zero _
set_option maxHeartbeats 4000000 in
set_option maxRecDepth 100000 in
theorem lw_W {X : KX} {t : Nat} (C : Cx X RX10 cX10_layWeek 3) (K : Kx X) (hnL : xnL X = 6) {J : KJ} {I : KI} {hd : Nat → Nat} {hc : Nat} (hc5 : hc ≤ 5) (hhc : I 85 37 = nI hc) (hh : ∀ x, x < hc → I 107 x = nI (hd x) ∧ hd x < 32) {need cu : Nat} {rs : List Nat} (hn3 : need ≤ 3) (hl5 : rs.length < 5) (hN : ∀ x, x ≤ 2 ^ hc → (x = 2 ^ hc ∨ (x < 2 ^ hc ∧ cdW hd hc need rs x = true)) → cu ≤ x → (∀ y, cu ≤ y → y < x → cdW hd hc need rs y = false) → Z X 0 0 (V X I J (rf t)) 54 ((3, .int (nI x)) :: (2, .int (nI rs.length)) :: LwR X need) []) : ∀ (f x : Nat), 2 ^ hc - x < f → (cu ≤ x ∧ x ≤ 2 ^ hc ∧ ∀ y, cu ≤ y → y < x → cdW hd hc need rs y = false) → Z X 0 0 (V X I J (rf t)) 28 ((3, .int (nI x)) :: (2, .int (nI rs.length)) :: LwR X need) [] := by
  intro f
  induction f with
  | zero => intro x h; omega
  | succ f ih =>
    intro x hf hi
    obtain ⟨hcx, hxc, hno⟩ := hi
    have h32 : 2 ^ hc ≤ 2 ^ 5 := Nat.pow_le_pow_right (by decide) hc5
    refine z_iload_n (n := 29) C 0 dX10_layWeek_28 rfl rfl ?_
    refine z_iconst (n := 30) (v := 1) C dX10_layWeek_29 rfl rfl ?_
    refine z_aload_n (n := 31) C 2 dX10_layWeek_30 rfl rfl ?_
    refine z_getI (n := 34) C K fF_RX10_295 dX10_layWeek_31 rfl sh_85 (by decide) ?_
    rw [hhc]
    refine z_ishl (n := 35) C dX10_layWeek_34 rfl ?_
    rw [one_shl hc (by omega)]
    refine z_icmp_ge (tgt := 54) (n := 38) C dX10_layWeek_35 rfl rfl (fun c35 => ?_) (fun c35 => ?_)
    · rw [fa_le, nI_toInt (by omega), nI_toInt (by omega)] at c35
      exact hN x hxc (Or.inl (by omega)) hcx hno
    · rw [fa_le, nI_toInt (by omega), nI_toInt (by omega)] at c35
      refine z_aload_n (n := 39) C 2 dX10_layWeek_38 rfl rfl ?_
      refine z_iload_n (n := 40) C 0 dX10_layWeek_39 rfl rfl ?_
      refine z_iload_n (n := 41) C 1 dX10_layWeek_40 rfl rfl ?_
      refine z_iload_n (n := 42) C 3 dX10_layWeek_41 rfl rfl ?_
      refine z_vi_3 (n := 45) (d' := 2) C K dX10_layWeek_42 rfl yk_X10_mayHelp yv_X10_mayHelp kM_RX10_301 (by decide) hR0 rfl rfl sh_85 (by decide) (by decide) ?_
      refine c_X10_mayHelp hc5 hhc hh hn3 hl5 (by omega) (fun b42 => ?_) (fun b42 => ?_)
      · refine z_ifT_ne (tgt := 54) C (by decide) dX10_layWeek_45 rfl ?_
        exact hN x hxc (Or.inr ⟨by omega, b42⟩) hcx hno
      · refine z_ifF_ne (n := 48) (tgt := 54) C (by decide) dX10_layWeek_45 rfl rfl ?_
        refine z_iincG (n := 51) (c := 1) (L' := [(3, _), (2, _), (0, _), (1, _)]) C 0 dX10_layWeek_48 rfl rfl rfl (by rw [hnL]; decide) rfl ?_
        refine z_goto (n := 28) C dX10_layWeek_51 rfl ?_
        rw [nI_1]
        exact ih (x + 1) (by omega) ⟨by omega, by omega, fun y h1 h2 => by
          by_cases e : y = x
          · subst e; exact eq_false_of_ne_true b42
          · exact hno y h1 (by omega)⟩
set_option maxHeartbeats 4000000 in
set_option maxRecDepth 100000 in
theorem lw_C {X : KX} {t : Nat} (C : Cx X RX10 cX10_layWeek 3) (K : Kx X) (hnL : xnL X = 6) {J : KJ} {I : KI} {need dv : Nat} {xv av : Int32} {o : List Nat} (hr : rowB I 108 o) (hL : o.length = 5) (hN : ∀ I1, (∀ q, q ≠ 109 → I1 q = I q) → rowB I1 109 o → Z X 0 0 (V X I1 J (rf t)) 145 ((2, .int (nI dv)) :: LwR X need) []) : ∀ (f i : Nat) (I1 : KI), 5 - i < f → (i ≤ 5 ∧ (∀ q, q ≠ 109 → I1 q = I q) ∧ ∀ j, j < i → I1 109 j = nI (o.getD (o.length - 1 - j) 0)) → Z X 0 0 (V X I1 J (rf t)) 119 ((5, .int (nI i)) :: (4, .int av) :: (3, .int xv) :: (2, .int (nI dv)) :: LwR X need) [] := by
  intro f
  induction f with
  | zero => intro i I1 h; omega
  | succ f ih =>
    intro i I1 hf hi
    obtain ⟨hi5, hfr, hv⟩ := hi
    refine z_iload (n := 121) C 0 dX10_layWeek_119 rfl rfl ?_
    refine z_iconst (n := 122) (v := 5) C dX10_layWeek_121 rfl rfl ?_
    refine z_icmp_ge (tgt := 145) (n := 125) C dX10_layWeek_122 rfl rfl (fun c122 => ?_) (fun c122 => ?_)
    · refine z_sub (L' := [(2, _), (0, _), (1, _)]) [3, 4, 5] rfl ?_
      rw [fa_le, nI_toInt (by omega)] at c122
      simp only [Int32.reduceToInt] at c122
      exact hN I1 hfr (fun j hj => hv j (by omega))
    · rw [fa_le, nI_toInt (by omega)] at c122
      simp only [Int32.reduceToInt] at c122
      refine z_aload_n (n := 126) C 4 dX10_layWeek_125 rfl rfl ?_
      refine z_getR (n := 129) (q := 109) C K fF_RX10_84 dX10_layWeek_126 rfl rfl sh_85 (by decide) rfl ?_
      refine z_iload (n := 131) C 0 dX10_layWeek_129 rfl rfl ?_
      refine z_aload_n (n := 132) C 4 dX10_layWeek_131 rfl rfl ?_
      refine z_getR (n := 135) (q := 108) C K fF_RX10_81 dX10_layWeek_132 rfl rfl sh_85 (by decide) rfl ?_
      refine z_iload (n := 137) C 0 dX10_layWeek_135 rfl rfl ?_
      refine z_ialdN (n := 138) C K i dX10_layWeek_137 rfl sh_108 (by decide) rfl (by omega) (by decide) ?_
      rw [hfr 108 (by decide), hr i (by omega)]
      refine z_iastN (n := 139) C K i dX10_layWeek_138 rfl sh_109 (by decide) rfl (by omega) (by decide) ?_
      refine z_iincG (n := 142) (c := 1) (L' := [(5, _), (4, _), (3, _), (2, _), (0, _), (1, _)]) C 0 dX10_layWeek_139 rfl rfl rfl (by rw [hnL]; decide) rfl ?_
      refine z_goto (n := 119) C dX10_layWeek_142 rfl ?_
      rw [nI_1]
      exact ih (i + 1) _ (by omega) ⟨by omega, fun q hq => by rw [upI_row _ _ hq]; exact hfr q hq, fun j hj => by
        by_cases e : j = i
        · subst e; rw [upI_same]
        · rw [upI_k _ _ e]; exact hv j (by omega)⟩
set_option maxHeartbeats 4000000 in
set_option maxRecDepth 100000 in
theorem lw_I {X : KX} {t : Nat} (C : Cx X RX10 cX10_layWeek 3) (K : Kx X) (hnL : xnL X = 6) {I0 : KI} {J : KJ} {hd : Nat → Nat} {hc : Nat} (hc5 : hc ≤ 5) (hhc : I0 85 37 = nI hc) (hh : ∀ x, x < hc → I0 107 x = nI (hd x) ∧ hd x < 32) {need k : Nat} {bz : Nat × List Nat} {rs : List Nat} (hn3 : need ≤ 3) (hsub : ∀ j, j < k → lwP X t I0 J hd hc need j) (hkl : rs.length + (k + 1) = 5) (hN : ∀ I' b', lwS I0 I' hc rs b' → b' = bz → Z X 0 0 (V X I' J (rf t)) 15 ((2, .int (nI rs.length + (-1))) :: LwR X need) []) : ∀ (g cu : Nat) (I : KI) (b : Nat × List Nat), 32 - cu < g → (cu ≤ 2 ^ hc ∧ lwS I0 I hc rs b ∧ I 108 rs.length = nI cu + (-1) ∧ bsW mdS (vilX (cdW hd hc need) k rs cu) b = bz) → Z X 0 0 (V X I J (rf t)) 15 ((2, .int (nI rs.length)) :: LwR X need) [] := by
  intro g
  induction g with
  | zero => intro cu I b h; omega
  | succ g ih =>
    intro cu I b hf hi
    obtain ⟨hcuc, hly, hcur, hbz⟩ := hi
    have hly2 := hly
    obtain ⟨a1, a2, a3, a4, a5, a6, a7⟩ := hly2
    have h32 : 2 ^ hc ≤ 2 ^ 5 := Nat.pow_le_pow_right (by decide) hc5
    have hhc1 : I 85 37 = nI hc := by rw [a2 37 (by decide)]; exact hhc
    have hh1 : ∀ x, x < hc → I 107 x = nI (hd x) ∧ hd x < 32 := fun x hx => by rw [a1 107 (by decide) (by decide) (by decide)]; exact hh x hx
    refine z_iload_n (n := 16) C 0 dX10_layWeek_15 rfl rfl ?_
    refine z_ifF_lt (n := 19) (tgt := 161) C (by rw [fa_lt, nI_toInt (by omega)]; simp only [Int32.reduceToInt]; omega) dX10_layWeek_16 rfl rfl ?_
    refine z_aload_n (n := 20) C 1 dX10_layWeek_19 rfl rfl ?_
    refine z_getR (n := 23) (q := 108) C K fF_RX10_81 dX10_layWeek_20 rfl rfl sh_85 (by decide) rfl ?_
    refine z_iload_n (n := 24) C 0 dX10_layWeek_23 rfl rfl ?_
    refine z_ialdN (n := 25) C K rs.length dX10_layWeek_24 rfl sh_108 (by decide) rfl (by omega) (by decide) ?_
    rw [hcur]
    refine z_iconst (n := 26) (v := 1) C dX10_layWeek_25 rfl rfl ?_
    refine z_iadd (n := 27) C dX10_layWeek_26 rfl ?_
    rw [m1p1]
    refine z_istore_n (n := 28) (L' := [(3, _), (2, _), (0, _), (1, _)]) C dX10_layWeek_27 rfl (by rw [hnL]; decide) rfl ?_
    refine lw_W C K hnL (cu := cu) hc5 hhc1 hh1 hn3 (show rs.length < 5 by omega) (fun x hxc hcase hcx hno => ?_) 33 cu (by omega) ⟨Nat.le_refl _, hcuc, fun y h1 h2 => by omega⟩
    refine z_iload_n (n := 55) C 0 dX10_layWeek_54 rfl rfl ?_
    refine z_iconst (n := 56) (v := 1) C dX10_layWeek_55 rfl rfl ?_
    refine z_aload_n (n := 57) C 2 dX10_layWeek_56 rfl rfl ?_
    refine z_getI (n := 60) C K fF_RX10_295 dX10_layWeek_57 rfl sh_85 (by decide) ?_
    rw [hhc1]
    refine z_ishl (n := 61) C dX10_layWeek_60 rfl ?_
    rw [one_shl hc (by omega)]
    refine z_icmp_ne (tgt := 70) (n := 64) C dX10_layWeek_61 rfl rfl (fun c61 => ?_) (fun c61 => ?_)
    · have hxy : x < 2 ^ hc ∧ cdW hd hc need rs x = true := hcase.resolve_left (fun e => c61 (by rw [e]))
      have hx32 : x < 32 := by omega
      have hr2 : rowB (upI I 108 rs.length (nI x)) 108 (x :: rs) := (a3.fr (fun i hi => upI_k _ _ (by omega))).cons (upI_same _ _ _ _)
      have hy2 : ∀ y, y ∈ x :: rs → y < 2 ^ hc := fun y hy => by
        rcases List.mem_cons.mp hy with e | e
        · subst e; exact hxy.1
        · exact a4 y e
      have hml := mdS_len (x :: rs)
      rw [List.length_cons] at hml
      refine z_aload_n (n := 71) C 2 dX10_layWeek_70 rfl rfl ?_
      refine z_getR (n := 74) (q := 108) C K fF_RX10_81 dX10_layWeek_71 rfl rfl sh_85 (by decide) rfl ?_
      refine z_iload_n (n := 75) C 1 dX10_layWeek_74 rfl rfl ?_
      refine z_iload_n (n := 76) C 0 dX10_layWeek_75 rfl rfl ?_
      refine z_iastN (n := 77) C K rs.length dX10_layWeek_76 rfl sh_108 (by decide) rfl (by omega) (by decide) ?_
      refine z_aload_n (n := 78) C 2 dX10_layWeek_77 rfl rfl ?_
      refine z_iload_n (n := 79) C 1 dX10_layWeek_78 rfl rfl ?_
      refine z_vi_1 (n := 82) (d' := 1) C K dX10_layWeek_79 rfl yk_X10_mostDays yv_X10_mostDays kM_RX10_304 (by decide) hR0 rfl rfl sh_85 (by decide) (by decide) ?_
      refine c_X10_mostDays (hd := hd) (rs := x :: rs) hc5 (by rw [upI_row _ _ (show 85 ≠ 108 by decide)]; exact hhc1) (fun y hy => by rw [upI_row _ _ (show 107 ≠ 108 by decide)]; exact hh1 y hy) hr2 hy2 (by rw [List.length_cons]) (by omega) ?_
      refine z_istore (n := 84) (L' := [(4, _), (3, _), (2, _), (0, _), (1, _)]) C dX10_layWeek_82 rfl (by rw [hnL]; decide) rfl ?_
      refine z_aload_n (n := 85) C 3 dX10_layWeek_84 rfl rfl ?_
      refine z_getI (n := 88) C K fF_RX10_298 dX10_layWeek_85 rfl sh_85 (by decide) ?_
      rw [upI_row _ _ (show 85 ≠ 108 by decide), a5]
      refine z_bipush (n := 90) (v := (-9)) C dX10_layWeek_88 rfl rfl ?_
      refine z_icmp_eq (tgt := 105) (n := 93) C dX10_layWeek_90 rfl rfl (fun c90 => ?_) (fun c90 => ?_)
      · have himp : b.1 = 0 ∨ mdS (x :: rs) + 1 < b.1 := Or.inl ((stI_eq (by omega)).mp c90)
        refine z_iload_n (n := 106) C 2 dX10_layWeek_105 rfl rfl ?_
        refine z_iconst (n := 107) (v := 4) C dX10_layWeek_106 rfl rfl ?_
        refine z_icmp_ne (tgt := 148) (n := 110) C dX10_layWeek_107 rfl rfl (fun c107 => ?_) (fun c107 => ?_)
        · have hk0 : k ≠ 0 := fun e => c107 (show nI rs.length = nI 4 by congr 1; omega)
          refine z_iincG (n := 151) (c := 1) (L' := [(2, _), (4, _), (3, _), (0, _), (1, _)]) C 2 dX10_layWeek_148 rfl rfl rfl (by rw [hnL]; decide) rfl ?_
          rw [nI_1]
          refine z_aload_n (n := 152) C 3 dX10_layWeek_151 rfl rfl ?_
          refine z_getR (n := 155) (q := 108) C K fF_RX10_81 dX10_layWeek_152 rfl rfl sh_85 (by decide) rfl ?_
          refine z_iload_n (n := 156) C 0 dX10_layWeek_155 rfl rfl ?_
          refine z_iconst (n := 157) (v := (-1)) C dX10_layWeek_156 rfl rfl ?_
          refine z_iastN (n := 158) C K (rs.length + 1) dX10_layWeek_157 rfl sh_108 (by decide) rfl (by omega) (by decide) ?_
          refine z_goto (n := 15) C dX10_layWeek_158 rfl ?_
          refine z_sub (L' := [(2, _), (0, _), (1, _)]) [0, 3, 4] rfl ?_
          have hst : vilX (cdW hd hc need) k rs cu = fillV (cdW hd hc need) k (x :: rs) ++ vilX (cdW hd hc need) k rs (x + 1) := by
            rw [vilX_to (by omega) 32 cu (by omega) hcx hno, vilX_yes hx32 hxy.2]
          rw [hst, bsW_app] at hbz
          obtain ⟨k2, rfl⟩ : ∃ k2, k = k2 + 1 := ⟨k - 1, by omega⟩
          rw [fillV_X] at hbz
          refine hsub k2 (by omega) _ (x :: rs) 0 b (by rw [List.length_cons]; omega) (Nat.zero_le _) ⟨fun q q1 q2 q3 => by rw [upI_row _ _ q2, upI_row _ _ q2]; exact a1 q q1 q2 q3, fun j hj => by rw [upI_row _ _ (by decide), upI_row _ _ (by decide)]; exact a2 j hj, hr2.fr (fun i hi => upI_k _ _ (by rw [List.length_cons] at hi; omega)), hy2, by rw [upI_row _ _ (by decide), upI_row _ _ (by decide)]; exact a5, a6, fun e => ⟨(a7 e).1, (a7 e).2.fr (fun i _ => by rw [upI_row _ _ (by decide), upI_row _ _ (by decide)])⟩⟩ (by rw [List.length_cons, upI_same]; rfl) (fun I4 b4 hly4 hb4 => ?_)
          rw [List.length_cons, nI_prd]
          rw [← hb4] at hbz
          obtain ⟨d1, d2, d3, d4, d5, d6, d7⟩ := hly4
          exact ih (x + 1) I4 b4 (by omega) ⟨by omega, ⟨d1, d2, d3.tail, a4, d5, d6, d7⟩, by rw [d3.last]; exact nI_back x, hbz⟩
        · have hk0 : k = 0 := by have := nI_inj (b := 4) c107 (by omega) (by decide); omega
          have hlx : (x :: rs).length = 5 := by rw [List.length_cons]; omega
          refine z_aload_n (n := 111) C 3 dX10_layWeek_110 rfl rfl ?_
          refine z_iload (n := 113) C 0 dX10_layWeek_111 rfl rfl ?_
          refine z_putI (n := 116) C K fF_RX10_298 dX10_layWeek_113 rfl sh_85 (by decide) ?_
          refine z_iconst (n := 117) (v := 0) C dX10_layWeek_116 rfl rfl ?_
          refine z_istore (n := 119) (L' := [(5, _), (4, _), (3, _), (2, _), (0, _), (1, _)]) C dX10_layWeek_117 rfl (by rw [hnL]; decide) rfl ?_
          refine lw_C C K hnL (I := upI (upI I 108 rs.length (nI x)) 85 41 (nI (mdS (x :: rs)))) (o := x :: rs) (hr2.fr (fun i _ => by rw [upI_row _ _ (by decide)])) hlx (fun I3 hf3 hr3 => ?_) 6 0 _ (by omega) ⟨Nat.zero_le _, fun _ _ => rfl, fun j hj => by omega⟩
          refine z_goto (n := 15) C dX10_layWeek_145 rfl ?_
          have hst : vilX (cdW hd hc need) k rs cu = fillV (cdW hd hc need) k (x :: rs) ++ vilX (cdW hd hc need) k rs (x + 1) := by
            rw [vilX_to (by omega) 32 cu (by omega) hcx hno, vilX_yes hx32 hxy.2]
          rw [hst, bsW_app, hk0, fillV] at hbz
          have hnb : bsW mdS [x :: rs] b = (mdS (x :: rs) + 1, x :: rs) := by rw [bsW, if_pos himp]; rfl
          rw [hnb] at hbz
          rw [hk0] at ih
          exact ih (x + 1) I3 (mdS (x :: rs) + 1, x :: rs) (by omega) ⟨by omega, ⟨fun q q1 q2 q3 => by rw [hf3 q q3, upI_row _ _ q1, upI_row _ _ q2]; exact a1 q q1 q2 q3, fun j hj => by rw [hf3 85 (by decide), upI_k _ _ hj, upI_row _ _ (by decide)]; exact a2 j hj, (hr2.fr (fun i _ => by rw [hf3 108 (by decide), upI_row _ _ (by decide)])).tail, a4, by rw [hf3 85 (by decide), upI_same]; exact stI_row _, by show mdS (x :: rs) + 1 ≤ 10; omega, fun _ => ⟨hlx, hr3⟩⟩, by rw [hf3 108 (by decide), upI_row _ _ (by decide), upI_same]; exact nI_back x, hbz⟩
      · have hb0 : b.1 ≠ 0 := fun e => c90 ((stI_eq (by omega)).mpr e)
        refine z_iload (n := 95) C 0 dX10_layWeek_93 rfl rfl ?_
        refine z_aload_n (n := 96) C 3 dX10_layWeek_95 rfl rfl ?_
        refine z_getI (n := 99) C K fF_RX10_298 dX10_layWeek_96 rfl sh_85 (by decide) ?_
        rw [upI_row _ _ (show 85 ≠ 108 by decide), a5]
        refine z_icmp_lt (tgt := 105) (n := 102) C dX10_layWeek_99 rfl rfl (fun c99 => ?_) (fun c99 => ?_)
        · rw [show stI b.1 = nI (b.1 - 1) from stI_n9 (by omega) hb0, fa_lt, nI_toInt (by omega), nI_toInt (by omega)] at c99
          have himp : b.1 = 0 ∨ mdS (x :: rs) + 1 < b.1 := Or.inr (by omega)
          refine z_iload_n (n := 106) C 2 dX10_layWeek_105 rfl rfl ?_
          refine z_iconst (n := 107) (v := 4) C dX10_layWeek_106 rfl rfl ?_
          refine z_icmp_ne (tgt := 148) (n := 110) C dX10_layWeek_107 rfl rfl (fun c107 => ?_) (fun c107 => ?_)
          · have hk0 : k ≠ 0 := fun e => c107 (show nI rs.length = nI 4 by congr 1; omega)
            refine z_iincG (n := 151) (c := 1) (L' := [(2, _), (4, _), (3, _), (0, _), (1, _)]) C 2 dX10_layWeek_148 rfl rfl rfl (by rw [hnL]; decide) rfl ?_
            rw [nI_1]
            refine z_aload_n (n := 152) C 3 dX10_layWeek_151 rfl rfl ?_
            refine z_getR (n := 155) (q := 108) C K fF_RX10_81 dX10_layWeek_152 rfl rfl sh_85 (by decide) rfl ?_
            refine z_iload_n (n := 156) C 0 dX10_layWeek_155 rfl rfl ?_
            refine z_iconst (n := 157) (v := (-1)) C dX10_layWeek_156 rfl rfl ?_
            refine z_iastN (n := 158) C K (rs.length + 1) dX10_layWeek_157 rfl sh_108 (by decide) rfl (by omega) (by decide) ?_
            refine z_goto (n := 15) C dX10_layWeek_158 rfl ?_
            refine z_sub (L' := [(2, _), (0, _), (1, _)]) [0, 3, 4] rfl ?_
            have hst : vilX (cdW hd hc need) k rs cu = fillV (cdW hd hc need) k (x :: rs) ++ vilX (cdW hd hc need) k rs (x + 1) := by
              rw [vilX_to (by omega) 32 cu (by omega) hcx hno, vilX_yes hx32 hxy.2]
            rw [hst, bsW_app] at hbz
            obtain ⟨k2, rfl⟩ : ∃ k2, k = k2 + 1 := ⟨k - 1, by omega⟩
            rw [fillV_X] at hbz
            refine hsub k2 (by omega) _ (x :: rs) 0 b (by rw [List.length_cons]; omega) (Nat.zero_le _) ⟨fun q q1 q2 q3 => by rw [upI_row _ _ q2, upI_row _ _ q2]; exact a1 q q1 q2 q3, fun j hj => by rw [upI_row _ _ (by decide), upI_row _ _ (by decide)]; exact a2 j hj, hr2.fr (fun i hi => upI_k _ _ (by rw [List.length_cons] at hi; omega)), hy2, by rw [upI_row _ _ (by decide), upI_row _ _ (by decide)]; exact a5, a6, fun e => ⟨(a7 e).1, (a7 e).2.fr (fun i _ => by rw [upI_row _ _ (by decide), upI_row _ _ (by decide)])⟩⟩ (by rw [List.length_cons, upI_same]; rfl) (fun I4 b4 hly4 hb4 => ?_)
            rw [List.length_cons, nI_prd]
            rw [← hb4] at hbz
            obtain ⟨d1, d2, d3, d4, d5, d6, d7⟩ := hly4
            exact ih (x + 1) I4 b4 (by omega) ⟨by omega, ⟨d1, d2, d3.tail, a4, d5, d6, d7⟩, by rw [d3.last]; exact nI_back x, hbz⟩
          · have hk0 : k = 0 := by have := nI_inj (b := 4) c107 (by omega) (by decide); omega
            have hlx : (x :: rs).length = 5 := by rw [List.length_cons]; omega
            refine z_aload_n (n := 111) C 3 dX10_layWeek_110 rfl rfl ?_
            refine z_iload (n := 113) C 0 dX10_layWeek_111 rfl rfl ?_
            refine z_putI (n := 116) C K fF_RX10_298 dX10_layWeek_113 rfl sh_85 (by decide) ?_
            refine z_iconst (n := 117) (v := 0) C dX10_layWeek_116 rfl rfl ?_
            refine z_istore (n := 119) (L' := [(5, _), (4, _), (3, _), (2, _), (0, _), (1, _)]) C dX10_layWeek_117 rfl (by rw [hnL]; decide) rfl ?_
            refine lw_C C K hnL (I := upI (upI I 108 rs.length (nI x)) 85 41 (nI (mdS (x :: rs)))) (o := x :: rs) (hr2.fr (fun i _ => by rw [upI_row _ _ (by decide)])) hlx (fun I3 hf3 hr3 => ?_) 6 0 _ (by omega) ⟨Nat.zero_le _, fun _ _ => rfl, fun j hj => by omega⟩
            refine z_goto (n := 15) C dX10_layWeek_145 rfl ?_
            have hst : vilX (cdW hd hc need) k rs cu = fillV (cdW hd hc need) k (x :: rs) ++ vilX (cdW hd hc need) k rs (x + 1) := by
              rw [vilX_to (by omega) 32 cu (by omega) hcx hno, vilX_yes hx32 hxy.2]
            rw [hst, bsW_app, hk0, fillV] at hbz
            have hnb : bsW mdS [x :: rs] b = (mdS (x :: rs) + 1, x :: rs) := by rw [bsW, if_pos himp]; rfl
            rw [hnb] at hbz
            rw [hk0] at ih
            exact ih (x + 1) I3 (mdS (x :: rs) + 1, x :: rs) (by omega) ⟨by omega, ⟨fun q q1 q2 q3 => by rw [hf3 q q3, upI_row _ _ q1, upI_row _ _ q2]; exact a1 q q1 q2 q3, fun j hj => by rw [hf3 85 (by decide), upI_k _ _ hj, upI_row _ _ (by decide)]; exact a2 j hj, (hr2.fr (fun i _ => by rw [hf3 108 (by decide), upI_row _ _ (by decide)])).tail, a4, by rw [hf3 85 (by decide), upI_same]; exact stI_row _, by show mdS (x :: rs) + 1 ≤ 10; omega, fun _ => ⟨hlx, hr3⟩⟩, by rw [hf3 108 (by decide), upI_row _ _ (by decide), upI_same]; exact nI_back x, hbz⟩
        · refine z_goto (n := 15) C dX10_layWeek_102 rfl ?_
          refine z_sub (L' := [(2, _), (0, _), (1, _)]) [2, 3, 4] rfl ?_
          rw [show stI b.1 = nI (b.1 - 1) from stI_n9 (by omega) hb0, fa_lt, nI_toInt (by omega), nI_toInt (by omega)] at c99
          have hst : vilX (cdW hd hc need) k rs cu = fillV (cdW hd hc need) k (x :: rs) ++ vilX (cdW hd hc need) k rs (x + 1) := by
            rw [vilX_to (by omega) 32 cu (by omega) hcx hno, vilX_yes hx32 hxy.2]
          rw [hst, bsW_app] at hbz
          have hkp : bsW mdS (fillV (cdW hd hc need) k (x :: rs)) b = b := bsW_keep _ _ hb0 (fun o ho => by have := mdS_mono ho; omega)
          rw [hkp] at hbz
          exact ih (x + 1) _ b (by omega) ⟨by omega, ⟨fun q q1 q2 q3 => by rw [upI_row _ _ q2]; exact a1 q q1 q2 q3, fun j hj => by rw [upI_row _ _ (by decide)]; exact a2 j hj, hr2.tail, a4, by rw [upI_row _ _ (by decide)]; exact a5, a6, fun e => ⟨(a7 e).1, (a7 e).2.fr (fun i _ => by rw [upI_row _ _ (by decide)])⟩⟩, by rw [upI_same]; exact nI_back x, hbz⟩
    · refine z_iincG (n := 67) (c := (-1)) (L' := [(2, _), (3, _), (0, _), (1, _)]) C 1 dX10_layWeek_64 rfl rfl rfl (by rw [hnL]; decide) rfl ?_
      refine z_goto (n := 15) C dX10_layWeek_67 rfl ?_
      refine z_sub (L' := [(2, _), (0, _), (1, _)]) [0, 2, 3] rfl ?_
      have hxe : x = 2 ^ hc := nI_inj c61 (by omega) (by omega)
      have hnil : vilX (cdW hd hc need) k rs cu = [] := vilX_none 32 _ (by omega) (fun y h1 h2 => by
        by_cases e : y < 2 ^ hc
        · exact hno y h1 (by omega)
        · exact cdW_big (by omega))
      rw [hnil] at hbz
      exact hN I b hly hbz
theorem lw_all {X : KX} {t : Nat} (C : Cx X RX10 cX10_layWeek 3) (K : Kx X) (hnL : xnL X = 6) {I0 : KI} {J : KJ} {hd : Nat → Nat} {hc : Nat} (hc5 : hc ≤ 5) (hhc : I0 85 37 = nI hc) (hh : ∀ x, x < hc → I0 107 x = nI (hd x) ∧ hd x < 32) {need : Nat} (hn3 : need ≤ 3) : ∀ (q k : Nat), k < q → lwP X t I0 J hd hc need k := by
  intro q
  induction q with
  | zero => intro k h; omega
  | succ q ih =>
    intro k hkq I rs cu b h1 h2 h3 h4 hN
    exact lw_I C K hnL hc5 hhc hh hn3 (fun j hj => ih j (by omega)) h1 (fun I' b' g1 g2 => hN I' b' g1 g2) 33 cu I b (by omega) ⟨h2, h3, h4, rfl⟩
set_option maxHeartbeats 4000000 in
set_option maxRecDepth 100000 in
theorem c_X10_layWeek {ad : Nat → Nat} {I : KI} {J : KJ} {t : Nat} {hd : Nat → Nat} {hc : Nat} (hc5 : hc ≤ 5) (hhc : I 85 37 = nI hc) (hh : ∀ x, x < hc → I 107 x = nI (hd x) ∧ hd x < 32) {need : Nat} (hn3 : need ≤ 3) {Q : KI → KJ → KR → Prop} (hQ : ∀ I', (∀ q, q ≠ 85 → q ≠ 108 → q ≠ 109 → I' q = I q) → (∀ j, j ≠ 41 → I' 85 j = I 85 j) → I' 85 41 = stI (weB hd hc need).1 → (weB hd hc need).1 ≤ 10 → ((weB hd hc need).1 ≠ 0 → (weB hd hc need).2.length = 5 ∧ rowB I' 109 (weB hd hc need).2) → Q I' J (rf t))  : Mv 3 yX10_layWeek (wm yX10_layWeek cX10_layWeek 6 none) [.ref (ad 85), .int (nI need)] ad I J (rf t) Q := by
  refine mv_of (own := RX10) yk_X10_layWeek rfl (Nat.le_of_ble_eq_true rfl) rfl (fun X hA hnL C K E => ?_)
  subst hA
  refine z_aload_n (n := 1) C 0 dX10_layWeek_0 rfl rfl ?_
  refine z_bipush (n := 3) (v := (-9)) C dX10_layWeek_1 rfl rfl ?_
  refine z_putI (n := 6) C K fF_RX10_298 dX10_layWeek_3 rfl sh_85 (by decide) ?_
  refine z_iconst (n := 7) (v := 0) C dX10_layWeek_6 rfl rfl ?_
  refine z_istore_n (n := 8) (L' := [(2, _), (0, _), (1, _)]) C dX10_layWeek_7 rfl (by rw [hnL]; decide) rfl ?_
  refine z_aload_n (n := 9) C 1 dX10_layWeek_8 rfl rfl ?_
  refine z_getR (n := 12) (q := 108) C K fF_RX10_81 dX10_layWeek_9 rfl rfl sh_85 (by decide) rfl ?_
  refine z_iconst (n := 13) (v := 0) C dX10_layWeek_12 rfl rfl ?_
  refine z_iconst (n := 14) (v := (-1)) C dX10_layWeek_13 rfl rfl ?_
  refine z_iastN (n := 15) C K 0 dX10_layWeek_14 rfl sh_108 (by decide) rfl (by decide) (by decide) ?_
  refine lw_all C K hnL (I0 := upI (upI I 85 41 (-9)) 108 0 (-1)) (hd := hd) hc5 (by rw [upI_row _ _ (by decide), upI_k _ _ (by decide)]; exact hhc) (fun x hx => by rw [upI_row _ _ (by decide), upI_row _ _ (by decide)]; exact hh x hx) hn3 5 4 (by decide) _ [] 0 (0, []) rfl (Nat.zero_le _) ⟨fun _ _ _ _ => rfl, fun _ _ => rfl, fun i hi => absurd hi (Nat.not_lt_zero _), fun y hy => absurd hy (List.not_mem_nil), by rw [upI_row _ _ (by decide), upI_same]; rfl, by decide, fun e => absurd rfl e⟩ (by rw [show ([] : List Nat).length = 0 from rfl, upI_same]; rfl) (fun I2 b2 hly2 hb2 => ?_)
  refine z_iload_n (n := 16) C 0 dX10_layWeek_15 rfl rfl ?_
  refine z_ifT_lt (tgt := 161) C (by decide) dX10_layWeek_16 rfl ?_
  refine z_vret C E dX10_layWeek_161 ?_
  obtain ⟨d1, d2, d3, d4, d5, d6, d7⟩ := hly2
  exact hQ I2 (fun q q1 q2 q3 => by rw [d1 q q1 q2 q3, upI_row _ _ q2, upI_row _ _ q1]) (fun j hj => by rw [d2 j hj, upI_row _ _ (by decide), upI_k _ _ hj]) (by rw [d5, hb2]; rfl) (by rw [hb2] at d6; exact d6) (fun e => by rw [hb2] at d7; exact d7 e)
set_option maxHeartbeats 4000000 in
set_option maxRecDepth 100000 in
theorem c_X10_week {ad : Nat → Nat} {I : KI} {J : KJ} {t : Nat} {hv0 hc : Nat} {hd : Nat → Nat} (hm : mMi I hv0 hc hd) (hok : okMi hv0 hc hd) {nv kv : Int32}  {Q : Int32 → KI → KJ → KR → Prop} (hR : ∀ v, wkR nv kv = some v → Q v I J (rf t)) (hS : ∀ I', wkR nv kv = none → (∀ q, q ≠ 85 → q ≠ 108 → q ≠ 109 → I' q = I q) → (∀ j, j ≠ 41 → I' 85 j = I 85 j) → Q (wkV (weB hd hc nv.toNatClampNeg) kv) I' J (rf t)) : Mi 4 yX10_week (wm yX10_week cX10_week 3 (some .int)) [.ref (ad 85), .int (nv), .int (kv)] ad I J (rf t) Q := by
  refine mi_of (own := RX10) yk_X10_week rfl (Nat.le_of_ble_eq_true rfl) rfl (fun X hA hnL C K E => ?_)
  subst hA
  refine z_iload_n (n := 1) C 1 dX10_week_0 rfl rfl ?_
  refine z_iconst (n := 2) (v := 0) C dX10_week_1 rfl rfl ?_
  refine z_iconst (n := 3) (v := 3) C dX10_week_2 rfl rfl ?_
  refine z_si_3 (n := 6) (d' := 1) C K dX10_week_3 rfl yk_X10_within kT_yX10_within kM_RX10_92 (by decide) hR0 rfl ?_
  refine m_inB (lo := 0) (hi := 3) (by decide) (by decide) (fun b3 => ?_) (fun b3 => ?_)
  · refine z_ifT_ne (tgt := 12) C (by decide) dX10_week_6 rfl ?_
    refine z_iload_n (n := 13) C 2 dX10_week_12 rfl rfl ?_
    refine z_iconst (n := 14) (v := (-1)) C dX10_week_13 rfl rfl ?_
    refine z_iconst (n := 15) (v := 4) C dX10_week_14 rfl rfl ?_
    refine z_si_3 (n := 18) (d' := 1) C K dX10_week_15 rfl yk_X10_within kT_yX10_within kM_RX10_92 (by decide) hR0 rfl ?_
    refine m_inB (lo := -1) (hi := 4) (by decide) (by decide) (fun b15 => ?_) (fun b15 => ?_)
    · refine z_ifT_ne (tgt := 23) C (by decide) dX10_week_18 rfl ?_
      obtain ⟨need, hn3, rfl⟩ := isB_of (h := 3) b3
      refine z_aload_n (n := 24) C 0 dX10_week_23 rfl rfl ?_
      refine z_iload_n (n := 25) C 1 dX10_week_24 rfl rfl ?_
      refine z_vv_1 (n := 28) (d' := 3) C K dX10_week_25 rfl yk_X10_layWeek yv_X10_layWeek kM_RX10_307 (by decide) hR0 rfl rfl sh_85 (by decide) (by decide) ?_
      refine c_X10_layWeek (hd := hd) hok.2.2.1 hm.2.1 (fun x hx => ⟨hm.2.2 x hx, hok.2.2.2 x hx⟩) hn3 (fun I2 hf2 hj2 h41 hb hs => ?_)
      refine z_iload_n (n := 29) C 2 dX10_week_28 rfl rfl ?_
      refine z_iconst (n := 30) (v := (-1)) C dX10_week_29 rfl rfl ?_
      refine z_icmp_ne (tgt := 40) (n := 33) C dX10_week_30 rfl rfl (fun c30 => ?_) (fun c30 => ?_)
      · refine z_aload_n (n := 41) C 0 dX10_week_40 rfl rfl ?_
        refine z_getI (n := 44) C K fF_RX10_298 dX10_week_41 rfl sh_85 (by decide) ?_
        refine z_bipush (n := 46) (v := (-9)) C dX10_week_44 rfl rfl ?_
        rw [h41]
        refine z_icmp_ne (tgt := 54) (n := 49) C dX10_week_46 rfl rfl (fun c46 => ?_) (fun c46 => ?_)
        · have hk0 : 0 ≤ kv.toInt := by
            have q9 := b15.1
            by_cases e : kv.toInt = -1
            · exfalso
              exact c30 (Int32.toInt_inj.mp (by rw [e]; decide))
            · omega
          obtain ⟨k, hk4, rfl⟩ := isB_of (h := 4) (show isB 0 (4 : Nat) kv from ⟨hk0, b15.2⟩)
          refine z_aload_n (n := 55) C 0 dX10_week_54 rfl rfl ?_
          refine z_getR (n := 58) (q := 109) C K fF_RX10_84 dX10_week_55 rfl rfl sh_85 (by decide) rfl ?_
          refine z_iload_n (n := 59) C 2 dX10_week_58 rfl rfl ?_
          refine z_ialdN (n := 60) C K k dX10_week_59 rfl sh_109 (by decide) rfl (by omega) (by decide) ?_
          refine z_iret C E dX10_week_60 ?_
          have hx := hS I2 (by unfold wkR; rw [if_neg (fun q => q b3), if_neg (fun q => q b15)]) hf2 hj2
          rw [nI_clamp (show need < 2 ^ 31 by omega)] at hx
          unfold wkV at hx
          have hne : (weB hd hc need).1 ≠ 0 := fun e => c46 ((stI_eq (by omega)).mpr e)
          rw [if_neg hne, if_neg c30, nI_clamp (show k < 2 ^ 31 by omega)] at hx
          rw [(hs hne).2 k (by rw [(hs hne).1]; omega), (hs hne).1]
          exact hx
        · refine z_bipush (n := 51) (v := (-9)) C dX10_week_49 rfl rfl ?_
          refine z_goto (n := 60) C dX10_week_51 rfl ?_
          refine z_iret C E dX10_week_60 ?_
          have hx := hS I2 (by unfold wkR; rw [if_neg (fun q => q b3), if_neg (fun q => q b15)]) hf2 hj2
          rw [nI_clamp (show need < 2 ^ 31 by omega)] at hx
          unfold wkV at hx
          rw [if_pos ((stI_eq (by omega)).mp c46)] at hx
          exact hx
      · refine z_aload_n (n := 34) C 0 dX10_week_33 rfl rfl ?_
        refine z_getI (n := 37) C K fF_RX10_298 dX10_week_34 rfl sh_85 (by decide) ?_
        refine z_goto (n := 60) C dX10_week_37 rfl ?_
        refine z_iret C E dX10_week_60 ?_
        have hx := hS I2 (by unfold wkR; rw [if_neg (fun q => q b3), if_neg (fun q => q b15)]) hf2 hj2
        rw [nI_clamp (show need < 2 ^ 31 by omega)] at hx
        unfold wkV at hx
        rw [h41]
        unfold stI
        by_cases e : (weB hd hc need).1 = 0
        · rw [if_pos e] at hx ⊢; exact hx
        · rw [if_neg e, if_pos c30] at hx
          rw [if_neg e]; exact hx
    · refine z_ifF_ne (n := 21) (tgt := 23) C (by decide) dX10_week_18 rfl rfl ?_
      refine z_iconst (n := 22) (v := (-1)) C dX10_week_21 rfl rfl ?_
      refine z_iret C E dX10_week_22 ?_
      exact hR _ (by unfold wkR; rw [if_neg (fun q => q b3), if_pos b15])
  · refine z_ifF_ne (n := 9) (tgt := 12) C (by decide) dX10_week_6 rfl rfl ?_
    refine z_bipush (n := 11) (v := (-2)) C dX10_week_9 rfl rfl ?_
    refine z_iret C E dX10_week_11 ?_
    exact hR _ (by unfold wkR; rw [if_pos b3])
