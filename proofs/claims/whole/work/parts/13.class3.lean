set_option maxHeartbeats 4000000 in
set_option maxRecDepth 100000 in
theorem c_X9_ready {ad : Nat → Nat} {I : KI} {J : KJ} {t : Nat} {c : Nat} {ki co ag re : Nat → Nat} {T : Nat → Nat → Nat}(hk : cKd I c ki co ag re T){n : Nat} (ok : okKd n c ki co ag re T){xv v : Int32} {Q : Int32 → KI → KJ → KR → Prop} (hR : ∀ a, readyR c xv v = some a → Q a I J (rf t)) (hS : readyR c xv v = none → ∀ x r : Nat, xv = nI x → x < c → v = nI r → r ≤ 60 → ∀ I', (∀ q, ¬ (75 ≤ q ∧ q ≤ 84) → I' q = I q) → cKd I' c ki co ag (fu re x r) T → Q (nI (re x)) I' J (rf t)) : Mi 3 yX9_ready (wm yX9_ready cX9_ready 4 (some .int)) [.ref (ad 0), .int (xv), .int (v)] ad I J (rf t) Q := by
  refine mi_of (own := RX9) yk_X9_ready rfl (Nat.le_of_ble_eq_true rfl) rfl (fun X hA hnL C K E => ?_)
  subst hA
  refine z_aload_n (n := 1) C 0 dX9_ready_0 rfl rfl ?_
  refine z_iload_n (n := 2) C 1 dX9_ready_1 rfl rfl ?_
  refine z_vi_1 (n := 5) (d' := 1) C K dX9_ready_2 rfl yk_X9_isChild yv_X9_isChild kM_RX9_162 (by decide) hR0 rfl rfl sh_0 (by decide) (by decide) ?_
  refine c_X9_isChild hk.1 ok.1 (fun b2 => ?_) (fun b2 => ?_)
  · refine z_ifT_ne (tgt := 10) C (by decide) dX9_ready_5 rfl ?_
    refine z_iload_n (n := 11) C 2 dX9_ready_10 rfl rfl ?_
    refine z_iconst (n := 12) (v := 0) C dX9_ready_11 rfl rfl ?_
    refine z_bipush (n := 14) (v := 60) C dX9_ready_12 rfl rfl ?_
    refine z_si_3 (n := 17) (d' := 1) C K dX9_ready_14 rfl yk_X9_isWithin kT_yX9_isWithin kM_RX9_131 (by decide) hR0 rfl ?_
    refine c_inB (lo := 0) (hi := 60) (by decide) (by decide) (fun b14 => ?_) (fun b14 => ?_)
    · refine z_ifT_ne (tgt := 23) C (by decide) dX9_ready_17 rfl ?_
      have hnone : readyR c xv v = none := by unfold readyR; rw [if_neg (fun q => q b2), if_neg (fun q => q b14)]
      obtain ⟨x, hxc, rfl⟩ := isN_of b2
      obtain ⟨r, hr, rfl⟩ := isB_of (h := 60) b14
      have hx : x < 10 := by have := ok.1; omega
      refine z_aload_n (n := 24) C 0 dX9_ready_23 rfl rfl ?_
      refine z_getR (n := 27) (q := 48) C K fF_RX9_36 dX9_ready_24 rfl rfl sh_0 (by decide) rfl ?_
      refine z_iload_n (n := 28) C 1 dX9_ready_27 rfl rfl ?_
      refine z_aaldN (n := 29) (q := (75 + x)) (ci := 0) C K x dX9_ready_28 rfl (by decide) sh_48 (by decide) rfl hx (by decide) (rf_children hx) ?_
      refine z_getI (n := 32) C K fF_RX9_174 dX9_ready_29 rfl (sh_child hx) (lt_child hx) ?_
      refine z_istore_n (n := 33) (L' := [(3, _), (0, _), (1, _), (2, _)]) C dX9_ready_32 rfl (by rw [hnL]; decide) rfl ?_
      refine z_aload_n (n := 34) C 1 dX9_ready_33 rfl rfl ?_
      refine z_getR (n := 37) (q := 48) C K fF_RX9_36 dX9_ready_34 rfl rfl sh_0 (by decide) rfl ?_
      refine z_iload_n (n := 38) C 2 dX9_ready_37 rfl rfl ?_
      refine z_aaldN (n := 39) (q := (75 + x)) (ci := 0) C K x dX9_ready_38 rfl (by decide) sh_48 (by decide) rfl hx (by decide) (rf_children hx) ?_
      refine z_iload_n (n := 40) C 3 dX9_ready_39 rfl rfl ?_
      refine z_putI (n := 43) C K fF_RX9_174 dX9_ready_40 rfl (sh_child hx) (lt_child hx) ?_
      refine z_iload_n (n := 44) C 0 dX9_ready_43 rfl rfl ?_
      refine z_iret C E dX9_ready_44 ?_
      refine eqQ (hk.2 x hxc).2.2.2.1 (hS hnone x r rfl hxc rfl hr _ (fun q h => ?_) ⟨?_, fun z hz => ?_⟩)
      · funext j; rw [upI_p _ _ (by omega)]
      · rw [upI_p _ _ (by omega)]; exact hk.1
      · by_cases hzx : z = x
        · subst hzx
          rw [upI_same, upI_k _ _ (by decide), upI_k _ _ (by decide), upI_k _ _ (by decide), upI_k _ _ (by decide), upI_k _ _ (by decide), fu_same]
          have h1 := hk.2 z hz
          exact ⟨h1.1, h1.2.1, h1.2.2.1, rfl, h1.2.2.2.2⟩
        · rw [upI_row _ _ (by omega), fu_ne _ _ hzx]
          exact hk.2 z hz
    · refine z_ifF_ne (n := 20) (tgt := 23) C (by decide) dX9_ready_17 rfl rfl ?_
      refine z_bipush (n := 22) (v := (-2)) C dX9_ready_20 rfl rfl ?_
      refine z_iret C E dX9_ready_22 ?_
      exact hR _ (by unfold readyR; rw [if_neg (fun q => q b2), if_pos b14])
  · refine z_ifF_ne (n := 8) (tgt := 10) C (by decide) dX9_ready_5 rfl rfl ?_
    refine z_iconst (n := 9) (v := (-1)) C dX9_ready_8 rfl rfl ?_
    refine z_iret C E dX9_ready_9 ?_
    exact hR _ (by unfold readyR; rw [if_pos b2])
set_option maxHeartbeats 4000000 in
set_option maxRecDepth 100000 in
theorem c_X9_ofChild {ad : Nat → Nat} {I : KI} {J : KJ} {t : Nat} {c : Nat} {ki co ag re : Nat → Nat} {T : Nat → Nat → Nat}(hk : cKd I c ki co ag re T){n : Nat} (ok : okKd n c ki co ag re T){xv w : Int32} {Q : Int32 → KI → KJ → KR → Prop} (hR : ∀ a, ofChildR c xv w = some a → Q a I J (rf t)) (hS : ofChildR c xv w = none → ∀ x i : Nat, xv = nI x → x < c → w = nI i → i < 8 → Q (ofChildS ki co ag re T c x i) I J (rf t)) : Mi 3 yX9_ofChild (wm yX9_ofChild cX9_ofChild 4 (some .int)) [.ref (ad 0), .int (xv), .int (w)] ad I J (rf t) Q := by
  refine mi_of (own := RX9) yk_X9_ofChild rfl (Nat.le_of_ble_eq_true rfl) rfl (fun X hA hnL C K E => ?_)
  subst hA
  refine z_aload_n (n := 1) C 0 dX9_ofChild_0 rfl rfl ?_
  refine z_iload_n (n := 2) C 1 dX9_ofChild_1 rfl rfl ?_
  refine z_vi_1 (n := 5) (d' := 1) C K dX9_ofChild_2 rfl yk_X9_isChild yv_X9_isChild kM_RX9_162 (by decide) hR0 rfl rfl sh_0 (by decide) (by decide) ?_
  refine c_X9_isChild hk.1 ok.1 (fun b2 => ?_) (fun b2 => ?_)
  · refine z_ifT_ne (tgt := 10) C (by decide) dX9_ofChild_5 rfl ?_
    obtain ⟨x, hxc, rfl⟩ := isN_of b2
    have hx : x < 10 := by have := ok.1; omega
    have hz := hk.2 x hxc
    have hb := ok.2.1 x hxc
    refine z_aload_n (n := 11) C 0 dX9_ofChild_10 rfl rfl ?_
    refine z_getR (n := 14) (q := 48) C K fF_RX9_36 dX9_ofChild_11 rfl rfl sh_0 (by decide) rfl ?_
    refine z_iload_n (n := 15) C 1 dX9_ofChild_14 rfl rfl ?_
    refine z_aaldN (n := 16) (q := (75 + x)) (ci := 0) C K x dX9_ofChild_15 rfl (by decide) sh_48 (by decide) rfl hx (by decide) (rf_children hx) ?_
    refine z_astore_n (n := 17) (L' := [(3, _), (0, _), (1, _), (2, _)]) C dX9_ofChild_16 rfl (by rw [hnL]; decide) rfl ?_
    refine z_iload_n (n := 18) C 3 dX9_ofChild_17 rfl rfl ?_
    refine z_sw C 0 8 [64, 69, 74, 79, 84, 89, 94, 99] 104 dX9_ofChild_18 rfl (by decide) (by decide) (fun i hi => ?_) rfl (fun i u hi hu hx2 => ?_) (fun hx2 => ?_)
    · match i, hi with
      | 0, _ => exact ⟨_, _, rfl, rfl, rfl⟩
      | 1, _ => exact ⟨_, _, rfl, rfl, rfl⟩
      | 2, _ => exact ⟨_, _, rfl, rfl, rfl⟩
      | 3, _ => exact ⟨_, _, rfl, rfl, rfl⟩
      | 4, _ => exact ⟨_, _, rfl, rfl, rfl⟩
      | 5, _ => exact ⟨_, _, rfl, rfl, rfl⟩
      | 6, _ => exact ⟨_, _, rfl, rfl, rfl⟩
      | 7, _ => exact ⟨_, _, rfl, rfl, rfl⟩
    · match i, hi, hu, hx2 with
      | 0, _, hu, hx2 =>
        cases hu
        refine z_aload_n (n := 65) C 0 dX9_ofChild_64 rfl rfl ?_
        refine z_getI (n := 68) C K fF_RX9_165 dX9_ofChild_65 rfl (sh_child hx) (lt_child hx) ?_
        refine z_iret C E dX9_ofChild_68 ?_
        have hsp : ofChildR c (nI x) w = none := by
          unfold ofChildR
          rw [if_neg (fun q => q b2), if_neg]
          intro q; apply q
          rw [hx2]; decide
        refine eqQ ?_ (hS hsp x _ rfl hxc hx2 (by decide))
        first | exact hz.1 | exact hz.2.1 | exact hz.2.2.1 | exact hz.2.2.2.1 | exact hz.2.2.2.2.1 | exact hz.2.2.2.2.2 | rfl
      | 1, _, hu, hx2 =>
        cases hu
        refine z_aload_n (n := 70) C 0 dX9_ofChild_69 rfl rfl ?_
        refine z_getI (n := 73) C K fF_RX9_168 dX9_ofChild_70 rfl (sh_child hx) (lt_child hx) ?_
        refine z_iret C E dX9_ofChild_73 ?_
        have hsp : ofChildR c (nI x) w = none := by
          unfold ofChildR
          rw [if_neg (fun q => q b2), if_neg]
          intro q; apply q
          rw [hx2]; decide
        refine eqQ ?_ (hS hsp x _ rfl hxc hx2 (by decide))
        first | exact hz.1 | exact hz.2.1 | exact hz.2.2.1 | exact hz.2.2.2.1 | exact hz.2.2.2.2.1 | exact hz.2.2.2.2.2 | rfl
      | 2, _, hu, hx2 =>
        cases hu
        refine z_aload_n (n := 75) C 0 dX9_ofChild_74 rfl rfl ?_
        refine z_getI (n := 78) C K fF_RX9_171 dX9_ofChild_75 rfl (sh_child hx) (lt_child hx) ?_
        refine z_iret C E dX9_ofChild_78 ?_
        have hsp : ofChildR c (nI x) w = none := by
          unfold ofChildR
          rw [if_neg (fun q => q b2), if_neg]
          intro q; apply q
          rw [hx2]; decide
        refine eqQ ?_ (hS hsp x _ rfl hxc hx2 (by decide))
        first | exact hz.1 | exact hz.2.1 | exact hz.2.2.1 | exact hz.2.2.2.1 | exact hz.2.2.2.2.1 | exact hz.2.2.2.2.2 | rfl
      | 3, _, hu, hx2 =>
        cases hu
        refine z_aload_n (n := 80) C 0 dX9_ofChild_79 rfl rfl ?_
        refine z_getI (n := 83) C K fF_RX9_174 dX9_ofChild_80 rfl (sh_child hx) (lt_child hx) ?_
        refine z_iret C E dX9_ofChild_83 ?_
        have hsp : ofChildR c (nI x) w = none := by
          unfold ofChildR
          rw [if_neg (fun q => q b2), if_neg]
          intro q; apply q
          rw [hx2]; decide
        refine eqQ ?_ (hS hsp x _ rfl hxc hx2 (by decide))
        first | exact hz.1 | exact hz.2.1 | exact hz.2.2.1 | exact hz.2.2.2.1 | exact hz.2.2.2.2.1 | exact hz.2.2.2.2.2 | rfl
      | 4, _, hu, hx2 =>
        cases hu
        refine z_aload_n (n := 85) C 0 dX9_ofChild_84 rfl rfl ?_
        refine z_vi_0 (n := 88) (d' := 1) C K dX9_ofChild_85 rfl yk_X0_pace yv_X0_pace kM_RX9_177 (by decide) hR0 rfl rfl (sh_child hx) (by decide) (lt_child hx) ?_
        refine c_X0_pace hx hz.1 hz.2.2.1 hb.1 (by omega) ?_
        refine z_iret C E dX9_ofChild_88 ?_
        have hsp : ofChildR c (nI x) w = none := by
          unfold ofChildR
          rw [if_neg (fun q => q b2), if_neg]
          intro q; apply q
          rw [hx2]; decide
        refine eqQ ?_ (hS hsp x _ rfl hxc hx2 (by decide))
        first | exact hz.1 | exact hz.2.1 | exact hz.2.2.1 | exact hz.2.2.2.1 | exact hz.2.2.2.2.1 | exact hz.2.2.2.2.2 | rfl
      | 5, _, hu, hx2 =>
        cases hu
        refine z_aload_n (n := 90) C 0 dX9_ofChild_89 rfl rfl ?_
        refine z_vi_0 (n := 93) (d' := 1) C K dX9_ofChild_90 rfl yk_X0_heads yv_X0_heads kM_RX9_181 (by decide) hR0 rfl rfl (sh_child hx) (by decide) (lt_child hx) ?_
        refine c_X0_heads hx hz.1 hb.1 ?_
        refine z_iret C E dX9_ofChild_93 ?_
        have hsp : ofChildR c (nI x) w = none := by
          unfold ofChildR
          rw [if_neg (fun q => q b2), if_neg]
          intro q; apply q
          rw [hx2]; decide
        refine eqQ ?_ (hS hsp x _ rfl hxc hx2 (by decide))
        first | exact hz.1 | exact hz.2.1 | exact hz.2.2.1 | exact hz.2.2.2.1 | exact hz.2.2.2.2.1 | exact hz.2.2.2.2.2 | rfl
      | 6, _, hu, hx2 =>
        cases hu
        refine z_aload_n (n := 95) C 0 dX9_ofChild_94 rfl rfl ?_
        refine z_getI (n := 98) C K fF_RX9_184 dX9_ofChild_95 rfl (sh_child hx) (lt_child hx) ?_
        refine z_iret C E dX9_ofChild_98 ?_
        have hsp : ofChildR c (nI x) w = none := by
          unfold ofChildR
          rw [if_neg (fun q => q b2), if_neg]
          intro q; apply q
          rw [hx2]; decide
        refine eqQ ?_ (hS hsp x _ rfl hxc hx2 (by decide))
        first | exact hz.1 | exact hz.2.1 | exact hz.2.2.1 | exact hz.2.2.2.1 | exact hz.2.2.2.2.1 | exact hz.2.2.2.2.2 | rfl
      | 7, _, hu, hx2 =>
        cases hu
        refine z_aload_n (n := 100) C 0 dX9_ofChild_99 rfl rfl ?_
        refine z_getI (n := 103) C K fF_RX9_187 dX9_ofChild_100 rfl (sh_child hx) (lt_child hx) ?_
        refine z_iret C E dX9_ofChild_103 ?_
        have hsp : ofChildR c (nI x) w = none := by
          unfold ofChildR
          rw [if_neg (fun q => q b2), if_neg]
          intro q; apply q
          rw [hx2]; decide
        refine eqQ ?_ (hS hsp x _ rfl hxc hx2 (by decide))
        first | exact hz.1 | exact hz.2.1 | exact hz.2.2.1 | exact hz.2.2.2.1 | exact hz.2.2.2.2.1 | exact hz.2.2.2.2.2 | rfl
    · refine z_bipush (n := 106) (v := (-2)) C dX9_ofChild_104 rfl rfl ?_
      refine z_iret C E dX9_ofChild_106 ?_
      exact hR _ (by
        unfold ofChildR
        rw [if_neg (fun q => q b2), if_pos]
        intro q
        obtain ⟨i, hi, rfl⟩ := isB_of (h := 7) q
        exact hx2 i (by omega) (by rw [Nat.zero_add]))
  · refine z_ifF_ne (n := 8) (tgt := 10) C (by decide) dX9_ofChild_5 rfl rfl ?_
    refine z_iconst (n := 9) (v := (-1)) C dX9_ofChild_8 rfl rfl ?_
    refine z_iret C E dX9_ofChild_9 ?_
    exact hR _ (by unfold ofChildR; rw [if_pos b2])
set_option maxHeartbeats 4000000 in
set_option maxRecDepth 100000 in
theorem c_X9_tie {ad : Nat → Nat} {I : KI} {J : KJ} {t : Nat} {c : Nat} {ki co ag re : Nat → Nat} {T : Nat → Nat → Nat}(hk : cKd I c ki co ag re T){n : Nat} (ok : okKd n c ki co ag re T){xv yv v : Int32} {Q : Int32 → KI → KJ → KR → Prop} (hR : ∀ a, tieR c xv yv v = some a → Q a I J (rf t)) (hS : tieR c xv yv v = none → ∀ x y w : Nat, xv = nI x → x < c → yv = nI y → y < c → x ≠ y → v = nI w → w < 3 → ∀ I', (∀ q, ¬ (75 ≤ q ∧ q ≤ 84) → I' q = I q) → cKd I' c ki co ag re (Tset T x y w) → Q (nI (T x y)) I' J (rf t)) : Mi 3 yX9_tie (wm yX9_tie cX9_tie 5 (some .int)) [.ref (ad 0), .int (xv), .int (yv), .int (v)] ad I J (rf t) Q := by
  refine mi_of (own := RX9) yk_X9_tie rfl (Nat.le_of_ble_eq_true rfl) rfl (fun X hA hnL C K E => ?_)
  subst hA
  refine z_aload_n (n := 1) C 0 dX9_tie_0 rfl rfl ?_
  refine z_iload_n (n := 2) C 1 dX9_tie_1 rfl rfl ?_
  refine z_vi_1 (n := 5) (d' := 1) C K dX9_tie_2 rfl yk_X9_isChild yv_X9_isChild kM_RX9_162 (by decide) hR0 rfl rfl sh_0 (by decide) (by decide) ?_
  refine c_X9_isChild hk.1 ok.1 (fun b2 => ?_) (fun b2 => ?_)
  · refine z_ifF_eq (n := 8) (tgt := 16) C (by decide) dX9_tie_5 rfl rfl ?_
    refine z_aload_n (n := 9) C 0 dX9_tie_8 rfl rfl ?_
    refine z_iload_n (n := 10) C 2 dX9_tie_9 rfl rfl ?_
    refine z_vi_1 (n := 13) (d' := 1) C K dX9_tie_10 rfl yk_X9_isChild yv_X9_isChild kM_RX9_162 (by decide) hR0 rfl rfl sh_0 (by decide) (by decide) ?_
    refine c_X9_isChild hk.1 ok.1 (fun b10 => ?_) (fun b10 => ?_)
    · refine z_ifT_ne (tgt := 18) C (by decide) dX9_tie_13 rfl ?_
      refine z_iload_n (n := 19) C 1 dX9_tie_18 rfl rfl ?_
      refine z_iload_n (n := 20) C 2 dX9_tie_19 rfl rfl ?_
      refine z_icmp_eq (tgt := 32) (n := 23) C dX9_tie_20 rfl rfl (fun c20 => ?_) (fun c20 => ?_)
      · refine z_bipush (n := 34) (v := (-2)) C dX9_tie_32 rfl rfl ?_
        refine z_iret C E dX9_tie_34 ?_
        exact hR _ (by unfold tieR; rw [if_neg (fun q => q ⟨b2, b10⟩), if_pos (Or.inl c20)])
      · refine z_iload_n (n := 24) C 3 dX9_tie_23 rfl rfl ?_
        refine z_iconst (n := 25) (v := 0) C dX9_tie_24 rfl rfl ?_
        refine z_iconst (n := 26) (v := 2) C dX9_tie_25 rfl rfl ?_
        refine z_si_3 (n := 29) (d' := 1) C K dX9_tie_26 rfl yk_X9_isWithin kT_yX9_isWithin kM_RX9_131 (by decide) hR0 rfl ?_
        refine c_inB (lo := 0) (hi := 2) (by decide) (by decide) (fun b26 => ?_) (fun b26 => ?_)
        · refine z_ifT_ne (tgt := 35) C (by decide) dX9_tie_29 rfl ?_
          have hnone : tieR c xv yv v = none := by unfold tieR; rw [if_neg (fun q => q ⟨b2, b10⟩), if_neg (fun q => q.elim c20 (fun q => q b26))]
          obtain ⟨x, hxc, rfl⟩ := isN_of b2
          obtain ⟨y, hyc, rfl⟩ := isN_of b10
          obtain ⟨w, hw, rfl⟩ := isB_of (h := 2) b26
          have hx : x < 10 := by have := ok.1; omega
          have hy : y < 10 := by have := ok.1; omega
          have hxy : x ≠ y := fun e => c20 (by rw [e])
          have hzx := hk.2 x hxc
          have hzy := hk.2 y hyc
          have hT := ok.2.2 x y hxc hyc
          have hT2 := ok.2.2 y x hyc hxc
          refine z_aload_n (n := 36) C 0 dX9_tie_35 rfl rfl ?_
          refine z_getR (n := 39) (q := 48) C K fF_RX9_36 dX9_tie_36 rfl rfl sh_0 (by decide) rfl ?_
          refine z_iload_n (n := 40) C 1 dX9_tie_39 rfl rfl ?_
          refine z_aaldN (n := 41) (q := (75 + x)) (ci := 0) C K x dX9_tie_40 rfl (by decide) sh_48 (by decide) rfl hx (by decide) (rf_children hx) ?_
          refine z_iload_n (n := 42) C 2 dX9_tie_41 rfl rfl ?_
          refine z_vi_1 (n := 45) (d' := 1) C K dX9_tie_42 rfl yk_X0_bondWith yv_X0_bondWith kM_RX9_190 (by decide) hR0 rfl rfl (sh_child hx) (by decide) (lt_child hx) ?_
          refine c_X0_bondWith hx hy hzx.2.2.2.2.1 hzx.2.2.2.2.2 (msk_lt1024 _ ok.1) (msk_lt1024 _ ok.1) ?_
          refine z_istore (n := 47) (L' := [(4, _), (0, _), (1, _), (2, _), (3, _)]) C dX9_tie_45 rfl (by rw [hnL]; decide) rfl ?_
          refine z_aload_n (n := 48) C 1 dX9_tie_47 rfl rfl ?_
          refine z_getR (n := 51) (q := 48) C K fF_RX9_36 dX9_tie_48 rfl rfl sh_0 (by decide) rfl ?_
          refine z_iload_n (n := 52) C 2 dX9_tie_51 rfl rfl ?_
          refine z_aaldN (n := 53) (q := (75 + x)) (ci := 0) C K x dX9_tie_52 rfl (by decide) sh_48 (by decide) rfl hx (by decide) (rf_children hx) ?_
          refine z_iload_n (n := 54) C 3 dX9_tie_53 rfl rfl ?_
          refine z_iload_n (n := 55) C 4 dX9_tie_54 rfl rfl ?_
          refine z_vv_2 (n := 58) (d' := 1) C K dX9_tie_55 rfl yk_X0_bind yv_X0_bind kM_RX9_194 (by decide) hR0 rfl rfl (sh_child hx) (by decide) (lt_child hx) ?_
          refine c_X0_bind hx hy hzx.2.2.2.2.1 hzx.2.2.2.2.2 (by omega) ?_
          refine z_aload_n (n := 59) C 1 dX9_tie_58 rfl rfl ?_
          refine z_getR (n := 62) (q := 48) C K fF_RX9_36 dX9_tie_59 rfl rfl sh_0 (by decide) rfl ?_
          refine z_iload_n (n := 63) C 3 dX9_tie_62 rfl rfl ?_
          refine z_aaldN (n := 64) (q := (75 + y)) (ci := 0) C K y dX9_tie_63 rfl (by decide) sh_48 (by decide) rfl hy (by decide) (rf_children hy) ?_
          refine z_iload_n (n := 65) C 2 dX9_tie_64 rfl rfl ?_
          refine z_iload_n (n := 66) C 4 dX9_tie_65 rfl rfl ?_
          refine z_vv_2 (n := 69) (d' := 1) C K dX9_tie_66 rfl yk_X0_bind yv_X0_bind kM_RX9_194 (by decide) hR0 rfl rfl (sh_child hy) (by decide) (lt_child hy) ?_
          refine c_X0_bind (F := tm T c y 1) (G := tm T c y 2) hy hx (by rw [upI_p _ _ (by omega), upI_p _ _ (by omega)]; exact hzy.2.2.2.2.1) (by rw [upI_p _ _ (by omega), upI_p _ _ (by omega)]; exact hzy.2.2.2.2.2) (by omega) ?_
          refine z_iload (n := 71) C 0 dX9_tie_69 rfl rfl ?_
          refine z_iret C E dX9_tie_71 ?_
          refine eqQ (by rw [bond_T hyc hT.1]) (hS hnone x y w rfl hxc rfl hyc hxy rfl (by omega) _ (fun q h => ?_) ⟨?_, fun z hz => ?_⟩)
          · funext j; rw [upI_p _ _ (by omega), upI_p _ _ (by omega), upI_p _ _ (by omega), upI_p _ _ (by omega)]
          · rw [upI_p _ _ (by omega), upI_p _ _ (by omega), upI_p _ _ (by omega), upI_p _ _ (by omega)]; exact hk.1
          · by_cases h1 : z = x
            · subst h1
              rw [upI_row _ _ (by omega), upI_row _ _ (by omega), upI_same, upI_k _ _ (by decide), upI_k _ _ (by decide), upI_k _ _ (by decide), upI_k _ _ (by decide), upI_k _ _ (by decide), upI_k _ _ (by decide), upI_k _ _ (by decide), upI_k _ _ (by decide), upI_k _ _ (by decide), upI_same, tm_bind hyc hxy, tm_bind hyc hxy]
              exact ⟨hzx.1, hzx.2.1, hzx.2.2.1, hzx.2.2.2.1, rfl, rfl⟩
            · by_cases h2 : z = y
              · subst h2
                have e : ¬ z = x := h1
                rw [Tset_sym T x z, ← tm_bind hxc hxy.symm, ← tm_bind hxc hxy.symm]
                exact ⟨by simpa [upI, e] using hzy.1, by simpa [upI, e] using hzy.2.1, by simpa [upI, e] using hzy.2.2.1, by simpa [upI, e] using hzy.2.2.2.1, by simp [upI], by simp [upI]⟩
              · rw [upI_row _ _ (by omega), upI_row _ _ (by omega), upI_row _ _ (by omega), upI_row _ _ (by omega), tm_keep h1 h2, tm_keep h1 h2]
                exact hk.2 z hz
        · refine z_ifF_ne (n := 32) (tgt := 35) C (by decide) dX9_tie_29 rfl rfl ?_
          refine z_bipush (n := 34) (v := (-2)) C dX9_tie_32 rfl rfl ?_
          refine z_iret C E dX9_tie_34 ?_
          exact hR _ (by unfold tieR; rw [if_neg (fun q => q ⟨b2, b10⟩), if_pos (Or.inr b26)])
    · refine z_ifF_ne (n := 16) (tgt := 18) C (by decide) dX9_tie_13 rfl rfl ?_
      refine z_iconst (n := 17) (v := (-1)) C dX9_tie_16 rfl rfl ?_
      refine z_iret C E dX9_tie_17 ?_
      exact hR _ (by unfold tieR; rw [if_pos (fun q => b10 q.2)])
  · refine z_ifT_eq (tgt := 16) C (by decide) dX9_tie_5 rfl ?_
    refine z_iconst (n := 17) (v := (-1)) C dX9_tie_16 rfl rfl ?_
    refine z_iret C E dX9_tie_17 ?_
    exact hR _ (by unfold tieR; rw [if_pos (fun q => b2 q.1)])
set_option maxHeartbeats 4000000 in
set_option maxRecDepth 100000 in
theorem c_X9_holds {ad : Nat → Nat} {I : KI} {J : KJ} {t : Nat} {h hc : Nat} {hd : Nat → Nat} (hm : cMi I h hc hd) {v : Int32} {Q : Int32 → KI → KJ → KR → Prop} (hR : ¬ isB 1 9 v → Q (-2) I J (rf t)) (hS : ∀ w : Nat, v = nI w → 1 ≤ w → w ≤ 9 → Q (nI h) (upI I 0 8 (nI w)) J (rf t)) : Mi 2 yX9_holds (wm yX9_holds cX9_holds 3 (some .int)) [.ref (ad 0), .int (v)] ad I J (rf t) Q := by
  refine mi_of (own := RX9) yk_X9_holds rfl (Nat.le_of_ble_eq_true rfl) rfl (fun X hA hnL C K E => ?_)
  subst hA
  refine z_iload_n (n := 1) C 1 dX9_holds_0 rfl rfl ?_
  refine z_iconst (n := 2) (v := 1) C dX9_holds_1 rfl rfl ?_
  refine z_bipush (n := 4) (v := 9) C dX9_holds_2 rfl rfl ?_
  refine z_si_3 (n := 7) (d' := 1) C K dX9_holds_4 rfl yk_X9_isWithin kT_yX9_isWithin kM_RX9_131 (by decide) hR0 rfl ?_
  refine c_inB (lo := 1) (hi := 9) (by decide) (by decide) (fun b4 => ?_) (fun b4 => ?_)
  · refine z_ifT_ne (tgt := 13) C (by decide) dX9_holds_7 rfl ?_
    refine z_aload_n (n := 14) C 0 dX9_holds_13 rfl rfl ?_
    refine z_getI (n := 17) C K fF_RX9_58 dX9_holds_14 rfl sh_0 (by decide) ?_
    refine z_istore_n (n := 18) (L' := [(2, _), (0, _), (1, _)]) C dX9_holds_17 rfl (by rw [hnL]; decide) rfl ?_
    refine z_aload_n (n := 19) C 1 dX9_holds_18 rfl rfl ?_
    refine z_iload_n (n := 20) C 2 dX9_holds_19 rfl rfl ?_
    refine z_putI (n := 23) C K fF_RX9_58 dX9_holds_20 rfl sh_0 (by decide) ?_
    refine z_iload_n (n := 24) C 0 dX9_holds_23 rfl rfl ?_
    refine z_iret C E dX9_holds_24 ?_
    obtain ⟨w, hw, rfl⟩ := i_natlt (n := 10) (x := v) (by have := b4.1; omega) (by have := b4.2; omega)
    exact eqQ hm.1 (hS w rfl (by have := b4.1; rw [nI_toInt (by omega)] at this; omega) (by omega))
  · refine z_ifF_ne (n := 10) (tgt := 13) C (by decide) dX9_holds_7 rfl rfl ?_
    refine z_bipush (n := 12) (v := (-2)) C dX9_holds_10 rfl rfl ?_
    refine z_iret C E dX9_holds_12 ?_
    exact hR b4
set_option maxHeartbeats 4000000 in
set_option maxRecDepth 100000 in
theorem c_X9_helper {ad : Nat → Nat} {I : KI} {J : KJ} {t : Nat} {h hc : Nat} {hd : Nat → Nat} (hm : cMi I h hc hd) (hok : okMi h hc hd) {v : Int32} {Q : Int32 → KI → KJ → KR → Prop} (hR : ∀ a, helperR hc v = some a → Q a I J (rf t)) (hS : helperR hc v = none → ∀ w : Nat, v = nI w → w < 32 → hc < 5 → Q (nI hc) (upI (upI I 62 hc (nI w)) 0 10 (nI (hc + 1))) J (rf t)) : Mi 2 yX9_helper (wm yX9_helper cX9_helper 2 (some .int)) [.ref (ad 0), .int (v)] ad I J (rf t) Q := by
  refine mi_of (own := RX9) yk_X9_helper rfl (Nat.le_of_ble_eq_true rfl) rfl (fun X hA hnL C K E => ?_)
  subst hA
  refine z_iload_n (n := 1) C 1 dX9_helper_0 rfl rfl ?_
  refine z_iconst (n := 2) (v := 0) C dX9_helper_1 rfl rfl ?_
  refine z_bipush (n := 4) (v := 31) C dX9_helper_2 rfl rfl ?_
  refine z_si_3 (n := 7) (d' := 1) C K dX9_helper_4 rfl yk_X9_isWithin kT_yX9_isWithin kM_RX9_131 (by decide) hR0 rfl ?_
  refine c_inB (lo := 0) (hi := 31) (by decide) (by decide) (fun b4 => ?_) (fun b4 => ?_)
  · refine z_ifT_ne (tgt := 13) C (by decide) dX9_helper_7 rfl ?_
    refine z_aload_n (n := 14) C 0 dX9_helper_13 rfl rfl ?_
    refine z_getI (n := 17) C K fF_RX9_65 dX9_helper_14 rfl sh_0 (by decide) ?_
    rw [hm.2.1]
    refine z_iconst (n := 18) (v := 5) C dX9_helper_17 rfl rfl ?_
    refine z_icmp_lt (tgt := 24) (n := 21) C dX9_helper_18 rfl rfl (fun c18 => ?_) (fun c18 => ?_)
    · rw [fa_lt, nI_toInt (by have := hok.2.2.1; omega)] at c18
      simp only [Int32.reduceToInt] at c18
      refine z_aload_n (n := 25) C 0 dX9_helper_24 rfl rfl ?_
      refine z_getR (n := 28) (q := 62) C K fF_RX9_61 dX9_helper_25 rfl rfl sh_0 (by decide) rfl ?_
      refine z_aload_n (n := 29) C 0 dX9_helper_28 rfl rfl ?_
      refine z_getI (n := 32) C K fF_RX9_65 dX9_helper_29 rfl sh_0 (by decide) ?_
      refine z_iload_n (n := 33) C 1 dX9_helper_32 rfl rfl ?_
      refine z_iastN (n := 34) C K hc dX9_helper_33 rfl sh_62 (by decide) hm.2.1 (by omega) (by decide) ?_
      refine z_aload_n (n := 35) C 0 dX9_helper_34 rfl rfl ?_
      refine z_dup (n := 36) C dX9_helper_35 rfl rfl ?_
      refine z_getI (n := 39) C K fF_RX9_65 dX9_helper_36 rfl sh_0 (by decide) ?_
      refine z_iconst (n := 40) (v := 1) C dX9_helper_39 rfl rfl ?_
      refine z_iadd (n := 41) C dX9_helper_40 rfl ?_
      refine z_putI (n := 44) C K fF_RX9_65 dX9_helper_41 rfl sh_0 (by decide) ?_
      refine z_aload_n (n := 45) C 0 dX9_helper_44 rfl rfl ?_
      refine z_getI (n := 48) C K fF_RX9_65 dX9_helper_45 rfl sh_0 (by decide) ?_
      refine z_iconst (n := 49) (v := 1) C dX9_helper_48 rfl rfl ?_
      refine z_isub (n := 50) C dX9_helper_49 rfl ?_
      refine z_iret C E dX9_helper_50 ?_
      have hnone : helperR hc v = none := by unfold helperR; rw [if_neg (fun q => q b4), if_neg (by omega)]
      obtain ⟨w, hw, rfl⟩ := isB_of (h := 31) b4
      have e : upI I 62 hc (nI w) 0 10 = nI hc := by rw [upI_p _ _ (by omega)]; exact hm.2.1
      rw [upI_same, e, nI_1, nI_pred]
      exact hS hnone w rfl (by omega) (by omega)
    · refine z_bipush (n := 23) (v := (-4)) C dX9_helper_21 rfl rfl ?_
      refine z_iret C E dX9_helper_23 ?_
      rw [fa_lt, nI_toInt (by have := hok.2.2.1; omega)] at c18
      simp only [Int32.reduceToInt] at c18
      exact hR _ (by unfold helperR; rw [if_neg (fun q => q b4), if_pos (by have := hok.2.2.1; omega)])
  · refine z_ifF_ne (n := 10) (tgt := 13) C (by decide) dX9_helper_7 rfl rfl ?_
    refine z_bipush (n := 12) (v := (-2)) C dX9_helper_10 rfl rfl ?_
    refine z_iret C E dX9_helper_12 ?_
    exact hR _ (by unfold helperR; rw [if_pos b4])
set_option maxHeartbeats 4000000 in
set_option maxRecDepth 100000 in
theorem c_X9_days {ad : Nat → Nat} {I : KI} {J : KJ} {t : Nat} {h hc : Nat} {hd : Nat → Nat} (hm : cMi I h hc hd) (hok : okMi h hc hd) {xv v : Int32} {Q : Int32 → KI → KJ → KR → Prop} (hR : ∀ a, daysR hc xv v = some a → Q a I J (rf t)) (hS : daysR hc xv v = none → ∀ x w : Nat, xv = nI x → x < hc → v = nI w → w < 32 → Q (nI (hd x)) (upI I 62 x (nI w)) J (rf t)) : Mi 2 yX9_days (wm yX9_days cX9_days 4 (some .int)) [.ref (ad 0), .int (xv), .int (v)] ad I J (rf t) Q := by
  refine mi_of (own := RX9) yk_X9_days rfl (Nat.le_of_ble_eq_true rfl) rfl (fun X hA hnL C K E => ?_)
  subst hA
  refine z_iload_n (n := 1) C 1 dX9_days_0 rfl rfl ?_
  refine z_if_lt (tgt := 12) (n := 4) C dX9_days_1 rfl rfl (fun c1 => ?_) (fun c1 => ?_)
  · refine z_iconst (n := 13) (v := (-1)) C dX9_days_12 rfl rfl ?_
    refine z_iret C E dX9_days_13 ?_
    simp only [fa_lt, Int32.reduceToInt] at c1
    exact hR _ (by unfold daysR; rw [if_pos (fun q => by unfold isN at q; omega)])
  · refine z_iload_n (n := 5) C 1 dX9_days_4 rfl rfl ?_
    refine z_aload_n (n := 6) C 0 dX9_days_5 rfl rfl ?_
    refine z_getI (n := 9) C K fF_RX9_65 dX9_days_6 rfl sh_0 (by decide) ?_
    refine z_icmp_lt (tgt := 14) (n := 12) C dX9_days_9 rfl rfl (fun c9 => ?_) (fun c9 => ?_)
    · rw [hm.2.1, fa_lt, nI_toInt (by have := hok.2.2.1; omega)] at c9
      simp only [fa_lt, Int32.reduceToInt] at c1
      have b1 : isN hc xv := ⟨by omega, c9⟩
      refine z_iload_n (n := 15) C 2 dX9_days_14 rfl rfl ?_
      refine z_iconst (n := 16) (v := 0) C dX9_days_15 rfl rfl ?_
      refine z_bipush (n := 18) (v := 31) C dX9_days_16 rfl rfl ?_
      refine z_si_3 (n := 21) (d' := 1) C K dX9_days_18 rfl yk_X9_isWithin kT_yX9_isWithin kM_RX9_131 (by decide) hR0 rfl ?_
      refine c_inB (lo := 0) (hi := 31) (by decide) (by decide) (fun b18 => ?_) (fun b18 => ?_)
      · refine z_ifT_ne (tgt := 27) C (by decide) dX9_days_21 rfl ?_
        have hnone : daysR hc xv v = none := by unfold daysR; rw [if_neg (fun q => q b1), if_neg (fun q => q b18)]
        obtain ⟨x, hx, rfl⟩ := isN_of b1
        obtain ⟨w, hw, rfl⟩ := isB_of (h := 31) b18
        refine z_aload_n (n := 28) C 0 dX9_days_27 rfl rfl ?_
        refine z_getR (n := 31) (q := 62) C K fF_RX9_61 dX9_days_28 rfl rfl sh_0 (by decide) rfl ?_
        refine z_iload_n (n := 32) C 1 dX9_days_31 rfl rfl ?_
        refine z_ialdN (n := 33) C K x dX9_days_32 rfl sh_62 (by decide) rfl (by have := hok.2.2.1; omega) (by decide) ?_
        refine z_istore_n (n := 34) (L' := [(3, _), (0, _), (1, _), (2, _)]) C dX9_days_33 rfl (by rw [hnL]; decide) rfl ?_
        refine z_aload_n (n := 35) C 1 dX9_days_34 rfl rfl ?_
        refine z_getR (n := 38) (q := 62) C K fF_RX9_61 dX9_days_35 rfl rfl sh_0 (by decide) rfl ?_
        refine z_iload_n (n := 39) C 2 dX9_days_38 rfl rfl ?_
        refine z_iload_n (n := 40) C 3 dX9_days_39 rfl rfl ?_
        refine z_iastN (n := 41) C K x dX9_days_40 rfl sh_62 (by decide) rfl (by have := hok.2.2.1; omega) (by decide) ?_
        refine z_iload_n (n := 42) C 0 dX9_days_41 rfl rfl ?_
        refine z_iret C E dX9_days_42 ?_
        exact eqQ (hm.2.2 x hx) (hS hnone x w rfl hx rfl (by omega))
      · refine z_ifF_ne (n := 24) (tgt := 27) C (by decide) dX9_days_21 rfl rfl ?_
        refine z_bipush (n := 26) (v := (-2)) C dX9_days_24 rfl rfl ?_
        refine z_iret C E dX9_days_26 ?_
        exact hR _ (by unfold daysR; rw [if_neg (fun q => q b1), if_pos b18])
    · refine z_iconst (n := 13) (v := (-1)) C dX9_days_12 rfl rfl ?_
      refine z_iret C E dX9_days_13 ?_
      simp only [fa_lt, Int32.reduceToInt] at c1
      rw [hm.2.1, fa_lt, nI_toInt (by have := hok.2.2.1; omega)] at c9
      exact hR _ (by unfold daysR; rw [if_pos (fun q => by unfold isN at q; omega)])
set_option maxHeartbeats 4000000 in
set_option maxRecDepth 100000 in
theorem c_X9_trace {ad : Nat → Nat} {I : KI} {J : KJ} {t : Nat}  {Q : Int32 → KI → KJ → KR → Prop} (hQ : Q (I 0 12) I J (rf t)) : Mi 1 yX9_trace (wm yX9_trace cX9_trace 1 (some .int)) [.ref (ad 0)] ad I J (rf t) Q := by
  refine mi_of (own := RX9) yk_X9_trace rfl (Nat.le_of_ble_eq_true rfl) rfl (fun X hA hnL C K E => ?_)
  subst hA
  refine z_aload_n (n := 1) C 0 dX9_trace_0 rfl rfl ?_
  refine z_getI (n := 4) C K fF_RX9_75 dX9_trace_1 rfl sh_0 (by decide) ?_
  refine z_iret C E dX9_trace_4 ?_
  exact hQ
set_option maxHeartbeats 4000000 in
set_option maxRecDepth 100000 in
theorem c_X9_fault {ad : Nat → Nat} {I : KI} {J : KJ} {t : Nat}  {Q : Int32 → KI → KJ → KR → Prop} (hQ : Q (I 0 13) I J (rf t)) : Mi 1 yX9_fault (wm yX9_fault cX9_fault 1 (some .int)) [.ref (ad 0)] ad I J (rf t) Q := by
  refine mi_of (own := RX9) yk_X9_fault rfl (Nat.le_of_ble_eq_true rfl) rfl (fun X hA hnL C K E => ?_)
  subst hA
  refine z_aload_n (n := 1) C 0 dX9_fault_0 rfl rfl ?_
  refine z_getI (n := 4) C K fF_RX9_78 dX9_fault_1 rfl sh_0 (by decide) ?_
  refine z_iret C E dX9_fault_4 ?_
  exact hQ
