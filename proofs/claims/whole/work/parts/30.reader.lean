def rdr (I : KI) (cd : Nat → Int32) (n a : Nat) : Prop := I 2 1 = nI n ∧ I 2 2 = nI a ∧ a ≤ n ∧ n ≤ 100 ∧ ∀ j, j < n → I 3 j = cd j
theorem rdr.up {I : KI} {cd : Nat → Int32} {n a b : Nat} (h : rdr I cd n a) (hb : b ≤ n) : rdr (upI I 2 2 (nI b)) cd n b := by
  refine ⟨by rw [upI_k _ _ (by decide)]; exact h.1, upI_same _ _ _ _, hb, h.2.2.2.1, fun j hj => ?_⟩
  rw [upI_p _ _ (by decide)]; exact h.2.2.2.2 j hj
theorem rdr.fr {I I' : KI} {cd : Nat → Int32} {n a : Nat} (h : rdr I cd n a) (h2 : I' 2 = I 2) (h3 : I' 3 = I 3) : rdr I' cd n a := by
  unfold rdr; rw [h2, h3]; exact h
theorem upI_id {I : KI} {p k : Nat} {v : Int32} (h : I p k = v) : upI I p k v = I := by
  funext q j; unfold upI; split
  · rename_i e; obtain ⟨rfl, rfl⟩ := e; exact h.symm
  · rfl
theorem Tw.n2 {u : Nat} (h : Tw u) : u ≠ 2 ∧ u ≠ 3 ∧ u + 1 ≠ 2 ∧ u + 2 ≠ 2 ∧ u + 3 ≠ 2 ∧ u + 4 ≠ 2 ∧ u + 5 ≠ 2 ∧ 4 ≤ u := by unfold Tw at h; omega
def ros (I : KI) (u r : Nat) (rd : Nat → Nat → Nat) : Prop := ∀ k, k < r → I (u + 1) k = nI (rd 0 k) ∧ I (u + 2) k = nI (rd 1 k) ∧ I (u + 3) k = nI (rd 2 k) ∧ I (u + 4) k = nI (rd 3 k) ∧ I (u + 5) k = nI (rd 4 k)
theorem ros.fr {I I' : KI} {u r : Nat} {rd : Nat → Nat → Nat} (h : ros I u r rd) (hf : ∀ q, u < q → q ≤ u + 5 → I' q = I q) : ros I' u r rd := by
  intro k hk
  rw [hf (u + 1) (by omega) (by omega), hf (u + 2) (by omega) (by omega), hf (u + 3) (by omega) (by omega), hf (u + 4) (by omega) (by omega), hf (u + 5) (by omega) (by omega)]
  exact h k hk
set_option maxHeartbeats 4000000 in
set_option maxRecDepth 100000 in
theorem c_X4_take {ad : Nat → Nat} {I : KI} {J : KJ} {t : Nat} {cd : Nat → Int32} {n a : Nat} (hr : rdr I cd n a) {c : Nat} {cv : Int32} (hc : cv = nI c) {Q : Int32 → KI → KJ → KR → Prop} (h1 : isCb cd n a c = true → Q 1 (upI I 2 2 (nI (a + 1))) J (rf t)) (h0 : isCb cd n a c = false → Q 0 I J (rf t)) : Mi 1 yX4_take (wm yX4_take cX4_take 2 (some .boolean)) [.ref (ad 2), .int (cv)] ad I J (rf t) Q := by
  refine mi_of (own := RX4) yk_X4_take rfl (Nat.le_of_ble_eq_true rfl) rfl (fun X hA hnL C K E => ?_)
  subst hA
  refine z_aload_n (n := 1) C 0 dX4_take_0 rfl rfl ?_
  refine z_getI (n := 4) C K fF_RX4_19 dX4_take_1 rfl sh_2 (by decide) ?_
  refine z_aload_n (n := 5) C 0 dX4_take_4 rfl rfl ?_
  refine z_getI (n := 8) C K fF_RX4_15 dX4_take_5 rfl sh_2 (by decide) ?_
  rw [hr.1, hr.2.1]
  refine z_icmp_ge (tgt := 36) (n := 11) C dX4_take_8 rfl rfl (fun c8 => ?_) (fun c8 => ?_)
  · refine z_iconst (n := 37) (v := 0) C dX4_take_36 rfl rfl ?_
    refine z_zret C E dX4_take_37 (by decide) ?_
    have h100 := hr.2.2.2.1
    have han := hr.2.2.1
    rw [fa_le, nI_toInt (by omega), nI_toInt (by omega)] at c8
    exact h0 (isCb_f.mpr (fun q => by have := q.1; omega))
  · have h100 := hr.2.2.2.1
    have han := hr.2.2.1
    rw [fa_le, nI_toInt (by omega), nI_toInt (by omega)] at c8
    refine z_aload_n (n := 12) C 0 dX4_take_11 rfl rfl ?_
    refine z_getR (n := 15) (q := 3) C K fF_RX4_9 dX4_take_12 rfl rfl sh_2 (by decide) rfl ?_
    refine z_aload_n (n := 16) C 0 dX4_take_15 rfl rfl ?_
    refine z_getI (n := 19) C K fF_RX4_19 dX4_take_16 rfl sh_2 (by decide) ?_
    refine z_ialdN (n := 20) C K a dX4_take_19 rfl sh_3 (by decide) hr.2.1 (by omega) (by decide) ?_
    refine z_iload_n (n := 21) C 1 dX4_take_20 rfl rfl ?_
    rw [hr.2.2.2.2 a (by omega)]
    refine z_icmp_ne (tgt := 36) (n := 24) C dX4_take_21 rfl rfl (fun c21 => ?_) (fun c21 => ?_)
    · refine z_iconst (n := 37) (v := 0) C dX4_take_36 rfl rfl ?_
      refine z_zret C E dX4_take_37 (by decide) ?_
      exact h0 (isCb_f.mpr (fun q => c21 (by rw [hc]; exact q.2)))
    · refine z_aload_n (n := 25) C 0 dX4_take_24 rfl rfl ?_
      refine z_dup (n := 26) C dX4_take_25 rfl rfl ?_
      refine z_getI (n := 29) C K fF_RX4_19 dX4_take_26 rfl sh_2 (by decide) ?_
      refine z_iconst (n := 30) (v := 1) C dX4_take_29 rfl rfl ?_
      refine z_iadd (n := 31) C dX4_take_30 rfl ?_
      rw [hr.2.1, nI_1]
      refine z_putI (n := 34) C K fF_RX4_19 dX4_take_31 rfl sh_2 (by decide) ?_
      refine z_iconst (n := 35) (v := 1) C dX4_take_34 rfl rfl ?_
      refine z_zret C E dX4_take_35 (by decide) ?_
      subst hc
      exact h1 (isCb_t.mpr ⟨by omega, c21⟩)
set_option maxHeartbeats 4000000 in
set_option maxRecDepth 100000 in
theorem c_X4_isDigit {ad : Nat → Nat} {I : KI} {J : KJ} {t : Nat} {cd : Nat → Int32} {n a : Nat} (hr : rdr I cd n a) {lo hi : Nat} {lv hv : Int32} (hl : lv = nI lo) (hh : hv = nI hi) (hlo : lo ≤ 9) (hhi : hi ≤ 9) {Q : Int32 → KI → KJ → KR → Prop} (h1 : isDb cd n a lo hi = true → Q 1 I J (rf t)) (h0 : isDb cd n a lo hi = false → Q 0 I J (rf t)) : Mi 2 yX4_isDigit (wm yX4_isDigit cX4_isDigit 3 (some .boolean)) [.ref (ad 2), .int (lv), .int (hv)] ad I J (rf t) Q := by
  refine mi_of (own := RX4) yk_X4_isDigit rfl (Nat.le_of_ble_eq_true rfl) rfl (fun X hA hnL C K E => ?_)
  subst hA
  refine z_aload_n (n := 1) C 0 dX4_isDigit_0 rfl rfl ?_
  refine z_getI (n := 4) C K fF_RX4_19 dX4_isDigit_1 rfl sh_2 (by decide) ?_
  refine z_aload_n (n := 5) C 0 dX4_isDigit_4 rfl rfl ?_
  refine z_getI (n := 8) C K fF_RX4_15 dX4_isDigit_5 rfl sh_2 (by decide) ?_
  rw [hr.1, hr.2.1]
  refine z_icmp_ge (tgt := 38) (n := 11) C dX4_isDigit_8 rfl rfl (fun c8 => ?_) (fun c8 => ?_)
  · refine z_iconst (n := 39) (v := 0) C dX4_isDigit_38 rfl rfl ?_
    refine z_zret C E dX4_isDigit_39 (by decide) ?_
    have h100 := hr.2.2.2.1
    have han := hr.2.2.1
    rw [fa_le, nI_toInt (by omega), nI_toInt (by omega)] at c8
    exact h0 (isDb_f.mpr (fun q => by have := q.1; omega))
  · have h100 := hr.2.2.2.1
    have han := hr.2.2.1
    rw [fa_le, nI_toInt (by omega), nI_toInt (by omega)] at c8
    refine z_aload_n (n := 12) C 0 dX4_isDigit_11 rfl rfl ?_
    refine z_getR (n := 15) (q := 3) C K fF_RX4_9 dX4_isDigit_12 rfl rfl sh_2 (by decide) rfl ?_
    refine z_aload_n (n := 16) C 0 dX4_isDigit_15 rfl rfl ?_
    refine z_getI (n := 19) C K fF_RX4_19 dX4_isDigit_16 rfl sh_2 (by decide) ?_
    refine z_ialdN (n := 20) C K a dX4_isDigit_19 rfl sh_3 (by decide) hr.2.1 (by omega) (by decide) ?_
    rw [hr.2.2.2.2 a (by omega)]
    refine z_bipush (n := 22) (v := 48) C dX4_isDigit_20 rfl rfl ?_
    refine z_iload_n (n := 23) C 1 dX4_isDigit_22 rfl rfl ?_
    refine z_iadd (n := 24) C dX4_isDigit_23 rfl ?_
    refine z_bipush (n := 26) (v := 48) C dX4_isDigit_24 rfl rfl ?_
    refine z_iload_n (n := 27) C 2 dX4_isDigit_26 rfl rfl ?_
    refine z_iadd (n := 28) C dX4_isDigit_27 rfl ?_
    rw [hl, hh, show (48 : Int32) = nI 48 from rfl, nI_add, nI_add]
    refine z_siN_3 (n := 31) (d' := 1) C K dX4_isDigit_28 rfl yk_X9_isWithin kT_yX9_isWithin (List.mem_of_getElem? (i := 9) rfl) (by decide) hR0 rfl ?_
    refine c_X9_isWithin (fun b28 => ?_) (fun b28 => ?_)
    · refine z_ifF_eq (n := 34) (tgt := 38) C (by decide) dX4_isDigit_31 rfl rfl ?_
      refine z_iconst (n := 35) (v := 1) C dX4_isDigit_34 rfl rfl ?_
      refine z_goto (n := 39) C dX4_isDigit_35 rfl ?_
      refine z_zret C E dX4_isDigit_39 (by decide) ?_
      rw [nI_toInt (by omega), nI_toInt (by omega)] at b28
      exact h1 (isDb_t.mpr ⟨by omega, by have := b28.1; omega, by have := b28.2; omega⟩)
    · refine z_ifT_eq (tgt := 38) C (by decide) dX4_isDigit_31 rfl ?_
      refine z_iconst (n := 39) (v := 0) C dX4_isDigit_38 rfl rfl ?_
      refine z_zret C E dX4_isDigit_39 (by decide) ?_
      rw [nI_toInt (by omega), nI_toInt (by omega)] at b28
      exact h0 (isDb_f.mpr (fun q => b28 ⟨by have := q.2.1; omega, by have := q.2.2; omega⟩))
set_option maxHeartbeats 4000000 in
set_option maxRecDepth 100000 in
theorem c_X4_takeDigit {ad : Nat → Nat} {I : KI} {J : KJ} {t : Nat} {cd : Nat → Int32} {n a : Nat} (hr : rdr I cd n a) {Q : Int32 → KI → KJ → KR → Prop} (h1 : isDb cd n a 0 9 = true → Q (nI (dv cd a)) (upI I 2 2 (nI (a + 1))) J (rf t)) (h0 : isDb cd n a 0 9 = false → Q 0 I J (rf t)) : Mi 3 yX4_takeDigit (wm yX4_takeDigit cX4_takeDigit 1 (some .int)) [.ref (ad 2)] ad I J (rf t) Q := by
  refine mi_of (own := RX4) yk_X4_takeDigit rfl (Nat.le_of_ble_eq_true rfl) rfl (fun X hA hnL C K E => ?_)
  subst hA
  refine z_aload_n (n := 1) C 0 dX4_takeDigit_0 rfl rfl ?_
  refine z_iconst (n := 2) (v := 0) C dX4_takeDigit_1 rfl rfl ?_
  refine z_bipush (n := 4) (v := 9) C dX4_takeDigit_2 rfl rfl ?_
  refine z_vi_2 (n := 7) (d' := 2) C K dX4_takeDigit_4 rfl yk_X4_isDigit yv_X4_isDigit kM_RX4_37 (by decide) hR0 rfl rfl sh_2 (by decide) (by decide) ?_
  refine c_X4_isDigit hr (lo := 0) (hi := 9) rfl rfl (by decide) (by decide) (fun b4 => ?_) (fun b4 => ?_)
  · refine z_ifT_ne (tgt := 12) C (by decide) dX4_takeDigit_7 rfl ?_
    have hD := isDb_t.mp b4
    have h100 := hr.2.2.2.1
    refine z_aload_n (n := 13) C 0 dX4_takeDigit_12 rfl rfl ?_
    refine z_dup (n := 14) C dX4_takeDigit_13 rfl rfl ?_
    refine z_getI (n := 17) C K fF_RX4_19 dX4_takeDigit_14 rfl sh_2 (by decide) ?_
    refine z_iconst (n := 18) (v := 1) C dX4_takeDigit_17 rfl rfl ?_
    refine z_iadd (n := 19) C dX4_takeDigit_18 rfl ?_
    rw [hr.2.1, nI_1]
    refine z_putI (n := 22) C K fF_RX4_19 dX4_takeDigit_19 rfl sh_2 (by decide) ?_
    refine z_aload_n (n := 23) C 0 dX4_takeDigit_22 rfl rfl ?_
    refine z_getR (n := 26) (q := 3) C K fF_RX4_9 dX4_takeDigit_23 rfl rfl sh_2 (by decide) rfl ?_
    refine z_aload_n (n := 27) C 0 dX4_takeDigit_26 rfl rfl ?_
    refine z_getI (n := 30) C K fF_RX4_19 dX4_takeDigit_27 rfl sh_2 (by decide) ?_
    refine z_iconst (n := 31) (v := 1) C dX4_takeDigit_30 rfl rfl ?_
    rw [upI_same]
    refine z_isub (n := 32) C dX4_takeDigit_31 rfl ?_
    refine z_ialdN (n := 33) C K a dX4_takeDigit_32 rfl sh_3 (by decide) (nI_pred a) (by have := hD.1; omega) (by decide) ?_
    rw [upI_p _ _ (by decide), hr.2.2.2.2 a hD.1]
    refine z_bipush (n := 35) (v := 48) C dX4_takeDigit_33 rfl rfl ?_
    refine z_isub (n := 36) C dX4_takeDigit_35 rfl ?_
    refine z_iret C E dX4_takeDigit_36 ?_
    exact eqQ (hD.i (by decide)) (h1 b4)
  · refine z_ifF_ne (n := 10) (tgt := 12) C (by decide) dX4_takeDigit_7 rfl rfl ?_
    refine z_iconst (n := 11) (v := 0) C dX4_takeDigit_10 rfl rfl ?_
    refine z_iret C E dX4_takeDigit_11 ?_
    exact h0 b4
set_option maxHeartbeats 4000000 in
set_option maxRecDepth 100000 in
theorem c_X4_takeNumber {ad : Nat → Nat} {I : KI} {J : KJ} {t : Nat} {cd : Nat → Int32} {n a : Nat} (hr : rdr I cd n a) {Q : Int32 → KI → KJ → KR → Prop} (hQ : Q (nI (nuP cd n a).1) (upI I 2 2 (nI (nuP cd n a).2)) J (rf t)) : Mi 4 yX4_takeNumber (wm yX4_takeNumber cX4_takeNumber 2 (some .int)) [.ref (ad 2)] ad I J (rf t) Q := by
  refine mi_of (own := RX4) yk_X4_takeNumber rfl (Nat.le_of_ble_eq_true rfl) rfl (fun X hA hnL C K E => ?_)
  subst hA
  refine z_aload_n (n := 1) C 0 dX4_takeNumber_0 rfl rfl ?_
  refine z_vi_0 (n := 4) (d' := 3) C K dX4_takeNumber_1 rfl yk_X4_takeDigit yv_X4_takeDigit kM_RX4_41 (by decide) hR0 rfl rfl sh_2 (by decide) (by decide) ?_
  refine c_X4_takeDigit hr (fun d1 => ?_) (fun d1 => ?_)
  · refine z_istore_n (n := 5) (L' := [(1, _), (0, _)]) C dX4_takeNumber_4 rfl (by rw [hnL]; decide) rfl ?_
    refine z_aload_n (n := 6) C 1 dX4_takeNumber_5 rfl rfl ?_
    refine z_iconst (n := 7) (v := 0) C dX4_takeNumber_6 rfl rfl ?_
    refine z_bipush (n := 9) (v := 9) C dX4_takeNumber_7 rfl rfl ?_
    refine z_vi_2 (n := 12) (d' := 2) C K dX4_takeNumber_9 rfl yk_X4_isDigit yv_X4_isDigit kM_RX4_37 (by decide) hR0 rfl rfl sh_2 (by decide) (by decide) ?_
    refine c_X4_isDigit (hr.up (b := a + 1) (by have := (isDb_t.mp d1).1; omega)) (lo := 0) (hi := 9) rfl rfl (by decide) (by decide) (fun b9 => ?_) (fun b9 => ?_)
    · refine z_ifF_eq (n := 15) (tgt := 27) C (by decide) dX4_takeNumber_12 rfl rfl ?_
      refine z_iload_n (n := 16) C 0 dX4_takeNumber_15 rfl rfl ?_
      refine z_bipush (n := 18) (v := 10) C dX4_takeNumber_16 rfl rfl ?_
      refine z_imul (n := 19) C dX4_takeNumber_18 rfl ?_
      refine z_aload_n (n := 20) C 1 dX4_takeNumber_19 rfl rfl ?_
      refine z_vi_0 (n := 23) (d' := 3) C K dX4_takeNumber_20 rfl yk_X4_takeDigit yv_X4_takeDigit kM_RX4_41 (by decide) hR0 rfl rfl sh_2 (by decide) (by decide) ?_
      refine c_X4_takeDigit (hr.up (b := a + 1) (by have := (isDb_t.mp d1).1; omega)) (fun _ => ?_) (fun e => by rw [b9] at e; cases e)
      refine z_iadd (n := 24) C dX4_takeNumber_23 rfl ?_
      refine z_goto (n := 28) C dX4_takeNumber_24 rfl ?_
      refine z_iret C E dX4_takeNumber_28 ?_
      unfold nuP at hQ
      rw [if_pos d1, if_pos b9] at hQ
      rw [upI_upI] 
      exact eqQ (by rw [show (10 : Int32) = nI 10 from rfl, mul_nI, nI_add, Nat.mul_comm]) hQ
    · refine z_ifT_eq (tgt := 27) C (by decide) dX4_takeNumber_12 rfl ?_
      refine z_iload_n (n := 28) C 0 dX4_takeNumber_27 rfl rfl ?_
      refine z_iret C E dX4_takeNumber_28 ?_
      unfold nuP at hQ
      rw [if_pos d1, if_neg (by rw [b9]; decide)] at hQ
      exact hQ
  · refine z_istore_n (n := 5) (L' := [(1, _), (0, _)]) C dX4_takeNumber_4 rfl (by rw [hnL]; decide) rfl ?_
    refine z_aload_n (n := 6) C 1 dX4_takeNumber_5 rfl rfl ?_
    refine z_iconst (n := 7) (v := 0) C dX4_takeNumber_6 rfl rfl ?_
    refine z_bipush (n := 9) (v := 9) C dX4_takeNumber_7 rfl rfl ?_
    refine z_vi_2 (n := 12) (d' := 2) C K dX4_takeNumber_9 rfl yk_X4_isDigit yv_X4_isDigit kM_RX4_37 (by decide) hR0 rfl rfl sh_2 (by decide) (by decide) ?_
    refine c_X4_isDigit hr (lo := 0) (hi := 9) rfl rfl (by decide) (by decide) (fun b9 => ?_) (fun b9 => ?_)
    · refine z_ifF_eq (n := 15) (tgt := 27) C (by decide) dX4_takeNumber_12 rfl rfl ?_
      exfalso; rw [d1] at b9; cases b9
    · refine z_ifT_eq (tgt := 27) C (by decide) dX4_takeNumber_12 rfl ?_
      refine z_iload_n (n := 28) C 0 dX4_takeNumber_27 rfl rfl ?_
      refine z_iret C E dX4_takeNumber_28 ?_
      unfold nuP at hQ
      rw [if_neg (by rw [d1]; decide)] at hQ
      rw [upI_id hr.2.1] at hQ
      exact hQ
set_option maxHeartbeats 4000000 in
set_option maxRecDepth 100000 in
theorem c_X7_begin {ad : Nat → Nat} {I : KI} {J : KJ} {t : Nat} {u : Nat} (hu : Tw u) {v : Int32} {Q : KI → KJ → KR → Prop} (hQ : Q (upI (upI (upI I u 0 v) u 1 0) u 2 0) J (rf t)) : Mv 1 yX7_begin (wm yX7_begin cX7_begin 2 none) [.ref (ad u), .int (v)] ad I J (rf t) Q := by
  refine mv_of (own := RX7) yk_X7_begin rfl (Nat.le_of_ble_eq_true rfl) rfl (fun X hA hnL C K E => ?_)
  subst hA
  refine z_aload_n (n := 1) C 0 dX7_begin_0 rfl rfl ?_
  refine z_iload_n (n := 2) C 1 dX7_begin_1 rfl rfl ?_
  refine z_putI (n := 5) C K fF_RX7_9 dX7_begin_2 rfl (sh_tw hu) (Tw.lt0 hu) ?_
  refine z_aload_n (n := 6) C 0 dX7_begin_5 rfl rfl ?_
  refine z_iconst (n := 7) (v := 0) C dX7_begin_6 rfl rfl ?_
  refine z_putI (n := 10) C K fF_RX7_15 dX7_begin_7 rfl (sh_tw hu) (Tw.lt0 hu) ?_
  refine z_aload_n (n := 11) C 0 dX7_begin_10 rfl rfl ?_
  refine z_iconst (n := 12) (v := 0) C dX7_begin_11 rfl rfl ?_
  refine z_putI (n := 15) C K fF_RX7_18 dX7_begin_12 rfl (sh_tw hu) (Tw.lt0 hu) ?_
  refine z_vret C E dX7_begin_15 ?_
  exact hQ
set_option maxHeartbeats 4000000 in
set_option maxRecDepth 100000 in
theorem c_X7_addRoad {ad : Nat → Nat} {I : KI} {J : KJ} {t : Nat} {u r : Nat} (hu : Tw u) (h1 : I u 1 = nI r) (hr : r < 12) {a b l o s : Int32} {Q : KI → KJ → KR → Prop} (hQ : Q (upI (upI (upI (upI (upI (upI I (u + 1) r a) (u + 2) r b) (u + 3) r l) (u + 4) r o) (u + 5) r s) u 1 (nI (r + 1))) J (rf t)) : Mv 1 yX7_addRoad (wm yX7_addRoad cX7_addRoad 6 none) [.ref (ad u), .int (a), .int (b), .int (l), .int (o), .int (s)] ad I J (rf t) Q := by
  refine mv_of (own := RX7) yk_X7_addRoad rfl (Nat.le_of_ble_eq_true rfl) rfl (fun X hA hnL C K E => ?_)
  subst hA
  refine z_aload_n (n := 1) C 0 dX7_addRoad_0 rfl rfl ?_
  refine z_getI (n := 4) C K fF_RX7_15 dX7_addRoad_1 rfl (sh_tw hu) (Tw.lt0 hu) ?_
  refine z_bipush (n := 6) (v := 12) C dX7_addRoad_4 rfl rfl ?_
  refine z_icmpT_lt (tgt := 10) C (by rw [h1, fa_lt, nI_toInt (by omega)]; simp only [Int32.reduceToInt]; omega) dX7_addRoad_6 rfl ?_
  refine z_aload_n (n := 11) C 0 dX7_addRoad_10 rfl rfl ?_
  refine z_getR (n := 14) (q := (u + 1)) C K fF_RX7_21 dX7_addRoad_11 rfl rfl (sh_tw hu) (Tw.lt0 hu) (rf_tw3 hu) ?_
  refine z_aload_n (n := 15) C 0 dX7_addRoad_14 rfl rfl ?_
  refine z_getI (n := 18) C K fF_RX7_15 dX7_addRoad_15 rfl (sh_tw hu) (Tw.lt0 hu) ?_
  refine z_iload_n (n := 19) C 1 dX7_addRoad_18 rfl rfl ?_
  refine z_iastN (n := 20) C K r dX7_addRoad_19 rfl (sh_tw1 hu) (Tw.lt hu (by decide)) h1 hr (by decide) ?_
  refine z_aload_n (n := 21) C 0 dX7_addRoad_20 rfl rfl ?_
  refine z_getR (n := 24) (q := (u + 2)) C K fF_RX7_25 dX7_addRoad_21 rfl rfl (sh_tw hu) (Tw.lt0 hu) (rf_tw4 hu) ?_
  refine z_aload_n (n := 25) C 0 dX7_addRoad_24 rfl rfl ?_
  refine z_getI (n := 28) C K fF_RX7_15 dX7_addRoad_25 rfl (sh_tw hu) (Tw.lt0 hu) ?_
  refine z_iload_n (n := 29) C 2 dX7_addRoad_28 rfl rfl ?_
  refine z_iastN (n := 30) C K r dX7_addRoad_29 rfl (sh_tw2 hu) (Tw.lt hu (by decide)) (by rw [upI_p _ _ (by omega)]; exact h1) hr (by decide) ?_
  refine z_aload_n (n := 31) C 0 dX7_addRoad_30 rfl rfl ?_
  refine z_getR (n := 34) (q := (u + 3)) C K fF_RX7_28 dX7_addRoad_31 rfl rfl (sh_tw hu) (Tw.lt0 hu) (rf_tw5 hu) ?_
  refine z_aload_n (n := 35) C 0 dX7_addRoad_34 rfl rfl ?_
  refine z_getI (n := 38) C K fF_RX7_15 dX7_addRoad_35 rfl (sh_tw hu) (Tw.lt0 hu) ?_
  refine z_iload_n (n := 39) C 3 dX7_addRoad_38 rfl rfl ?_
  refine z_iastN (n := 40) C K r dX7_addRoad_39 rfl (sh_tw3 hu) (Tw.lt hu (by decide)) (by rw [upI_p _ _ (by omega), upI_p _ _ (by omega)]; exact h1) hr (by decide) ?_
  refine z_aload_n (n := 41) C 0 dX7_addRoad_40 rfl rfl ?_
  refine z_getR (n := 44) (q := (u + 4)) C K fF_RX7_31 dX7_addRoad_41 rfl rfl (sh_tw hu) (Tw.lt0 hu) (rf_tw6 hu) ?_
  refine z_aload_n (n := 45) C 0 dX7_addRoad_44 rfl rfl ?_
  refine z_getI (n := 48) C K fF_RX7_15 dX7_addRoad_45 rfl (sh_tw hu) (Tw.lt0 hu) ?_
  refine z_iload (n := 50) C 4 dX7_addRoad_48 rfl rfl ?_
  refine z_iastN (n := 51) C K r dX7_addRoad_50 rfl (sh_tw4 hu) (Tw.lt hu (by decide)) (by rw [upI_p _ _ (by omega), upI_p _ _ (by omega), upI_p _ _ (by omega)]; exact h1) hr (by decide) ?_
  refine z_aload_n (n := 52) C 0 dX7_addRoad_51 rfl rfl ?_
  refine z_getR (n := 55) (q := (u + 5)) C K fF_RX7_34 dX7_addRoad_52 rfl rfl (sh_tw hu) (Tw.lt0 hu) (rf_tw7 hu) ?_
  refine z_aload_n (n := 56) C 0 dX7_addRoad_55 rfl rfl ?_
  refine z_getI (n := 59) C K fF_RX7_15 dX7_addRoad_56 rfl (sh_tw hu) (Tw.lt0 hu) ?_
  refine z_iload (n := 61) C 5 dX7_addRoad_59 rfl rfl ?_
  refine z_iastN (n := 62) C K r dX7_addRoad_61 rfl (sh_tw5 hu) (Tw.lt hu (by decide)) (by rw [upI_p _ _ (by omega), upI_p _ _ (by omega), upI_p _ _ (by omega), upI_p _ _ (by omega)]; exact h1) hr (by decide) ?_
  refine z_aload_n (n := 63) C 0 dX7_addRoad_62 rfl rfl ?_
  refine z_dup (n := 64) C dX7_addRoad_63 rfl rfl ?_
  refine z_getI (n := 67) C K fF_RX7_15 dX7_addRoad_64 rfl (sh_tw hu) (Tw.lt0 hu) ?_
  rw [upI_p _ _ (show u ≠ u + 5 by omega), upI_p _ _ (show u ≠ u + 4 by omega), upI_p _ _ (show u ≠ u + 3 by omega), upI_p _ _ (show u ≠ u + 2 by omega), upI_p _ _ (show u ≠ u + 1 by omega), h1]
  refine z_iconst (n := 68) (v := 1) C dX7_addRoad_67 rfl rfl ?_
  refine z_iadd (n := 69) C dX7_addRoad_68 rfl ?_
  rw [nI_1]
  refine z_putI (n := 72) C K fF_RX7_15 dX7_addRoad_69 rfl (sh_tw hu) (Tw.lt0 hu) ?_
  refine z_vret C E dX7_addRoad_72 ?_
  exact hQ
