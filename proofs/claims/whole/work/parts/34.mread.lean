def mcd (I : KI) (b : Nat) (cd : Nat → Int32) (n : Nat) : Prop := b + n ≤ 400 ∧ ∀ j, j < n → I 88 (b + j) = cd j
theorem mcd.fr {I I' : KI} {b n : Nat} {cd : Nat → Int32} (h : mcd I b cd n) (hf : I' 88 = I 88) : mcd I' b cd n := ⟨h.1, fun j hj => by rw [hf]; exact h.2 j hj⟩
theorem isDb_w {cd : Nat → Int32} {n a lo hi : Nat} (hh : hi ≤ 9) : isDb cd n a lo hi = true ↔ isDb cd n a 0 9 = true ∧ lo ≤ dv cd a ∧ dv cd a ≤ hi := by
  rw [isDb_t, isDb_t]
  constructor
  · intro h; have := h.v; exact ⟨h.w (by omega) (by omega), by omega, by omega⟩
  · intro h; have := h.1.v; exact ⟨h.1.1, by omega, by omega⟩
/-- the reading's own cells: where it is, how many roads, corners -/
def mat (I : KI) (b a r nc : Nat) : Prop := I 85 18 = nI (b + a) ∧ I 85 15 = nI r ∧ I 85 14 = nI nc
def rom (I : KI) (r : Nat) (rd : Nat → Nat → Nat) : Prop := ∀ k, k < r → ∀ f, f < 5 → I 95 (5 * k + f) = nI (rd f k)
def frM (I0 I : KI) : Prop := (∀ x, x ≠ 85 → x ≠ 95 → I x = I0 x) ∧ ∀ j, j ≠ 14 → j ≠ 15 → j ≠ 16 → j ≠ 18 → I 85 j = I0 85 j
theorem frM.rf (I : KI) : frM I I := ⟨fun _ _ _ => rfl, fun _ _ _ _ _ => rfl⟩
theorem frM.u {I0 I : KI} (h : frM I0 I) {j : Nat} {v : Int32} (hj : j = 14 ∨ j = 15 ∨ j = 16 ∨ j = 18) : frM I0 (upI I 85 j v) := ⟨fun x h1 h2 => by rw [upI_row _ _ h1]; exact h.1 x h1 h2, fun i h1 h2 h3 h4 => by rw [upI_k _ _ (by omega)]; exact h.2 i h1 h2 h3 h4⟩
theorem frM.r {I0 I : KI} (h : frM I0 I) {j : Nat} {v : Int32} : frM I0 (upI I 95 j v) := ⟨fun x h1 h2 => by rw [upI_row _ _ h2]; exact h.1 x h1 h2, fun i h1 h2 h3 h4 => by rw [upI_p _ _ (by decide)]; exact h.2 i h1 h2 h3 h4⟩
set_option maxHeartbeats 4000000 in
set_option maxRecDepth 100000 in
theorem c_X10_digitAt {ad : Nat → Nat} {I : KI} {J : KJ} {t : Nat} {b n a : Nat} {cd : Nat → Int32} (hc : mcd I b cd n) (han : a ≤ n + 1) {av ev : Int32} (ha : av = nI (b + a)) (he : ev = nI (b + n)) {Q : Int32 → KI → KJ → KR → Prop} (h1 : isDb cd n a 0 9 = true → Q (nI (dv cd a)) I J (rf t)) (h0 : isDb cd n a 0 9 = false → Q (-9) I J (rf t)) : Mi 2 yX10_digitAt (wm yX10_digitAt cX10_digitAt 3 (some .int)) [.ref (ad 85), .int (av), .int (ev)] ad I J (rf t) Q := by
  refine mi_of (own := RX10) yk_X10_digitAt rfl (Nat.le_of_ble_eq_true rfl) rfl (fun X hA hnL C K E => ?_)
  subst hA
  refine z_iload_n (n := 1) C 1 dX10_digitAt_0 rfl rfl ?_
  refine z_iload_n (n := 2) C 2 dX10_digitAt_1 rfl rfl ?_
  have hb := hc.1
  rw [ha, he]
  refine z_icmp_ge (tgt := 33) (n := 5) C dX10_digitAt_2 rfl rfl (fun c2 => ?_) (fun c2 => ?_)
  · refine z_bipush (n := 35) (v := (-9)) C dX10_digitAt_33 rfl rfl ?_
    refine z_iret C E dX10_digitAt_35 ?_
    rw [fa_le, nI_toInt (by omega), nI_toInt (by omega)] at c2
    exact h0 (isDb_f.mpr (fun q => by have := q.1; omega))
  · rw [fa_le, nI_toInt (by omega), nI_toInt (by omega)] at c2
    refine z_aload_n (n := 6) C 0 dX10_digitAt_5 rfl rfl ?_
    refine z_getR (n := 9) (q := 88) C K fF_RX10_16 dX10_digitAt_6 rfl rfl sh_85 (by decide) rfl ?_
    refine z_iload_n (n := 10) C 1 dX10_digitAt_9 rfl rfl ?_
    refine z_ialdN (n := 11) C K (b + a) dX10_digitAt_10 rfl sh_88 (by decide) (by first | exact ha | rfl) (by omega) (by decide) ?_
    rw [hc.2 a (by omega)]
    refine z_bipush (n := 13) (v := 48) C dX10_digitAt_11 rfl rfl ?_
    refine z_bipush (n := 15) (v := 57) C dX10_digitAt_13 rfl rfl ?_
    refine z_si_3 (n := 18) (d' := 1) C K dX10_digitAt_15 rfl yk_X10_within kT_yX10_within kM_RX10_92 (by decide) hR0 rfl ?_
    refine m_inB (lo := 48) (hi := 57) (by decide) (by decide) (fun b15 => ?_) (fun b15 => ?_)
    · refine z_ifF_eq (n := 21) (tgt := 33) C (by decide) dX10_digitAt_18 rfl rfl ?_
      refine z_aload_n (n := 22) C 0 dX10_digitAt_21 rfl rfl ?_
      refine z_getR (n := 25) (q := 88) C K fF_RX10_16 dX10_digitAt_22 rfl rfl sh_85 (by decide) rfl ?_
      refine z_iload_n (n := 26) C 1 dX10_digitAt_25 rfl rfl ?_
      refine z_ialdN (n := 27) C K (b + a) dX10_digitAt_26 rfl sh_88 (by decide) (by first | exact ha | rfl) (by omega) (by decide) ?_
      rw [hc.2 a (by omega)]
      refine z_bipush (n := 29) (v := 48) C dX10_digitAt_27 rfl rfl ?_
      refine z_isub (n := 30) C dX10_digitAt_29 rfl ?_
      refine z_goto (n := 35) C dX10_digitAt_30 rfl ?_
      refine z_iret C E dX10_digitAt_35 ?_
      have hD : isD cd n a 0 9 := ⟨by omega, by have := b15.1; omega, by have := b15.2; omega⟩
      exact eqQ (hD.i (by decide)) (h1 (isDb_t.mpr hD))
    · refine z_ifT_eq (tgt := 33) C (by decide) dX10_digitAt_18 rfl ?_
      refine z_bipush (n := 35) (v := (-9)) C dX10_digitAt_33 rfl rfl ?_
      refine z_iret C E dX10_digitAt_35 ?_
      exact h0 (isDb_f.mpr (fun q => b15 ⟨by have := q.2.1; omega, by have := q.2.2; omega⟩))
set_option maxHeartbeats 4000000 in
set_option maxRecDepth 100000 in
theorem c_X10_takes {ad : Nat → Nat} {I : KI} {J : KJ} {t : Nat} {b n a r nc : Nat} {cd : Nat → Int32} (hc : mcd I b cd n) (han : a ≤ n) (hm : mat I b a r nc) (hr : r < 12) {w lo hi : Nat} (hw : w < 5) (hhi : hi ≤ 9) (hlo : lo ≤ 9) {ev lv hv : Int32} (he : ev = nI (b + n)) (hl : lv = nI lo) (hh : hv = nI hi) {Q : Int32 → KI → KJ → KR → Prop} (h1 : isDb cd n a lo hi = true → ∀ I', mcd I' b cd n → mat I' b (a + 1) r nc → frM I I' → I' 95 (5 * r + w) = nI (dv cd a) → (∀ j, j ≠ 5 * r + w → I' 95 j = I 95 j) → Q 1 I' J (rf t)) (h0 : isDb cd n a lo hi = false → Q 0 I J (rf t)) : Mi 3 yX10_takes (wm yX10_takes cX10_takes 6 (some .boolean)) [.ref (ad 85), .int (ev), .int (nI w), .int (lv), .int (hv)] ad I J (rf t) Q := by
  refine mi_of (own := RX10) yk_X10_takes rfl (Nat.le_of_ble_eq_true rfl) rfl (fun X hA hnL C K E => ?_)
  subst hA
  refine z_aload_n (n := 1) C 0 dX10_takes_0 rfl rfl ?_
  refine z_aload_n (n := 2) C 0 dX10_takes_1 rfl rfl ?_
  refine z_getI (n := 5) C K fF_RX10_142 dX10_takes_2 rfl sh_85 (by decide) ?_
  refine z_iload_n (n := 6) C 1 dX10_takes_5 rfl rfl ?_
  refine z_vi_2 (n := 9) (d' := 2) C K dX10_takes_6 rfl yk_X10_digitAt yv_X10_digitAt kM_RX10_139 (by decide) hR0 rfl rfl sh_85 (by decide) (by decide) ?_
  rw [hm.1]
  refine c_X10_digitAt hc (a := a) (by omega) rfl he (fun d => ?_) (fun d => ?_)
  · refine z_istore (n := 11) (L' := [(5, _), (0, _), (1, _), (2, _), (3, _), (4, _)]) C dX10_takes_9 rfl (by rw [hnL]; decide) rfl ?_
    refine z_iload (n := 13) C 0 dX10_takes_11 rfl rfl ?_
    refine z_iload_n (n := 14) C 4 dX10_takes_13 rfl rfl ?_
    refine z_iload (n := 16) C 5 dX10_takes_14 rfl rfl ?_
    refine z_si_3 (n := 19) (d' := 1) C K dX10_takes_16 rfl yk_X10_within kT_yX10_within kM_RX10_92 (by decide) hR0 rfl ?_
    refine c_X10_within (fun b16 => ?_) (fun b16 => ?_)
    · refine z_ifT_ne (tgt := 24) C (by decide) dX10_takes_19 rfl ?_
      have hb := hc.1
      have hv9 := (isDb_t.mp d).v
      rw [hl, hh, nI_toInt (by omega), nI_toInt (by omega), nI_toInt (by omega)] at b16
      refine z_aload_n (n := 25) C 1 dX10_takes_24 rfl rfl ?_
      refine z_getR (n := 28) (q := 95) C K fF_RX10_37 dX10_takes_25 rfl rfl sh_85 (by decide) rfl ?_
      refine z_iconst (n := 29) (v := 5) C dX10_takes_28 rfl rfl ?_
      refine z_aload_n (n := 30) C 1 dX10_takes_29 rfl rfl ?_
      refine z_getI (n := 33) C K fF_RX10_121 dX10_takes_30 rfl sh_85 (by decide) ?_
      refine z_imul (n := 34) C dX10_takes_33 rfl ?_
      refine z_iload_n (n := 35) C 3 dX10_takes_34 rfl rfl ?_
      refine z_iadd (n := 36) C dX10_takes_35 rfl ?_
      refine z_iload (n := 38) C 0 dX10_takes_36 rfl rfl ?_
      refine z_iastN (n := 39) C K (5 * r + w) dX10_takes_38 rfl sh_95 (by decide) (by rw [hm.2.1, show (5 : Int32) = nI 5 from rfl, mul_nI, nI_add]) (by omega) (by decide) ?_
      refine z_aload_n (n := 40) C 1 dX10_takes_39 rfl rfl ?_
      refine z_dup (n := 41) C dX10_takes_40 rfl rfl ?_
      refine z_getI (n := 44) C K fF_RX10_142 dX10_takes_41 rfl sh_85 (by decide) ?_
      refine z_iconst (n := 45) (v := 1) C dX10_takes_44 rfl rfl ?_
      refine z_iadd (n := 46) C dX10_takes_45 rfl ?_
      rw [upI_p _ _ (by decide), hm.1, nI_1]
      refine z_putI (n := 49) C K fF_RX10_142 dX10_takes_46 rfl sh_85 (by decide) ?_
      refine z_iconst (n := 50) (v := 1) C dX10_takes_49 rfl rfl ?_
      refine z_zret C E dX10_takes_50 (by decide) ?_
      refine h1 ((isDb_w hhi).mpr ⟨d, by omega, by omega⟩) _ (hc.fr (by rw [upI_row _ _ (by decide), upI_row _ _ (by decide)])) ⟨upI_same _ _ _ _, by rw [upI_k _ _ (by decide), upI_p _ _ (by decide)]; exact hm.2.1, by rw [upI_k _ _ (by decide), upI_p _ _ (by decide)]; exact hm.2.2⟩ ((frM.rf I).r.u (by omega)) (by rw [upI_p _ _ (by decide), upI_same]) (fun j hj => by rw [upI_p _ _ (by decide), upI_k _ _ hj])
    · refine z_ifF_ne (n := 22) (tgt := 24) C (by decide) dX10_takes_19 rfl rfl ?_
      refine z_iconst (n := 23) (v := 0) C dX10_takes_22 rfl rfl ?_
      refine z_zret C E dX10_takes_23 (by decide) ?_
      have hv9 := (isDb_t.mp d).v
      rw [hl, hh, nI_toInt (by omega), nI_toInt (by omega), nI_toInt (by omega)] at b16
      exact h0 (by
        cases hq : isDb cd n a lo hi with
        | false => rfl
        | true => have h2 := (isDb_w hhi).mp hq; omega)
  · refine z_istore (n := 11) (L' := [(5, _), (0, _), (1, _), (2, _), (3, _), (4, _)]) C dX10_takes_9 rfl (by rw [hnL]; decide) rfl ?_
    refine z_iload (n := 13) C 0 dX10_takes_11 rfl rfl ?_
    refine z_iload_n (n := 14) C 4 dX10_takes_13 rfl rfl ?_
    refine z_iload (n := 16) C 5 dX10_takes_14 rfl rfl ?_
    refine z_si_3 (n := 19) (d' := 1) C K dX10_takes_16 rfl yk_X10_within kT_yX10_within kM_RX10_92 (by decide) hR0 rfl ?_
    refine c_X10_within (fun b16 => ?_) (fun b16 => ?_)
    · refine z_ifT_ne (tgt := 24) C (by decide) dX10_takes_19 rfl ?_
      exfalso
      rw [hl, nI_toInt (by omega)] at b16
      have := b16.1
      have e9 : (-9 : Int32).toInt = -9 := by decide
      rw [e9] at this
      omega
    · refine z_ifF_ne (n := 22) (tgt := 24) C (by decide) dX10_takes_19 rfl rfl ?_
      refine z_iconst (n := 23) (v := 0) C dX10_takes_22 rfl rfl ?_
      refine z_zret C E dX10_takes_23 (by decide) ?_
      exact h0 (by
        cases hq : isDb cd n a lo hi with
        | false => rfl
        | true => have h2 := (isDb_w hhi).mp hq; rw [h2.1] at d; cases d)
