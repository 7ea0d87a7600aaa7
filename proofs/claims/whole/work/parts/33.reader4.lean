set_option maxHeartbeats 4000000 in
set_option maxRecDepth 100000 in
theorem l_X4_read {X : KX} {J : KJ} {t : Nat} (C : Cx X RX4 cX4_read 7) (K : Kx X) (hnL : xnL X = 6) {Q : Int32 → KI → KJ → KR → Prop} (E : Ei X .int Q) {I0 : KI} {k c i n u : Nat} (hk : k < 4) (hc : c ≤ 100) (hI : I0 (67 + 2 * k) 2 = nI c) (hin : i + n ≤ c) (hu : Tw u)
    (hE : ∀ p I', txP (fun j => I0 (68 + 2 * k) (i + j)) n = .inl p → frR u I0 I' → Q (nI p) I' J (rf t)) (hO : ∀ q I', txP (fun j => I0 (68 + 2 * k) (i + j)) n = .inr q → frR u I0 I' → I' u 0 = nI q.1 → I' u 1 = nI q.2.1 → I' u 2 = nI q.2.2.1 → ros I' u q.2.1 q.2.2.2 → Q (-1) I' J (rf t)) : ∀ (f b : Nat), n - b < f → b ≤ n → Z X 0 0 (V X (cpS (upI I0 2 1 (nI n)) k i b) J (rf t)) 13 [(5, .int (nI b)), (0, .ref (xad X 2)), (1, .ref (xad X (67 + 2 * k))), (2, .int (nI i)), (3, .int (nI n)), (4, .ref (xad X u))] [] := by
  intro f
  induction f with
  | zero => intro b h; omega
  | succ f ih =>
    intro b hb1 hbn
    have hn2 := hu.n2
    have e21 : cpS (upI I0 2 1 (nI n)) k i b 2 1 = nI n := by rw [cpS_p _ (by decide), upI_same]
    refine z_iload (n := 15) C 0 dX4_read_13 rfl rfl ?_
    refine z_aload_n (n := 16) C 1 dX4_read_15 rfl rfl ?_
    refine z_getI (n := 19) C K fF_RX4_15 dX4_read_16 rfl sh_2 (by decide) ?_
    refine z_icmp_ge (tgt := 43) (n := 22) C dX4_read_19 rfl rfl (fun c19 => ?_) (fun c19 => ?_)
    · rw [e21, fa_le, nI_toInt (by omega), nI_toInt (by omega)] at c19
      have e : b = n := by omega
      subst e
      refine z_aload_n (n := 44) C 1 dX4_read_43 rfl rfl ?_
      refine z_iconst (n := 45) (v := 0) C dX4_read_44 rfl rfl ?_
      refine z_putI (n := 48) C K fF_RX4_19 dX4_read_45 rfl sh_2 (by decide) ?_
      have hr0 : rdr (upI (cpS (upI I0 2 1 (nI b)) k i b) 2 2 0) (fun j => I0 (68 + 2 * k) (i + j)) b 0 := ⟨by rw [upI_k _ _ (by decide)]; exact e21, upI_same _ _ _ _, by omega, by omega, fun j hj => by rw [upI_p _ _ (by decide)]; unfold cpS; rw [if_pos ⟨rfl, hj⟩, upI_row _ _ (by omega)]⟩
      refine z_aload_n (n := 49) C 1 dX4_read_48 rfl rfl ?_
      refine z_bipush (n := 51) (v := 110) C dX4_read_49 rfl rfl ?_
      refine z_vi_1 (n := 54) (d' := 1) C K dX4_read_51 rfl yk_X4_take yv_X4_take kM_RX4_33 (by decide) hR0 rfl rfl sh_2 (by decide) (by decide) ?_
      refine c_X4_take hr0 (c := 110) rfl (fun b51 => ?_) (fun b51 => ?_)
      · refine z_ifF_eq (n := 57) (tgt := 67) C (by decide) dX4_read_54 rfl rfl ?_
        have d110 := isCb_t.mp b51
        have hr1 := hr0.up (b := 0 + 1) (by have := d110.1; omega)
        refine z_aload_n (n := 58) C 1 dX4_read_57 rfl rfl ?_
        refine z_iconst (n := 59) (v := 2) C dX4_read_58 rfl rfl ?_
        refine z_bipush (n := 61) (v := 7) C dX4_read_59 rfl rfl ?_
        refine z_vi_2 (n := 64) (d' := 2) C K dX4_read_61 rfl yk_X4_isDigit yv_X4_isDigit kM_RX4_37 (by decide) hR0 rfl rfl sh_2 (by decide) (by decide) ?_
        refine c_X4_isDigit hr1 (lo := 2) (hi := 7) rfl rfl (by omega) (by omega) (fun b61 => ?_) (fun b61 => ?_)
        · refine z_ifT_ne (tgt := 72) C (by decide) dX4_read_64 rfl ?_
          refine z_aload (n := 74) C 5 dX4_read_72 rfl rfl ?_
          refine z_aload_n (n := 75) C 1 dX4_read_74 rfl rfl ?_
          refine z_vi_0 (n := 78) (d' := 3) C K dX4_read_75 rfl yk_X4_takeDigit yv_X4_takeDigit kM_RX4_41 (by decide) hR0 rfl rfl sh_2 (by decide) (by decide) ?_
          have d61 := isDb_t.mp b61
          have d61v := d61.v
          refine c_X4_takeDigit hr1 (fun _ => ?_) (fun e => (isDb_f.mp e (d61.w (by omega) (by omega))).elim)
          have hr2 := hr1.up (b := 0 + 1 + 1) (by have := d61.1; omega)
          refine z_vv_1 (n := 81) (d' := 1) C K dX4_read_78 rfl yk_X7_begin yv_X7_begin kM_RX4_45 (by decide) hR0 rfl rfl (sh_tw hu) (by decide) (Tw.lt0 hu) ?_
          refine c_X7_begin hu ?_
          refine z_aload_n (n := 82) C 1 dX4_read_81 rfl rfl ?_
          refine z_aload (n := 84) C 5 dX4_read_82 rfl rfl ?_
          refine z_vi_1 (n := 87) (d' := 6) C K dX4_read_84 rfl yk_X4_readRoads yv_X4_readRoads kM_RX4_51 (by decide) hR0 rfl rfl sh_2 (by decide) (by decide) ?_
          refine c_X4_readRoads (nc := dv (fun j => I0 (68 + 2 * k) (i + j)) 1) (hr2.fr (by rw [upI_row _ _ (by omega), upI_row _ _ (by omega), upI_row _ _ (by omega)]) (by rw [upI_row _ _ (by omega), upI_row _ _ (by omega), upI_row _ _ (by omega)])) hu ⟨d61v.1, d61v.2.1⟩ (by rw [upI_k _ _ (by decide), upI_k _ _ (by decide), upI_same]) (by rw [upI_k _ _ (by decide), upI_same]; rfl) (fun p I1 hp hf1 => ?_) (fun q I1 hq hf1 g0 g1 g2 g3 => ?_)
          · refine z_iret C E dX4_read_87 ?_
            exact hE p I1 (by unfold txP; rw [if_neg (by rw [b51]; decide), if_neg (by rw [b61]; decide), show rrP _ _ _ 13 0 2 _ = _ from hp]) (fun x hx hx3 hx2 => by rw [hf1 x hx hx3 hx2, upI_row _ _ (by omega), upI_row _ _ (by omega), upI_row _ _ (by omega), upI_row _ _ hx, upI_row _ _ hx, upI_row _ _ hx, cpS_p _ hx3, upI_row _ _ hx])
          · refine z_iret C E dX4_read_87 ?_
            exact hO (dv (fun j => I0 (68 + 2 * k) (i + j)) 1, q) I1 (by unfold txP; rw [if_neg (by rw [b51]; decide), if_neg (by rw [b61]; decide), show rrP _ _ _ 13 0 2 _ = _ from hq]) (fun x hx hx3 hx2 => by rw [hf1 x hx hx3 hx2, upI_row _ _ (by omega), upI_row _ _ (by omega), upI_row _ _ (by omega), upI_row _ _ hx, upI_row _ _ hx, upI_row _ _ hx, cpS_p _ hx3, upI_row _ _ hx]) g0 g1 g2 g3
        · refine z_ifF_ne (n := 67) (tgt := 72) C (by decide) dX4_read_64 rfl rfl ?_
          refine z_aload_n (n := 68) C 1 dX4_read_67 rfl rfl ?_
          refine z_getI (n := 71) C K fF_RX4_19 dX4_read_68 rfl sh_2 (by decide) ?_
          refine z_iret C E dX4_read_71 ?_
          refine eqQ (upI_same _ _ _ _) (hE 1 _ (by unfold txP; rw [if_neg (by rw [b51]; decide), if_pos b61]) (fun x hx hx3 hx2 => by rw [upI_row _ _ hx, upI_row _ _ hx, cpS_p _ hx3, upI_row _ _ hx]))
      · refine z_ifT_eq (tgt := 67) C (by decide) dX4_read_54 rfl ?_
        refine z_aload_n (n := 68) C 1 dX4_read_67 rfl rfl ?_
        refine z_getI (n := 71) C K fF_RX4_19 dX4_read_68 rfl sh_2 (by decide) ?_
        refine z_iret C E dX4_read_71 ?_
        refine eqQ (upI_same _ _ _ _) (hE 0 _ (by unfold txP; rw [if_pos b51]) (fun x hx hx3 hx2 => by rw [upI_row _ _ hx, cpS_p _ hx3, upI_row _ _ hx]))
    · rw [e21, fa_le, nI_toInt (by omega), nI_toInt (by omega)] at c19
      refine z_aload_n (n := 23) C 1 dX4_read_22 rfl rfl ?_
      refine z_getR (n := 26) (q := 3) C K fF_RX4_9 dX4_read_23 rfl rfl sh_2 (by decide) rfl ?_
      refine z_iload (n := 28) C 0 dX4_read_26 rfl rfl ?_
      refine z_aload_n (n := 29) C 2 dX4_read_28 rfl rfl ?_
      refine z_iload_n (n := 30) C 3 dX4_read_29 rfl rfl ?_
      refine z_iload (n := 32) C 0 dX4_read_30 rfl rfl ?_
      refine z_iadd (n := 33) C dX4_read_32 rfl ?_
      refine z_vi_1 (n := 36) (d' := 2) C K dX4_read_33 rfl yk_X6_at yv_X6_at kM_RX4_28 (by decide) hR0 rfl rfl (sh_sheet hk) (by decide) (lt_sheet hk) ?_
      rw [nI_add]
      refine c_X6_at (c := c) hk hc (by rw [cpS_p _ (by omega), upI_row _ _ (by omega)]; exact hI) (fun j hj1 hj2 => ?_) (fun hh => (hh (by rw [nI_toInt (by omega)]; omega)).elim)
      obtain rfl := nI_inj hj1 (by omega) (by omega)
      rw [cpS_p _ (show 68 + 2 * k ≠ 3 by omega)]
      refine z_iastN (n := 37) C K b dX4_read_36 rfl sh_3 (by decide) rfl (by omega) (by decide) ?_
      refine z_iincG (n := 40) (c := 1) (L' := [(5, _), (0, _), (1, _), (2, _), (3, _), (4, _)]) C 0 dX4_read_37 rfl rfl rfl (by rw [hnL]; decide) rfl ?_
      refine z_goto (n := 13) C dX4_read_40 rfl ?_
      rw [nI_1, cpS_s]
      exact ih (b + 1) (by omega) (by omega)
set_option maxHeartbeats 4000000 in
set_option maxRecDepth 100000 in
theorem c_X4_read {ad : Nat → Nat} {I : KI} {J : KJ} {t : Nat} {k c i n u : Nat} (hk : k < 4) (hc : c ≤ 100) (hI : I (67 + 2 * k) 2 = nI c) (hin : i + n ≤ c) (hu : Tw u) {Q : Int32 → KI → KJ → KR → Prop} (hE : ∀ p I', txP (fun j => I (68 + 2 * k) (i + j)) n = .inl p → frR u I I' → Q (nI p) I' J (rf t)) (hO : ∀ q I', txP (fun j => I (68 + 2 * k) (i + j)) n = .inr q → frR u I I' → I' u 0 = nI q.1 → I' u 1 = nI q.2.1 → I' u 2 = nI q.2.2.1 → ros I' u q.2.1 q.2.2.2 → Q (-1) I' J (rf t)) : Mi 7 yX4_read (wm yX4_read cX4_read 6 (some .int)) [.ref (ad 2), .ref (ad (67 + 2 * k)), .int (nI i), .int (nI n), .ref (ad u)] ad I J (rf t) Q := by
  refine mi_of (own := RX4) yk_X4_read rfl (Nat.le_of_ble_eq_true rfl) rfl (fun X hA hnL C K E => ?_)
  subst hA
  refine z_aload_n (n := 1) C 0 dX4_read_0 rfl rfl ?_
  refine z_iload_n (n := 2) C 3 dX4_read_1 rfl rfl ?_
  refine z_bipush (n := 4) (v := 100) C dX4_read_2 rfl rfl ?_
  refine z_min (n := 7) C dX4_read_4 rfl kM_RX4_22 (by decide) hR0 rfl ?_
  have e1 : (if (100 : Int32) < nI n then (100 : Int32) else nI n) = nI n := by
    split
    · rename_i h; rw [fa_lt, nI_toInt (by omega)] at h; simp only [Int32.reduceToInt] at h; omega
    · rfl
  rw [e1]
  refine z_putI (n := 10) C K fF_RX4_15 dX4_read_7 rfl sh_2 (by decide) ?_
  refine z_iconst (n := 11) (v := 0) C dX4_read_10 rfl rfl ?_
  refine z_istore (n := 13) (L' := [(5, _), (0, _), (1, _), (2, _), (3, _), (4, _)]) C dX4_read_11 rfl (by rw [hnL]; decide) rfl ?_
  have h1 := l_X4_read (J := J) (t := t) C K hnL E hk hc hI hin hu hE hO (n + 1) 0 (by omega) (by omega)
  rw [cpS_0] at h1
  exact h1
