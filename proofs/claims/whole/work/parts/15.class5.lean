set_option maxHeartbeats 4000000 in
set_option maxRecDepth 100000 in
theorem c_X9_grownFor {ad : Nat → Nat} {I : KI} {J : KJ} {t : Nat} {c : Nat} {ki co ag re : Nat → Nat} {T : Nat → Nat → Nat}(hk : cKd I c ki co ag re T){n : Nat} (ok : okKd n c ki co ag re T){h hc : Nat} {hd : Nat → Nat} (hm : cMi I h hc hd) (hok : okMi h hc hd){m : Nat} (hm2 : m < 2 ^ 31) {Q : Int32 → KI → KJ → KR → Prop} (hQ : Q (nI (grS ki c h m)) I J (rf t)) : Mi 2 yX9_grownFor (wm yX9_grownFor cX9_grownFor 4 (some .int)) [.ref (ad 0), .int (nI m)] ad I J (rf t) Q := by
  refine mi_of (own := RX9) yk_X9_grownFor rfl (Nat.le_of_ble_eq_true rfl) rfl (fun X hA hnL C K E => ?_)
  subst hA
  refine z_iconst (n := 1) (v := 0) C dX9_grownFor_0 rfl rfl ?_
  refine z_istore_n (n := 2) (L' := [(2, _), (0, _), (1, _)]) C dX9_grownFor_1 rfl (by rw [hnL]; decide) rfl ?_
  refine z_iconst (n := 3) (v := 0) C dX9_grownFor_2 rfl rfl ?_
  refine z_istore_n (n := 4) (L' := [(3, _), (2, _), (0, _), (1, _)]) C dX9_grownFor_3 rfl (by rw [hnL]; decide) rfl ?_
  exact l_X9_grownFor C K hnL E hk ok hm hok hm2 hQ (c + 1) 0 (by omega) (by omega)
set_option maxHeartbeats 4000000 in
set_option maxRecDepth 100000 in
theorem c_X9_grown {ad : Nat → Nat} {I : KI} {J : KJ} {t : Nat} {c : Nat} {ki co ag re : Nat → Nat} {T : Nat → Nat → Nat}(hk : cKd I c ki co ag re T){n : Nat} (ok : okKd n c ki co ag re T){h hc : Nat} {hd : Nat → Nat} (hm : cMi I h hc hd) (hok : okMi h hc hd){s : Int32} {Q : Int32 → KI → KJ → KR → Prop} (hR : ¬ isS c s → Q (-2) I J (rf t)) (hS : ∀ m, 0 < m → m < 2 ^ c → s = nI m → Q (nI (grS ki c h m)) I J (rf t)) : Mi 3 yX9_grown (wm yX9_grown cX9_grown 2 (some .int)) [.ref (ad 0), .int (s)] ad I J (rf t) Q := by
  refine mi_of (own := RX9) yk_X9_grown rfl (Nat.le_of_ble_eq_true rfl) rfl (fun X hA hnL C K E => ?_)
  subst hA
  refine z_aload_n (n := 1) C 0 dX9_grown_0 rfl rfl ?_
  refine z_iload_n (n := 2) C 1 dX9_grown_1 rfl rfl ?_
  refine z_vi_1 (n := 5) (d' := 1) C K dX9_grown_2 rfl yk_X9_isSet yv_X9_isSet kM_RX9_200 (by decide) hR0 rfl rfl sh_0 (by decide) (by decide) ?_
  refine c_X9_isSet hk.1 ok.1 (fun b2 => ?_) (fun b2 => ?_)
  · refine z_ifF_eq (n := 8) (tgt := 16) C (by decide) dX9_grown_5 rfl rfl ?_
    obtain ⟨m, hm0, hm1, rfl⟩ := b2
    have h10 : (2 : Nat) ^ c ≤ 2 ^ 10 := Nat.pow_le_pow_right (by decide) ok.1
    refine z_aload_n (n := 9) C 0 dX9_grown_8 rfl rfl ?_
    refine z_iload_n (n := 10) C 1 dX9_grown_9 rfl rfl ?_
    refine z_vi_1 (n := 13) (d' := 2) C K dX9_grown_10 rfl yk_X9_grownFor yv_X9_grownFor kM_RX9_252 (by decide) hR0 rfl rfl sh_0 (by decide) (by decide) ?_
    refine c_X9_grownFor hk ok hm hok (by omega) ?_
    refine z_goto (n := 18) C dX9_grown_13 rfl ?_
    refine z_iret C E dX9_grown_18 ?_
    exact hS m hm0 hm1 rfl
  · refine z_ifT_eq (tgt := 16) C (by decide) dX9_grown_5 rfl ?_
    refine z_bipush (n := 18) (v := (-2)) C dX9_grown_16 rfl rfl ?_
    refine z_iret C E dX9_grown_18 ?_
    exact hR b2
theorem cKd.tr {I : KI} {c : Nat} {ki co ag re : Nat → Nat} {T : Nat → Nat → Nat} (h : cKd I c ki co ag re T) {j : Nat} (hj : j ≠ 5) {v : Int32} : cKd (upI I 0 j v) c ki co ag re T := by
  refine ⟨by rw [upI_k _ _ (by omega)]; exact h.1, fun x hx => ?_⟩
  rw [upI_row _ _ (by omega)]
  exact h.2 x hx
theorem upI_upI (I : KI) (p k : Nat) (v w : Int32) : upI (upI I p k v) p k w = upI I p k w := by
  funext q j; unfold upI; split <;> rfl
set_option maxHeartbeats 4000000 in
set_option maxRecDepth 100000 in
theorem c_X9_tellChild {ad : Nat → Nat} {I : KI} {J : KJ} {t : Nat} {x : Nat} (hx : x < 10) {a : Int32} (ha : I (75 + x) 2 = a) {Q : Int32 → KI → KJ → KR → Prop} (hQ : Q a (upI I 0 12 (31 * I 0 12 + 1)) J (rf t)) : Mi 2 yX9_tellChild (wm yX9_tellChild cX9_tellChild 2 (some .int)) [.ref (ad 0), .ref (ad (75 + x))] ad I J (rf t) Q := by
  refine mi_of (own := RX9) yk_X9_tellChild rfl (Nat.le_of_ble_eq_true rfl) rfl (fun X hA hnL C K E => ?_)
  subst hA
  refine z_aload_n (n := 1) C 0 dX9_tellChild_0 rfl rfl ?_
  refine z_iconst (n := 2) (v := 1) C dX9_tellChild_1 rfl rfl ?_
  refine z_vv_1 (n := 5) (d' := 1) C K dX9_tellChild_2 rfl yk_X9_leaveTrace yv_X9_leaveTrace kM_RX9_344 (by decide) hR0 rfl rfl sh_0 (by decide) (by decide) ?_
  refine c_X9_leaveTrace ?_
  refine z_aload_n (n := 6) C 1 dX9_tellChild_5 rfl rfl ?_
  refine z_getI (n := 9) C K fF_RX9_171 dX9_tellChild_6 rfl (sh_child hx) (lt_child hx) ?_
  refine z_iret C E dX9_tellChild_9 ?_
  refine eqQ ?_ hQ
  rw [upI_p _ _ (by omega)]; exact ha
set_option maxHeartbeats 4000000 in
set_option maxRecDepth 100000 in
theorem c_X9_tellSlow {ad : Nat → Nat} {I : KI} {J : KJ} {t : Nat} {x : Nat} (hx : x < 10) {a : Int32} (ha : I (75 + x) 2 = a) {Q : Int32 → KI → KJ → KR → Prop} (hQ : Q (a + 100) (upI I 0 12 (31 * (31 * I 0 12 + 2) + 1)) J (rf t)) : Mi 3 yX9_tellSlow (wm yX9_tellSlow cX9_tellSlow 2 (some .int)) [.ref (ad 0), .ref (ad (75 + x))] ad I J (rf t) Q := by
  refine mi_of (own := RX9) yk_X9_tellSlow rfl (Nat.le_of_ble_eq_true rfl) rfl (fun X hA hnL C K E => ?_)
  subst hA
  refine z_aload_n (n := 1) C 0 dX9_tellSlow_0 rfl rfl ?_
  refine z_iconst (n := 2) (v := 2) C dX9_tellSlow_1 rfl rfl ?_
  refine z_vv_1 (n := 5) (d' := 1) C K dX9_tellSlow_2 rfl yk_X9_leaveTrace yv_X9_leaveTrace kM_RX9_344 (by decide) hR0 rfl rfl sh_0 (by decide) (by decide) ?_
  refine c_X9_leaveTrace ?_
  refine z_aload_n (n := 6) C 0 dX9_tellSlow_5 rfl rfl ?_
  refine z_aload_n (n := 7) C 1 dX9_tellSlow_6 rfl rfl ?_
  refine z_vi_1 (n := 10) (d' := 2) C K dX9_tellSlow_7 rfl yk_X9_tellChild yv_X9_tellChild kM_RX9_341 (by decide) hR0 rfl rfl sh_0 (by decide) (by decide) ?_
  refine c_X9_tellChild (a := a) hx (by rw [upI_p _ _ (by omega)]; exact ha) ?_
  refine z_bipush (n := 12) (v := 100) C dX9_tellSlow_10 rfl rfl ?_
  refine z_iadd (n := 13) C dX9_tellSlow_12 rfl ?_
  refine z_iret C E dX9_tellSlow_13 ?_
  rw [upI_upI, upI_same]
  exact hQ
set_option maxHeartbeats 4000000 in
set_option maxRecDepth 100000 in
theorem c_X9_tellHeld {ad : Nat → Nat} {I : KI} {J : KJ} {t : Nat} {x : Nat} (hx : x < 10) {a : Int32} (ha : I (75 + x) 2 = a) {Q : Int32 → KI → KJ → KR → Prop} (hQ : Q (a + 100 + a) (upI I 0 12 (31 * (31 * (31 * (31 * I 0 12 + 3) + 2) + 1) + 1)) J (rf t)) : Mi 4 yX9_tellHeld (wm yX9_tellHeld cX9_tellHeld 3 (some .int)) [.ref (ad 0), .ref (ad (75 + x))] ad I J (rf t) Q := by
  refine mi_of (own := RX9) yk_X9_tellHeld rfl (Nat.le_of_ble_eq_true rfl) rfl (fun X hA hnL C K E => ?_)
  subst hA
  refine z_aload_n (n := 1) C 0 dX9_tellHeld_0 rfl rfl ?_
  refine z_iconst (n := 2) (v := 3) C dX9_tellHeld_1 rfl rfl ?_
  refine z_vv_1 (n := 5) (d' := 1) C K dX9_tellHeld_2 rfl yk_X9_leaveTrace yv_X9_leaveTrace kM_RX9_344 (by decide) hR0 rfl rfl sh_0 (by decide) (by decide) ?_
  refine c_X9_leaveTrace ?_
  refine z_aload_n (n := 6) C 0 dX9_tellHeld_5 rfl rfl ?_
  refine z_aload_n (n := 7) C 1 dX9_tellHeld_6 rfl rfl ?_
  refine z_vi_1 (n := 10) (d' := 3) C K dX9_tellHeld_7 rfl yk_X9_tellSlow yv_X9_tellSlow kM_RX9_338 (by decide) hR0 rfl rfl sh_0 (by decide) (by decide) ?_
  refine c_X9_tellSlow (a := a) hx (by rw [upI_p _ _ (by omega)]; exact ha) ?_
  refine z_istore_n (n := 11) (L' := [(2, _), (0, _), (1, _)]) C dX9_tellHeld_10 rfl (by rw [hnL]; decide) rfl ?_
  refine z_iload_n (n := 12) C 0 dX9_tellHeld_11 rfl rfl ?_
  refine z_aload_n (n := 13) C 1 dX9_tellHeld_12 rfl rfl ?_
  refine z_aload_n (n := 14) C 2 dX9_tellHeld_13 rfl rfl ?_
  refine z_vi_1 (n := 17) (d' := 2) C K dX9_tellHeld_14 rfl yk_X9_tellChild yv_X9_tellChild kM_RX9_341 (by decide) hR0 rfl rfl sh_0 (by decide) (by decide) ?_
  refine c_X9_tellChild (a := a) hx (by rw [upI_p _ _ (by omega), upI_p _ _ (by omega)]; exact ha) ?_
  refine z_iadd (n := 18) C dX9_tellHeld_17 rfl ?_
  refine z_iret C E dX9_tellHeld_18 ?_
  rw [upI_upI, upI_upI, upI_same, upI_same]
  exact hQ
set_option maxHeartbeats 4000000 in
set_option maxRecDepth 100000 in
theorem c_X9_tell {ad : Nat → Nat} {I : KI} {J : KJ} {t : Nat} {c : Nat} {ki co ag re : Nat → Nat} {T : Nat → Nat → Nat}(hk : cKd I c ki co ag re T){n : Nat} (ok : okKd n c ki co ag re T){xv : Int32} {Q : Int32 → KI → KJ → KR → Prop} (hR : ¬ isN c xv → Q (-1) I J (rf t)) (hS : ∀ x, xv = nI x → x < c → Q (tellS ki ag x (I 0 12)).1 (upI I 0 12 (tellS ki ag x (I 0 12)).2) J (rf t)) : Mi 5 yX9_tell (wm yX9_tell cX9_tell 3 (some .int)) [.ref (ad 0), .int (xv)] ad I J (rf t) Q := by
  refine mi_of (own := RX9) yk_X9_tell rfl (Nat.le_of_ble_eq_true rfl) rfl (fun X hA hnL C K E => ?_)
  subst hA
  refine z_aload_n (n := 1) C 0 dX9_tell_0 rfl rfl ?_
  refine z_iload_n (n := 2) C 1 dX9_tell_1 rfl rfl ?_
  refine z_vi_1 (n := 5) (d' := 1) C K dX9_tell_2 rfl yk_X9_isChild yv_X9_isChild kM_RX9_162 (by decide) hR0 rfl rfl sh_0 (by decide) (by decide) ?_
  refine c_X9_isChild hk.1 ok.1 (fun b2 => ?_) (fun b2 => ?_)
  · refine z_ifT_ne (tgt := 10) C (by decide) dX9_tell_5 rfl ?_
    obtain ⟨x, hxc, rfl⟩ := isN_of b2
    have hx : x < 10 := by have := ok.1; omega
    have hz := hk.2 x hxc
    have hb := ok.2.1 x hxc
    refine z_aload_n (n := 11) C 0 dX9_tell_10 rfl rfl ?_
    refine z_getR (n := 14) (q := 48) C K fF_RX9_36 dX9_tell_11 rfl rfl sh_0 (by decide) rfl ?_
    refine z_iload_n (n := 15) C 1 dX9_tell_14 rfl rfl ?_
    refine z_aaldN (n := 16) (q := (75 + x)) (ci := 0) C K x dX9_tell_15 rfl (by decide) sh_48 (by decide) rfl hx (by decide) (rf_children hx) ?_
    refine z_astore_n (n := 17) (L' := [(2, _), (0, _), (1, _)]) C dX9_tell_16 rfl (by rw [hnL]; decide) rfl ?_
    refine z_aload_n (n := 18) C 0 dX9_tell_17 rfl rfl ?_
    refine z_getI (n := 21) C K fF_RX9_165 dX9_tell_18 rfl (sh_child hx) (lt_child hx) ?_
    refine z_iconst (n := 22) (v := 2) C dX9_tell_21 rfl rfl ?_
    rw [hz.1]
    refine z_icmp_ne (tgt := 31) (n := 25) C dX9_tell_22 rfl rfl (fun c22 => ?_) (fun c22 => ?_)
    · refine z_aload_n (n := 32) C 0 dX9_tell_31 rfl rfl ?_
      refine z_getI (n := 35) C K fF_RX9_165 dX9_tell_32 rfl (sh_child hx) (lt_child hx) ?_
      refine z_iconst (n := 36) (v := 1) C dX9_tell_35 rfl rfl ?_
      rw [hz.1]
      refine z_icmp_ne (tgt := 47) (n := 39) C dX9_tell_36 rfl rfl (fun c36 => ?_) (fun c36 => ?_)
      · refine z_aload_n (n := 48) C 1 dX9_tell_47 rfl rfl ?_
        refine z_aload_n (n := 49) C 0 dX9_tell_48 rfl rfl ?_
        refine z_vi_1 (n := 52) (d' := 2) C K dX9_tell_49 rfl yk_X9_tellChild yv_X9_tellChild kM_RX9_341 (by decide) hR0 rfl rfl sh_0 (by decide) (by decide) ?_
        refine c_X9_tellChild hx hz.2.2.1 ?_
        refine z_iret C E dX9_tell_52 ?_
        have h3 := hS x rfl hxc
        unfold tellS at h3
        have e : ki x = 0 ∨ ki x = 1 ∨ ki x = 2 := by omega
        have e2 : nI (ag x) + 100 + nI (ag x) = nI (2 * ag x + 100) := by
          rw [show (100 : Int32) = nI 100 from rfl, nI_add, nI_add]; congr 1; omega
        have e3 : nI (ag x) + 100 = nI (ag x + 100) := nI_add _ 100
        rcases e with e | e | e <;> rw [e] at h3
        all_goals first | (rw [e] at c22; exfalso; revert c22; decide) | skip
        all_goals first | (rw [e] at c36; exfalso; revert c36; decide) | skip
        all_goals first | exact h3 | (rw [e2]; exact h3) | (rw [e3]; exact h3)
      · refine z_aload_n (n := 40) C 1 dX9_tell_39 rfl rfl ?_
        refine z_aload_n (n := 41) C 0 dX9_tell_40 rfl rfl ?_
        refine z_vi_1 (n := 44) (d' := 3) C K dX9_tell_41 rfl yk_X9_tellSlow yv_X9_tellSlow kM_RX9_338 (by decide) hR0 rfl rfl sh_0 (by decide) (by decide) ?_
        refine c_X9_tellSlow hx hz.2.2.1 ?_
        refine z_goto (n := 52) C dX9_tell_44 rfl ?_
        refine z_iret C E dX9_tell_52 ?_
        have h3 := hS x rfl hxc
        unfold tellS at h3
        have e : ki x = 0 ∨ ki x = 1 ∨ ki x = 2 := by omega
        have e2 : nI (ag x) + 100 + nI (ag x) = nI (2 * ag x + 100) := by
          rw [show (100 : Int32) = nI 100 from rfl, nI_add, nI_add]; congr 1; omega
        have e3 : nI (ag x) + 100 = nI (ag x + 100) := nI_add _ 100
        rcases e with e | e | e <;> rw [e] at h3
        all_goals first | (rw [e] at c22; exfalso; revert c22; decide) | skip
        all_goals first | (rw [e] at c36; exfalso; revert c36; decide) | skip
        all_goals first | exact h3 | (rw [e2]; exact h3) | (rw [e3]; exact h3)
    · refine z_aload_n (n := 26) C 1 dX9_tell_25 rfl rfl ?_
      refine z_aload_n (n := 27) C 0 dX9_tell_26 rfl rfl ?_
      refine z_vi_1 (n := 30) (d' := 4) C K dX9_tell_27 rfl yk_X9_tellHeld yv_X9_tellHeld kM_RX9_334 (by decide) hR0 rfl rfl sh_0 (by decide) (by decide) ?_
      refine c_X9_tellHeld hx hz.2.2.1 ?_
      refine z_iret C E dX9_tell_30 ?_
      have h3 := hS x rfl hxc
      unfold tellS at h3
      have e : ki x = 0 ∨ ki x = 1 ∨ ki x = 2 := by omega
      have e2 : nI (ag x) + 100 + nI (ag x) = nI (2 * ag x + 100) := by
        rw [show (100 : Int32) = nI 100 from rfl, nI_add, nI_add]; congr 1; omega
      have e3 : nI (ag x) + 100 = nI (ag x + 100) := nI_add _ 100
      rcases e with e | e | e <;> rw [e] at h3
      all_goals first | (rw [e] at c22; exfalso; revert c22; decide) | skip
      all_goals first | (rw [e] at c36; exfalso; revert c36; decide) | skip
      all_goals first | exact h3 | (rw [e2]; exact h3) | (rw [e3]; exact h3)
  · refine z_ifF_ne (n := 8) (tgt := 10) C (by decide) dX9_tell_5 rfl rfl ?_
    refine z_iconst (n := 9) (v := (-1)) C dX9_tell_8 rfl rfl ?_
    refine z_iret C E dX9_tell_9 ?_
    exact hR b2
set_option maxHeartbeats 4000000 in
set_option maxRecDepth 100000 in
theorem c_X9_tag {ad : Nat → Nat} {I : KI} {J : KJ} {t : Nat} {c : Nat} {ki co ag re : Nat → Nat} {T : Nat → Nat → Nat}(hk : cKd I c ki co ag re T){n : Nat} (ok : okKd n c ki co ag re T){xv : Int32} {Q : Int32 → KI → KJ → KR → Prop} (hR : ¬ isN c xv → Q (-1) I J (rf t)) (hS : ∀ x, xv = nI x → x < c → Q (tagS ki x (I 0 12)).1 (upI I 0 12 (tagS ki x (I 0 12)).2) J (rf t)) : Mi 3 yX9_tag (wm yX9_tag cX9_tag 2 (some .int)) [.ref (ad 0), .int (xv)] ad I J (rf t) Q := by
  refine mi_of (own := RX9) yk_X9_tag rfl (Nat.le_of_ble_eq_true rfl) rfl (fun X hA hnL C K E => ?_)
  subst hA
  refine z_aload_n (n := 1) C 0 dX9_tag_0 rfl rfl ?_
  refine z_iload_n (n := 2) C 1 dX9_tag_1 rfl rfl ?_
  refine z_vi_1 (n := 5) (d' := 1) C K dX9_tag_2 rfl yk_X9_isChild yv_X9_isChild kM_RX9_162 (by decide) hR0 rfl rfl sh_0 (by decide) (by decide) ?_
  refine c_X9_isChild hk.1 ok.1 (fun b2 => ?_) (fun b2 => ?_)
  · refine z_ifT_ne (tgt := 10) C (by decide) dX9_tag_5 rfl ?_
    obtain ⟨x, hxc, rfl⟩ := isN_of b2
    have hx : x < 10 := by have := ok.1; omega
    have hz := hk.2 x hxc
    have hb := ok.2.1 x hxc
    refine z_aload_n (n := 11) C 0 dX9_tag_10 rfl rfl ?_
    refine z_getR (n := 14) (q := 48) C K fF_RX9_36 dX9_tag_11 rfl rfl sh_0 (by decide) rfl ?_
    refine z_iload_n (n := 15) C 1 dX9_tag_14 rfl rfl ?_
    refine z_aaldN (n := 16) (q := (75 + x)) (ci := 0) C K x dX9_tag_15 rfl (by decide) sh_48 (by decide) rfl hx (by decide) (rf_children hx) ?_
    refine z_getI (n := 19) C K fF_RX9_165 dX9_tag_16 rfl (sh_child hx) (lt_child hx) ?_
    refine z_iconst (n := 20) (v := 2) C dX9_tag_19 rfl rfl ?_
    rw [hz.1]
    refine z_icmp_ne (tgt := 31) (n := 23) C dX9_tag_20 rfl rfl (fun c20 => ?_) (fun c20 => ?_)
    · refine z_aload_n (n := 32) C 0 dX9_tag_31 rfl rfl ?_
      refine z_iconst (n := 33) (v := 4) C dX9_tag_32 rfl rfl ?_
      refine z_vv_1 (n := 36) (d' := 1) C K dX9_tag_33 rfl yk_X9_leaveTrace yv_X9_leaveTrace kM_RX9_344 (by decide) hR0 rfl rfl sh_0 (by decide) (by decide) ?_
      refine c_X9_leaveTrace ?_
      refine z_iload_n (n := 37) C 1 dX9_tag_36 rfl rfl ?_
      refine z_iret C E dX9_tag_37 ?_
      have h3 := hS x rfl hxc
      unfold tagS at h3
      have e : ki x = 0 ∨ ki x = 1 ∨ ki x = 2 := by omega
      rcases e with e | e | e <;> rw [e] at h3
      all_goals first | (rw [e] at c20; exfalso; revert c20; decide) | exact h3
    · refine z_aload_n (n := 24) C 0 dX9_tag_23 rfl rfl ?_
      refine z_iconst (n := 25) (v := 5) C dX9_tag_24 rfl rfl ?_
      refine z_vv_1 (n := 28) (d' := 1) C K dX9_tag_25 rfl yk_X9_leaveTrace yv_X9_leaveTrace kM_RX9_344 (by decide) hR0 rfl rfl sh_0 (by decide) (by decide) ?_
      refine c_X9_leaveTrace ?_
      refine z_bipush (n := 30) (v := 60) C dX9_tag_28 rfl rfl ?_
      refine z_iret C E dX9_tag_30 ?_
      have h3 := hS x rfl hxc
      unfold tagS at h3
      have e : ki x = 0 ∨ ki x = 1 ∨ ki x = 2 := by omega
      rcases e with e | e | e <;> rw [e] at h3
      all_goals first | (rw [e] at c20; exfalso; revert c20; decide) | exact h3
  · refine z_ifF_ne (n := 8) (tgt := 10) C (by decide) dX9_tag_5 rfl rfl ?_
    refine z_iconst (n := 9) (v := (-1)) C dX9_tag_8 rfl rfl ?_
    refine z_iret C E dX9_tag_9 ?_
    exact hR b2
set_option maxHeartbeats 4000000 in
set_option maxRecDepth 100000 in
theorem c_X9_as {ad : Nat → Nat} {I : KI} {J : KJ} {t : Nat} {c : Nat} {ki co ag re : Nat → Nat} {T : Nat → Nat → Nat}(hk : cKd I c ki co ag re T){n : Nat} (ok : okKd n c ki co ag re T){xv kv : Int32} {Q : Int32 → KI → KJ → KR → Prop} (hQ : Q (asR c ki xv kv).1 (upI I 0 13 (nI (asR c ki xv kv).2)) J (rf t)) : Mi 4 yX9_as (wm yX9_as cX9_as 3 (some .int)) [.ref (ad 0), .int (xv), .int (kv)] ad I J (rf t) Q := by
  refine mi_of (own := RX9) yk_X9_as rfl (Nat.le_of_ble_eq_true rfl) rfl (fun X hA hnL C K E => ?_)
  subst hA
  refine z_aload_n (n := 1) C 0 dX9_as_0 rfl rfl ?_
  refine z_iconst (n := 2) (v := 0) C dX9_as_1 rfl rfl ?_
  refine z_putI (n := 5) C K fF_RX9_78 dX9_as_2 rfl sh_0 (by decide) ?_
  refine z_aload_n (n := 6) C 0 dX9_as_5 rfl rfl ?_
  refine z_iload_n (n := 7) C 1 dX9_as_6 rfl rfl ?_
  refine z_vi_1 (n := 10) (d' := 1) C K dX9_as_7 rfl yk_X9_isChild yv_X9_isChild kM_RX9_162 (by decide) hR0 rfl rfl sh_0 (by decide) (by decide) ?_
  refine c_X9_isChild (hk.tr (j := 13) (by decide)).1 ok.1 (fun b7 => ?_) (fun b7 => ?_)
  · refine z_ifT_ne (tgt := 15) C (by decide) dX9_as_10 rfl ?_
    refine z_iload_n (n := 16) C 2 dX9_as_15 rfl rfl ?_
    refine z_si_1 (n := 19) (d' := 2) C K dX9_as_16 rfl yk_X9_isKind kT_yX9_isKind kM_RX9_152 (by decide) hR0 rfl ?_
    refine c_X9_isKind (fun b16 => ?_) (fun b16 => ?_)
    · refine z_ifT_ne (tgt := 25) C (by decide) dX9_as_19 rfl ?_
      obtain ⟨x, hxc, rfl⟩ := isN_of b7
      have hx : x < 10 := by have := ok.1; omega
      have hz := hk.2 x hxc
      have hb := ok.2.1 x hxc
      refine z_aload_n (n := 26) C 0 dX9_as_25 rfl rfl ?_
      refine z_getR (n := 29) (q := 48) C K fF_RX9_36 dX9_as_26 rfl rfl sh_0 (by decide) rfl ?_
      refine z_iload_n (n := 30) C 1 dX9_as_29 rfl rfl ?_
      refine z_aaldN (n := 31) (q := (75 + x)) (ci := 0) C K x dX9_as_30 rfl (by decide) sh_48 (by decide) rfl hx (by decide) (rf_children hx) ?_
      refine z_getI (n := 34) C K fF_RX9_165 dX9_as_31 rfl (sh_child hx) (lt_child hx) ?_
      refine z_iload_n (n := 35) C 2 dX9_as_34 rfl rfl ?_
      rw [upI_p _ _ (by omega), hz.1]
      refine z_icmp_lt (tgt := 42) (n := 38) C dX9_as_35 rfl rfl (fun c35 => ?_) (fun c35 => ?_)
      · refine z_aload_n (n := 43) C 0 dX9_as_42 rfl rfl ?_
        refine z_iconst (n := 44) (v := 2) C dX9_as_43 rfl rfl ?_
        refine z_vi_1 (n := 47) (d' := 1) C K dX9_as_44 rfl yk_X9_fail yv_X9_fail kM_RX9_303 (by decide) hR0 rfl rfl sh_0 (by decide) (by decide) ?_
        refine c_X9_fail ?_
        refine z_iret C E dX9_as_47 ?_
        rw [fa_lt, nI_toInt (by omega)] at c35
        unfold asR at hQ
        rw [if_neg (fun q => q b7), if_neg (fun q => q b16), nI_clamp (by omega), if_neg (by omega)] at hQ
        rw [upI_upI]
        exact hQ
      · refine z_iconst (n := 39) (v := 1) C dX9_as_38 rfl rfl ?_
        refine z_goto (n := 47) C dX9_as_39 rfl ?_
        refine z_iret C E dX9_as_47 ?_
        rw [fa_lt, nI_toInt (by omega)] at c35
        unfold asR at hQ
        rw [if_neg (fun q => q b7), if_neg (fun q => q b16), nI_clamp (by omega), if_pos (by omega)] at hQ
        exact hQ
    · refine z_ifF_ne (n := 22) (tgt := 25) C (by decide) dX9_as_19 rfl rfl ?_
      refine z_bipush (n := 24) (v := (-2)) C dX9_as_22 rfl rfl ?_
      refine z_iret C E dX9_as_24 ?_
      unfold asR at hQ
      rw [if_neg (fun q => q b7), if_pos (show ¬ isB 0 2 kv from b16)] at hQ
      exact hQ
  · refine z_ifF_ne (n := 13) (tgt := 15) C (by decide) dX9_as_10 rfl rfl ?_
    refine z_iconst (n := 14) (v := (-1)) C dX9_as_13 rfl rfl ?_
    refine z_iret C E dX9_as_14 ?_
    unfold asR at hQ
    rw [if_pos b7] at hQ
    exact hQ
