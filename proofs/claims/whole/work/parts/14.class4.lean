def hdS (ki : Nat → Nat) (m : Nat) : Nat → Nat
  | 0 => 0
  | n + 1 => hdS ki m n + if m.testBit n then (if ki n = 2 then 3 else 1) else 0
theorem hdS_le (ki : Nat → Nat) (m : Nat) : ∀ n, hdS ki m n ≤ 3 * n
  | 0 => Nat.le_refl 0
  | n + 1 => by
    have := hdS_le ki m n
    rw [hdS]
    split <;> (try split) <;> omega
def grS (ki : Nat → Nat) (c h m : Nat) : Nat := (hdS ki m c + h - 1) / h

set_option maxHeartbeats 4000000 in
set_option maxRecDepth 100000 in
theorem l_X9_grownFor {X : KX} {I : KI} {J : KJ} {t : Nat} (C : Cx X RX9 cX9_grownFor 2) (K : Kx X) (hnL : xnL X = 4) {Q : Int32 → KI → KJ → KR → Prop} (E : Ei X .int Q) {c : Nat} {ki co ag re : Nat → Nat} {T : Nat → Nat → Nat}(hk : cKd I c ki co ag re T){n : Nat} (ok : okKd n c ki co ag re T){h hc : Nat} {hd : Nat → Nat} (hm : cMi I h hc hd) (hok : okMi h hc hd) {m : Nat} (hm2 : m < 2 ^ 31) (hQ : Q (nI (grS ki c h m)) I J (rf t)) : ∀ (k i : Nat), c - i < k → i ≤ c → Z X 0 0 (V X I J (rf t)) 4 [(3, .int (nI i)), (2, .int (nI (hdS ki m i))), (0, .ref (xad X 0)), (1, .int (nI m))] [] := by
  intro k
  induction k with
  | zero => intro i h; omega
  | succ k ih =>
    intro i hk1 hic
    have hc10 := ok.1
    refine z_iload_n (n := 5) C 0 dX9_grownFor_4 rfl rfl ?_
    refine z_aload_n (n := 6) C 2 dX9_grownFor_5 rfl rfl ?_
    refine z_getI (n := 9) C K fF_RX9_40 dX9_grownFor_6 rfl sh_0 (by decide) ?_
    refine z_icmp_ge (tgt := 38) (n := 12) C dX9_grownFor_9 rfl rfl (fun c9 => ?_) (fun c9 => ?_)
    · rw [hk.1, fa_le, nI_toInt (by omega), nI_toInt (by omega)] at c9
      have e : i = c := by omega
      subst e
      have hle := hdS_le ki m i
      refine z_aload_n (n := 39) C 2 dX9_grownFor_38 rfl rfl ?_
      refine z_getI (n := 42) C K fF_RX9_58 dX9_grownFor_39 rfl sh_0 (by decide) ?_
      rw [hm.1]
      refine z_ifF_le (n := 45) (tgt := 61) C (by rw [fa_le, nI_toInt (by have := hok.2.1; omega)]; have := hok.1; simp only [Int32.reduceToInt]; omega) dX9_grownFor_42 rfl rfl ?_
      refine z_iload_n (n := 46) C 1 dX9_grownFor_45 rfl rfl ?_
      refine z_aload_n (n := 47) C 2 dX9_grownFor_46 rfl rfl ?_
      refine z_getI (n := 50) C K fF_RX9_58 dX9_grownFor_47 rfl sh_0 (by decide) ?_
      refine z_iadd (n := 51) C dX9_grownFor_50 rfl ?_
      refine z_iconst (n := 52) (v := 1) C dX9_grownFor_51 rfl rfl ?_
      refine z_isub (n := 53) C dX9_grownFor_52 rfl ?_
      refine z_aload_n (n := 54) C 2 dX9_grownFor_53 rfl rfl ?_
      refine z_getI (n := 57) C K fF_RX9_58 dX9_grownFor_54 rfl sh_0 (by decide) ?_
      refine z_idiv (n := 58) C dX9_grownFor_57 rfl (by rw [hm.1]; exact nI_ne0 hok.1 (by have := hok.2.1; omega)) ?_
      refine z_goto (n := 62) C dX9_grownFor_58 rfl ?_
      refine z_iret C E dX9_grownFor_62 ?_
      rw [hm.1, nI_add, show (1 : Int32) = nI 1 from rfl, pk_sub (by have := hok.1; omega), pk_div (by have := hok.2.1; omega) hok.1 (by have := hok.2.1; omega)]
      exact hQ
    · rw [hk.1, fa_le, nI_toInt (by omega), nI_toInt (by omega)] at c9
      have hx : i < 10 := by omega
      have hz := hk.2 i (by omega)
      have hb := ok.2.1 i (by omega)
      refine z_iload_n (n := 13) C 3 dX9_grownFor_12 rfl rfl ?_
      refine z_iload_n (n := 14) C 0 dX9_grownFor_13 rfl rfl ?_
      refine z_ishr (n := 15) C dX9_grownFor_14 rfl ?_
      refine z_iconst (n := 16) (v := 1) C dX9_grownFor_15 rfl rfl ?_
      refine z_iand (n := 17) C dX9_grownFor_16 rfl ?_
      rw [bt_nI hm2 (by omega)]
      refine z_if_eq (tgt := 32) (n := 20) C dX9_grownFor_17 rfl rfl (fun c17 => ?_) (fun c17 => ?_)
      · refine z_iincG (n := 35) (c := 1) (L' := [(3, _), (2, _), (0, _), (1, _)]) C 0 dX9_grownFor_32 rfl rfl rfl (by rw [hnL]; decide) rfl ?_
        refine z_goto (n := 4) C dX9_grownFor_35 rfl ?_
        have e2 : hdS ki m (i + 1) = hdS ki m i + if m.testBit i then (if ki i = 2 then 3 else 1) else 0 := rfl
        rw [nI_1, show nI (hdS ki m i) = nI (hdS ki m (i + 1)) by rw [e2]; simp at c17; simp [c17]]
        exact ih (i + 1) (by omega) (by omega)
      · refine z_iload_n (n := 21) C 1 dX9_grownFor_20 rfl rfl ?_
        refine z_aload_n (n := 22) C 2 dX9_grownFor_21 rfl rfl ?_
        refine z_getR (n := 25) (q := 48) C K fF_RX9_36 dX9_grownFor_22 rfl rfl sh_0 (by decide) rfl ?_
        refine z_iload_n (n := 26) C 0 dX9_grownFor_25 rfl rfl ?_
        refine z_aaldN (n := 27) (q := (75 + i)) (ci := 0) C K i dX9_grownFor_26 rfl (by decide) sh_48 (by decide) rfl hx (by decide) (rf_children hx) ?_
        refine z_vi_0 (n := 30) (d' := 1) C K dX9_grownFor_27 rfl yk_X0_heads yv_X0_heads kM_RX9_181 (by decide) hR0 rfl rfl (sh_child hx) (by decide) (lt_child hx) ?_
        refine c_X0_heads hx hz.1 hb.1 ?_
        refine z_iadd (n := 31) C dX9_grownFor_30 rfl ?_
        refine z_istore_n (n := 32) (L' := [(2, _), (3, _), (0, _), (1, _)]) C dX9_grownFor_31 rfl (by rw [hnL]; decide) rfl ?_
        refine z_iincG (n := 35) (c := 1) (L' := [(3, _), (2, _), (0, _), (1, _)]) C 1 dX9_grownFor_32 rfl rfl rfl (by rw [hnL]; decide) rfl ?_
        refine z_goto (n := 4) C dX9_grownFor_35 rfl ?_
        have e2 : hdS ki m (i + 1) = hdS ki m i + if m.testBit i then (if ki i = 2 then 3 else 1) else 0 := rfl
        rw [nI_1, show nI (hdS ki m i) + (if ki i = 2 then (3 : Int32) else 1) = nI (hdS ki m (i + 1)) by
          simp at c17
          rw [e2, if_pos c17]
          split
          · exact nI_add _ 3
          · exact nI_1 _]
        exact ih (i + 1) (by omega) (by omega)
