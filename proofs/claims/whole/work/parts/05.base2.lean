section ROWS2
variable {X : KX} {own : String} {cc : ByteArray} {d k0 n0 : Nat} {pc n : Nat} {L : List (Nat × Value)} {S : List Value} {I : KI} {J : KJ} {Rf : KR} {w : va_W}
theorem z_ialdN (C : Cx X own cc d) (K : Kx X) {p nn : Nat} {i : Int32} (j : Nat) (hd : decode cc pc = .ok (.iaload, 1)) (hn : pc + 1 = n) (hs : sh p = (11, nn)) (hp : p < 110) (hi : i = nI j) (hj : j < nn) (hnn : nn < 2 ^ 31) (kk : Z X k0 n0 (V X I J Rf) n L (.int (I p j) :: S)) : Z X k0 n0 (V X I J Rf) pc L (.int i :: .ref (xad X p) :: S) := by
  subst hi
  refine z_iald C K hd hn hs hp (vp_in_nI hj hnn) ?_
  rw [nI_clamp (Nat.lt_trans hj hnn)]; exact kk
theorem z_laldN (C : Cx X own cc d) (K : Kx X) {p nn : Nat} {i : Int32} (j : Nat) (hd : decode cc pc = .ok (.laload, 1)) (hn : pc + 1 = n) (hs : sh p = (12, nn)) (hp : p < 110) (hi : i = nI j) (hj : j < nn) (hnn : nn < 2 ^ 31) (kk : Z X k0 n0 (V X I J Rf) n L (.long (J p j) :: S)) : Z X k0 n0 (V X I J Rf) pc L (.int i :: .ref (xad X p) :: S) := by
  subst hi
  refine z_lald C K hd hn hs hp (vp_in_nI hj hnn) ?_
  rw [nI_clamp (Nat.lt_trans hj hnn)]; exact kk
theorem z_iastN (C : Cx X own cc d) (K : Kx X) {p nn : Nat} {i v : Int32} (j : Nat) (hd : decode cc pc = .ok (.iastore, 1)) (hn : pc + 1 = n) (hs : sh p = (11, nn)) (hp : p < 110) (hi : i = nI j) (hj : j < nn) (hnn : nn < 2 ^ 31) (kk : Z X k0 n0 (V X (upI I p j v) J Rf) n L S) : Z X k0 n0 (V X I J Rf) pc L (.int v :: .int i :: .ref (xad X p) :: S) := by
  subst hi
  refine z_iast C K hd hn hs hp (vp_in_nI hj hnn) ?_
  rw [nI_clamp (Nat.lt_trans hj hnn)]; exact kk
theorem z_lastN (C : Cx X own cc d) (K : Kx X) {p nn : Nat} {i : Int32} {v : Int64} (j : Nat) (hd : decode cc pc = .ok (.lastore, 1)) (hn : pc + 1 = n) (hs : sh p = (12, nn)) (hp : p < 110) (hi : i = nI j) (hj : j < nn) (hnn : nn < 2 ^ 31) (kk : Z X k0 n0 (V X I (upJ J p j v) Rf) n L S) : Z X k0 n0 (V X I J Rf) pc L (.long v :: .int i :: .ref (xad X p) :: S) := by
  subst hi
  refine z_last C K hd hn hs hp (vp_in_nI hj hnn) ?_
  rw [nI_clamp (Nat.lt_trans hj hnn)]; exact kk
theorem z_aaldN (C : Cx X own cc d) (K : Kx X) {p ci nn q : Nat} {i : Int32} (j : Nat) (hd : decode cc pc = .ok (.aaload, 1)) (hn : pc + 1 = n) (hc : ci < 3) (hs : sh p = (ci + 13, nn)) (hp : p < 110) (hi : i = nI j) (hj : j < nn) (hnn : nn < 2 ^ 31) (hr : Rf p j = some q) (kk : Z X k0 n0 (V X I J Rf) n L (.ref (xad X q) :: S)) : Z X k0 n0 (V X I J Rf) pc L (.int i :: .ref (xad X p) :: S) := by
  subst hi
  exact z_aald C K hd hn hc hs hp (vp_in_nI hj hnn) (by rw [nI_clamp (Nat.lt_trans hj hnn)]; exact hr) kk
theorem z_icmpT_eq (C : Cx X own cc d) {x y : Int32} {off : Int} {tgt : Nat} (h : x = y) (hd : decode cc pc = .ok (.if_icmp .eq off, 3)) (ht : (pc : Int) + off = (tgt : Int)) (kt : Z X k0 n0 w tgt L S) : Z X k0 n0 w pc L (.int y :: .int x :: S) := z_icmp_eq C hd ht rfl (fun _ => kt) (fun h2 => absurd h h2)
theorem z_icmpF_eq (C : Cx X own cc d) {x y : Int32} {off : Int} {tgt : Nat} (h : ¬ x = y) (hd : decode cc pc = .ok (.if_icmp .eq off, 3)) (ht : (pc : Int) + off = (tgt : Int)) (hn : pc + 3 = n) (kf : Z X k0 n0 w n L S) : Z X k0 n0 w pc L (.int y :: .int x :: S) := z_icmp_eq C hd ht hn (fun h2 => absurd h2 h) (fun _ => kf)
theorem z_icmpT_ne (C : Cx X own cc d) {x y : Int32} {off : Int} {tgt : Nat} (h : ¬ x = y) (hd : decode cc pc = .ok (.if_icmp .ne off, 3)) (ht : (pc : Int) + off = (tgt : Int)) (kt : Z X k0 n0 w tgt L S) : Z X k0 n0 w pc L (.int y :: .int x :: S) := z_icmp_ne C hd ht rfl (fun _ => kt) (fun h2 => absurd h2 h)
theorem z_icmpF_ne (C : Cx X own cc d) {x y : Int32} {off : Int} {tgt : Nat} (h : x = y) (hd : decode cc pc = .ok (.if_icmp .ne off, 3)) (ht : (pc : Int) + off = (tgt : Int)) (hn : pc + 3 = n) (kf : Z X k0 n0 w n L S) : Z X k0 n0 w pc L (.int y :: .int x :: S) := z_icmp_ne C hd ht hn (fun h2 => absurd h h2) (fun _ => kf)
theorem z_icmpT_lt (C : Cx X own cc d) {x y : Int32} {off : Int} {tgt : Nat} (h : x < y) (hd : decode cc pc = .ok (.if_icmp .lt off, 3)) (ht : (pc : Int) + off = (tgt : Int)) (kt : Z X k0 n0 w tgt L S) : Z X k0 n0 w pc L (.int y :: .int x :: S) := z_icmp_lt C hd ht rfl (fun _ => kt) (fun h2 => absurd h h2)
theorem z_icmpF_lt (C : Cx X own cc d) {x y : Int32} {off : Int} {tgt : Nat} (h : ¬ x < y) (hd : decode cc pc = .ok (.if_icmp .lt off, 3)) (ht : (pc : Int) + off = (tgt : Int)) (hn : pc + 3 = n) (kf : Z X k0 n0 w n L S) : Z X k0 n0 w pc L (.int y :: .int x :: S) := z_icmp_lt C hd ht hn (fun h2 => absurd h2 h) (fun _ => kf)
theorem z_icmpT_ge (C : Cx X own cc d) {x y : Int32} {off : Int} {tgt : Nat} (h : y ≤ x) (hd : decode cc pc = .ok (.if_icmp .ge off, 3)) (ht : (pc : Int) + off = (tgt : Int)) (kt : Z X k0 n0 w tgt L S) : Z X k0 n0 w pc L (.int y :: .int x :: S) := z_icmp_ge C hd ht rfl (fun _ => kt) (fun h2 => absurd h h2)
theorem z_icmpF_ge (C : Cx X own cc d) {x y : Int32} {off : Int} {tgt : Nat} (h : ¬ y ≤ x) (hd : decode cc pc = .ok (.if_icmp .ge off, 3)) (ht : (pc : Int) + off = (tgt : Int)) (hn : pc + 3 = n) (kf : Z X k0 n0 w n L S) : Z X k0 n0 w pc L (.int y :: .int x :: S) := z_icmp_ge C hd ht hn (fun h2 => absurd h2 h) (fun _ => kf)
theorem z_icmpT_gt (C : Cx X own cc d) {x y : Int32} {off : Int} {tgt : Nat} (h : y < x) (hd : decode cc pc = .ok (.if_icmp .gt off, 3)) (ht : (pc : Int) + off = (tgt : Int)) (kt : Z X k0 n0 w tgt L S) : Z X k0 n0 w pc L (.int y :: .int x :: S) := z_icmp_gt C hd ht rfl (fun _ => kt) (fun h2 => absurd h h2)
theorem z_icmpF_gt (C : Cx X own cc d) {x y : Int32} {off : Int} {tgt : Nat} (h : ¬ y < x) (hd : decode cc pc = .ok (.if_icmp .gt off, 3)) (ht : (pc : Int) + off = (tgt : Int)) (hn : pc + 3 = n) (kf : Z X k0 n0 w n L S) : Z X k0 n0 w pc L (.int y :: .int x :: S) := z_icmp_gt C hd ht hn (fun h2 => absurd h2 h) (fun _ => kf)
theorem z_icmpT_le (C : Cx X own cc d) {x y : Int32} {off : Int} {tgt : Nat} (h : x ≤ y) (hd : decode cc pc = .ok (.if_icmp .le off, 3)) (ht : (pc : Int) + off = (tgt : Int)) (kt : Z X k0 n0 w tgt L S) : Z X k0 n0 w pc L (.int y :: .int x :: S) := z_icmp_le C hd ht rfl (fun _ => kt) (fun h2 => absurd h h2)
theorem z_icmpF_le (C : Cx X own cc d) {x y : Int32} {off : Int} {tgt : Nat} (h : ¬ x ≤ y) (hd : decode cc pc = .ok (.if_icmp .le off, 3)) (ht : (pc : Int) + off = (tgt : Int)) (hn : pc + 3 = n) (kf : Z X k0 n0 w n L S) : Z X k0 n0 w pc L (.int y :: .int x :: S) := z_icmp_le C hd ht hn (fun h2 => absurd h2 h) (fun _ => kf)
theorem z_ifT_eq (C : Cx X own cc d) {x : Int32} {off : Int} {tgt : Nat} (h : x = 0) (hd : decode cc pc = .ok (.ifCond .eq off, 3)) (ht : (pc : Int) + off = (tgt : Int)) (kt : Z X k0 n0 w tgt L S) : Z X k0 n0 w pc L (.int x :: S) := z_if_eq C hd ht rfl (fun _ => kt) (fun h2 => absurd h h2)
theorem z_ifF_eq (C : Cx X own cc d) {x : Int32} {off : Int} {tgt : Nat} (h : ¬ x = 0) (hd : decode cc pc = .ok (.ifCond .eq off, 3)) (ht : (pc : Int) + off = (tgt : Int)) (hn : pc + 3 = n) (kf : Z X k0 n0 w n L S) : Z X k0 n0 w pc L (.int x :: S) := z_if_eq C hd ht hn (fun h2 => absurd h2 h) (fun _ => kf)
theorem z_ifT_ne (C : Cx X own cc d) {x : Int32} {off : Int} {tgt : Nat} (h : ¬ x = 0) (hd : decode cc pc = .ok (.ifCond .ne off, 3)) (ht : (pc : Int) + off = (tgt : Int)) (kt : Z X k0 n0 w tgt L S) : Z X k0 n0 w pc L (.int x :: S) := z_if_ne C hd ht rfl (fun _ => kt) (fun h2 => absurd h2 h)
theorem z_ifF_ne (C : Cx X own cc d) {x : Int32} {off : Int} {tgt : Nat} (h : x = 0) (hd : decode cc pc = .ok (.ifCond .ne off, 3)) (ht : (pc : Int) + off = (tgt : Int)) (hn : pc + 3 = n) (kf : Z X k0 n0 w n L S) : Z X k0 n0 w pc L (.int x :: S) := z_if_ne C hd ht hn (fun h2 => absurd h h2) (fun _ => kf)
theorem z_ifT_lt (C : Cx X own cc d) {x : Int32} {off : Int} {tgt : Nat} (h : x < 0) (hd : decode cc pc = .ok (.ifCond .lt off, 3)) (ht : (pc : Int) + off = (tgt : Int)) (kt : Z X k0 n0 w tgt L S) : Z X k0 n0 w pc L (.int x :: S) := z_if_lt C hd ht rfl (fun _ => kt) (fun h2 => absurd h h2)
theorem z_ifF_lt (C : Cx X own cc d) {x : Int32} {off : Int} {tgt : Nat} (h : ¬ x < 0) (hd : decode cc pc = .ok (.ifCond .lt off, 3)) (ht : (pc : Int) + off = (tgt : Int)) (hn : pc + 3 = n) (kf : Z X k0 n0 w n L S) : Z X k0 n0 w pc L (.int x :: S) := z_if_lt C hd ht hn (fun h2 => absurd h2 h) (fun _ => kf)
theorem z_ifT_ge (C : Cx X own cc d) {x : Int32} {off : Int} {tgt : Nat} (h : 0 ≤ x) (hd : decode cc pc = .ok (.ifCond .ge off, 3)) (ht : (pc : Int) + off = (tgt : Int)) (kt : Z X k0 n0 w tgt L S) : Z X k0 n0 w pc L (.int x :: S) := z_if_ge C hd ht rfl (fun _ => kt) (fun h2 => absurd h h2)
theorem z_ifF_ge (C : Cx X own cc d) {x : Int32} {off : Int} {tgt : Nat} (h : ¬ 0 ≤ x) (hd : decode cc pc = .ok (.ifCond .ge off, 3)) (ht : (pc : Int) + off = (tgt : Int)) (hn : pc + 3 = n) (kf : Z X k0 n0 w n L S) : Z X k0 n0 w pc L (.int x :: S) := z_if_ge C hd ht hn (fun h2 => absurd h2 h) (fun _ => kf)
theorem z_ifT_gt (C : Cx X own cc d) {x : Int32} {off : Int} {tgt : Nat} (h : 0 < x) (hd : decode cc pc = .ok (.ifCond .gt off, 3)) (ht : (pc : Int) + off = (tgt : Int)) (kt : Z X k0 n0 w tgt L S) : Z X k0 n0 w pc L (.int x :: S) := z_if_gt C hd ht rfl (fun _ => kt) (fun h2 => absurd h h2)
theorem z_ifF_gt (C : Cx X own cc d) {x : Int32} {off : Int} {tgt : Nat} (h : ¬ 0 < x) (hd : decode cc pc = .ok (.ifCond .gt off, 3)) (ht : (pc : Int) + off = (tgt : Int)) (hn : pc + 3 = n) (kf : Z X k0 n0 w n L S) : Z X k0 n0 w pc L (.int x :: S) := z_if_gt C hd ht hn (fun h2 => absurd h2 h) (fun _ => kf)
theorem z_ifT_le (C : Cx X own cc d) {x : Int32} {off : Int} {tgt : Nat} (h : x ≤ 0) (hd : decode cc pc = .ok (.ifCond .le off, 3)) (ht : (pc : Int) + off = (tgt : Int)) (kt : Z X k0 n0 w tgt L S) : Z X k0 n0 w pc L (.int x :: S) := z_if_le C hd ht rfl (fun _ => kt) (fun h2 => absurd h h2)
theorem z_ifF_le (C : Cx X own cc d) {x : Int32} {off : Int} {tgt : Nat} (h : ¬ x ≤ 0) (hd : decode cc pc = .ok (.ifCond .le off, 3)) (ht : (pc : Int) + off = (tgt : Int)) (hn : pc + 3 = n) (kf : Z X k0 n0 w n L S) : Z X k0 n0 w pc L (.int x :: S) := z_if_le C hd ht hn (fun h2 => absurd h2 h) (fun _ => kf)
end ROWS2
theorem eqQ {α : Type} {Q : α → KI → KJ → KR → Prop} {x y : α} {I : KI} {J : KJ} {Rf : KR} (h : x = y) (q : Q y I J Rf) : Q x I J Rf := h ▸ q
theorem sw_ne {x v : Int32} (h : ¬ x = v) : ¬ x.toInt = v.toInt := fun e => h (Int32.toInt_inj.mp e)

def refsL (t : Nat) : List (List (Option Nat)) := [[some 1, some 2, some t, some (30 - t), some 48, none, some 49, some 57, none, some 62, none, some 63, none, none, none, none, none], [some 67, some 69, some 71, some 73], [some 3], [], [none, none, none, some 5, some 6, some 7, some 8, some 9, some 10, some 18], [], [], [], [], [], [some 11, some 12, some 13, some 14, some 15, some 16, some 17], [], [], [], [], [], [], [], [some 19, some 20, some 21, some 22, some 23, some 24, some 25], [], [], [], [], [], [], [], [none, none, none, some 27, some 28, some 29, some 30, some 31, some 32, some 40], [], [], [], [], [], [some 33, some 34, some 35, some 36, some 37, some 38, some 39], [], [], [], [], [], [], [], [some 41, some 42, some 43, some 44, some 45, some 46, some 47], [], [], [], [], [], [], [], [some 75, some 76, some 77, some 78, some 79, some 80, some 81, some 82, some 83, some 84], [some 50, some 54, some 56], [none, some 51, some 52, some 53], [], [], [], [some 55], [], [], [some 58, some 59, some 60, some 61], [], [], [], [], [], [some 64, some 65, some 66], [], [], [], [none, none, none, some 68], [], [none, none, none, some 70], [], [none, none, none, some 72], [], [none, none, none, some 74], [], [], [], [], [], [], [], [], [], [], [], [none, none, some 86, some 87, some 88, none, none, none, some 89, some 90, some 91, some 92, some 93, some 94, none, none, none, some 95, none, none, some 96, some 97, some 98, some 99, some 100, some 101, some 102, none, none, none, some 103, some 104, none, some 105, some 106, none, none, none, some 107, some 108, some 109, none], [], [], [], [], [], [], [], [], [], [], [], [], [], [], [], [], [], [], [], [], [], [], [], []]
/-- the references of the run: t is the place of the streets in use -/
def rf (t : Nat) : KR := fun p k => ((refsL t).getD p []).getD k none
def Tw (t : Nat) : Prop := t = 4 ∨ t = 26
theorem Tw.o {t : Nat} (h : Tw t) : Tw (30 - t) := by unfold Tw at *; omega
theorem Tw.lt {t k : Nat} (h : Tw t) (hk : k < 80) : t + k < 110 := by rcases h with rfl | rfl <;> omega
theorem Tw.lt0 {t : Nat} (h : Tw t) : t < 110 := by rcases h with rfl | rfl <;> decide
theorem sh_tw {t : Nat} (h : Tw t) : sh t = (7, 0) := by rcases h with rfl | rfl <;> rfl
theorem sh_tw1 {t : Nat} (h : Tw t) : sh (t + 1) = (11, 12) := by rcases h with rfl | rfl <;> rfl
theorem rf_tw3 {u t : Nat} (h : Tw t) : rf u t 3 = some (t + 1) := by rcases h with rfl | rfl <;> rfl
theorem sh_tw2 {t : Nat} (h : Tw t) : sh (t + 2) = (11, 12) := by rcases h with rfl | rfl <;> rfl
theorem rf_tw4 {u t : Nat} (h : Tw t) : rf u t 4 = some (t + 2) := by rcases h with rfl | rfl <;> rfl
theorem sh_tw3 {t : Nat} (h : Tw t) : sh (t + 3) = (11, 12) := by rcases h with rfl | rfl <;> rfl
theorem rf_tw5 {u t : Nat} (h : Tw t) : rf u t 5 = some (t + 3) := by rcases h with rfl | rfl <;> rfl
theorem sh_tw4 {t : Nat} (h : Tw t) : sh (t + 4) = (11, 12) := by rcases h with rfl | rfl <;> rfl
theorem rf_tw6 {u t : Nat} (h : Tw t) : rf u t 6 = some (t + 4) := by rcases h with rfl | rfl <;> rfl
theorem sh_tw5 {t : Nat} (h : Tw t) : sh (t + 5) = (11, 12) := by rcases h with rfl | rfl <;> rfl
theorem rf_tw7 {u t : Nat} (h : Tw t) : rf u t 7 = some (t + 5) := by rcases h with rfl | rfl <;> rfl
theorem sh_tw6 {t : Nat} (h : Tw t) : sh (t + 6) = (2 + 13, 7) := by rcases h with rfl | rfl <;> rfl
theorem rf_tw8 {u t : Nat} (h : Tw t) : rf u t 8 = some (t + 6) := by rcases h with rfl | rfl <;> rfl
theorem sh_tr7 {t j : Nat} (h : Tw t) (hj : j < 7) : sh (t + 7 + j) = (11, 7) := by
  rcases h with rfl | rfl <;> (match j, hj with | 0, _ => rfl | 1, _ => rfl | 2, _ => rfl | 3, _ => rfl | 4, _ => rfl | 5, _ => rfl | 6, _ => rfl)
theorem rf_tr7 {u t j : Nat} (h : Tw t) (hj : j < 7) : rf u (t + 6) j = some (t + 7 + j) := by
  rcases h with rfl | rfl <;> (match j, hj with | 0, _ => rfl | 1, _ => rfl | 2, _ => rfl | 3, _ => rfl | 4, _ => rfl | 5, _ => rfl | 6, _ => rfl)
theorem sh_tw14 {t : Nat} (h : Tw t) : sh (t + 14) = (2 + 13, 7) := by rcases h with rfl | rfl <;> rfl
theorem rf_tw9 {u t : Nat} (h : Tw t) : rf u t 9 = some (t + 14) := by rcases h with rfl | rfl <;> rfl
theorem sh_tr15 {t j : Nat} (h : Tw t) (hj : j < 7) : sh (t + 15 + j) = (11, 7) := by
  rcases h with rfl | rfl <;> (match j, hj with | 0, _ => rfl | 1, _ => rfl | 2, _ => rfl | 3, _ => rfl | 4, _ => rfl | 5, _ => rfl | 6, _ => rfl)
theorem rf_tr15 {u t j : Nat} (h : Tw t) (hj : j < 7) : rf u (t + 14) j = some (t + 15 + j) := by
  rcases h with rfl | rfl <;> (match j, hj with | 0, _ => rfl | 1, _ => rfl | 2, _ => rfl | 3, _ => rfl | 4, _ => rfl | 5, _ => rfl | 6, _ => rfl)
theorem Tw.ltr {t k j : Nat} (h : Tw t) (hk : k < 20) (hj : j < 7) : t + k + j < 110 := by rcases h with rfl | rfl <;> omega
theorem sh_sheet {k : Nat} (h : k < 4) : sh (67 + 2 * k) = (6, 0) := match k, h with | 0, _ => rfl | 1, _ => rfl | 2, _ => rfl | 3, _ => rfl
theorem sh_cells {k : Nat} (h : k < 4) : sh (68 + 2 * k) = (11, 100) := match k, h with | 0, _ => rfl | 1, _ => rfl | 2, _ => rfl | 3, _ => rfl
theorem rf_cells {u k : Nat} (h : k < 4) : rf u (67 + 2 * k) 3 = some (68 + 2 * k) := match k, h with | 0, _ => rfl | 1, _ => rfl | 2, _ => rfl | 3, _ => rfl
theorem rf_sheets {u k : Nat} (h : k < 4) : rf u 1 k = some (67 + 2 * k) := match k, h with | 0, _ => rfl | 1, _ => rfl | 2, _ => rfl | 3, _ => rfl
theorem sh_child {k : Nat} (h : k < 10) : sh (75 + k) = (0, 0) := match k, h with | 0, _ => rfl | 1, _ => rfl | 2, _ => rfl | 3, _ => rfl | 4, _ => rfl | 5, _ => rfl | 6, _ => rfl | 7, _ => rfl | 8, _ => rfl | 9, _ => rfl
theorem rf_children {u k : Nat} (h : k < 10) : rf u 48 k = some (75 + k) := match k, h with | 0, _ => rfl | 1, _ => rfl | 2, _ => rfl | 3, _ => rfl | 4, _ => rfl | 5, _ => rfl | 6, _ => rfl | 7, _ => rfl | 8, _ => rfl | 9, _ => rfl
theorem lt_sheet {k : Nat} (h : k < 4) : 67 + 2 * k < 110 := by omega
theorem lt_cells {k : Nat} (h : k < 4) : 68 + 2 * k < 110 := by omega
theorem lt_child {k : Nat} (h : k < 10) : 75 + k < 110 := by omega
theorem rf_swap {t : Nat} (h : Tw t) : upR (upR (rf t) 0 2 (some (30 - t))) 0 3 (some t) = rf (30 - t) := by
  funext p k
  by_cases hp : p = 0
  · subst hp
    by_cases h2 : k = 2
    · subst h2; rcases h with rfl | rfl <;> rfl
    · by_cases h3 : k = 3
      · subst h3; rcases h with rfl | rfl <;> rfl
      · rw [upR_k _ _ h3, upR_k _ _ h2]
        match k, h2, h3 with
        | 0, _, _ => rfl
        | 1, _, _ => rfl
        | 2, h, _ => exact absurd rfl h
        | 3, _, h => exact absurd rfl h
        | k + 4, _, _ => rfl
  · rw [upR_p _ _ hp, upR_p _ _ hp]
    match p, hp with
    | 0, h => exact absurd rfl h
    | p + 1, _ => rfl
theorem fF_RX4_9 : Fk RX4 9 4 0 (.array .int) true := ⟨RX4, TX4, 3, tyX4, rfl, by decide, inX4, Or.inl kF_RX4_9, by decide, rfl, tyX4_ok, nmX4, rfl, rfl⟩
theorem fF_RX4_15 : Fk RX4 15 4 1 .int false := ⟨RX4, TX4, 3, tyX4, rfl, by decide, inX4, Or.inl kF_RX4_15, by decide, rfl, tyX4_ok, nmX4, rfl, rfl⟩
theorem fF_RX4_19 : Fk RX4 19 4 2 .int false := ⟨RX4, TX4, 3, tyX4, rfl, by decide, inX4, Or.inl kF_RX4_19, by decide, rfl, tyX4_ok, nmX4, rfl, rfl⟩
theorem fF_RX7_9 : Fk RX7 9 7 0 .int false := ⟨RX7, TX7, 10, tyX7, rfl, by decide, inX7, Or.inl kF_RX7_9, by decide, rfl, tyX7_ok, nmX7, rfl, rfl⟩
theorem fF_RX7_15 : Fk RX7 15 7 1 .int false := ⟨RX7, TX7, 10, tyX7, rfl, by decide, inX7, Or.inl kF_RX7_15, by decide, rfl, tyX7_ok, nmX7, rfl, rfl⟩
theorem fF_RX7_18 : Fk RX7 18 7 2 .int false := ⟨RX7, TX7, 10, tyX7, rfl, by decide, inX7, Or.inl kF_RX7_18, by decide, rfl, tyX7_ok, nmX7, rfl, rfl⟩
theorem fF_RX7_21 : Fk RX7 21 7 3 (.array .int) true := ⟨RX7, TX7, 10, tyX7, rfl, by decide, inX7, Or.inl kF_RX7_21, by decide, rfl, tyX7_ok, nmX7, rfl, rfl⟩
theorem fF_RX7_25 : Fk RX7 25 7 4 (.array .int) true := ⟨RX7, TX7, 10, tyX7, rfl, by decide, inX7, Or.inl kF_RX7_25, by decide, rfl, tyX7_ok, nmX7, rfl, rfl⟩
theorem fF_RX7_28 : Fk RX7 28 7 5 (.array .int) true := ⟨RX7, TX7, 10, tyX7, rfl, by decide, inX7, Or.inl kF_RX7_28, by decide, rfl, tyX7_ok, nmX7, rfl, rfl⟩
theorem fF_RX7_31 : Fk RX7 31 7 6 (.array .int) true := ⟨RX7, TX7, 10, tyX7, rfl, by decide, inX7, Or.inl kF_RX7_31, by decide, rfl, tyX7_ok, nmX7, rfl, rfl⟩
theorem fF_RX7_34 : Fk RX7 34 7 7 (.array .int) true := ⟨RX7, TX7, 10, tyX7, rfl, by decide, inX7, Or.inl kF_RX7_34, by decide, rfl, tyX7_ok, nmX7, rfl, rfl⟩
theorem fF_RX7_39 : Fk RX7 39 7 8 (.array (.array .int)) true := ⟨RX7, TX7, 10, tyX7, rfl, by decide, inX7, Or.inl kF_RX7_39, by decide, rfl, tyX7_ok, nmX7, rfl, rfl⟩
theorem fF_RX7_42 : Fk RX7 42 7 9 (.array (.array .int)) true := ⟨RX7, TX7, 10, tyX7, rfl, by decide, inX7, Or.inl kF_RX7_42, by decide, rfl, tyX7_ok, nmX7, rfl, rfl⟩
theorem fF_RX1_9 : Fk RX1 9 1 0 .int false := ⟨RX1, TX1, 4, tyX1, rfl, by decide, inX1, Or.inl kF_RX1_9, by decide, rfl, tyX1_ok, nmX1, rfl, rfl⟩
theorem fF_RX1_15 : Fk RX1 15 1 1 (.array .int) true := ⟨RX1, TX1, 4, tyX1, rfl, by decide, inX1, Or.inl kF_RX1_15, by decide, rfl, tyX1_ok, nmX1, rfl, rfl⟩
theorem fF_RX1_19 : Fk RX1 19 1 2 (.array .int) true := ⟨RX1, TX1, 4, tyX1, rfl, by decide, inX1, Or.inl kF_RX1_19, by decide, rfl, tyX1_ok, nmX1, rfl, rfl⟩
theorem fF_RX1_22 : Fk RX1 22 1 3 (.array .int) true := ⟨RX1, TX1, 4, tyX1, rfl, by decide, inX1, Or.inl kF_RX1_22, by decide, rfl, tyX1_ok, nmX1, rfl, rfl⟩
theorem fF_RX3_11 : Fk RX3 11 3 0 (.array .long) true := ⟨RX3, TX3, 4, tyX3, rfl, by decide, inX3, Or.inl kF_RX3_11, by decide, rfl, tyX3_ok, nmX3, rfl, rfl⟩
theorem fF_RX3_15 : Fk RX3 15 3 1 .int false := ⟨RX3, TX3, 4, tyX3, rfl, by decide, inX3, Or.inl kF_RX3_15, by decide, rfl, tyX3_ok, nmX3, rfl, rfl⟩
theorem fF_RX3_19 : Fk RX3 19 3 2 .int false := ⟨RX3, TX3, 4, tyX3, rfl, by decide, inX3, Or.inl kF_RX3_19, by decide, rfl, tyX3_ok, nmX3, rfl, rfl⟩
theorem fF_RX3_22 : Fk RX3 22 3 3 .long false := ⟨RX3, TX3, 4, tyX3, rfl, by decide, inX3, Or.inl kF_RX3_22, by decide, rfl, tyX3_ok, nmX3, rfl, rfl⟩
theorem fF_RX2_12 : Fk RX2 12 2 0 (.object "WalkingBus$Gates") true := ⟨RX2, TX2, 3, tyX2, rfl, by decide, inX2, Or.inl kF_RX2_12, by decide, rfl, tyX2_ok, nmX2, rfl, rfl⟩
theorem fF_RX2_21 : Fk RX2 21 2 1 (.object "WalkingBus$Minutes") true := ⟨RX2, TX2, 3, tyX2, rfl, by decide, inX2, Or.inl kF_RX2_21, by decide, rfl, tyX2_ok, nmX2, rfl, rfl⟩
theorem fF_RX2_25 : Fk RX2 25 2 2 (.array .int) true := ⟨RX2, TX2, 3, tyX2, rfl, by decide, inX2, Or.inl kF_RX2_25, by decide, rfl, tyX2_ok, nmX2, rfl, rfl⟩
theorem fF_RX5_9 : Fk RX5 9 5 0 (.array .int) true := ⟨RX5, TX5, 11, tyX5, rfl, by decide, inX5, Or.inl kF_RX5_9, by decide, rfl, tyX5_ok, nmX5, rfl, rfl⟩
theorem fF_RX5_15 : Fk RX5 15 5 1 (.array .int) true := ⟨RX5, TX5, 11, tyX5, rfl, by decide, inX5, Or.inl kF_RX5_15, by decide, rfl, tyX5_ok, nmX5, rfl, rfl⟩
theorem fF_RX5_18 : Fk RX5 18 5 2 (.array .int) true := ⟨RX5, TX5, 11, tyX5, rfl, by decide, inX5, Or.inl kF_RX5_18, by decide, rfl, tyX5_ok, nmX5, rfl, rfl⟩
theorem fF_RX5_21 : Fk RX5 21 5 3 (.array .int) true := ⟨RX5, TX5, 11, tyX5, rfl, by decide, inX5, Or.inl kF_RX5_21, by decide, rfl, tyX5_ok, nmX5, rfl, rfl⟩
theorem fF_RX5_24 : Fk RX5 24 5 4 .boolean false := ⟨RX5, TX5, 11, tyX5, rfl, by decide, inX5, Or.inl kF_RX5_24, by decide, rfl, tyX5_ok, nmX5, rfl, rfl⟩
theorem fF_RX5_28 : Fk RX5 28 5 5 .int false := ⟨RX5, TX5, 11, tyX5, rfl, by decide, inX5, Or.inl kF_RX5_28, by decide, rfl, tyX5_ok, nmX5, rfl, rfl⟩
theorem fF_RX5_32 : Fk RX5 32 5 6 .int false := ⟨RX5, TX5, 11, tyX5, rfl, by decide, inX5, Or.inl kF_RX5_32, by decide, rfl, tyX5_ok, nmX5, rfl, rfl⟩
theorem fF_RX5_35 : Fk RX5 35 5 7 .int false := ⟨RX5, TX5, 11, tyX5, rfl, by decide, inX5, Or.inl kF_RX5_35, by decide, rfl, tyX5_ok, nmX5, rfl, rfl⟩
theorem fF_RX5_38 : Fk RX5 38 5 8 .int false := ⟨RX5, TX5, 11, tyX5, rfl, by decide, inX5, Or.inl kF_RX5_38, by decide, rfl, tyX5_ok, nmX5, rfl, rfl⟩
theorem fF_RX5_41 : Fk RX5 41 5 9 .int false := ⟨RX5, TX5, 11, tyX5, rfl, by decide, inX5, Or.inl kF_RX5_41, by decide, rfl, tyX5_ok, nmX5, rfl, rfl⟩
theorem fF_RX5_44 : Fk RX5 44 5 10 .int false := ⟨RX5, TX5, 11, tyX5, rfl, by decide, inX5, Or.inl kF_RX5_44, by decide, rfl, tyX5_ok, nmX5, rfl, rfl⟩
theorem fF_RX8_9 : Fk RX8 9 8 0 (.array .int) true := ⟨RX8, TX8, 6, tyX8, rfl, by decide, inX8, Or.inl kF_RX8_9, by decide, rfl, tyX8_ok, nmX8, rfl, rfl⟩
theorem fF_RX8_15 : Fk RX8 15 8 1 (.array .int) true := ⟨RX8, TX8, 6, tyX8, rfl, by decide, inX8, Or.inl kF_RX8_15, by decide, rfl, tyX8_ok, nmX8, rfl, rfl⟩
theorem fF_RX8_18 : Fk RX8 18 8 2 (.array .int) true := ⟨RX8, TX8, 6, tyX8, rfl, by decide, inX8, Or.inl kF_RX8_18, by decide, rfl, tyX8_ok, nmX8, rfl, rfl⟩
theorem fF_RX8_21 : Fk RX8 21 8 3 .int false := ⟨RX8, TX8, 6, tyX8, rfl, by decide, inX8, Or.inl kF_RX8_21, by decide, rfl, tyX8_ok, nmX8, rfl, rfl⟩
theorem fF_RX8_25 : Fk RX8 25 8 4 .int false := ⟨RX8, TX8, 6, tyX8, rfl, by decide, inX8, Or.inl kF_RX8_25, by decide, rfl, tyX8_ok, nmX8, rfl, rfl⟩
theorem fF_RX8_28 : Fk RX8 28 8 5 .int false := ⟨RX8, TX8, 6, tyX8, rfl, by decide, inX8, Or.inl kF_RX8_28, by decide, rfl, tyX8_ok, nmX8, rfl, rfl⟩
theorem fF_RX6_9 : Fk RX6 9 6 0 .boolean false := ⟨RX6, TX6, 4, tyX6, rfl, by decide, inX6, Or.inl kF_RX6_9, by decide, rfl, tyX6_ok, nmX6, rfl, rfl⟩
theorem fF_RX6_15 : Fk RX6 15 6 1 .int false := ⟨RX6, TX6, 4, tyX6, rfl, by decide, inX6, Or.inl kF_RX6_15, by decide, rfl, tyX6_ok, nmX6, rfl, rfl⟩
theorem fF_RX6_19 : Fk RX6 19 6 2 .int false := ⟨RX6, TX6, 4, tyX6, rfl, by decide, inX6, Or.inl kF_RX6_19, by decide, rfl, tyX6_ok, nmX6, rfl, rfl⟩
theorem fF_RX6_22 : Fk RX6 22 6 3 (.array .int) true := ⟨RX6, TX6, 4, tyX6, rfl, by decide, inX6, Or.inl kF_RX6_22, by decide, rfl, tyX6_ok, nmX6, rfl, rfl⟩
theorem fF_RX0_9 : Fk RX0 9 0 0 .int false := ⟨RX0, TX0, 6, tyX0, rfl, by decide, inX0, Or.inl kF_RX0_9, by decide, rfl, tyX0_ok, nmX0, rfl, rfl⟩
theorem fF_RX0_15 : Fk RX0 15 0 1 .int false := ⟨RX0, TX0, 6, tyX0, rfl, by decide, inX0, Or.inl kF_RX0_15, by decide, rfl, tyX0_ok, nmX0, rfl, rfl⟩
theorem fF_RX0_18 : Fk RX0 18 0 2 .int false := ⟨RX0, TX0, 6, tyX0, rfl, by decide, inX0, Or.inl kF_RX0_18, by decide, rfl, tyX0_ok, nmX0, rfl, rfl⟩
theorem fF_RX0_21 : Fk RX0 21 0 3 .int false := ⟨RX0, TX0, 6, tyX0, rfl, by decide, inX0, Or.inl kF_RX0_21, by decide, rfl, tyX0_ok, nmX0, rfl, rfl⟩
theorem fF_RX0_24 : Fk RX0 24 0 4 .int false := ⟨RX0, TX0, 6, tyX0, rfl, by decide, inX0, Or.inl kF_RX0_24, by decide, rfl, tyX0_ok, nmX0, rfl, rfl⟩
theorem fF_RX0_27 : Fk RX0 27 0 5 .int false := ⟨RX0, TX0, 6, tyX0, rfl, by decide, inX0, Or.inl kF_RX0_27, by decide, rfl, tyX0_ok, nmX0, rfl, rfl⟩
theorem fF_RX9_13 : Fk RX9 13 9 0 (.array (.object "WalkingBus$Sheet")) true := ⟨RX9, TX9, 17, tyX9, rfl, by decide, inX9, Or.inl kF_RX9_13, by decide, rfl, tyX9_ok, nmX9, rfl, rfl⟩
theorem fF_RX9_20 : Fk RX9 20 9 1 (.object "WalkingBus$Reader") true := ⟨RX9, TX9, 17, tyX9, rfl, by decide, inX9, Or.inl kF_RX9_20, by decide, rfl, tyX9_ok, nmX9, rfl, rfl⟩
theorem fF_RX9_27 : Fk RX9 27 9 2 (.object "WalkingBus$Streets") false := ⟨RX9, TX9, 17, tyX9, rfl, by decide, inX9, Or.inl kF_RX9_27, by decide, rfl, tyX9_ok, nmX9, rfl, rfl⟩
theorem fF_RX9_31 : Fk RX9 31 9 3 (.object "WalkingBus$Streets") false := ⟨RX9, TX9, 17, tyX9, rfl, by decide, inX9, Or.inl kF_RX9_31, by decide, rfl, tyX9_ok, nmX9, rfl, rfl⟩
theorem fF_RX9_36 : Fk RX9 36 9 4 (.array (.object "WalkingBus$Child")) true := ⟨RX9, TX9, 17, tyX9, rfl, by decide, inX9, Or.inl kF_RX9_36, by decide, rfl, tyX9_ok, nmX9, rfl, rfl⟩
theorem fF_RX9_40 : Fk RX9 40 9 5 .int false := ⟨RX9, TX9, 17, tyX9, rfl, by decide, inX9, Or.inl kF_RX9_40, by decide, rfl, tyX9_ok, nmX9, rfl, rfl⟩
theorem fF_RX9_47 : Fk RX9 47 9 6 (.object "WalkingBus$Line") true := ⟨RX9, TX9, 17, tyX9, rfl, by decide, inX9, Or.inl kF_RX9_47, by decide, rfl, tyX9_ok, nmX9, rfl, rfl⟩
theorem fF_RX9_54 : Fk RX9 54 9 7 (.object "WalkingBus$Rope") true := ⟨RX9, TX9, 17, tyX9, rfl, by decide, inX9, Or.inl kF_RX9_54, by decide, rfl, tyX9_ok, nmX9, rfl, rfl⟩
theorem fF_RX9_58 : Fk RX9 58 9 8 .int false := ⟨RX9, TX9, 17, tyX9, rfl, by decide, inX9, Or.inl kF_RX9_58, by decide, rfl, tyX9_ok, nmX9, rfl, rfl⟩
theorem fF_RX9_61 : Fk RX9 61 9 9 (.array .int) true := ⟨RX9, TX9, 17, tyX9, rfl, by decide, inX9, Or.inl kF_RX9_61, by decide, rfl, tyX9_ok, nmX9, rfl, rfl⟩
theorem fF_RX9_65 : Fk RX9 65 9 10 .int false := ⟨RX9, TX9, 17, tyX9, rfl, by decide, inX9, Or.inl kF_RX9_65, by decide, rfl, tyX9_ok, nmX9, rfl, rfl⟩
theorem fF_RX9_71 : Fk RX9 71 9 11 (.object "WalkingBus$Week") true := ⟨RX9, TX9, 17, tyX9, rfl, by decide, inX9, Or.inl kF_RX9_71, by decide, rfl, tyX9_ok, nmX9, rfl, rfl⟩
theorem fF_RX9_75 : Fk RX9 75 9 12 .int false := ⟨RX9, TX9, 17, tyX9, rfl, by decide, inX9, Or.inl kF_RX9_75, by decide, rfl, tyX9_ok, nmX9, rfl, rfl⟩
theorem fF_RX9_78 : Fk RX9 78 9 13 .int false := ⟨RX9, TX9, 17, tyX9, rfl, by decide, inX9, Or.inl kF_RX9_78, by decide, rfl, tyX9_ok, nmX9, rfl, rfl⟩
theorem fF_RX9_81 : Fk RX9 81 9 14 .int false := ⟨RX9, TX9, 17, tyX9, rfl, by decide, inX9, Or.inl kF_RX9_81, by decide, rfl, tyX9_ok, nmX9, rfl, rfl⟩
theorem fF_RX9_84 : Fk RX9 84 9 15 .int false := ⟨RX9, TX9, 17, tyX9, rfl, by decide, inX9, Or.inl kF_RX9_84, by decide, rfl, tyX9_ok, nmX9, rfl, rfl⟩
theorem fF_RX9_87 : Fk RX9 87 9 16 .int false := ⟨RX9, TX9, 17, tyX9, rfl, by decide, inX9, Or.inl kF_RX9_87, by decide, rfl, tyX9_ok, nmX9, rfl, rfl⟩
theorem fF_RX10_87 : Fk RX10 87 10 0 .int false := ⟨RX10, TX10, 42, tyX10, rfl, by decide, inX10, Or.inl kF_RX10_87, by decide, rfl, tyX10_ok, nmX10, rfl, rfl⟩
theorem fF_RX10_310 : Fk RX10 310 10 1 .int false := ⟨RX10, TX10, 42, tyX10, rfl, by decide, inX10, Or.inl kF_RX10_310, by decide, rfl, tyX10_ok, nmX10, rfl, rfl⟩
theorem fF_RX10_9 : Fk RX10 9 10 2 (.array .int) true := ⟨RX10, TX10, 42, tyX10, rfl, by decide, inX10, Or.inl kF_RX10_9, by decide, rfl, tyX10_ok, nmX10, rfl, rfl⟩
theorem fF_RX10_13 : Fk RX10 13 10 3 (.array .int) true := ⟨RX10, TX10, 42, tyX10, rfl, by decide, inX10, Or.inl kF_RX10_13, by decide, rfl, tyX10_ok, nmX10, rfl, rfl⟩
theorem fF_RX10_16 : Fk RX10 16 10 4 (.array .int) true := ⟨RX10, TX10, 42, tyX10, rfl, by decide, inX10, Or.inl kF_RX10_16, by decide, rfl, tyX10_ok, nmX10, rfl, rfl⟩
theorem fF_RX10_96 : Fk RX10 96 10 5 .int false := ⟨RX10, TX10, 42, tyX10, rfl, by decide, inX10, Or.inl kF_RX10_96, by decide, rfl, tyX10_ok, nmX10, rfl, rfl⟩
theorem fF_RX10_124 : Fk RX10 124 10 6 .int false := ⟨RX10, TX10, 42, tyX10, rfl, by decide, inX10, Or.inl kF_RX10_124, by decide, rfl, tyX10_ok, nmX10, rfl, rfl⟩
theorem fF_RX10_130 : Fk RX10 130 10 7 .int false := ⟨RX10, TX10, 42, tyX10, rfl, by decide, inX10, Or.inl kF_RX10_130, by decide, rfl, tyX10_ok, nmX10, rfl, rfl⟩
theorem fF_RX10_19 : Fk RX10 19 10 8 (.array .int) true := ⟨RX10, TX10, 42, tyX10, rfl, by decide, inX10, Or.inl kF_RX10_19, by decide, rfl, tyX10_ok, nmX10, rfl, rfl⟩
theorem fF_RX10_22 : Fk RX10 22 10 9 (.array .int) true := ⟨RX10, TX10, 42, tyX10, rfl, by decide, inX10, Or.inl kF_RX10_22, by decide, rfl, tyX10_ok, nmX10, rfl, rfl⟩
theorem fF_RX10_25 : Fk RX10 25 10 10 (.array .int) true := ⟨RX10, TX10, 42, tyX10, rfl, by decide, inX10, Or.inl kF_RX10_25, by decide, rfl, tyX10_ok, nmX10, rfl, rfl⟩
theorem fF_RX10_28 : Fk RX10 28 10 11 (.array .int) true := ⟨RX10, TX10, 42, tyX10, rfl, by decide, inX10, Or.inl kF_RX10_28, by decide, rfl, tyX10_ok, nmX10, rfl, rfl⟩
theorem fF_RX10_31 : Fk RX10 31 10 12 (.array .int) true := ⟨RX10, TX10, 42, tyX10, rfl, by decide, inX10, Or.inl kF_RX10_31, by decide, rfl, tyX10_ok, nmX10, rfl, rfl⟩
theorem fF_RX10_34 : Fk RX10 34 10 13 (.array .int) true := ⟨RX10, TX10, 42, tyX10, rfl, by decide, inX10, Or.inl kF_RX10_34, by decide, rfl, tyX10_ok, nmX10, rfl, rfl⟩
theorem fF_RX10_118 : Fk RX10 118 10 14 .int false := ⟨RX10, TX10, 42, tyX10, rfl, by decide, inX10, Or.inl kF_RX10_118, by decide, rfl, tyX10_ok, nmX10, rfl, rfl⟩
theorem fF_RX10_121 : Fk RX10 121 10 15 .int false := ⟨RX10, TX10, 42, tyX10, rfl, by decide, inX10, Or.inl kF_RX10_121, by decide, rfl, tyX10_ok, nmX10, rfl, rfl⟩
theorem fF_RX10_127 : Fk RX10 127 10 16 .int false := ⟨RX10, TX10, 42, tyX10, rfl, by decide, inX10, Or.inl kF_RX10_127, by decide, rfl, tyX10_ok, nmX10, rfl, rfl⟩
theorem fF_RX10_37 : Fk RX10 37 10 17 (.array .int) true := ⟨RX10, TX10, 42, tyX10, rfl, by decide, inX10, Or.inl kF_RX10_37, by decide, rfl, tyX10_ok, nmX10, rfl, rfl⟩
theorem fF_RX10_142 : Fk RX10 142 10 18 .int false := ⟨RX10, TX10, 42, tyX10, rfl, by decide, inX10, Or.inl kF_RX10_142, by decide, rfl, tyX10_ok, nmX10, rfl, rfl⟩
theorem fF_RX10_133 : Fk RX10 133 10 19 .int false := ⟨RX10, TX10, 42, tyX10, rfl, by decide, inX10, Or.inl kF_RX10_133, by decide, rfl, tyX10_ok, nmX10, rfl, rfl⟩
theorem fF_RX10_40 : Fk RX10 40 10 20 (.array .int) true := ⟨RX10, TX10, 42, tyX10, rfl, by decide, inX10, Or.inl kF_RX10_40, by decide, rfl, tyX10_ok, nmX10, rfl, rfl⟩
theorem fF_RX10_43 : Fk RX10 43 10 21 (.array .int) true := ⟨RX10, TX10, 42, tyX10, rfl, by decide, inX10, Or.inl kF_RX10_43, by decide, rfl, tyX10_ok, nmX10, rfl, rfl⟩
theorem fF_RX10_46 : Fk RX10 46 10 22 (.array .int) true := ⟨RX10, TX10, 42, tyX10, rfl, by decide, inX10, Or.inl kF_RX10_46, by decide, rfl, tyX10_ok, nmX10, rfl, rfl⟩
theorem fF_RX10_49 : Fk RX10 49 10 23 (.array .int) true := ⟨RX10, TX10, 42, tyX10, rfl, by decide, inX10, Or.inl kF_RX10_49, by decide, rfl, tyX10_ok, nmX10, rfl, rfl⟩
theorem fF_RX10_52 : Fk RX10 52 10 24 (.array .int) true := ⟨RX10, TX10, 42, tyX10, rfl, by decide, inX10, Or.inl kF_RX10_52, by decide, rfl, tyX10_ok, nmX10, rfl, rfl⟩
theorem fF_RX10_55 : Fk RX10 55 10 25 (.array .long) true := ⟨RX10, TX10, 42, tyX10, rfl, by decide, inX10, Or.inl kF_RX10_55, by decide, rfl, tyX10_ok, nmX10, rfl, rfl⟩
theorem fF_RX10_59 : Fk RX10 59 10 26 (.array .int) true := ⟨RX10, TX10, 42, tyX10, rfl, by decide, inX10, Or.inl kF_RX10_59, by decide, rfl, tyX10_ok, nmX10, rfl, rfl⟩
theorem fF_RX10_181 : Fk RX10 181 10 27 .int false := ⟨RX10, TX10, 42, tyX10, rfl, by decide, inX10, Or.inl kF_RX10_181, by decide, rfl, tyX10_ok, nmX10, rfl, rfl⟩
theorem fF_RX10_184 : Fk RX10 184 10 28 .int false := ⟨RX10, TX10, 42, tyX10, rfl, by decide, inX10, Or.inl kF_RX10_184, by decide, rfl, tyX10_ok, nmX10, rfl, rfl⟩
theorem fF_RX10_247 : Fk RX10 247 10 29 .int false := ⟨RX10, TX10, 42, tyX10, rfl, by decide, inX10, Or.inl kF_RX10_247, by decide, rfl, tyX10_ok, nmX10, rfl, rfl⟩
theorem fF_RX10_62 : Fk RX10 62 10 30 (.array .int) true := ⟨RX10, TX10, 42, tyX10, rfl, by decide, inX10, Or.inl kF_RX10_62, by decide, rfl, tyX10_ok, nmX10, rfl, rfl⟩
theorem fF_RX10_65 : Fk RX10 65 10 31 (.array .int) true := ⟨RX10, TX10, 42, tyX10, rfl, by decide, inX10, Or.inl kF_RX10_65, by decide, rfl, tyX10_ok, nmX10, rfl, rfl⟩
theorem fF_RX10_68 : Fk RX10 68 10 32 .int false := ⟨RX10, TX10, 42, tyX10, rfl, by decide, inX10, Or.inl kF_RX10_68, by decide, rfl, tyX10_ok, nmX10, rfl, rfl⟩
theorem fF_RX10_72 : Fk RX10 72 10 33 (.array .int) true := ⟨RX10, TX10, 42, tyX10, rfl, by decide, inX10, Or.inl kF_RX10_72, by decide, rfl, tyX10_ok, nmX10, rfl, rfl⟩
theorem fF_RX10_75 : Fk RX10 75 10 34 (.array .int) true := ⟨RX10, TX10, 42, tyX10, rfl, by decide, inX10, Or.inl kF_RX10_75, by decide, rfl, tyX10_ok, nmX10, rfl, rfl⟩
theorem fF_RX10_272 : Fk RX10 272 10 35 .int false := ⟨RX10, TX10, 42, tyX10, rfl, by decide, inX10, Or.inl kF_RX10_272, by decide, rfl, tyX10_ok, nmX10, rfl, rfl⟩
theorem fF_RX10_268 : Fk RX10 268 10 36 .long false := ⟨RX10, TX10, 42, tyX10, rfl, by decide, inX10, Or.inl kF_RX10_268, by decide, rfl, tyX10_ok, nmX10, rfl, rfl⟩
theorem fF_RX10_295 : Fk RX10 295 10 37 .int false := ⟨RX10, TX10, 42, tyX10, rfl, by decide, inX10, Or.inl kF_RX10_295, by decide, rfl, tyX10_ok, nmX10, rfl, rfl⟩
theorem fF_RX10_78 : Fk RX10 78 10 38 (.array .int) true := ⟨RX10, TX10, 42, tyX10, rfl, by decide, inX10, Or.inl kF_RX10_78, by decide, rfl, tyX10_ok, nmX10, rfl, rfl⟩
theorem fF_RX10_81 : Fk RX10 81 10 39 (.array .int) true := ⟨RX10, TX10, 42, tyX10, rfl, by decide, inX10, Or.inl kF_RX10_81, by decide, rfl, tyX10_ok, nmX10, rfl, rfl⟩
theorem fF_RX10_84 : Fk RX10 84 10 40 (.array .int) true := ⟨RX10, TX10, 42, tyX10, rfl, by decide, inX10, Or.inl kF_RX10_84, by decide, rfl, tyX10_ok, nmX10, rfl, rfl⟩
theorem fF_RX10_298 : Fk RX10 298 10 41 .int false := ⟨RX10, TX10, 42, tyX10, rfl, by decide, inX10, Or.inl kF_RX10_298, by decide, rfl, tyX10_ok, nmX10, rfl, rfl⟩
theorem fF_RX4_61 : Fk RX4 61 7 0 .int false := ⟨RX7, TX7, 10, tyX7, rfl, by decide, inX7, Or.inr ⟨"WalkingBus", List.mem_of_getElem? (i := 0) rfl⟩, by decide, rfl, tyX7_ok, nmX7, rfl, rfl⟩
theorem fF_RX9_348 : Fk RX9 348 7 0 .int false := ⟨RX7, TX7, 10, tyX7, rfl, by decide, inX7, Or.inr ⟨"WalkingBus", List.mem_of_getElem? (i := 1) rfl⟩, by decide, rfl, tyX7_ok, nmX7, rfl, rfl⟩
theorem fF_RX9_110 : Fk RX9 110 7 1 .int false := ⟨RX7, TX7, 10, tyX7, rfl, by decide, inX7, Or.inr ⟨"WalkingBus", List.mem_of_getElem? (i := 2) rfl⟩, by decide, rfl, tyX7_ok, nmX7, rfl, rfl⟩
theorem fF_RX2_50 : Fk RX2 50 7 2 .int false := ⟨RX7, TX7, 10, tyX7, rfl, by decide, inX7, Or.inr ⟨"WalkingBus", List.mem_of_getElem? (i := 3) rfl⟩, by decide, rfl, tyX7_ok, nmX7, rfl, rfl⟩
theorem fF_RX4_75 : Fk RX4 75 7 2 .int false := ⟨RX7, TX7, 10, tyX7, rfl, by decide, inX7, Or.inr ⟨"WalkingBus", List.mem_of_getElem? (i := 4) rfl⟩, by decide, rfl, tyX7_ok, nmX7, rfl, rfl⟩
theorem fF_RX9_113 : Fk RX9 113 7 3 (.array .int) true := ⟨RX7, TX7, 10, tyX7, rfl, by decide, inX7, Or.inr ⟨"WalkingBus", List.mem_of_getElem? (i := 5) rfl⟩, by decide, rfl, tyX7_ok, nmX7, rfl, rfl⟩
theorem fF_RX9_116 : Fk RX9 116 7 4 (.array .int) true := ⟨RX7, TX7, 10, tyX7, rfl, by decide, inX7, Or.inr ⟨"WalkingBus", List.mem_of_getElem? (i := 6) rfl⟩, by decide, rfl, tyX7_ok, nmX7, rfl, rfl⟩
theorem fF_RX9_119 : Fk RX9 119 7 5 (.array .int) true := ⟨RX7, TX7, 10, tyX7, rfl, by decide, inX7, Or.inr ⟨"WalkingBus", List.mem_of_getElem? (i := 7) rfl⟩, by decide, rfl, tyX7_ok, nmX7, rfl, rfl⟩
theorem fF_RX2_79 : Fk RX2 79 7 5 (.array .int) true := ⟨RX7, TX7, 10, tyX7, rfl, by decide, inX7, Or.inr ⟨"WalkingBus", List.mem_of_getElem? (i := 8) rfl⟩, by decide, rfl, tyX7_ok, nmX7, rfl, rfl⟩
theorem fF_RX9_122 : Fk RX9 122 7 6 (.array .int) true := ⟨RX7, TX7, 10, tyX7, rfl, by decide, inX7, Or.inr ⟨"WalkingBus", List.mem_of_getElem? (i := 9) rfl⟩, by decide, rfl, tyX7_ok, nmX7, rfl, rfl⟩
theorem fF_RX2_89 : Fk RX2 89 7 6 (.array .int) true := ⟨RX7, TX7, 10, tyX7, rfl, by decide, inX7, Or.inr ⟨"WalkingBus", List.mem_of_getElem? (i := 10) rfl⟩, by decide, rfl, tyX7_ok, nmX7, rfl, rfl⟩
theorem fF_RX9_125 : Fk RX9 125 7 7 (.array .int) true := ⟨RX7, TX7, 10, tyX7, rfl, by decide, inX7, Or.inr ⟨"WalkingBus", List.mem_of_getElem? (i := 11) rfl⟩, by decide, rfl, tyX7_ok, nmX7, rfl, rfl⟩
theorem fF_RX2_92 : Fk RX2 92 7 7 (.array .int) true := ⟨RX7, TX7, 10, tyX7, rfl, by decide, inX7, Or.inr ⟨"WalkingBus", List.mem_of_getElem? (i := 12) rfl⟩, by decide, rfl, tyX7_ok, nmX7, rfl, rfl⟩
theorem fF_RX2_75 : Fk RX2 75 7 9 (.array (.array .int)) true := ⟨RX7, TX7, 10, tyX7, rfl, by decide, inX7, Or.inr ⟨"WalkingBus", List.mem_of_getElem? (i := 13) rfl⟩, by decide, rfl, tyX7_ok, nmX7, rfl, rfl⟩
theorem fF_RX2_29 : Fk RX2 29 1 0 .int false := ⟨RX1, TX1, 4, tyX1, rfl, by decide, inX1, Or.inr ⟨"WalkingBus", List.mem_of_getElem? (i := 14) rfl⟩, by decide, rfl, tyX1_ok, nmX1, rfl, rfl⟩
theorem fF_RX9_244 : Fk RX9 244 1 0 .int false := ⟨RX1, TX1, 4, tyX1, rfl, by decide, inX1, Or.inr ⟨"WalkingBus", List.mem_of_getElem? (i := 15) rfl⟩, by decide, rfl, tyX1_ok, nmX1, rfl, rfl⟩
theorem fF_RX2_47 : Fk RX2 47 1 1 (.array .int) true := ⟨RX1, TX1, 4, tyX1, rfl, by decide, inX1, Or.inr ⟨"WalkingBus", List.mem_of_getElem? (i := 16) rfl⟩, by decide, rfl, tyX1_ok, nmX1, rfl, rfl⟩
theorem fF_RX2_61 : Fk RX2 61 1 2 (.array .int) true := ⟨RX1, TX1, 4, tyX1, rfl, by decide, inX1, Or.inr ⟨"WalkingBus", List.mem_of_getElem? (i := 17) rfl⟩, by decide, rfl, tyX1_ok, nmX1, rfl, rfl⟩
theorem fF_RX2_67 : Fk RX2 67 1 3 (.array .int) true := ⟨RX1, TX1, 4, tyX1, rfl, by decide, inX1, Or.inr ⟨"WalkingBus", List.mem_of_getElem? (i := 18) rfl⟩, by decide, rfl, tyX1_ok, nmX1, rfl, rfl⟩
theorem fF_RX2_133 : Fk RX2 133 3 3 .long false := ⟨RX3, TX3, 4, tyX3, rfl, by decide, inX3, Or.inr ⟨"WalkingBus", List.mem_of_getElem? (i := 19) rfl⟩, by decide, rfl, tyX3_ok, nmX3, rfl, rfl⟩
theorem fF_RX9_220 : Fk RX9 220 3 3 .long false := ⟨RX3, TX3, 4, tyX3, rfl, by decide, inX3, Or.inr ⟨"WalkingBus", List.mem_of_getElem? (i := 20) rfl⟩, by decide, rfl, tyX3_ok, nmX3, rfl, rfl⟩
theorem fF_RX9_240 : Fk RX9 240 2 0 (.object "WalkingBus$Gates") true := ⟨RX2, TX2, 3, tyX2, rfl, by decide, inX2, Or.inr ⟨"WalkingBus", List.mem_of_getElem? (i := 21) rfl⟩, by decide, rfl, tyX2_ok, nmX2, rfl, rfl⟩
theorem fF_RX9_210 : Fk RX9 210 2 1 (.object "WalkingBus$Minutes") true := ⟨RX2, TX2, 3, tyX2, rfl, by decide, inX2, Or.inr ⟨"WalkingBus", List.mem_of_getElem? (i := 22) rfl⟩, by decide, rfl, tyX2_ok, nmX2, rfl, rfl⟩
theorem fF_RX9_249 : Fk RX9 249 2 2 (.array .int) true := ⟨RX2, TX2, 3, tyX2, rfl, by decide, inX2, Or.inr ⟨"WalkingBus", List.mem_of_getElem? (i := 23) rfl⟩, by decide, rfl, tyX2_ok, nmX2, rfl, rfl⟩
theorem fF_RX9_280 : Fk RX9 280 5 3 (.array .int) true := ⟨RX5, TX5, 11, tyX5, rfl, by decide, inX5, Or.inr ⟨"WalkingBus", List.mem_of_getElem? (i := 24) rfl⟩, by decide, rfl, tyX5_ok, nmX5, rfl, rfl⟩
theorem fF_RX9_277 : Fk RX9 277 5 5 .int false := ⟨RX5, TX5, 11, tyX5, rfl, by decide, inX5, Or.inr ⟨"WalkingBus", List.mem_of_getElem? (i := 25) rfl⟩, by decide, rfl, tyX5_ok, nmX5, rfl, rfl⟩
theorem fF_RX9_271 : Fk RX9 271 5 9 .int false := ⟨RX5, TX5, 11, tyX5, rfl, by decide, inX5, Or.inr ⟨"WalkingBus", List.mem_of_getElem? (i := 26) rfl⟩, by decide, rfl, tyX5_ok, nmX5, rfl, rfl⟩
theorem fF_RX9_274 : Fk RX9 274 5 10 .int false := ⟨RX5, TX5, 11, tyX5, rfl, by decide, inX5, Or.inr ⟨"WalkingBus", List.mem_of_getElem? (i := 27) rfl⟩, by decide, rfl, tyX5_ok, nmX5, rfl, rfl⟩
theorem fF_RX9_300 : Fk RX9 300 8 2 (.array .int) true := ⟨RX8, TX8, 6, tyX8, rfl, by decide, inX8, Or.inr ⟨"WalkingBus", List.mem_of_getElem? (i := 28) rfl⟩, by decide, rfl, tyX8_ok, nmX8, rfl, rfl⟩
theorem fF_RX9_297 : Fk RX9 297 8 5 .int false := ⟨RX8, TX8, 6, tyX8, rfl, by decide, inX8, Or.inr ⟨"WalkingBus", List.mem_of_getElem? (i := 29) rfl⟩, by decide, rfl, tyX8_ok, nmX8, rfl, rfl⟩
theorem fF_RX9_309 : Fk RX9 309 6 0 .boolean false := ⟨RX6, TX6, 4, tyX6, rfl, by decide, inX6, Or.inr ⟨"WalkingBus", List.mem_of_getElem? (i := 30) rfl⟩, by decide, rfl, tyX6_ok, nmX6, rfl, rfl⟩
theorem fF_RX9_322 : Fk RX9 322 6 1 .int false := ⟨RX6, TX6, 4, tyX6, rfl, by decide, inX6, Or.inr ⟨"WalkingBus", List.mem_of_getElem? (i := 31) rfl⟩, by decide, rfl, tyX6_ok, nmX6, rfl, rfl⟩
theorem fF_RX9_325 : Fk RX9 325 6 3 (.array .int) true := ⟨RX6, TX6, 4, tyX6, rfl, by decide, inX6, Or.inr ⟨"WalkingBus", List.mem_of_getElem? (i := 32) rfl⟩, by decide, rfl, tyX6_ok, nmX6, rfl, rfl⟩
theorem fF_RX9_165 : Fk RX9 165 0 0 .int false := ⟨RX0, TX0, 6, tyX0, rfl, by decide, inX0, Or.inr ⟨"WalkingBus", List.mem_of_getElem? (i := 33) rfl⟩, by decide, rfl, tyX0_ok, nmX0, rfl, rfl⟩
theorem fF_RX1_25 : Fk RX1 25 0 1 .int false := ⟨RX0, TX0, 6, tyX0, rfl, by decide, inX0, Or.inr ⟨"WalkingBus", List.mem_of_getElem? (i := 34) rfl⟩, by decide, rfl, tyX0_ok, nmX0, rfl, rfl⟩
theorem fF_RX9_168 : Fk RX9 168 0 1 .int false := ⟨RX0, TX0, 6, tyX0, rfl, by decide, inX0, Or.inr ⟨"WalkingBus", List.mem_of_getElem? (i := 35) rfl⟩, by decide, rfl, tyX0_ok, nmX0, rfl, rfl⟩
theorem fF_RX5_53 : Fk RX5 53 0 2 .int false := ⟨RX0, TX0, 6, tyX0, rfl, by decide, inX0, Or.inr ⟨"WalkingBus", List.mem_of_getElem? (i := 36) rfl⟩, by decide, rfl, tyX0_ok, nmX0, rfl, rfl⟩
theorem fF_RX9_171 : Fk RX9 171 0 2 .int false := ⟨RX0, TX0, 6, tyX0, rfl, by decide, inX0, Or.inr ⟨"WalkingBus", List.mem_of_getElem? (i := 37) rfl⟩, by decide, rfl, tyX0_ok, nmX0, rfl, rfl⟩
theorem fF_RX1_30 : Fk RX1 30 0 3 .int false := ⟨RX0, TX0, 6, tyX0, rfl, by decide, inX0, Or.inr ⟨"WalkingBus", List.mem_of_getElem? (i := 38) rfl⟩, by decide, rfl, tyX0_ok, nmX0, rfl, rfl⟩
theorem fF_RX9_174 : Fk RX9 174 0 3 .int false := ⟨RX0, TX0, 6, tyX0, rfl, by decide, inX0, Or.inr ⟨"WalkingBus", List.mem_of_getElem? (i := 39) rfl⟩, by decide, rfl, tyX0_ok, nmX0, rfl, rfl⟩
theorem fF_RX5_47 : Fk RX5 47 0 4 .int false := ⟨RX0, TX0, 6, tyX0, rfl, by decide, inX0, Or.inr ⟨"WalkingBus", List.mem_of_getElem? (i := 40) rfl⟩, by decide, rfl, tyX0_ok, nmX0, rfl, rfl⟩
theorem fF_RX9_184 : Fk RX9 184 0 4 .int false := ⟨RX0, TX0, 6, tyX0, rfl, by decide, inX0, Or.inr ⟨"WalkingBus", List.mem_of_getElem? (i := 41) rfl⟩, by decide, rfl, tyX0_ok, nmX0, rfl, rfl⟩
theorem fF_RX5_51 : Fk RX5 51 0 5 .int false := ⟨RX0, TX0, 6, tyX0, rfl, by decide, inX0, Or.inr ⟨"WalkingBus", List.mem_of_getElem? (i := 42) rfl⟩, by decide, rfl, tyX0_ok, nmX0, rfl, rfl⟩
theorem fF_RX9_187 : Fk RX9 187 0 5 .int false := ⟨RX0, TX0, 6, tyX0, rfl, by decide, inX0, Or.inr ⟨"WalkingBus", List.mem_of_getElem? (i := 43) rfl⟩, by decide, rfl, tyX0_ok, nmX0, rfl, rfl⟩
theorem yk_X9_init : Yk yX9_init cX9_init 2 none 0 := ⟨by decide +kernel, kC_yX9_init, kN_RX9, by decide +kernel, by decide +kernel, by decide +kernel, by decide⟩
theorem yk_X4_init : Yk yX4_init cX4_init 1 none 0 := ⟨by decide +kernel, kC_yX4_init, kN_RX4, by decide +kernel, by decide +kernel, by decide +kernel, by decide⟩
theorem yk_X7_init : Yk yX7_init cX7_init 1 none 0 := ⟨by decide +kernel, kC_yX7_init, kN_RX7, by decide +kernel, by decide +kernel, by decide +kernel, by decide⟩
theorem yk_X2_init : Yk yX2_init cX2_init 1 none 0 := ⟨by decide +kernel, kC_yX2_init, kN_RX2, by decide +kernel, by decide +kernel, by decide +kernel, by decide⟩
theorem yk_X1_init : Yk yX1_init cX1_init 1 none 0 := ⟨by decide +kernel, kC_yX1_init, kN_RX1, by decide +kernel, by decide +kernel, by decide +kernel, by decide⟩
theorem yk_X3_init : Yk yX3_init cX3_init 1 none 0 := ⟨by decide +kernel, kC_yX3_init, kN_RX3, by decide +kernel, by decide +kernel, by decide +kernel, by decide⟩
theorem yk_X5_init : Yk yX5_init cX5_init 1 none 0 := ⟨by decide +kernel, kC_yX5_init, kN_RX5, by decide +kernel, by decide +kernel, by decide +kernel, by decide⟩
theorem yk_X8_init : Yk yX8_init cX8_init 1 none 0 := ⟨by decide +kernel, kC_yX8_init, kN_RX8, by decide +kernel, by decide +kernel, by decide +kernel, by decide⟩
theorem yk_X6_init : Yk yX6_init cX6_init 1 none 0 := ⟨by decide +kernel, kC_yX6_init, kN_RX6, by decide +kernel, by decide +kernel, by decide +kernel, by decide⟩
theorem yk_X0_init : Yk yX0_init cX0_init 1 none 0 := ⟨by decide +kernel, kC_yX0_init, kN_RX0, by decide +kernel, by decide +kernel, by decide +kernel, by decide⟩
theorem yk_X9_streets : Yk yX9_streets cX9_streets 6 (some .int) 4 := ⟨by decide +kernel, kC_yX9_streets, kN_RX9, by decide +kernel, by decide +kernel, by decide +kernel, by decide⟩
theorem yv_X9_streets : Yv yX9_streets := ⟨kI_yX9_streets, kS_yX9_streets⟩
theorem yk_X9_isSheet : Yk yX9_isSheet cX9_isSheet 1 (some .boolean) 1 := ⟨by decide +kernel, kC_yX9_isSheet, kN_RX9, by decide +kernel, by decide +kernel, by decide +kernel, by decide⟩
theorem yk_X9_isWithin : Yk yX9_isWithin cX9_isWithin 3 (some .boolean) 3 := ⟨by decide +kernel, kC_yX9_isWithin, kN_RX9, by decide +kernel, by decide +kernel, by decide +kernel, by decide⟩
theorem yk_X9_isSort : Yk yX9_isSort cX9_isSort 1 (some .boolean) 1 := ⟨by decide +kernel, kC_yX9_isSort, kN_RX9, by decide +kernel, by decide +kernel, by decide +kernel, by decide⟩
theorem yk_X6_rowFault : Yk yX6_rowFault cX6_rowFault 4 (some .int) 3 := ⟨by decide +kernel, kC_yX6_rowFault, kN_RX6, by decide +kernel, by decide +kernel, by decide +kernel, by decide⟩
theorem yv_X6_rowFault : Yv yX6_rowFault := ⟨kI_yX6_rowFault, kS_yX6_rowFault⟩
theorem yk_X6_reaches : Yk yX6_reaches cX6_reaches 3 (some .boolean) 2 := ⟨by decide +kernel, kC_yX6_reaches, kN_RX6, by decide +kernel, by decide +kernel, by decide +kernel, by decide⟩
theorem yv_X6_reaches : Yv yX6_reaches := ⟨kI_yX6_reaches, kS_yX6_reaches⟩
theorem yk_X4_read : Yk yX4_read cX4_read 6 (some .int) 4 := ⟨by decide +kernel, kC_yX4_read, kN_RX4, by decide +kernel, by decide +kernel, by decide +kernel, by decide⟩
theorem yv_X4_read : Yv yX4_read := ⟨kI_yX4_read, kS_yX4_read⟩
theorem yk_X6_at : Yk yX6_at cX6_at 2 (some .int) 1 := ⟨by decide +kernel, kC_yX6_at, kN_RX6, by decide +kernel, by decide +kernel, by decide +kernel, by decide⟩
theorem yv_X6_at : Yv yX6_at := ⟨kI_yX6_at, kS_yX6_at⟩
theorem yk_X4_take : Yk yX4_take cX4_take 2 (some .boolean) 1 := ⟨by decide +kernel, kC_yX4_take, kN_RX4, by decide +kernel, by decide +kernel, by decide +kernel, by decide⟩
theorem yv_X4_take : Yv yX4_take := ⟨kI_yX4_take, kS_yX4_take⟩
theorem yk_X4_isDigit : Yk yX4_isDigit cX4_isDigit 3 (some .boolean) 2 := ⟨by decide +kernel, kC_yX4_isDigit, kN_RX4, by decide +kernel, by decide +kernel, by decide +kernel, by decide⟩
theorem yv_X4_isDigit : Yv yX4_isDigit := ⟨kI_yX4_isDigit, kS_yX4_isDigit⟩
theorem yk_X4_takeDigit : Yk yX4_takeDigit cX4_takeDigit 1 (some .int) 0 := ⟨by decide +kernel, kC_yX4_takeDigit, kN_RX4, by decide +kernel, by decide +kernel, by decide +kernel, by decide⟩
theorem yv_X4_takeDigit : Yv yX4_takeDigit := ⟨kI_yX4_takeDigit, kS_yX4_takeDigit⟩
theorem yk_X7_begin : Yk yX7_begin cX7_begin 2 none 1 := ⟨by decide +kernel, kC_yX7_begin, kN_RX7, by decide +kernel, by decide +kernel, by decide +kernel, by decide⟩
theorem yv_X7_begin : Yv yX7_begin := ⟨kI_yX7_begin, kS_yX7_begin⟩
theorem yk_X4_readRoads : Yk yX4_readRoads cX4_readRoads 4 (some .int) 1 := ⟨by decide +kernel, kC_yX4_readRoads, kN_RX4, by decide +kernel, by decide +kernel, by decide +kernel, by decide⟩
theorem yv_X4_readRoads : Yv yX4_readRoads := ⟨kI_yX4_readRoads, kS_yX4_readRoads⟩
theorem yk_X4_readSchool : Yk yX4_readSchool cX4_readSchool 2 (some .int) 1 := ⟨by decide +kernel, kC_yX4_readSchool, kN_RX4, by decide +kernel, by decide +kernel, by decide +kernel, by decide⟩
theorem yv_X4_readSchool : Yv yX4_readSchool := ⟨kI_yX4_readSchool, kS_yX4_readSchool⟩
theorem yk_X4_readRoad : Yk yX4_readRoad cX4_readRoad 7 (some .int) 1 := ⟨by decide +kernel, kC_yX4_readRoad, kN_RX4, by decide +kernel, by decide +kernel, by decide +kernel, by decide⟩
theorem yv_X4_readRoad : Yv yX4_readRoad := ⟨kI_yX4_readRoad, kS_yX4_readRoad⟩
theorem yk_X4_takeNumber : Yk yX4_takeNumber cX4_takeNumber 2 (some .int) 0 := ⟨by decide +kernel, kC_yX4_takeNumber, kN_RX4, by decide +kernel, by decide +kernel, by decide +kernel, by decide⟩
theorem yv_X4_takeNumber : Yv yX4_takeNumber := ⟨kI_yX4_takeNumber, kS_yX4_takeNumber⟩
theorem yk_X7_addRoad : Yk yX7_addRoad cX7_addRoad 6 none 5 := ⟨by decide +kernel, kC_yX7_addRoad, kN_RX7, by decide +kernel, by decide +kernel, by decide +kernel, by decide⟩
theorem yv_X7_addRoad : Yv yX7_addRoad := ⟨kI_yX7_addRoad, kS_yX7_addRoad⟩
theorem yk_X9_moveToSpareTown : Yk yX9_moveToSpareTown cX9_moveToSpareTown 2 none 0 := ⟨by decide +kernel, kC_yX9_moveToSpareTown, kN_RX9, by decide +kernel, by decide +kernel, by decide +kernel, by decide⟩
theorem yv_X9_moveToSpareTown : Yv yX9_moveToSpareTown := ⟨kI_yX9_moveToSpareTown, kS_yX9_moveToSpareTown⟩
theorem yk_X7_findWays : Yk yX7_findWays cX7_findWays 4 none 0 := ⟨by decide +kernel, kC_yX7_findWays, kN_RX7, by decide +kernel, by decide +kernel, by decide +kernel, by decide⟩
theorem yv_X7_findWays : Yv yX7_findWays := ⟨kI_yX7_findWays, kS_yX7_findWays⟩
theorem yk_X7_setRoadCosts : Yk yX7_setRoadCosts cX7_setRoadCosts 3 none 0 := ⟨by decide +kernel, kC_yX7_setRoadCosts, kN_RX7, by decide +kernel, by decide +kernel, by decide +kernel, by decide⟩
theorem yv_X7_setRoadCosts : Yv yX7_setRoadCosts := ⟨kI_yX7_setRoadCosts, kS_yX7_setRoadCosts⟩
theorem yk_X7_roadCost : Yk yX7_roadCost cX7_roadCost 2 (some .int) 1 := ⟨by decide +kernel, kC_yX7_roadCost, kN_RX7, by decide +kernel, by decide +kernel, by decide +kernel, by decide⟩
theorem yv_X7_roadCost : Yv yX7_roadCost := ⟨kI_yX7_roadCost, kS_yX7_roadCost⟩
theorem yk_X7_isCrossing : Yk yX7_isCrossing cX7_isCrossing 2 (some .boolean) 1 := ⟨by decide +kernel, kC_yX7_isCrossing, kN_RX7, by decide +kernel, by decide +kernel, by decide +kernel, by decide⟩
theorem yv_X7_isCrossing : Yv yX7_isCrossing := ⟨kI_yX7_isCrossing, kS_yX7_isCrossing⟩
theorem yk_X7_firstRoadOfWay : Yk yX7_firstRoadOfWay cX7_firstRoadOfWay 4 (some .int) 2 := ⟨by decide +kernel, kC_yX7_firstRoadOfWay, kN_RX7, by decide +kernel, by decide +kernel, by decide +kernel, by decide⟩
theorem yv_X7_firstRoadOfWay : Yv yX7_firstRoadOfWay := ⟨kI_yX7_firstRoadOfWay, kS_yX7_firstRoadOfWay⟩
theorem yk_X7_hasWay : Yk yX7_hasWay cX7_hasWay 3 (some .boolean) 2 := ⟨by decide +kernel, kC_yX7_hasWay, kN_RX7, by decide +kernel, by decide +kernel, by decide +kernel, by decide⟩
theorem yv_X7_hasWay : Yv yX7_hasWay := ⟨kI_yX7_hasWay, kS_yX7_hasWay⟩
theorem yk_X7_otherEnd : Yk yX7_otherEnd cX7_otherEnd 3 (some .int) 2 := ⟨by decide +kernel, kC_yX7_otherEnd, kN_RX7, by decide +kernel, by decide +kernel, by decide +kernel, by decide⟩
theorem yv_X7_otherEnd : Yv yX7_otherEnd := ⟨kI_yX7_otherEnd, kS_yX7_otherEnd⟩
theorem yk_X9_ofRoad : Yk yX9_ofRoad cX9_ofRoad 3 (some .int) 2 := ⟨by decide +kernel, kC_yX9_ofRoad, kN_RX9, by decide +kernel, by decide +kernel, by decide +kernel, by decide⟩
theorem yv_X9_ofRoad : Yv yX9_ofRoad := ⟨kI_yX9_ofRoad, kS_yX9_ofRoad⟩
theorem yk_X9_way : Yk yX9_way cX9_way 4 (some .int) 3 := ⟨by decide +kernel, kC_yX9_way, kN_RX9, by decide +kernel, by decide +kernel, by decide +kernel, by decide⟩
theorem yv_X9_way : Yv yX9_way := ⟨kI_yX9_way, kS_yX9_way⟩
theorem yk_X9_isCorner : Yk yX9_isCorner cX9_isCorner 2 (some .boolean) 1 := ⟨by decide +kernel, kC_yX9_isCorner, kN_RX9, by decide +kernel, by decide +kernel, by decide +kernel, by decide⟩
theorem yv_X9_isCorner : Yv yX9_isCorner := ⟨kI_yX9_isCorner, kS_yX9_isCorner⟩
theorem yk_X7_lengthOfWay : Yk yX7_lengthOfWay cX7_lengthOfWay 3 (some .int) 2 := ⟨by decide +kernel, kC_yX7_lengthOfWay, kN_RX7, by decide +kernel, by decide +kernel, by decide +kernel, by decide⟩
theorem yv_X7_lengthOfWay : Yv yX7_lengthOfWay := ⟨kI_yX7_lengthOfWay, kS_yX7_lengthOfWay⟩
theorem yk_X7_crossingsOfWay : Yk yX7_crossingsOfWay cX7_crossingsOfWay 3 (some .int) 2 := ⟨by decide +kernel, kC_yX7_crossingsOfWay, kN_RX7, by decide +kernel, by decide +kernel, by decide +kernel, by decide⟩
theorem yv_X7_crossingsOfWay : Yv yX7_crossingsOfWay := ⟨kI_yX7_crossingsOfWay, kS_yX7_crossingsOfWay⟩
theorem yk_X7_roadsOfWay : Yk yX7_roadsOfWay cX7_roadsOfWay 6 (some .int) 2 := ⟨by decide +kernel, kC_yX7_roadsOfWay, kN_RX7, by decide +kernel, by decide +kernel, by decide +kernel, by decide⟩
theorem yv_X7_roadsOfWay : Yv yX7_roadsOfWay := ⟨kI_yX7_roadsOfWay, kS_yX7_roadsOfWay⟩
theorem yk_X9_along : Yk yX9_along cX9_along 4 (some .int) 3 := ⟨by decide +kernel, kC_yX9_along, kN_RX9, by decide +kernel, by decide +kernel, by decide +kernel, by decide⟩
theorem yv_X9_along : Yv yX9_along := ⟨kI_yX9_along, kS_yX9_along⟩
theorem yk_X7_roadOfWay : Yk yX7_roadOfWay cX7_roadOfWay 6 (some .int) 3 := ⟨by decide +kernel, kC_yX7_roadOfWay, kN_RX7, by decide +kernel, by decide +kernel, by decide +kernel, by decide⟩
theorem yv_X7_roadOfWay : Yv yX7_roadOfWay := ⟨kI_yX7_roadOfWay, kS_yX7_roadOfWay⟩
theorem yk_X9_child : Yk yX9_child cX9_child 5 (some .int) 4 := ⟨by decide +kernel, kC_yX9_child, kN_RX9, by decide +kernel, by decide +kernel, by decide +kernel, by decide⟩
theorem yv_X9_child : Yv yX9_child := ⟨kI_yX9_child, kS_yX9_child⟩
theorem yk_X9_isKind : Yk yX9_isKind cX9_isKind 1 (some .boolean) 1 := ⟨by decide +kernel, kC_yX9_isKind, kN_RX9, by decide +kernel, by decide +kernel, by decide +kernel, by decide⟩
theorem yk_X9_isAge : Yk yX9_isAge cX9_isAge 1 (some .boolean) 1 := ⟨by decide +kernel, kC_yX9_isAge, kN_RX9, by decide +kernel, by decide +kernel, by decide +kernel, by decide⟩
theorem yk_X0_become : Yk yX0_become cX0_become 5 none 4 := ⟨by decide +kernel, kC_yX0_become, kN_RX0, by decide +kernel, by decide +kernel, by decide +kernel, by decide⟩
theorem yv_X0_become : Yv yX0_become := ⟨kI_yX0_become, kS_yX0_become⟩
theorem yk_X9_ofChild : Yk yX9_ofChild cX9_ofChild 4 (some .int) 2 := ⟨by decide +kernel, kC_yX9_ofChild, kN_RX9, by decide +kernel, by decide +kernel, by decide +kernel, by decide⟩
theorem yv_X9_ofChild : Yv yX9_ofChild := ⟨kI_yX9_ofChild, kS_yX9_ofChild⟩
theorem yk_X9_isChild : Yk yX9_isChild cX9_isChild 2 (some .boolean) 1 := ⟨by decide +kernel, kC_yX9_isChild, kN_RX9, by decide +kernel, by decide +kernel, by decide +kernel, by decide⟩
theorem yv_X9_isChild : Yv yX9_isChild := ⟨kI_yX9_isChild, kS_yX9_isChild⟩
theorem yk_X0_pace : Yk yX0_pace cX0_pace 2 (some .int) 0 := ⟨by decide +kernel, kC_yX0_pace, kN_RX0, by decide +kernel, by decide +kernel, by decide +kernel, by decide⟩
theorem yv_X0_pace : Yv yX0_pace := ⟨kI_yX0_pace, kS_yX0_pace⟩
theorem yk_X0_heads : Yk yX0_heads cX0_heads 1 (some .int) 0 := ⟨by decide +kernel, kC_yX0_heads, kN_RX0, by decide +kernel, by decide +kernel, by decide +kernel, by decide⟩
theorem yv_X0_heads : Yv yX0_heads := ⟨kI_yX0_heads, kS_yX0_heads⟩
theorem yk_X9_ready : Yk yX9_ready cX9_ready 4 (some .int) 2 := ⟨by decide +kernel, kC_yX9_ready, kN_RX9, by decide +kernel, by decide +kernel, by decide +kernel, by decide⟩
theorem yv_X9_ready : Yv yX9_ready := ⟨kI_yX9_ready, kS_yX9_ready⟩
theorem yk_X9_tie : Yk yX9_tie cX9_tie 5 (some .int) 3 := ⟨by decide +kernel, kC_yX9_tie, kN_RX9, by decide +kernel, by decide +kernel, by decide +kernel, by decide⟩
theorem yv_X9_tie : Yv yX9_tie := ⟨kI_yX9_tie, kS_yX9_tie⟩
theorem yk_X0_bondWith : Yk yX0_bondWith cX0_bondWith 2 (some .int) 1 := ⟨by decide +kernel, kC_yX0_bondWith, kN_RX0, by decide +kernel, by decide +kernel, by decide +kernel, by decide⟩
theorem yv_X0_bondWith : Yv yX0_bondWith := ⟨kI_yX0_bondWith, kS_yX0_bondWith⟩
theorem yk_X0_bind : Yk yX0_bind cX0_bind 4 none 2 := ⟨by decide +kernel, kC_yX0_bind, kN_RX0, by decide +kernel, by decide +kernel, by decide +kernel, by decide⟩
theorem yv_X0_bind : Yv yX0_bind := ⟨kI_yX0_bind, kS_yX0_bind⟩
theorem yk_X9_late : Yk yX9_late cX9_late 10 (some .long) 9 := ⟨by decide +kernel, kC_yX9_late, kN_RX9, by decide +kernel, by decide +kernel, by decide +kernel, by decide⟩
theorem yv_X9_late : Yv yX9_late := ⟨kI_yX9_late, kS_yX9_late⟩
theorem yk_X9_isSet : Yk yX9_isSet cX9_isSet 2 (some .boolean) 1 := ⟨by decide +kernel, kC_yX9_isSet, kN_RX9, by decide +kernel, by decide +kernel, by decide +kernel, by decide⟩
theorem yv_X9_isSet : Yv yX9_isSet := ⟨kI_yX9_isSet, kS_yX9_isSet⟩
theorem yk_X9_isMinute : Yk yX9_isMinute cX9_isMinute 1 (some .boolean) 1 := ⟨by decide +kernel, kC_yX9_isMinute, kN_RX9, by decide +kernel, by decide +kernel, by decide +kernel, by decide⟩
theorem yk_X9_hasWalked : Yk yX9_hasWalked cX9_hasWalked 7 (some .boolean) 6 := ⟨by decide +kernel, kC_yX9_hasWalked, kN_RX9, by decide +kernel, by decide +kernel, by decide +kernel, by decide⟩
theorem yv_X9_hasWalked : Yv yX9_hasWalked := ⟨kI_yX9_hasWalked, kS_yX9_hasWalked⟩
theorem yk_X1_gather : Yk yX1_gather cX1_gather 5 none 2 := ⟨by decide +kernel, kC_yX1_gather, kN_RX1, by decide +kernel, by decide +kernel, by decide +kernel, by decide⟩
theorem yv_X1_gather : Yv yX1_gather := ⟨kI_yX1_gather, kS_yX1_gather⟩
theorem yk_X1_setFirstOrder : Yk yX1_setFirstOrder cX1_setFirstOrder 2 none 0 := ⟨by decide +kernel, kC_yX1_setFirstOrder, kN_RX1, by decide +kernel, by decide +kernel, by decide +kernel, by decide⟩
theorem yv_X1_setFirstOrder : Yv yX1_setFirstOrder := ⟨kI_yX1_setFirstOrder, kS_yX1_setFirstOrder⟩
theorem yk_X1_isGate : Yk yX1_isGate cX1_isGate 2 (some .boolean) 1 := ⟨by decide +kernel, kC_yX1_isGate, kN_RX1, by decide +kernel, by decide +kernel, by decide +kernel, by decide⟩
theorem yv_X1_isGate : Yv yX1_isGate := ⟨kI_yX1_isGate, kS_yX1_isGate⟩
theorem yk_X1_orderBy : Yk yX1_orderBy cX1_orderBy 7 (some .boolean) 3 := ⟨by decide +kernel, kC_yX1_orderBy, kN_RX1, by decide +kernel, by decide +kernel, by decide +kernel, by decide⟩
theorem yv_X1_orderBy : Yv yX1_orderBy := ⟨kI_yX1_orderBy, kS_yX1_orderBy⟩
theorem yk_X2_isWalkable : Yk yX2_isWalkable cX2_isWalkable 7 (some .boolean) 2 := ⟨by decide +kernel, kC_yX2_isWalkable, kN_RX2, by decide +kernel, by decide +kernel, by decide +kernel, by decide⟩
theorem yv_X2_isWalkable : Yv yX2_isWalkable := ⟨kI_yX2_isWalkable, kS_yX2_isWalkable⟩
theorem yk_X2_stop : Yk yX2_stop cX2_stop 3 (some .int) 2 := ⟨by decide +kernel, kC_yX2_stop, kN_RX2, by decide +kernel, by decide +kernel, by decide +kernel, by decide⟩
theorem yv_X2_stop : Yv yX2_stop := ⟨kI_yX2_stop, kS_yX2_stop⟩
theorem yk_X2_walk : Yk yX2_walk cX2_walk 8 none 3 := ⟨by decide +kernel, kC_yX2_walk, kN_RX2, by decide +kernel, by decide +kernel, by decide +kernel, by decide⟩
theorem yv_X2_walk : Yv yX2_walk := ⟨kI_yX2_walk, kS_yX2_walk⟩
theorem yk_X3_begin : Yk yX3_begin cX3_begin 3 none 1 := ⟨by decide +kernel, kC_yX3_begin, kN_RX3, by decide +kernel, by decide +kernel, by decide +kernel, by decide⟩
theorem yv_X3_begin : Yv yX3_begin := ⟨kI_yX3_begin, kS_yX3_begin⟩
theorem yk_X2_walkWay : Yk yX2_walkWay cX2_walkWay 8 none 4 := ⟨by decide +kernel, kC_yX2_walkWay, kN_RX2, by decide +kernel, by decide +kernel, by decide +kernel, by decide⟩
theorem yv_X2_walkWay : Yv yX2_walkWay := ⟨kI_yX2_walkWay, kS_yX2_walkWay⟩
theorem yk_X3_pass : Yk yX3_pass cX3_pass 2 none 1 := ⟨by decide +kernel, kC_yX3_pass, kN_RX3, by decide +kernel, by decide +kernel, by decide +kernel, by decide⟩
theorem yv_X3_pass : Yv yX3_pass := ⟨kI_yX3_pass, kS_yX3_pass⟩
theorem yk_X3_cross : Yk yX3_cross cX3_cross 6 none 2 := ⟨by decide +kernel, kC_yX3_cross, kN_RX3, by decide +kernel, by decide +kernel, by decide +kernel, by decide⟩
theorem yv_X3_cross : Yv yX3_cross := ⟨kI_yX3_cross, kS_yX3_cross⟩
theorem yk_X3_waitUntil : Yk yX3_waitUntil cX3_waitUntil 6 none 1 := ⟨by decide +kernel, kC_yX3_waitUntil, kN_RX3, by decide +kernel, by decide +kernel, by decide +kernel, by decide⟩
theorem yv_X3_waitUntil : Yv yX3_waitUntil := ⟨kI_yX3_waitUntil, kS_yX3_waitUntil⟩
theorem yk_X3_casesBehind : Yk yX3_casesBehind cX3_casesBehind 5 (some .long) 1 := ⟨by decide +kernel, kC_yX3_casesBehind, kN_RX3, by decide +kernel, by decide +kernel, by decide +kernel, by decide⟩
theorem yv_X3_casesBehind : Yv yX3_casesBehind := ⟨kI_yX3_casesBehind, kS_yX3_casesBehind⟩
theorem yk_X9_partOfShare : Yk yX9_partOfShare cX9_partOfShare 7 (some .long) 3 := ⟨by decide +kernel, kC_yX9_partOfShare, kN_RX9, by decide +kernel, by decide +kernel, by decide +kernel, by decide⟩
theorem yk_X9_commonDivisor : Yk yX9_commonDivisor cX9_commonDivisor 11 (some .long) 2 := ⟨by decide +kernel, kC_yX9_commonDivisor, kN_RX9, by decide +kernel, by decide +kernel, by decide +kernel, by decide⟩
theorem yk_X9_mean : Yk yX9_mean cX9_mean 9 (some .long) 8 := ⟨by decide +kernel, kC_yX9_mean, kN_RX9, by decide +kernel, by decide +kernel, by decide +kernel, by decide⟩
theorem yv_X9_mean : Yv yX9_mean := ⟨kI_yX9_mean, kS_yX9_mean⟩
theorem yk_X3_sumOverCases : Yk yX3_sumOverCases cX3_sumOverCases 4 (some .long) 0 := ⟨by decide +kernel, kC_yX3_sumOverCases, kN_RX3, by decide +kernel, by decide +kernel, by decide +kernel, by decide⟩
theorem yv_X3_sumOverCases : Yv yX3_sumOverCases := ⟨kI_yX3_sumOverCases, kS_yX3_sumOverCases⟩
theorem yk_X9_start : Yk yX9_start cX9_start 6 (some .int) 4 := ⟨by decide +kernel, kC_yX9_start, kN_RX9, by decide +kernel, by decide +kernel, by decide +kernel, by decide⟩
theorem yv_X9_start : Yv yX9_start := ⟨kI_yX9_start, kS_yX9_start⟩
theorem yk_X9_startRefusal : Yk yX9_startRefusal cX9_startRefusal 5 (some .int) 4 := ⟨by decide +kernel, kC_yX9_startRefusal, kN_RX9, by decide +kernel, by decide +kernel, by decide +kernel, by decide⟩
theorem yv_X9_startRefusal : Yv yX9_startRefusal := ⟨kI_yX9_startRefusal, kS_yX9_startRefusal⟩
theorem yk_X2_hasStarts : Yk yX2_hasStarts cX2_hasStarts 4 (some .boolean) 2 := ⟨by decide +kernel, kC_yX2_hasStarts, kN_RX2, by decide +kernel, by decide +kernel, by decide +kernel, by decide⟩
theorem yv_X2_hasStarts : Yv yX2_hasStarts := ⟨kI_yX2_hasStarts, kS_yX2_hasStarts⟩
theorem yk_X1_toNextOrder : Yk yX1_toNextOrder cX1_toNextOrder 4 (some .boolean) 0 := ⟨by decide +kernel, kC_yX1_toNextOrder, kN_RX1, by decide +kernel, by decide +kernel, by decide +kernel, by decide⟩
theorem yv_X1_toNextOrder : Yv yX1_toNextOrder := ⟨kI_yX1_toNextOrder, kS_yX1_toNextOrder⟩
theorem yk_X1_swap : Yk yX1_swap cX1_swap 4 none 2 := ⟨by decide +kernel, kC_yX1_swap, kN_RX1, by decide +kernel, by decide +kernel, by decide +kernel, by decide⟩
theorem yv_X1_swap : Yv yX1_swap := ⟨kI_yX1_swap, kS_yX1_swap⟩
theorem yk_X2_findStart : Yk yX2_findStart cX2_findStart 8 (some .int) 4 := ⟨by decide +kernel, kC_yX2_findStart, kN_RX2, by decide +kernel, by decide +kernel, by decide +kernel, by decide⟩
theorem yv_X2_findStart : Yv yX2_findStart := ⟨kI_yX2_findStart, kS_yX2_findStart⟩
theorem yk_X2_latestStart : Yk yX2_latestStart cX2_latestStart 10 (some .int) 5 := ⟨by decide +kernel, kC_yX2_latestStart, kN_RX2, by decide +kernel, by decide +kernel, by decide +kernel, by decide⟩
theorem yv_X2_latestStart : Yv yX2_latestStart := ⟨kI_yX2_latestStart, kS_yX2_latestStart⟩
theorem yk_X2_keepOrder : Yk yX2_keepOrder cX2_keepOrder 2 none 0 := ⟨by decide +kernel, kC_yX2_keepOrder, kN_RX2, by decide +kernel, by decide +kernel, by decide +kernel, by decide⟩
theorem yv_X2_keepOrder : Yv yX2_keepOrder := ⟨kI_yX2_keepOrder, kS_yX2_keepOrder⟩
theorem yk_X9_gate : Yk yX9_gate cX9_gate 7 (some .int) 5 := ⟨by decide +kernel, kC_yX9_gate, kN_RX9, by decide +kernel, by decide +kernel, by decide +kernel, by decide⟩
theorem yv_X9_gate : Yv yX9_gate := ⟨kI_yX9_gate, kS_yX9_gate⟩
theorem yk_X9_holds : Yk yX9_holds cX9_holds 3 (some .int) 1 := ⟨by decide +kernel, kC_yX9_holds, kN_RX9, by decide +kernel, by decide +kernel, by decide +kernel, by decide⟩
theorem yv_X9_holds : Yv yX9_holds := ⟨kI_yX9_holds, kS_yX9_holds⟩
theorem yk_X9_grown : Yk yX9_grown cX9_grown 2 (some .int) 1 := ⟨by decide +kernel, kC_yX9_grown, kN_RX9, by decide +kernel, by decide +kernel, by decide +kernel, by decide⟩
theorem yv_X9_grown : Yv yX9_grown := ⟨kI_yX9_grown, kS_yX9_grown⟩
theorem yk_X9_grownFor : Yk yX9_grownFor cX9_grownFor 4 (some .int) 1 := ⟨by decide +kernel, kC_yX9_grownFor, kN_RX9, by decide +kernel, by decide +kernel, by decide +kernel, by decide⟩
theorem yv_X9_grownFor : Yv yX9_grownFor := ⟨kI_yX9_grownFor, kS_yX9_grownFor⟩
theorem yk_X9_split : Yk yX9_split cX9_split 7 (some .int) 5 := ⟨by decide +kernel, kC_yX9_split, kN_RX9, by decide +kernel, by decide +kernel, by decide +kernel, by decide⟩
theorem yv_X9_split : Yv yX9_split := ⟨kI_yX9_split, kS_yX9_split⟩
theorem yk_J6_bitCount_0f7a4 : Yk yJ6_bitCount_0f7a4 cJ6_bitCount_0f7a4 1 (some .int) 1 := ⟨by decide +kernel, kC_yJ6_bitCount_0f7a4, kN_RJ6, by decide +kernel, by decide +kernel, by decide +kernel, by decide⟩
theorem yk_X9_findSplit : Yk yX9_findSplit cX9_findSplit 11 (some .boolean) 4 := ⟨by decide +kernel, kC_yX9_findSplit, kN_RX9, by decide +kernel, by decide +kernel, by decide +kernel, by decide⟩
theorem yv_X9_findSplit : Yv yX9_findSplit := ⟨kI_yX9_findSplit, kS_yX9_findSplit⟩
theorem yk_X9_ways : Yk yX9_ways cX9_ways 3 (some .long) 2 := ⟨by decide +kernel, kC_yX9_ways, kN_RX9, by decide +kernel, by decide +kernel, by decide +kernel, by decide⟩
theorem yv_X9_ways : Yv yX9_ways := ⟨kI_yX9_ways, kS_yX9_ways⟩
theorem yk_X9_isRopeFor : Yk yX9_isRopeFor cX9_isRopeFor 3 (some .boolean) 2 := ⟨by decide +kernel, kC_yX9_isRopeFor, kN_RX9, by decide +kernel, by decide +kernel, by decide +kernel, by decide⟩
theorem yv_X9_isRopeFor : Yv yX9_isRopeFor := ⟨kI_yX9_isRopeFor, kS_yX9_isRopeFor⟩
theorem yk_X5_search : Yk yX5_search cX5_search 6 none 4 := ⟨by decide +kernel, kC_yX5_search, kN_RX5, by decide +kernel, by decide +kernel, by decide +kernel, by decide⟩
theorem yv_X5_search : Yv yX5_search := ⟨kI_yX5_search, kS_yX5_search⟩
theorem yk_X5_fill : Yk yX5_fill cX5_fill 7 none 4 := ⟨by decide +kernel, kC_yX5_fill, kN_RX5, by decide +kernel, by decide +kernel, by decide +kernel, by decide⟩
theorem yk_X5_take : Yk yX5_take cX5_take 3 none 1 := ⟨by decide +kernel, kC_yX5_take, kN_RX5, by decide +kernel, by decide +kernel, by decide +kernel, by decide⟩
theorem yv_X5_take : Yv yX5_take := ⟨kI_yX5_take, kS_yX5_take⟩
theorem yk_X5_hope : Yk yX5_hope cX5_hope 4 (some .int) 2 := ⟨by decide +kernel, kC_yX5_hope, kN_RX5, by decide +kernel, by decide +kernel, by decide +kernel, by decide⟩
theorem yv_X5_hope : Yv yX5_hope := ⟨kI_yX5_hope, kS_yX5_hope⟩
theorem yk_X5_isBeside : Yk yX5_isBeside cX5_isBeside 1 (some .boolean) 1 := ⟨by decide +kernel, kC_yX5_isBeside, kN_RX5, by decide +kernel, by decide +kernel, by decide +kernel, by decide⟩
theorem yk_X5_bitAt : Yk yX5_bitAt cX5_bitAt 2 (some .int) 1 := ⟨by decide +kernel, kC_yX5_bitAt, kN_RX5, by decide +kernel, by decide +kernel, by decide +kernel, by decide⟩
theorem yv_X5_bitAt : Yv yX5_bitAt := ⟨kI_yX5_bitAt, kS_yX5_bitAt⟩
theorem yk_X5_mayCome : Yk yX5_mayCome cX5_mayCome 4 (some .int) 2 := ⟨by decide +kernel, kC_yX5_mayCome, kN_RX5, by decide +kernel, by decide +kernel, by decide +kernel, by decide⟩
theorem yv_X5_mayCome : Yv yX5_mayCome := ⟨kI_yX5_mayCome, kS_yX5_mayCome⟩
theorem yk_X5_quarrelsAt : Yk yX5_quarrelsAt cX5_quarrelsAt 2 (some .int) 1 := ⟨by decide +kernel, kC_yX5_quarrelsAt, kN_RX5, by decide +kernel, by decide +kernel, by decide +kernel, by decide⟩
theorem yv_X5_quarrelsAt : Yv yX5_quarrelsAt := ⟨kI_yX5_quarrelsAt, kS_yX5_quarrelsAt⟩
theorem yk_X9_friendly : Yk yX9_friendly cX9_friendly 4 (some .int) 3 := ⟨by decide +kernel, kC_yX9_friendly, kN_RX9, by decide +kernel, by decide +kernel, by decide +kernel, by decide⟩
theorem yv_X9_friendly : Yv yX9_friendly := ⟨kI_yX9_friendly, kS_yX9_friendly⟩
theorem yk_X9_loss : Yk yX9_loss cX9_loss 6 (some .long) 5 := ⟨by decide +kernel, kC_yX9_loss, kN_RX9, by decide +kernel, by decide +kernel, by decide +kernel, by decide⟩
theorem yv_X9_loss : Yv yX9_loss := ⟨kI_yX9_loss, kS_yX9_loss⟩
theorem yk_X9_isWait : Yk yX9_isWait cX9_isWait 3 (some .boolean) 3 := ⟨by decide +kernel, kC_yX9_isWait, kN_RX9, by decide +kernel, by decide +kernel, by decide +kernel, by decide⟩
theorem yk_X9_lossSum : Yk yX9_lossSum cX9_lossSum 9 (some .long) 4 := ⟨by decide +kernel, kC_yX9_lossSum, kN_RX9, by decide +kernel, by decide +kernel, by decide +kernel, by decide⟩
theorem yk_X9_weightSum : Yk yX9_weightSum cX9_weightSum 5 (some .long) 1 := ⟨by decide +kernel, kC_yX9_weightSum, kN_RX9, by decide +kernel, by decide +kernel, by decide +kernel, by decide⟩
theorem yk_X9_patience : Yk yX9_patience cX9_patience 10 (some .int) 3 := ⟨by decide +kernel, kC_yX9_patience, kN_RX9, by decide +kernel, by decide +kernel, by decide +kernel, by decide⟩
theorem yv_X9_patience : Yv yX9_patience := ⟨kI_yX9_patience, kS_yX9_patience⟩
theorem yk_X9_helper : Yk yX9_helper cX9_helper 2 (some .int) 1 := ⟨by decide +kernel, kC_yX9_helper, kN_RX9, by decide +kernel, by decide +kernel, by decide +kernel, by decide⟩
theorem yv_X9_helper : Yv yX9_helper := ⟨kI_yX9_helper, kS_yX9_helper⟩
theorem yk_X9_days : Yk yX9_days cX9_days 4 (some .int) 2 := ⟨by decide +kernel, kC_yX9_days, kN_RX9, by decide +kernel, by decide +kernel, by decide +kernel, by decide⟩
theorem yv_X9_days : Yv yX9_days := ⟨kI_yX9_days, kS_yX9_days⟩
theorem yk_X9_week : Yk yX9_week cX9_week 3 (some .int) 2 := ⟨by decide +kernel, kC_yX9_week, kN_RX9, by decide +kernel, by decide +kernel, by decide +kernel, by decide⟩
theorem yv_X9_week : Yv yX9_week := ⟨kI_yX9_week, kS_yX9_week⟩
theorem yk_X8_make : Yk yX8_make cX8_make 5 none 3 := ⟨by decide +kernel, kC_yX8_make, kN_RX8, by decide +kernel, by decide +kernel, by decide +kernel, by decide⟩
theorem yv_X8_make : Yv yX8_make := ⟨kI_yX8_make, kS_yX8_make⟩
theorem yk_X8_isEnough : Yk yX8_isEnough cX8_isEnough 6 (some .boolean) 2 := ⟨by decide +kernel, kC_yX8_isEnough, kN_RX8, by decide +kernel, by decide +kernel, by decide +kernel, by decide⟩
theorem yv_X8_isEnough : Yv yX8_isEnough := ⟨kI_yX8_isEnough, kS_yX8_isEnough⟩
theorem yk_X8_fill : Yk yX8_fill cX8_fill 3 (some .boolean) 2 := ⟨by decide +kernel, kC_yX8_fill, kN_RX8, by decide +kernel, by decide +kernel, by decide +kernel, by decide⟩
theorem yk_X8_mayHelp : Yk yX8_mayHelp cX8_mayHelp 4 (some .boolean) 2 := ⟨by decide +kernel, kC_yX8_mayHelp, kN_RX8, by decide +kernel, by decide +kernel, by decide +kernel, by decide⟩
theorem yv_X8_mayHelp : Yv yX8_mayHelp := ⟨kI_yX8_mayHelp, kS_yX8_mayHelp⟩
theorem yk_X8_addDays : Yk yX8_addDays cX8_addDays 4 none 2 := ⟨by decide +kernel, kC_yX8_addDays, kN_RX8, by decide +kernel, by decide +kernel, by decide +kernel, by decide⟩
theorem yv_X8_addDays : Yv yX8_addDays := ⟨kI_yX8_addDays, kS_yX8_addDays⟩
theorem yk_X9_sheet : Yk yX9_sheet cX9_sheet 4 (some .int) 3 := ⟨by decide +kernel, kC_yX9_sheet, kN_RX9, by decide +kernel, by decide +kernel, by decide +kernel, by decide⟩
theorem yv_X9_sheet : Yv yX9_sheet := ⟨kI_yX9_sheet, kS_yX9_sheet⟩
theorem yk_X9_fail : Yk yX9_fail cX9_fail 2 (some .int) 1 := ⟨by decide +kernel, kC_yX9_fail, kN_RX9, by decide +kernel, by decide +kernel, by decide +kernel, by decide⟩
theorem yv_X9_fail : Yv yX9_fail := ⟨kI_yX9_fail, kS_yX9_fail⟩
theorem yk_X6_begin : Yk yX6_begin cX6_begin 4 none 2 := ⟨by decide +kernel, kC_yX6_begin, kN_RX6, by decide +kernel, by decide +kernel, by decide +kernel, by decide⟩
theorem yv_X6_begin : Yv yX6_begin := ⟨kI_yX6_begin, kS_yX6_begin⟩
theorem yk_X9_lose : Yk yX9_lose cX9_lose 3 (some .int) 1 := ⟨by decide +kernel, kC_yX9_lose, kN_RX9, by decide +kernel, by decide +kernel, by decide +kernel, by decide⟩
theorem yv_X9_lose : Yv yX9_lose := ⟨kI_yX9_lose, kS_yX9_lose⟩
theorem yk_X9_put : Yk yX9_put cX9_put 4 (some .int) 3 := ⟨by decide +kernel, kC_yX9_put, kN_RX9, by decide +kernel, by decide +kernel, by decide +kernel, by decide⟩
theorem yv_X9_put : Yv yX9_put := ⟨kI_yX9_put, kS_yX9_put⟩
theorem yk_X6_change : Yk yX6_change cX6_change 3 none 2 := ⟨by decide +kernel, kC_yX6_change, kN_RX6, by decide +kernel, by decide +kernel, by decide +kernel, by decide⟩
theorem yv_X6_change : Yv yX6_change := ⟨kI_yX6_change, kS_yX6_change⟩
theorem yk_X9_cell : Yk yX9_cell cX9_cell 4 (some .long) 3 := ⟨by decide +kernel, kC_yX9_cell, kN_RX9, by decide +kernel, by decide +kernel, by decide +kernel, by decide⟩
theorem yv_X9_cell : Yv yX9_cell := ⟨kI_yX9_cell, kS_yX9_cell⟩
theorem yk_X9_copy : Yk yX9_copy cX9_copy 8 (some .int) 5 := ⟨by decide +kernel, kC_yX9_copy, kN_RX9, by decide +kernel, by decide +kernel, by decide +kernel, by decide⟩
theorem yv_X9_copy : Yv yX9_copy := ⟨kI_yX9_copy, kS_yX9_copy⟩
theorem yk_X9_tell : Yk yX9_tell cX9_tell 3 (some .int) 1 := ⟨by decide +kernel, kC_yX9_tell, kN_RX9, by decide +kernel, by decide +kernel, by decide +kernel, by decide⟩
theorem yv_X9_tell : Yv yX9_tell := ⟨kI_yX9_tell, kS_yX9_tell⟩
theorem yk_X9_tellHeld : Yk yX9_tellHeld cX9_tellHeld 3 (some .int) 1 := ⟨by decide +kernel, kC_yX9_tellHeld, kN_RX9, by decide +kernel, by decide +kernel, by decide +kernel, by decide⟩
theorem yv_X9_tellHeld : Yv yX9_tellHeld := ⟨kI_yX9_tellHeld, kS_yX9_tellHeld⟩
theorem yk_X9_leaveTrace : Yk yX9_leaveTrace cX9_leaveTrace 2 none 1 := ⟨by decide +kernel, kC_yX9_leaveTrace, kN_RX9, by decide +kernel, by decide +kernel, by decide +kernel, by decide⟩
theorem yv_X9_leaveTrace : Yv yX9_leaveTrace := ⟨kI_yX9_leaveTrace, kS_yX9_leaveTrace⟩
theorem yk_X9_tellSlow : Yk yX9_tellSlow cX9_tellSlow 2 (some .int) 1 := ⟨by decide +kernel, kC_yX9_tellSlow, kN_RX9, by decide +kernel, by decide +kernel, by decide +kernel, by decide⟩
theorem yv_X9_tellSlow : Yv yX9_tellSlow := ⟨kI_yX9_tellSlow, kS_yX9_tellSlow⟩
theorem yk_X9_tellChild : Yk yX9_tellChild cX9_tellChild 2 (some .int) 1 := ⟨by decide +kernel, kC_yX9_tellChild, kN_RX9, by decide +kernel, by decide +kernel, by decide +kernel, by decide⟩
theorem yv_X9_tellChild : Yv yX9_tellChild := ⟨kI_yX9_tellChild, kS_yX9_tellChild⟩
theorem yk_X9_tag : Yk yX9_tag cX9_tag 2 (some .int) 1 := ⟨by decide +kernel, kC_yX9_tag, kN_RX9, by decide +kernel, by decide +kernel, by decide +kernel, by decide⟩
theorem yv_X9_tag : Yv yX9_tag := ⟨kI_yX9_tag, kS_yX9_tag⟩
theorem yk_X9_as : Yk yX9_as cX9_as 3 (some .int) 2 := ⟨by decide +kernel, kC_yX9_as, kN_RX9, by decide +kernel, by decide +kernel, by decide +kernel, by decide⟩
theorem yv_X9_as : Yv yX9_as := ⟨kI_yX9_as, kS_yX9_as⟩
theorem yk_X9_trace : Yk yX9_trace cX9_trace 1 (some .int) 0 := ⟨by decide +kernel, kC_yX9_trace, kN_RX9, by decide +kernel, by decide +kernel, by decide +kernel, by decide⟩
theorem yv_X9_trace : Yv yX9_trace := ⟨kI_yX9_trace, kS_yX9_trace⟩
theorem yk_X9_fault : Yk yX9_fault cX9_fault 1 (some .int) 0 := ⟨by decide +kernel, kC_yX9_fault, kN_RX9, by decide +kernel, by decide +kernel, by decide +kernel, by decide⟩
theorem yv_X9_fault : Yv yX9_fault := ⟨kI_yX9_fault, kS_yX9_fault⟩
theorem yk_X9_many : Yk yX9_many cX9_many 2 (some .int) 1 := ⟨by decide +kernel, kC_yX9_many, kN_RX9, by decide +kernel, by decide +kernel, by decide +kernel, by decide⟩
theorem yv_X9_many : Yv yX9_many := ⟨kI_yX9_many, kS_yX9_many⟩
theorem yk_X7_crossings : Yk yX7_crossings cX7_crossings 3 (some .int) 0 := ⟨by decide +kernel, kC_yX7_crossings, kN_RX7, by decide +kernel, by decide +kernel, by decide +kernel, by decide⟩
theorem yv_X7_crossings : Yv yX7_crossings := ⟨kI_yX7_crossings, kS_yX7_crossings⟩
theorem yk_X9_pairs : Yk yX9_pairs cX9_pairs 4 (some .int) 1 := ⟨by decide +kernel, kC_yX9_pairs, kN_RX9, by decide +kernel, by decide +kernel, by decide +kernel, by decide⟩
theorem yv_X9_pairs : Yv yX9_pairs := ⟨kI_yX9_pairs, kS_yX9_pairs⟩
theorem yk_X10_init : Yk yX10_init cX10_init 1 none 0 := ⟨by decide +kernel, kC_yX10_init, kN_RX10, by decide +kernel, by decide +kernel, by decide +kernel, by decide⟩
theorem yk_X10_streets : Yk yX10_streets cX10_streets 8 (some .int) 4 := ⟨by decide +kernel, kC_yX10_streets, kN_RX10, by decide +kernel, by decide +kernel, by decide +kernel, by decide⟩
theorem yv_X10_streets : Yv yX10_streets := ⟨kI_yX10_streets, kS_yX10_streets⟩
theorem yk_X10_isSheet : Yk yX10_isSheet cX10_isSheet 1 (some .boolean) 1 := ⟨by decide +kernel, kC_yX10_isSheet, kN_RX10, by decide +kernel, by decide +kernel, by decide +kernel, by decide⟩
theorem yk_X10_within : Yk yX10_within cX10_within 3 (some .boolean) 3 := ⟨by decide +kernel, kC_yX10_within, kN_RX10, by decide +kernel, by decide +kernel, by decide +kernel, by decide⟩
theorem yk_X10_isSort : Yk yX10_isSort cX10_isSort 1 (some .boolean) 1 := ⟨by decide +kernel, kC_yX10_isSort, kN_RX10, by decide +kernel, by decide +kernel, by decide +kernel, by decide⟩
theorem yk_X10_against : Yk yX10_against cX10_against 5 (some .int) 4 := ⟨by decide +kernel, kC_yX10_against, kN_RX10, by decide +kernel, by decide +kernel, by decide +kernel, by decide⟩
theorem yv_X10_against : Yv yX10_against := ⟨kI_yX10_against, kS_yX10_against⟩
theorem yk_X10_fails : Yk yX10_fails cX10_fails 2 (some .int) 1 := ⟨by decide +kernel, kC_yX10_fails, kN_RX10, by decide +kernel, by decide +kernel, by decide +kernel, by decide⟩
theorem yv_X10_fails : Yv yX10_fails := ⟨kI_yX10_fails, kS_yX10_fails⟩
theorem yk_X10_readStreets : Yk yX10_readStreets cX10_readStreets 4 (some .int) 2 := ⟨by decide +kernel, kC_yX10_readStreets, kN_RX10, by decide +kernel, by decide +kernel, by decide +kernel, by decide⟩
theorem yv_X10_readStreets : Yv yX10_readStreets := ⟨kI_yX10_readStreets, kS_yX10_readStreets⟩
theorem yk_X10_digitAt : Yk yX10_digitAt cX10_digitAt 3 (some .int) 2 := ⟨by decide +kernel, kC_yX10_digitAt, kN_RX10, by decide +kernel, by decide +kernel, by decide +kernel, by decide⟩
theorem yv_X10_digitAt : Yv yX10_digitAt := ⟨kI_yX10_digitAt, kS_yX10_digitAt⟩
theorem yk_X10_readRoad : Yk yX10_readRoad cX10_readRoad 5 (some .boolean) 1 := ⟨by decide +kernel, kC_yX10_readRoad, kN_RX10, by decide +kernel, by decide +kernel, by decide +kernel, by decide⟩
theorem yv_X10_readRoad : Yv yX10_readRoad := ⟨kI_yX10_readRoad, kS_yX10_readRoad⟩
theorem yk_X10_takes : Yk yX10_takes cX10_takes 6 (some .boolean) 4 := ⟨by decide +kernel, kC_yX10_takes, kN_RX10, by decide +kernel, by decide +kernel, by decide +kernel, by decide⟩
theorem yv_X10_takes : Yv yX10_takes := ⟨kI_yX10_takes, kS_yX10_takes⟩
theorem yk_X10_layFar : Yk yX10_layFar cX10_layFar 6 none 0 := ⟨by decide +kernel, kC_yX10_layFar, kN_RX10, by decide +kernel, by decide +kernel, by decide +kernel, by decide⟩
theorem yv_X10_layFar : Yv yX10_layFar := ⟨kI_yX10_layFar, kS_yX10_layFar⟩
theorem yk_X10_costOf : Yk yX10_costOf cX10_costOf 2 (some .int) 1 := ⟨by decide +kernel, kC_yX10_costOf, kN_RX10, by decide +kernel, by decide +kernel, by decide +kernel, by decide⟩
theorem yv_X10_costOf : Yv yX10_costOf := ⟨kI_yX10_costOf, kS_yX10_costOf⟩
theorem yk_X10_ofRoad : Yk yX10_ofRoad cX10_ofRoad 3 (some .int) 2 := ⟨by decide +kernel, kC_yX10_ofRoad, kN_RX10, by decide +kernel, by decide +kernel, by decide +kernel, by decide⟩
theorem yv_X10_ofRoad : Yv yX10_ofRoad := ⟨kI_yX10_ofRoad, kS_yX10_ofRoad⟩
theorem yk_X10_way : Yk yX10_way cX10_way 4 (some .int) 3 := ⟨by decide +kernel, kC_yX10_way, kN_RX10, by decide +kernel, by decide +kernel, by decide +kernel, by decide⟩
theorem yv_X10_way : Yv yX10_way := ⟨kI_yX10_way, kS_yX10_way⟩
theorem yk_X10_isCorner : Yk yX10_isCorner cX10_isCorner 2 (some .boolean) 1 := ⟨by decide +kernel, kC_yX10_isCorner, kN_RX10, by decide +kernel, by decide +kernel, by decide +kernel, by decide⟩
theorem yv_X10_isCorner : Yv yX10_isCorner := ⟨kI_yX10_isCorner, kS_yX10_isCorner⟩
theorem yk_X10_isWay : Yk yX10_isWay cX10_isWay 3 (some .boolean) 2 := ⟨by decide +kernel, kC_yX10_isWay, kN_RX10, by decide +kernel, by decide +kernel, by decide +kernel, by decide⟩
theorem yv_X10_isWay : Yv yX10_isWay := ⟨kI_yX10_isWay, kS_yX10_isWay⟩
theorem yk_X10_roadsOf : Yk yX10_roadsOf cX10_roadsOf 6 (some .int) 2 := ⟨by decide +kernel, kC_yX10_roadsOf, kN_RX10, by decide +kernel, by decide +kernel, by decide +kernel, by decide⟩
theorem yv_X10_roadsOf : Yv yX10_roadsOf := ⟨kI_yX10_roadsOf, kS_yX10_roadsOf⟩
theorem yk_X10_nextRoad : Yk yX10_nextRoad cX10_nextRoad 5 (some .int) 2 := ⟨by decide +kernel, kC_yX10_nextRoad, kN_RX10, by decide +kernel, by decide +kernel, by decide +kernel, by decide⟩
theorem yv_X10_nextRoad : Yv yX10_nextRoad := ⟨kI_yX10_nextRoad, kS_yX10_nextRoad⟩
theorem yk_X10_along : Yk yX10_along cX10_along 7 (some .int) 3 := ⟨by decide +kernel, kC_yX10_along, kN_RX10, by decide +kernel, by decide +kernel, by decide +kernel, by decide⟩
theorem yv_X10_along : Yv yX10_along := ⟨kI_yX10_along, kS_yX10_along⟩
theorem yk_X10_child : Yk yX10_child cX10_child 6 (some .int) 4 := ⟨by decide +kernel, kC_yX10_child, kN_RX10, by decide +kernel, by decide +kernel, by decide +kernel, by decide⟩
theorem yv_X10_child : Yv yX10_child := ⟨kI_yX10_child, kS_yX10_child⟩
theorem yk_X10_ofChild : Yk yX10_ofChild cX10_ofChild 3 (some .int) 2 := ⟨by decide +kernel, kC_yX10_ofChild, kN_RX10, by decide +kernel, by decide +kernel, by decide +kernel, by decide⟩
theorem yv_X10_ofChild : Yv yX10_ofChild := ⟨kI_yX10_ofChild, kS_yX10_ofChild⟩
theorem yk_X10_isChild : Yk yX10_isChild cX10_isChild 2 (some .boolean) 1 := ⟨by decide +kernel, kC_yX10_isChild, kN_RX10, by decide +kernel, by decide +kernel, by decide +kernel, by decide⟩
theorem yv_X10_isChild : Yv yX10_isChild := ⟨kI_yX10_isChild, kS_yX10_isChild⟩
theorem yk_X10_paceOf : Yk yX10_paceOf cX10_paceOf 4 (some .int) 1 := ⟨by decide +kernel, kC_yX10_paceOf, kN_RX10, by decide +kernel, by decide +kernel, by decide +kernel, by decide⟩
theorem yv_X10_paceOf : Yv yX10_paceOf := ⟨kI_yX10_paceOf, kS_yX10_paceOf⟩
theorem yk_X10_tiedTo : Yk yX10_tiedTo cX10_tiedTo 5 (some .int) 2 := ⟨by decide +kernel, kC_yX10_tiedTo, kN_RX10, by decide +kernel, by decide +kernel, by decide +kernel, by decide⟩
theorem yv_X10_tiedTo : Yv yX10_tiedTo := ⟨kI_yX10_tiedTo, kS_yX10_tiedTo⟩
theorem yk_X10_ready : Yk yX10_ready cX10_ready 4 (some .int) 2 := ⟨by decide +kernel, kC_yX10_ready, kN_RX10, by decide +kernel, by decide +kernel, by decide +kernel, by decide⟩
theorem yv_X10_ready : Yv yX10_ready := ⟨kI_yX10_ready, kS_yX10_ready⟩
theorem yk_X10_tie : Yk yX10_tie cX10_tie 5 (some .int) 3 := ⟨by decide +kernel, kC_yX10_tie, kN_RX10, by decide +kernel, by decide +kernel, by decide +kernel, by decide⟩
theorem yv_X10_tie : Yv yX10_tie := ⟨kI_yX10_tie, kS_yX10_tie⟩
theorem yk_X10_late : Yk yX10_late cX10_late 11 (some .long) 9 := ⟨by decide +kernel, kC_yX10_late, kN_RX10, by decide +kernel, by decide +kernel, by decide +kernel, by decide⟩
theorem yv_X10_late : Yv yX10_late := ⟨kI_yX10_late, kS_yX10_late⟩
theorem yk_X10_isSet : Yk yX10_isSet cX10_isSet 2 (some .boolean) 1 := ⟨by decide +kernel, kC_yX10_isSet, kN_RX10, by decide +kernel, by decide +kernel, by decide +kernel, by decide⟩
theorem yv_X10_isSet : Yv yX10_isSet := ⟨kI_yX10_isSet, kS_yX10_isSet⟩
theorem yk_X10_whyNotLine : Yk yX10_whyNotLine cX10_whyNotLine 12 (some .int) 6 := ⟨by decide +kernel, kC_yX10_whyNotLine, kN_RX10, by decide +kernel, by decide +kernel, by decide +kernel, by decide⟩
theorem yv_X10_whyNotLine : Yv yX10_whyNotLine := ⟨kI_yX10_whyNotLine, kS_yX10_whyNotLine⟩
theorem yk_X10_cornersOf : Yk yX10_cornersOf cX10_cornersOf 4 (some .int) 1 := ⟨by decide +kernel, kC_yX10_cornersOf, kN_RX10, by decide +kernel, by decide +kernel, by decide +kernel, by decide⟩
theorem yv_X10_cornersOf : Yv yX10_cornersOf := ⟨kI_yX10_cornersOf, kS_yX10_cornersOf⟩
theorem yk_X10_has : Yk yX10_has cX10_has 2 (some .boolean) 2 := ⟨by decide +kernel, kC_yX10_has, kN_RX10, by decide +kernel, by decide +kernel, by decide +kernel, by decide⟩
theorem yk_X10_bitsOf : Yk yX10_bitsOf cX10_bitsOf 3 (some .int) 1 := ⟨by decide +kernel, kC_yX10_bitsOf, kN_RX10, by decide +kernel, by decide +kernel, by decide +kernel, by decide⟩
theorem yk_X10_crossingsOf : Yk yX10_crossingsOf cX10_crossingsOf 6 (some .int) 1 := ⟨by decide +kernel, kC_yX10_crossingsOf, kN_RX10, by decide +kernel, by decide +kernel, by decide +kernel, by decide⟩
theorem yv_X10_crossingsOf : Yv yX10_crossingsOf := ⟨kI_yX10_crossingsOf, kS_yX10_crossingsOf⟩
theorem yk_X10_lost : Yk yX10_lost cX10_lost 2 (some .long) 1 := ⟨by decide +kernel, kC_yX10_lost, kN_RX10, by decide +kernel, by decide +kernel, by decide +kernel, by decide⟩
theorem yv_X10_lost : Yv yX10_lost := ⟨kI_yX10_lost, kS_yX10_lost⟩
theorem yk_X10_goLine : Yk yX10_goLine cX10_goLine 10 none 4 := ⟨by decide +kernel, kC_yX10_goLine, kN_RX10, by decide +kernel, by decide +kernel, by decide +kernel, by decide⟩
theorem yv_X10_goLine : Yv yX10_goLine := ⟨kI_yX10_goLine, kS_yX10_goLine⟩
theorem yk_X10_goWay : Yk yX10_goWay cX10_goWay 6 none 3 := ⟨by decide +kernel, kC_yX10_goWay, kN_RX10, by decide +kernel, by decide +kernel, by decide +kernel, by decide⟩
theorem yv_X10_goWay : Yv yX10_goWay := ⟨kI_yX10_goWay, kS_yX10_goWay⟩
theorem yk_X10_moveOn : Yk yX10_moveOn cX10_moveOn 5 none 1 := ⟨by decide +kernel, kC_yX10_moveOn, kN_RX10, by decide +kernel, by decide +kernel, by decide +kernel, by decide⟩
theorem yv_X10_moveOn : Yv yX10_moveOn := ⟨kI_yX10_moveOn, kS_yX10_moveOn⟩
theorem yk_X10_cross : Yk yX10_cross cX10_cross 6 none 2 := ⟨by decide +kernel, kC_yX10_cross, kN_RX10, by decide +kernel, by decide +kernel, by decide +kernel, by decide⟩
theorem yv_X10_cross : Yv yX10_cross := ⟨kI_yX10_cross, kS_yX10_cross⟩
theorem yk_X10_waitTill : Yk yX10_waitTill cX10_waitTill 4 none 1 := ⟨by decide +kernel, kC_yX10_waitTill, kN_RX10, by decide +kernel, by decide +kernel, by decide +kernel, by decide⟩
theorem yv_X10_waitTill : Yv yX10_waitTill := ⟨kI_yX10_waitTill, kS_yX10_waitTill⟩
theorem yk_X10_tens : Yk yX10_tens cX10_tens 4 (some .long) 1 := ⟨by decide +kernel, kC_yX10_tens, kN_RX10, by decide +kernel, by decide +kernel, by decide +kernel, by decide⟩
theorem yk_X10_part : Yk yX10_part cX10_part 7 (some .long) 3 := ⟨by decide +kernel, kC_yX10_part, kN_RX10, by decide +kernel, by decide +kernel, by decide +kernel, by decide⟩
theorem yk_X10_common : Yk yX10_common cX10_common 10 (some .long) 2 := ⟨by decide +kernel, kC_yX10_common, kN_RX10, by decide +kernel, by decide +kernel, by decide +kernel, by decide⟩
theorem yk_X10_mean : Yk yX10_mean cX10_mean 13 (some .long) 8 := ⟨by decide +kernel, kC_yX10_mean, kN_RX10, by decide +kernel, by decide +kernel, by decide +kernel, by decide⟩
theorem yv_X10_mean : Yv yX10_mean := ⟨kI_yX10_mean, kS_yX10_mean⟩
theorem yk_X10_start : Yk yX10_start cX10_start 5 (some .int) 4 := ⟨by decide +kernel, kC_yX10_start, kN_RX10, by decide +kernel, by decide +kernel, by decide +kernel, by decide⟩
theorem yv_X10_start : Yv yX10_start := ⟨kI_yX10_start, kS_yX10_start⟩
theorem yk_X10_isAsked : Yk yX10_isAsked cX10_isAsked 4 (some .boolean) 3 := ⟨by decide +kernel, kC_yX10_isAsked, kN_RX10, by decide +kernel, by decide +kernel, by decide +kernel, by decide⟩
theorem yv_X10_isAsked : Yv yX10_isAsked := ⟨kI_yX10_isAsked, kS_yX10_isAsked⟩
theorem yk_X10_mayStart : Yk yX10_mayStart cX10_mayStart 7 (some .boolean) 2 := ⟨by decide +kernel, kC_yX10_mayStart, kN_RX10, by decide +kernel, by decide +kernel, by decide +kernel, by decide⟩
theorem yv_X10_mayStart : Yv yX10_mayStart := ⟨kI_yX10_mayStart, kS_yX10_mayStart⟩
theorem yk_X10_laySetGates : Yk yX10_laySetGates cX10_laySetGates 6 (some .int) 1 := ⟨by decide +kernel, kC_yX10_laySetGates, kN_RX10, by decide +kernel, by decide +kernel, by decide +kernel, by decide⟩
theorem yv_X10_laySetGates : Yv yX10_laySetGates := ⟨kI_yX10_laySetGates, kS_yX10_laySetGates⟩
theorem yk_X10_layOrder : Yk yX10_layOrder cX10_layOrder 6 (some .boolean) 1 := ⟨by decide +kernel, kC_yX10_layOrder, kN_RX10, by decide +kernel, by decide +kernel, by decide +kernel, by decide⟩
theorem yv_X10_layOrder : Yv yX10_layOrder := ⟨kI_yX10_layOrder, kS_yX10_layOrder⟩
theorem yk_X10_findStart : Yk yX10_findStart cX10_findStart 9 none 4 := ⟨by decide +kernel, kC_yX10_findStart, kN_RX10, by decide +kernel, by decide +kernel, by decide +kernel, by decide⟩
theorem yv_X10_findStart : Yv yX10_findStart := ⟨kI_yX10_findStart, kS_yX10_findStart⟩
theorem yk_X10_startBy : Yk yX10_startBy cX10_startBy 10 (some .int) 4 := ⟨by decide +kernel, kC_yX10_startBy, kN_RX10, by decide +kernel, by decide +kernel, by decide +kernel, by decide⟩
theorem yv_X10_startBy : Yv yX10_startBy := ⟨kI_yX10_startBy, kS_yX10_startBy⟩
theorem yk_X10_gate : Yk yX10_gate cX10_gate 6 (some .int) 5 := ⟨by decide +kernel, kC_yX10_gate, kN_RX10, by decide +kernel, by decide +kernel, by decide +kernel, by decide⟩
theorem yv_X10_gate : Yv yX10_gate := ⟨kI_yX10_gate, kS_yX10_gate⟩
theorem yk_X10_holds : Yk yX10_holds cX10_holds 3 (some .int) 1 := ⟨by decide +kernel, kC_yX10_holds, kN_RX10, by decide +kernel, by decide +kernel, by decide +kernel, by decide⟩
theorem yv_X10_holds : Yv yX10_holds := ⟨kI_yX10_holds, kS_yX10_holds⟩
theorem yk_X10_grown : Yk yX10_grown cX10_grown 2 (some .int) 1 := ⟨by decide +kernel, kC_yX10_grown, kN_RX10, by decide +kernel, by decide +kernel, by decide +kernel, by decide⟩
theorem yv_X10_grown : Yv yX10_grown := ⟨kI_yX10_grown, kS_yX10_grown⟩
theorem yk_X10_grownOf : Yk yX10_grownOf cX10_grownOf 4 (some .int) 1 := ⟨by decide +kernel, kC_yX10_grownOf, kN_RX10, by decide +kernel, by decide +kernel, by decide +kernel, by decide⟩
theorem yv_X10_grownOf : Yv yX10_grownOf := ⟨kI_yX10_grownOf, kS_yX10_grownOf⟩
theorem yk_X10_split : Yk yX10_split cX10_split 15 (some .int) 5 := ⟨by decide +kernel, kC_yX10_split, kN_RX10, by decide +kernel, by decide +kernel, by decide +kernel, by decide⟩
theorem yv_X10_split : Yv yX10_split := ⟨kI_yX10_split, kS_yX10_split⟩
theorem yk_X10_startOf : Yk yX10_startOf cX10_startOf 5 (some .int) 4 := ⟨by decide +kernel, kC_yX10_startOf, kN_RX10, by decide +kernel, by decide +kernel, by decide +kernel, by decide⟩
theorem yv_X10_startOf : Yv yX10_startOf := ⟨kI_yX10_startOf, kS_yX10_startOf⟩
theorem yk_X10_ways : Yk yX10_ways cX10_ways 3 (some .long) 2 := ⟨by decide +kernel, kC_yX10_ways, kN_RX10, by decide +kernel, by decide +kernel, by decide +kernel, by decide⟩
theorem yv_X10_ways : Yv yX10_ways := ⟨kI_yX10_ways, kS_yX10_ways⟩
theorem yk_X10_isRope : Yk yX10_isRope cX10_isRope 3 (some .boolean) 2 := ⟨by decide +kernel, kC_yX10_isRope, kN_RX10, by decide +kernel, by decide +kernel, by decide +kernel, by decide⟩
theorem yv_X10_isRope : Yv yX10_isRope := ⟨kI_yX10_isRope, kS_yX10_isRope⟩
theorem yk_X10_layRopes : Yk yX10_layRopes cX10_layRopes 12 none 2 := ⟨by decide +kernel, kC_yX10_layRopes, kN_RX10, by decide +kernel, by decide +kernel, by decide +kernel, by decide⟩
theorem yv_X10_layRopes : Yv yX10_layRopes := ⟨kI_yX10_layRopes, kS_yX10_layRopes⟩
theorem yk_X10_mayBe : Yk yX10_mayBe cX10_mayBe 5 (some .boolean) 4 := ⟨by decide +kernel, kC_yX10_mayBe, kN_RX10, by decide +kernel, by decide +kernel, by decide +kernel, by decide⟩
theorem yv_X10_mayBe : Yv yX10_mayBe := ⟨kI_yX10_mayBe, kS_yX10_mayBe⟩
theorem yk_X10_friendRows : Yk yX10_friendRows cX10_friendRows 4 (some .int) 1 := ⟨by decide +kernel, kC_yX10_friendRows, kN_RX10, by decide +kernel, by decide +kernel, by decide +kernel, by decide⟩
theorem yv_X10_friendRows : Yv yX10_friendRows := ⟨kI_yX10_friendRows, kS_yX10_friendRows⟩
theorem yk_X10_friendly : Yk yX10_friendly cX10_friendly 4 (some .int) 3 := ⟨by decide +kernel, kC_yX10_friendly, kN_RX10, by decide +kernel, by decide +kernel, by decide +kernel, by decide⟩
theorem yv_X10_friendly : Yv yX10_friendly := ⟨kI_yX10_friendly, kS_yX10_friendly⟩
theorem yk_X10_loss : Yk yX10_loss cX10_loss 8 (some .long) 5 := ⟨by decide +kernel, kC_yX10_loss, kN_RX10, by decide +kernel, by decide +kernel, by decide +kernel, by decide⟩
theorem yv_X10_loss : Yv yX10_loss := ⟨kI_yX10_loss, kS_yX10_loss⟩
theorem yk_X10_isLate : Yk yX10_isLate cX10_isLate 3 (some .boolean) 3 := ⟨by decide +kernel, kC_yX10_isLate, kN_RX10, by decide +kernel, by decide +kernel, by decide +kernel, by decide⟩
theorem yk_X10_lossOf : Yk yX10_lossOf cX10_lossOf 7 (some .int) 4 := ⟨by decide +kernel, kC_yX10_lossOf, kN_RX10, by decide +kernel, by decide +kernel, by decide +kernel, by decide⟩
theorem yk_X10_patience : Yk yX10_patience cX10_patience 6 (some .int) 3 := ⟨by decide +kernel, kC_yX10_patience, kN_RX10, by decide +kernel, by decide +kernel, by decide +kernel, by decide⟩
theorem yv_X10_patience : Yv yX10_patience := ⟨kI_yX10_patience, kS_yX10_patience⟩
theorem yk_X10_helper : Yk yX10_helper cX10_helper 2 (some .int) 1 := ⟨by decide +kernel, kC_yX10_helper, kN_RX10, by decide +kernel, by decide +kernel, by decide +kernel, by decide⟩
theorem yv_X10_helper : Yv yX10_helper := ⟨kI_yX10_helper, kS_yX10_helper⟩
theorem yk_X10_days : Yk yX10_days cX10_days 4 (some .int) 2 := ⟨by decide +kernel, kC_yX10_days, kN_RX10, by decide +kernel, by decide +kernel, by decide +kernel, by decide⟩
theorem yv_X10_days : Yv yX10_days := ⟨kI_yX10_days, kS_yX10_days⟩
theorem yk_X10_week : Yk yX10_week cX10_week 3 (some .int) 2 := ⟨by decide +kernel, kC_yX10_week, kN_RX10, by decide +kernel, by decide +kernel, by decide +kernel, by decide⟩
theorem yv_X10_week : Yv yX10_week := ⟨kI_yX10_week, kS_yX10_week⟩
theorem yk_X10_layWeek : Yk yX10_layWeek cX10_layWeek 6 none 1 := ⟨by decide +kernel, kC_yX10_layWeek, kN_RX10, by decide +kernel, by decide +kernel, by decide +kernel, by decide⟩
theorem yv_X10_layWeek : Yv yX10_layWeek := ⟨kI_yX10_layWeek, kS_yX10_layWeek⟩
theorem yk_X10_mayHelp : Yk yX10_mayHelp cX10_mayHelp 5 (some .boolean) 3 := ⟨by decide +kernel, kC_yX10_mayHelp, kN_RX10, by decide +kernel, by decide +kernel, by decide +kernel, by decide⟩
theorem yv_X10_mayHelp : Yv yX10_mayHelp := ⟨kI_yX10_mayHelp, kS_yX10_mayHelp⟩
theorem yk_X10_mostDays : Yk yX10_mostDays cX10_mostDays 6 (some .int) 1 := ⟨by decide +kernel, kC_yX10_mostDays, kN_RX10, by decide +kernel, by decide +kernel, by decide +kernel, by decide⟩
theorem yv_X10_mostDays : Yv yX10_mostDays := ⟨kI_yX10_mostDays, kS_yX10_mostDays⟩
theorem yk_X10_sheet : Yk yX10_sheet cX10_sheet 5 (some .int) 3 := ⟨by decide +kernel, kC_yX10_sheet, kN_RX10, by decide +kernel, by decide +kernel, by decide +kernel, by decide⟩
theorem yv_X10_sheet : Yv yX10_sheet := ⟨kI_yX10_sheet, kS_yX10_sheet⟩
theorem yk_X10_lose : Yk yX10_lose cX10_lose 3 (some .int) 1 := ⟨by decide +kernel, kC_yX10_lose, kN_RX10, by decide +kernel, by decide +kernel, by decide +kernel, by decide⟩
theorem yv_X10_lose : Yv yX10_lose := ⟨kI_yX10_lose, kS_yX10_lose⟩
theorem yk_X10_put : Yk yX10_put cX10_put 4 (some .int) 3 := ⟨by decide +kernel, kC_yX10_put, kN_RX10, by decide +kernel, by decide +kernel, by decide +kernel, by decide⟩
theorem yv_X10_put : Yv yX10_put := ⟨kI_yX10_put, kS_yX10_put⟩
theorem yk_X10_cell : Yk yX10_cell cX10_cell 4 (some .long) 3 := ⟨by decide +kernel, kC_yX10_cell, kN_RX10, by decide +kernel, by decide +kernel, by decide +kernel, by decide⟩
theorem yv_X10_cell : Yv yX10_cell := ⟨kI_yX10_cell, kS_yX10_cell⟩
theorem yk_X10_copy : Yk yX10_copy cX10_copy 10 (some .int) 5 := ⟨by decide +kernel, kC_yX10_copy, kN_RX10, by decide +kernel, by decide +kernel, by decide +kernel, by decide⟩
theorem yv_X10_copy : Yv yX10_copy := ⟨kI_yX10_copy, kS_yX10_copy⟩
theorem yk_X10_tell : Yk yX10_tell cX10_tell 3 (some .int) 1 := ⟨by decide +kernel, kC_yX10_tell, kN_RX10, by decide +kernel, by decide +kernel, by decide +kernel, by decide⟩
theorem yv_X10_tell : Yv yX10_tell := ⟨kI_yX10_tell, kS_yX10_tell⟩
theorem yk_X10_begins : Yk yX10_begins cX10_begins 2 none 1 := ⟨by decide +kernel, kC_yX10_begins, kN_RX10, by decide +kernel, by decide +kernel, by decide +kernel, by decide⟩
theorem yv_X10_begins : Yv yX10_begins := ⟨kI_yX10_begins, kS_yX10_begins⟩
theorem yk_X10_tag : Yk yX10_tag cX10_tag 2 (some .int) 1 := ⟨by decide +kernel, kC_yX10_tag, kN_RX10, by decide +kernel, by decide +kernel, by decide +kernel, by decide⟩
theorem yv_X10_tag : Yv yX10_tag := ⟨kI_yX10_tag, kS_yX10_tag⟩
theorem yk_X10_as : Yk yX10_as cX10_as 3 (some .int) 2 := ⟨by decide +kernel, kC_yX10_as, kN_RX10, by decide +kernel, by decide +kernel, by decide +kernel, by decide⟩
theorem yv_X10_as : Yv yX10_as := ⟨kI_yX10_as, kS_yX10_as⟩
theorem yk_X10_trace : Yk yX10_trace cX10_trace 1 (some .int) 0 := ⟨by decide +kernel, kC_yX10_trace, kN_RX10, by decide +kernel, by decide +kernel, by decide +kernel, by decide⟩
theorem yv_X10_trace : Yv yX10_trace := ⟨kI_yX10_trace, kS_yX10_trace⟩
theorem yk_X10_fault : Yk yX10_fault cX10_fault 1 (some .int) 0 := ⟨by decide +kernel, kC_yX10_fault, kN_RX10, by decide +kernel, by decide +kernel, by decide +kernel, by decide⟩
theorem yv_X10_fault : Yv yX10_fault := ⟨kI_yX10_fault, kS_yX10_fault⟩
theorem yk_X10_many : Yk yX10_many cX10_many 2 (some .int) 1 := ⟨by decide +kernel, kC_yX10_many, kN_RX10, by decide +kernel, by decide +kernel, by decide +kernel, by decide⟩
theorem yv_X10_many : Yv yX10_many := ⟨kI_yX10_many, kS_yX10_many⟩
theorem yk_X10_crossingRoads : Yk yX10_crossingRoads cX10_crossingRoads 3 (some .int) 0 := ⟨by decide +kernel, kC_yX10_crossingRoads, kN_RX10, by decide +kernel, by decide +kernel, by decide +kernel, by decide⟩
theorem yv_X10_crossingRoads : Yv yX10_crossingRoads := ⟨kI_yX10_crossingRoads, kS_yX10_crossingRoads⟩
theorem yk_X10_pairsOf : Yk yX10_pairsOf cX10_pairsOf 4 (some .int) 1 := ⟨by decide +kernel, kC_yX10_pairsOf, kN_RX10, by decide +kernel, by decide +kernel, by decide +kernel, by decide⟩
theorem yv_X10_pairsOf : Yv yX10_pairsOf := ⟨kI_yX10_pairsOf, kS_yX10_pairsOf⟩
section ROWS3
variable {X : KX} {own : String} {cc : ByteArray} {d k0 n0 : Nat} {pc n : Nat} {L : List (Nat × Value)} {S : List Value} {I : KI} {J : KJ} {Rf : KR} {w : va_W}
theorem z_vi_0 (C : Cx X own cc d) (K : Kx X) {idx d' nl ci nn p : Nat} {y : MethodName} {b : ByteArray} {rt : FieldType} {T : u_T} {N : Nat} (hd : decode cc pc = .ok (.invokevirtual idx, 3)) (hn : pc + 3 = n) (hY : Yk y b nl (some rt) 0) (hV : Yv y) (hm : Cond.methodLink own idx y ∈ gW) (hdd : d' < d) (hR : k0 ≤ (xRm X).cells ∧ n0 ≤ (xRm X).slots) (hw : ((S.map fun (v : Value) => v.category).sum).ble 8 = true) (hcl : vwCl[ci]? = some (y.cls, T, N)) (hs : sh p = (ci, nn)) (hc : ci < 11) (hp : p < 110) (M : Mi d' y (wm y b nl (some rt)) [.ref (xad X p)] (xad X) I J Rf (fun r I' J' R' => Z X k0 n0 (V X I' J' R') n L (.int r :: S))) : Z X k0 n0 (V X I J Rf) pc L (.ref (xad X p) :: S) := z_vi (As := []) C K hd hn hY hV hm hdd hR rfl hw hcl hs hc hp M
theorem z_vl_0 (C : Cx X own cc d) (K : Kx X) {idx d' nl ci nn p : Nat} {y : MethodName} {b : ByteArray} {T : u_T} {N : Nat} (hd : decode cc pc = .ok (.invokevirtual idx, 3)) (hn : pc + 3 = n) (hY : Yk y b nl (some .long) 0) (hV : Yv y) (hm : Cond.methodLink own idx y ∈ gW) (hdd : d' < d) (hR : k0 ≤ (xRm X).cells ∧ n0 ≤ (xRm X).slots) (hw : ((S.map fun (v : Value) => v.category).sum).ble 8 = true) (hcl : vwCl[ci]? = some (y.cls, T, N)) (hs : sh p = (ci, nn)) (hc : ci < 11) (hp : p < 110) (M : Ml d' y (wm y b nl (some .long)) [.ref (xad X p)] (xad X) I J Rf (fun r I' J' R' => Z X k0 n0 (V X I' J' R') n L (.long r :: S))) : Z X k0 n0 (V X I J Rf) pc L (.ref (xad X p) :: S) := z_vl (As := []) C K hd hn hY hV hm hdd hR rfl hw hcl hs hc hp M
theorem z_vv_0 (C : Cx X own cc d) (K : Kx X) {idx d' nl ci nn p : Nat} {y : MethodName} {b : ByteArray} {T : u_T} {N : Nat} (hd : decode cc pc = .ok (.invokevirtual idx, 3)) (hn : pc + 3 = n) (hY : Yk y b nl none 0) (hV : Yv y) (hm : Cond.methodLink own idx y ∈ gW) (hdd : d' < d) (hR : k0 ≤ (xRm X).cells ∧ n0 ≤ (xRm X).slots) (hw : ((S.map fun (v : Value) => v.category).sum).ble 8 = true) (hcl : vwCl[ci]? = some (y.cls, T, N)) (hs : sh p = (ci, nn)) (hc : ci < 11) (hp : p < 110) (M : Mv d' y (wm y b nl none) [.ref (xad X p)] (xad X) I J Rf (fun I' J' R' => Z X k0 n0 (V X I' J' R') n L (S))) : Z X k0 n0 (V X I J Rf) pc L (.ref (xad X p) :: S) := z_vv (As := []) C K hd hn hY hV hm hdd hR rfl hw hcl hs hc hp M
theorem z_si_0 (C : Cx X own cc d) (K : Kx X) {idx d' nl : Nat} {y : MethodName} {b : ByteArray} {rt : FieldType} (hd : decode cc pc = .ok (.invokestatic idx, 3)) (hn : pc + 3 = n) (hY : Yk y b nl (some rt) 0) (hV : Cond.static y ∈ gW) (hm : Cond.methodLink own idx y ∈ gW) (hdd : d' < d) (hR : k0 ≤ (xRm X).cells ∧ n0 ≤ (xRm X).slots) (hw : ((S.map fun (v : Value) => v.category).sum).ble 8 = true) (M : Mi d' y (wm y b nl (some rt)) [] (xad X) I J Rf (fun r I' J' R' => Z X k0 n0 (V X I' J' R') n L (.int r :: S))) : Z X k0 n0 (V X I J Rf) pc L (S) := z_si (As := []) C K hd hn hY hV hm hdd hR rfl hw M
theorem z_sl_0 (C : Cx X own cc d) (K : Kx X) {idx d' nl : Nat} {y : MethodName} {b : ByteArray} (hd : decode cc pc = .ok (.invokestatic idx, 3)) (hn : pc + 3 = n) (hY : Yk y b nl (some .long) 0) (hV : Cond.static y ∈ gW) (hm : Cond.methodLink own idx y ∈ gW) (hdd : d' < d) (hR : k0 ≤ (xRm X).cells ∧ n0 ≤ (xRm X).slots) (hw : ((S.map fun (v : Value) => v.category).sum).ble 8 = true) (M : Ml d' y (wm y b nl (some .long)) [] (xad X) I J Rf (fun r I' J' R' => Z X k0 n0 (V X I' J' R') n L (.long r :: S))) : Z X k0 n0 (V X I J Rf) pc L (S) := z_sl (As := []) C K hd hn hY hV hm hdd hR rfl hw M
theorem z_sv_0 (C : Cx X own cc d) (K : Kx X) {idx d' nl : Nat} {y : MethodName} {b : ByteArray} (hd : decode cc pc = .ok (.invokestatic idx, 3)) (hn : pc + 3 = n) (hY : Yk y b nl none 0) (hV : Cond.static y ∈ gW) (hm : Cond.methodLink own idx y ∈ gW) (hdd : d' < d) (hR : k0 ≤ (xRm X).cells ∧ n0 ≤ (xRm X).slots) (hw : ((S.map fun (v : Value) => v.category).sum).ble 8 = true) (M : Mv d' y (wm y b nl none) [] (xad X) I J Rf (fun I' J' R' => Z X k0 n0 (V X I' J' R') n L (S))) : Z X k0 n0 (V X I J Rf) pc L (S) := z_sv (As := []) C K hd hn hY hV hm hdd hR rfl hw M
theorem z_vi_1 (C : Cx X own cc d) (K : Kx X) {idx d' nl ci nn p : Nat} {y : MethodName} {b : ByteArray} {rt : FieldType} {v0 : Value} {T : u_T} {N : Nat} (hd : decode cc pc = .ok (.invokevirtual idx, 3)) (hn : pc + 3 = n) (hY : Yk y b nl (some rt) 1) (hV : Yv y) (hm : Cond.methodLink own idx y ∈ gW) (hdd : d' < d) (hR : k0 ≤ (xRm X).cells ∧ n0 ≤ (xRm X).slots) (hw : ((S.map fun (v : Value) => v.category).sum).ble 8 = true) (hcl : vwCl[ci]? = some (y.cls, T, N)) (hs : sh p = (ci, nn)) (hc : ci < 11) (hp : p < 110) (M : Mi d' y (wm y b nl (some rt)) [.ref (xad X p), v0] (xad X) I J Rf (fun r I' J' R' => Z X k0 n0 (V X I' J' R') n L (.int r :: S))) : Z X k0 n0 (V X I J Rf) pc L (v0 :: .ref (xad X p) :: S) := z_vi (As := [v0]) C K hd hn hY hV hm hdd hR rfl hw hcl hs hc hp M
theorem z_vl_1 (C : Cx X own cc d) (K : Kx X) {idx d' nl ci nn p : Nat} {y : MethodName} {b : ByteArray} {v0 : Value} {T : u_T} {N : Nat} (hd : decode cc pc = .ok (.invokevirtual idx, 3)) (hn : pc + 3 = n) (hY : Yk y b nl (some .long) 1) (hV : Yv y) (hm : Cond.methodLink own idx y ∈ gW) (hdd : d' < d) (hR : k0 ≤ (xRm X).cells ∧ n0 ≤ (xRm X).slots) (hw : ((S.map fun (v : Value) => v.category).sum).ble 8 = true) (hcl : vwCl[ci]? = some (y.cls, T, N)) (hs : sh p = (ci, nn)) (hc : ci < 11) (hp : p < 110) (M : Ml d' y (wm y b nl (some .long)) [.ref (xad X p), v0] (xad X) I J Rf (fun r I' J' R' => Z X k0 n0 (V X I' J' R') n L (.long r :: S))) : Z X k0 n0 (V X I J Rf) pc L (v0 :: .ref (xad X p) :: S) := z_vl (As := [v0]) C K hd hn hY hV hm hdd hR rfl hw hcl hs hc hp M
theorem z_vv_1 (C : Cx X own cc d) (K : Kx X) {idx d' nl ci nn p : Nat} {y : MethodName} {b : ByteArray} {v0 : Value} {T : u_T} {N : Nat} (hd : decode cc pc = .ok (.invokevirtual idx, 3)) (hn : pc + 3 = n) (hY : Yk y b nl none 1) (hV : Yv y) (hm : Cond.methodLink own idx y ∈ gW) (hdd : d' < d) (hR : k0 ≤ (xRm X).cells ∧ n0 ≤ (xRm X).slots) (hw : ((S.map fun (v : Value) => v.category).sum).ble 8 = true) (hcl : vwCl[ci]? = some (y.cls, T, N)) (hs : sh p = (ci, nn)) (hc : ci < 11) (hp : p < 110) (M : Mv d' y (wm y b nl none) [.ref (xad X p), v0] (xad X) I J Rf (fun I' J' R' => Z X k0 n0 (V X I' J' R') n L (S))) : Z X k0 n0 (V X I J Rf) pc L (v0 :: .ref (xad X p) :: S) := z_vv (As := [v0]) C K hd hn hY hV hm hdd hR rfl hw hcl hs hc hp M
theorem z_si_1 (C : Cx X own cc d) (K : Kx X) {idx d' nl : Nat} {y : MethodName} {b : ByteArray} {rt : FieldType} {v0 : Value} (hd : decode cc pc = .ok (.invokestatic idx, 3)) (hn : pc + 3 = n) (hY : Yk y b nl (some rt) 1) (hV : Cond.static y ∈ gW) (hm : Cond.methodLink own idx y ∈ gW) (hdd : d' < d) (hR : k0 ≤ (xRm X).cells ∧ n0 ≤ (xRm X).slots) (hw : ((S.map fun (v : Value) => v.category).sum).ble 8 = true) (M : Mi d' y (wm y b nl (some rt)) [v0] (xad X) I J Rf (fun r I' J' R' => Z X k0 n0 (V X I' J' R') n L (.int r :: S))) : Z X k0 n0 (V X I J Rf) pc L (v0 :: S) := z_si (As := [v0]) C K hd hn hY hV hm hdd hR rfl hw M
theorem z_sl_1 (C : Cx X own cc d) (K : Kx X) {idx d' nl : Nat} {y : MethodName} {b : ByteArray} {v0 : Value} (hd : decode cc pc = .ok (.invokestatic idx, 3)) (hn : pc + 3 = n) (hY : Yk y b nl (some .long) 1) (hV : Cond.static y ∈ gW) (hm : Cond.methodLink own idx y ∈ gW) (hdd : d' < d) (hR : k0 ≤ (xRm X).cells ∧ n0 ≤ (xRm X).slots) (hw : ((S.map fun (v : Value) => v.category).sum).ble 8 = true) (M : Ml d' y (wm y b nl (some .long)) [v0] (xad X) I J Rf (fun r I' J' R' => Z X k0 n0 (V X I' J' R') n L (.long r :: S))) : Z X k0 n0 (V X I J Rf) pc L (v0 :: S) := z_sl (As := [v0]) C K hd hn hY hV hm hdd hR rfl hw M
theorem z_sv_1 (C : Cx X own cc d) (K : Kx X) {idx d' nl : Nat} {y : MethodName} {b : ByteArray} {v0 : Value} (hd : decode cc pc = .ok (.invokestatic idx, 3)) (hn : pc + 3 = n) (hY : Yk y b nl none 1) (hV : Cond.static y ∈ gW) (hm : Cond.methodLink own idx y ∈ gW) (hdd : d' < d) (hR : k0 ≤ (xRm X).cells ∧ n0 ≤ (xRm X).slots) (hw : ((S.map fun (v : Value) => v.category).sum).ble 8 = true) (M : Mv d' y (wm y b nl none) [v0] (xad X) I J Rf (fun I' J' R' => Z X k0 n0 (V X I' J' R') n L (S))) : Z X k0 n0 (V X I J Rf) pc L (v0 :: S) := z_sv (As := [v0]) C K hd hn hY hV hm hdd hR rfl hw M
theorem z_vi_2 (C : Cx X own cc d) (K : Kx X) {idx d' nl ci nn p : Nat} {y : MethodName} {b : ByteArray} {rt : FieldType} {v0 v1 : Value} {T : u_T} {N : Nat} (hd : decode cc pc = .ok (.invokevirtual idx, 3)) (hn : pc + 3 = n) (hY : Yk y b nl (some rt) 2) (hV : Yv y) (hm : Cond.methodLink own idx y ∈ gW) (hdd : d' < d) (hR : k0 ≤ (xRm X).cells ∧ n0 ≤ (xRm X).slots) (hw : ((S.map fun (v : Value) => v.category).sum).ble 8 = true) (hcl : vwCl[ci]? = some (y.cls, T, N)) (hs : sh p = (ci, nn)) (hc : ci < 11) (hp : p < 110) (M : Mi d' y (wm y b nl (some rt)) [.ref (xad X p), v0, v1] (xad X) I J Rf (fun r I' J' R' => Z X k0 n0 (V X I' J' R') n L (.int r :: S))) : Z X k0 n0 (V X I J Rf) pc L (v1 :: v0 :: .ref (xad X p) :: S) := z_vi (As := [v0, v1]) C K hd hn hY hV hm hdd hR rfl hw hcl hs hc hp M
theorem z_vl_2 (C : Cx X own cc d) (K : Kx X) {idx d' nl ci nn p : Nat} {y : MethodName} {b : ByteArray} {v0 v1 : Value} {T : u_T} {N : Nat} (hd : decode cc pc = .ok (.invokevirtual idx, 3)) (hn : pc + 3 = n) (hY : Yk y b nl (some .long) 2) (hV : Yv y) (hm : Cond.methodLink own idx y ∈ gW) (hdd : d' < d) (hR : k0 ≤ (xRm X).cells ∧ n0 ≤ (xRm X).slots) (hw : ((S.map fun (v : Value) => v.category).sum).ble 8 = true) (hcl : vwCl[ci]? = some (y.cls, T, N)) (hs : sh p = (ci, nn)) (hc : ci < 11) (hp : p < 110) (M : Ml d' y (wm y b nl (some .long)) [.ref (xad X p), v0, v1] (xad X) I J Rf (fun r I' J' R' => Z X k0 n0 (V X I' J' R') n L (.long r :: S))) : Z X k0 n0 (V X I J Rf) pc L (v1 :: v0 :: .ref (xad X p) :: S) := z_vl (As := [v0, v1]) C K hd hn hY hV hm hdd hR rfl hw hcl hs hc hp M
theorem z_vv_2 (C : Cx X own cc d) (K : Kx X) {idx d' nl ci nn p : Nat} {y : MethodName} {b : ByteArray} {v0 v1 : Value} {T : u_T} {N : Nat} (hd : decode cc pc = .ok (.invokevirtual idx, 3)) (hn : pc + 3 = n) (hY : Yk y b nl none 2) (hV : Yv y) (hm : Cond.methodLink own idx y ∈ gW) (hdd : d' < d) (hR : k0 ≤ (xRm X).cells ∧ n0 ≤ (xRm X).slots) (hw : ((S.map fun (v : Value) => v.category).sum).ble 8 = true) (hcl : vwCl[ci]? = some (y.cls, T, N)) (hs : sh p = (ci, nn)) (hc : ci < 11) (hp : p < 110) (M : Mv d' y (wm y b nl none) [.ref (xad X p), v0, v1] (xad X) I J Rf (fun I' J' R' => Z X k0 n0 (V X I' J' R') n L (S))) : Z X k0 n0 (V X I J Rf) pc L (v1 :: v0 :: .ref (xad X p) :: S) := z_vv (As := [v0, v1]) C K hd hn hY hV hm hdd hR rfl hw hcl hs hc hp M
theorem z_si_2 (C : Cx X own cc d) (K : Kx X) {idx d' nl : Nat} {y : MethodName} {b : ByteArray} {rt : FieldType} {v0 v1 : Value} (hd : decode cc pc = .ok (.invokestatic idx, 3)) (hn : pc + 3 = n) (hY : Yk y b nl (some rt) 2) (hV : Cond.static y ∈ gW) (hm : Cond.methodLink own idx y ∈ gW) (hdd : d' < d) (hR : k0 ≤ (xRm X).cells ∧ n0 ≤ (xRm X).slots) (hw : ((S.map fun (v : Value) => v.category).sum).ble 8 = true) (M : Mi d' y (wm y b nl (some rt)) [v0, v1] (xad X) I J Rf (fun r I' J' R' => Z X k0 n0 (V X I' J' R') n L (.int r :: S))) : Z X k0 n0 (V X I J Rf) pc L (v1 :: v0 :: S) := z_si (As := [v0, v1]) C K hd hn hY hV hm hdd hR rfl hw M
theorem z_sl_2 (C : Cx X own cc d) (K : Kx X) {idx d' nl : Nat} {y : MethodName} {b : ByteArray} {v0 v1 : Value} (hd : decode cc pc = .ok (.invokestatic idx, 3)) (hn : pc + 3 = n) (hY : Yk y b nl (some .long) 2) (hV : Cond.static y ∈ gW) (hm : Cond.methodLink own idx y ∈ gW) (hdd : d' < d) (hR : k0 ≤ (xRm X).cells ∧ n0 ≤ (xRm X).slots) (hw : ((S.map fun (v : Value) => v.category).sum).ble 8 = true) (M : Ml d' y (wm y b nl (some .long)) [v0, v1] (xad X) I J Rf (fun r I' J' R' => Z X k0 n0 (V X I' J' R') n L (.long r :: S))) : Z X k0 n0 (V X I J Rf) pc L (v1 :: v0 :: S) := z_sl (As := [v0, v1]) C K hd hn hY hV hm hdd hR rfl hw M
theorem z_sv_2 (C : Cx X own cc d) (K : Kx X) {idx d' nl : Nat} {y : MethodName} {b : ByteArray} {v0 v1 : Value} (hd : decode cc pc = .ok (.invokestatic idx, 3)) (hn : pc + 3 = n) (hY : Yk y b nl none 2) (hV : Cond.static y ∈ gW) (hm : Cond.methodLink own idx y ∈ gW) (hdd : d' < d) (hR : k0 ≤ (xRm X).cells ∧ n0 ≤ (xRm X).slots) (hw : ((S.map fun (v : Value) => v.category).sum).ble 8 = true) (M : Mv d' y (wm y b nl none) [v0, v1] (xad X) I J Rf (fun I' J' R' => Z X k0 n0 (V X I' J' R') n L (S))) : Z X k0 n0 (V X I J Rf) pc L (v1 :: v0 :: S) := z_sv (As := [v0, v1]) C K hd hn hY hV hm hdd hR rfl hw M
theorem z_vi_3 (C : Cx X own cc d) (K : Kx X) {idx d' nl ci nn p : Nat} {y : MethodName} {b : ByteArray} {rt : FieldType} {v0 v1 v2 : Value} {T : u_T} {N : Nat} (hd : decode cc pc = .ok (.invokevirtual idx, 3)) (hn : pc + 3 = n) (hY : Yk y b nl (some rt) 3) (hV : Yv y) (hm : Cond.methodLink own idx y ∈ gW) (hdd : d' < d) (hR : k0 ≤ (xRm X).cells ∧ n0 ≤ (xRm X).slots) (hw : ((S.map fun (v : Value) => v.category).sum).ble 8 = true) (hcl : vwCl[ci]? = some (y.cls, T, N)) (hs : sh p = (ci, nn)) (hc : ci < 11) (hp : p < 110) (M : Mi d' y (wm y b nl (some rt)) [.ref (xad X p), v0, v1, v2] (xad X) I J Rf (fun r I' J' R' => Z X k0 n0 (V X I' J' R') n L (.int r :: S))) : Z X k0 n0 (V X I J Rf) pc L (v2 :: v1 :: v0 :: .ref (xad X p) :: S) := z_vi (As := [v0, v1, v2]) C K hd hn hY hV hm hdd hR rfl hw hcl hs hc hp M
theorem z_vl_3 (C : Cx X own cc d) (K : Kx X) {idx d' nl ci nn p : Nat} {y : MethodName} {b : ByteArray} {v0 v1 v2 : Value} {T : u_T} {N : Nat} (hd : decode cc pc = .ok (.invokevirtual idx, 3)) (hn : pc + 3 = n) (hY : Yk y b nl (some .long) 3) (hV : Yv y) (hm : Cond.methodLink own idx y ∈ gW) (hdd : d' < d) (hR : k0 ≤ (xRm X).cells ∧ n0 ≤ (xRm X).slots) (hw : ((S.map fun (v : Value) => v.category).sum).ble 8 = true) (hcl : vwCl[ci]? = some (y.cls, T, N)) (hs : sh p = (ci, nn)) (hc : ci < 11) (hp : p < 110) (M : Ml d' y (wm y b nl (some .long)) [.ref (xad X p), v0, v1, v2] (xad X) I J Rf (fun r I' J' R' => Z X k0 n0 (V X I' J' R') n L (.long r :: S))) : Z X k0 n0 (V X I J Rf) pc L (v2 :: v1 :: v0 :: .ref (xad X p) :: S) := z_vl (As := [v0, v1, v2]) C K hd hn hY hV hm hdd hR rfl hw hcl hs hc hp M
theorem z_vv_3 (C : Cx X own cc d) (K : Kx X) {idx d' nl ci nn p : Nat} {y : MethodName} {b : ByteArray} {v0 v1 v2 : Value} {T : u_T} {N : Nat} (hd : decode cc pc = .ok (.invokevirtual idx, 3)) (hn : pc + 3 = n) (hY : Yk y b nl none 3) (hV : Yv y) (hm : Cond.methodLink own idx y ∈ gW) (hdd : d' < d) (hR : k0 ≤ (xRm X).cells ∧ n0 ≤ (xRm X).slots) (hw : ((S.map fun (v : Value) => v.category).sum).ble 8 = true) (hcl : vwCl[ci]? = some (y.cls, T, N)) (hs : sh p = (ci, nn)) (hc : ci < 11) (hp : p < 110) (M : Mv d' y (wm y b nl none) [.ref (xad X p), v0, v1, v2] (xad X) I J Rf (fun I' J' R' => Z X k0 n0 (V X I' J' R') n L (S))) : Z X k0 n0 (V X I J Rf) pc L (v2 :: v1 :: v0 :: .ref (xad X p) :: S) := z_vv (As := [v0, v1, v2]) C K hd hn hY hV hm hdd hR rfl hw hcl hs hc hp M
theorem z_si_3 (C : Cx X own cc d) (K : Kx X) {idx d' nl : Nat} {y : MethodName} {b : ByteArray} {rt : FieldType} {v0 v1 v2 : Value} (hd : decode cc pc = .ok (.invokestatic idx, 3)) (hn : pc + 3 = n) (hY : Yk y b nl (some rt) 3) (hV : Cond.static y ∈ gW) (hm : Cond.methodLink own idx y ∈ gW) (hdd : d' < d) (hR : k0 ≤ (xRm X).cells ∧ n0 ≤ (xRm X).slots) (hw : ((S.map fun (v : Value) => v.category).sum).ble 8 = true) (M : Mi d' y (wm y b nl (some rt)) [v0, v1, v2] (xad X) I J Rf (fun r I' J' R' => Z X k0 n0 (V X I' J' R') n L (.int r :: S))) : Z X k0 n0 (V X I J Rf) pc L (v2 :: v1 :: v0 :: S) := z_si (As := [v0, v1, v2]) C K hd hn hY hV hm hdd hR rfl hw M
theorem z_siN_3 (C : Cx X own cc d) (K : Kx X) {idx d' nl : Nat} {y : MethodName} {b : ByteArray} {rt : FieldType} {v0 v1 v2 : Value} {host : String} (hd : decode cc pc = .ok (.invokestatic idx, 3)) (hn : pc + 3 = n) (hY : Yk y b nl (some rt) 3) (hV : Cond.static y ∈ gW) (hm : (own, idx, y, host) ∈ nestM) (hdd : d' < d) (hR : k0 ≤ (xRm X).cells ∧ n0 ≤ (xRm X).slots) (hw : ((S.map fun (v : Value) => v.category).sum).ble 8 = true) (M : Mi d' y (wm y b nl (some rt)) [v0, v1, v2] (xad X) I J Rf (fun r I' J' R' => Z X k0 n0 (V X I' J' R') n L (.int r :: S))) : Z X k0 n0 (V X I J Rf) pc L (v2 :: v1 :: v0 :: S) := z_siN (As := [v0, v1, v2]) C K hd hn hY hV hm hdd hR rfl hw M
theorem z_sl_3 (C : Cx X own cc d) (K : Kx X) {idx d' nl : Nat} {y : MethodName} {b : ByteArray} {v0 v1 v2 : Value} (hd : decode cc pc = .ok (.invokestatic idx, 3)) (hn : pc + 3 = n) (hY : Yk y b nl (some .long) 3) (hV : Cond.static y ∈ gW) (hm : Cond.methodLink own idx y ∈ gW) (hdd : d' < d) (hR : k0 ≤ (xRm X).cells ∧ n0 ≤ (xRm X).slots) (hw : ((S.map fun (v : Value) => v.category).sum).ble 8 = true) (M : Ml d' y (wm y b nl (some .long)) [v0, v1, v2] (xad X) I J Rf (fun r I' J' R' => Z X k0 n0 (V X I' J' R') n L (.long r :: S))) : Z X k0 n0 (V X I J Rf) pc L (v2 :: v1 :: v0 :: S) := z_sl (As := [v0, v1, v2]) C K hd hn hY hV hm hdd hR rfl hw M
theorem z_sv_3 (C : Cx X own cc d) (K : Kx X) {idx d' nl : Nat} {y : MethodName} {b : ByteArray} {v0 v1 v2 : Value} (hd : decode cc pc = .ok (.invokestatic idx, 3)) (hn : pc + 3 = n) (hY : Yk y b nl none 3) (hV : Cond.static y ∈ gW) (hm : Cond.methodLink own idx y ∈ gW) (hdd : d' < d) (hR : k0 ≤ (xRm X).cells ∧ n0 ≤ (xRm X).slots) (hw : ((S.map fun (v : Value) => v.category).sum).ble 8 = true) (M : Mv d' y (wm y b nl none) [v0, v1, v2] (xad X) I J Rf (fun I' J' R' => Z X k0 n0 (V X I' J' R') n L (S))) : Z X k0 n0 (V X I J Rf) pc L (v2 :: v1 :: v0 :: S) := z_sv (As := [v0, v1, v2]) C K hd hn hY hV hm hdd hR rfl hw M
theorem z_vi_4 (C : Cx X own cc d) (K : Kx X) {idx d' nl ci nn p : Nat} {y : MethodName} {b : ByteArray} {rt : FieldType} {v0 v1 v2 v3 : Value} {T : u_T} {N : Nat} (hd : decode cc pc = .ok (.invokevirtual idx, 3)) (hn : pc + 3 = n) (hY : Yk y b nl (some rt) 4) (hV : Yv y) (hm : Cond.methodLink own idx y ∈ gW) (hdd : d' < d) (hR : k0 ≤ (xRm X).cells ∧ n0 ≤ (xRm X).slots) (hw : ((S.map fun (v : Value) => v.category).sum).ble 8 = true) (hcl : vwCl[ci]? = some (y.cls, T, N)) (hs : sh p = (ci, nn)) (hc : ci < 11) (hp : p < 110) (M : Mi d' y (wm y b nl (some rt)) [.ref (xad X p), v0, v1, v2, v3] (xad X) I J Rf (fun r I' J' R' => Z X k0 n0 (V X I' J' R') n L (.int r :: S))) : Z X k0 n0 (V X I J Rf) pc L (v3 :: v2 :: v1 :: v0 :: .ref (xad X p) :: S) := z_vi (As := [v0, v1, v2, v3]) C K hd hn hY hV hm hdd hR rfl hw hcl hs hc hp M
theorem z_vl_4 (C : Cx X own cc d) (K : Kx X) {idx d' nl ci nn p : Nat} {y : MethodName} {b : ByteArray} {v0 v1 v2 v3 : Value} {T : u_T} {N : Nat} (hd : decode cc pc = .ok (.invokevirtual idx, 3)) (hn : pc + 3 = n) (hY : Yk y b nl (some .long) 4) (hV : Yv y) (hm : Cond.methodLink own idx y ∈ gW) (hdd : d' < d) (hR : k0 ≤ (xRm X).cells ∧ n0 ≤ (xRm X).slots) (hw : ((S.map fun (v : Value) => v.category).sum).ble 8 = true) (hcl : vwCl[ci]? = some (y.cls, T, N)) (hs : sh p = (ci, nn)) (hc : ci < 11) (hp : p < 110) (M : Ml d' y (wm y b nl (some .long)) [.ref (xad X p), v0, v1, v2, v3] (xad X) I J Rf (fun r I' J' R' => Z X k0 n0 (V X I' J' R') n L (.long r :: S))) : Z X k0 n0 (V X I J Rf) pc L (v3 :: v2 :: v1 :: v0 :: .ref (xad X p) :: S) := z_vl (As := [v0, v1, v2, v3]) C K hd hn hY hV hm hdd hR rfl hw hcl hs hc hp M
theorem z_vv_4 (C : Cx X own cc d) (K : Kx X) {idx d' nl ci nn p : Nat} {y : MethodName} {b : ByteArray} {v0 v1 v2 v3 : Value} {T : u_T} {N : Nat} (hd : decode cc pc = .ok (.invokevirtual idx, 3)) (hn : pc + 3 = n) (hY : Yk y b nl none 4) (hV : Yv y) (hm : Cond.methodLink own idx y ∈ gW) (hdd : d' < d) (hR : k0 ≤ (xRm X).cells ∧ n0 ≤ (xRm X).slots) (hw : ((S.map fun (v : Value) => v.category).sum).ble 8 = true) (hcl : vwCl[ci]? = some (y.cls, T, N)) (hs : sh p = (ci, nn)) (hc : ci < 11) (hp : p < 110) (M : Mv d' y (wm y b nl none) [.ref (xad X p), v0, v1, v2, v3] (xad X) I J Rf (fun I' J' R' => Z X k0 n0 (V X I' J' R') n L (S))) : Z X k0 n0 (V X I J Rf) pc L (v3 :: v2 :: v1 :: v0 :: .ref (xad X p) :: S) := z_vv (As := [v0, v1, v2, v3]) C K hd hn hY hV hm hdd hR rfl hw hcl hs hc hp M
theorem z_si_4 (C : Cx X own cc d) (K : Kx X) {idx d' nl : Nat} {y : MethodName} {b : ByteArray} {rt : FieldType} {v0 v1 v2 v3 : Value} (hd : decode cc pc = .ok (.invokestatic idx, 3)) (hn : pc + 3 = n) (hY : Yk y b nl (some rt) 4) (hV : Cond.static y ∈ gW) (hm : Cond.methodLink own idx y ∈ gW) (hdd : d' < d) (hR : k0 ≤ (xRm X).cells ∧ n0 ≤ (xRm X).slots) (hw : ((S.map fun (v : Value) => v.category).sum).ble 8 = true) (M : Mi d' y (wm y b nl (some rt)) [v0, v1, v2, v3] (xad X) I J Rf (fun r I' J' R' => Z X k0 n0 (V X I' J' R') n L (.int r :: S))) : Z X k0 n0 (V X I J Rf) pc L (v3 :: v2 :: v1 :: v0 :: S) := z_si (As := [v0, v1, v2, v3]) C K hd hn hY hV hm hdd hR rfl hw M
theorem z_sl_4 (C : Cx X own cc d) (K : Kx X) {idx d' nl : Nat} {y : MethodName} {b : ByteArray} {v0 v1 v2 v3 : Value} (hd : decode cc pc = .ok (.invokestatic idx, 3)) (hn : pc + 3 = n) (hY : Yk y b nl (some .long) 4) (hV : Cond.static y ∈ gW) (hm : Cond.methodLink own idx y ∈ gW) (hdd : d' < d) (hR : k0 ≤ (xRm X).cells ∧ n0 ≤ (xRm X).slots) (hw : ((S.map fun (v : Value) => v.category).sum).ble 8 = true) (M : Ml d' y (wm y b nl (some .long)) [v0, v1, v2, v3] (xad X) I J Rf (fun r I' J' R' => Z X k0 n0 (V X I' J' R') n L (.long r :: S))) : Z X k0 n0 (V X I J Rf) pc L (v3 :: v2 :: v1 :: v0 :: S) := z_sl (As := [v0, v1, v2, v3]) C K hd hn hY hV hm hdd hR rfl hw M
theorem z_sv_4 (C : Cx X own cc d) (K : Kx X) {idx d' nl : Nat} {y : MethodName} {b : ByteArray} {v0 v1 v2 v3 : Value} (hd : decode cc pc = .ok (.invokestatic idx, 3)) (hn : pc + 3 = n) (hY : Yk y b nl none 4) (hV : Cond.static y ∈ gW) (hm : Cond.methodLink own idx y ∈ gW) (hdd : d' < d) (hR : k0 ≤ (xRm X).cells ∧ n0 ≤ (xRm X).slots) (hw : ((S.map fun (v : Value) => v.category).sum).ble 8 = true) (M : Mv d' y (wm y b nl none) [v0, v1, v2, v3] (xad X) I J Rf (fun I' J' R' => Z X k0 n0 (V X I' J' R') n L (S))) : Z X k0 n0 (V X I J Rf) pc L (v3 :: v2 :: v1 :: v0 :: S) := z_sv (As := [v0, v1, v2, v3]) C K hd hn hY hV hm hdd hR rfl hw M
theorem z_vi_5 (C : Cx X own cc d) (K : Kx X) {idx d' nl ci nn p : Nat} {y : MethodName} {b : ByteArray} {rt : FieldType} {v0 v1 v2 v3 v4 : Value} {T : u_T} {N : Nat} (hd : decode cc pc = .ok (.invokevirtual idx, 3)) (hn : pc + 3 = n) (hY : Yk y b nl (some rt) 5) (hV : Yv y) (hm : Cond.methodLink own idx y ∈ gW) (hdd : d' < d) (hR : k0 ≤ (xRm X).cells ∧ n0 ≤ (xRm X).slots) (hw : ((S.map fun (v : Value) => v.category).sum).ble 8 = true) (hcl : vwCl[ci]? = some (y.cls, T, N)) (hs : sh p = (ci, nn)) (hc : ci < 11) (hp : p < 110) (M : Mi d' y (wm y b nl (some rt)) [.ref (xad X p), v0, v1, v2, v3, v4] (xad X) I J Rf (fun r I' J' R' => Z X k0 n0 (V X I' J' R') n L (.int r :: S))) : Z X k0 n0 (V X I J Rf) pc L (v4 :: v3 :: v2 :: v1 :: v0 :: .ref (xad X p) :: S) := z_vi (As := [v0, v1, v2, v3, v4]) C K hd hn hY hV hm hdd hR rfl hw hcl hs hc hp M
theorem z_vl_5 (C : Cx X own cc d) (K : Kx X) {idx d' nl ci nn p : Nat} {y : MethodName} {b : ByteArray} {v0 v1 v2 v3 v4 : Value} {T : u_T} {N : Nat} (hd : decode cc pc = .ok (.invokevirtual idx, 3)) (hn : pc + 3 = n) (hY : Yk y b nl (some .long) 5) (hV : Yv y) (hm : Cond.methodLink own idx y ∈ gW) (hdd : d' < d) (hR : k0 ≤ (xRm X).cells ∧ n0 ≤ (xRm X).slots) (hw : ((S.map fun (v : Value) => v.category).sum).ble 8 = true) (hcl : vwCl[ci]? = some (y.cls, T, N)) (hs : sh p = (ci, nn)) (hc : ci < 11) (hp : p < 110) (M : Ml d' y (wm y b nl (some .long)) [.ref (xad X p), v0, v1, v2, v3, v4] (xad X) I J Rf (fun r I' J' R' => Z X k0 n0 (V X I' J' R') n L (.long r :: S))) : Z X k0 n0 (V X I J Rf) pc L (v4 :: v3 :: v2 :: v1 :: v0 :: .ref (xad X p) :: S) := z_vl (As := [v0, v1, v2, v3, v4]) C K hd hn hY hV hm hdd hR rfl hw hcl hs hc hp M
theorem z_vv_5 (C : Cx X own cc d) (K : Kx X) {idx d' nl ci nn p : Nat} {y : MethodName} {b : ByteArray} {v0 v1 v2 v3 v4 : Value} {T : u_T} {N : Nat} (hd : decode cc pc = .ok (.invokevirtual idx, 3)) (hn : pc + 3 = n) (hY : Yk y b nl none 5) (hV : Yv y) (hm : Cond.methodLink own idx y ∈ gW) (hdd : d' < d) (hR : k0 ≤ (xRm X).cells ∧ n0 ≤ (xRm X).slots) (hw : ((S.map fun (v : Value) => v.category).sum).ble 8 = true) (hcl : vwCl[ci]? = some (y.cls, T, N)) (hs : sh p = (ci, nn)) (hc : ci < 11) (hp : p < 110) (M : Mv d' y (wm y b nl none) [.ref (xad X p), v0, v1, v2, v3, v4] (xad X) I J Rf (fun I' J' R' => Z X k0 n0 (V X I' J' R') n L (S))) : Z X k0 n0 (V X I J Rf) pc L (v4 :: v3 :: v2 :: v1 :: v0 :: .ref (xad X p) :: S) := z_vv (As := [v0, v1, v2, v3, v4]) C K hd hn hY hV hm hdd hR rfl hw hcl hs hc hp M
theorem z_si_5 (C : Cx X own cc d) (K : Kx X) {idx d' nl : Nat} {y : MethodName} {b : ByteArray} {rt : FieldType} {v0 v1 v2 v3 v4 : Value} (hd : decode cc pc = .ok (.invokestatic idx, 3)) (hn : pc + 3 = n) (hY : Yk y b nl (some rt) 5) (hV : Cond.static y ∈ gW) (hm : Cond.methodLink own idx y ∈ gW) (hdd : d' < d) (hR : k0 ≤ (xRm X).cells ∧ n0 ≤ (xRm X).slots) (hw : ((S.map fun (v : Value) => v.category).sum).ble 8 = true) (M : Mi d' y (wm y b nl (some rt)) [v0, v1, v2, v3, v4] (xad X) I J Rf (fun r I' J' R' => Z X k0 n0 (V X I' J' R') n L (.int r :: S))) : Z X k0 n0 (V X I J Rf) pc L (v4 :: v3 :: v2 :: v1 :: v0 :: S) := z_si (As := [v0, v1, v2, v3, v4]) C K hd hn hY hV hm hdd hR rfl hw M
theorem z_sl_5 (C : Cx X own cc d) (K : Kx X) {idx d' nl : Nat} {y : MethodName} {b : ByteArray} {v0 v1 v2 v3 v4 : Value} (hd : decode cc pc = .ok (.invokestatic idx, 3)) (hn : pc + 3 = n) (hY : Yk y b nl (some .long) 5) (hV : Cond.static y ∈ gW) (hm : Cond.methodLink own idx y ∈ gW) (hdd : d' < d) (hR : k0 ≤ (xRm X).cells ∧ n0 ≤ (xRm X).slots) (hw : ((S.map fun (v : Value) => v.category).sum).ble 8 = true) (M : Ml d' y (wm y b nl (some .long)) [v0, v1, v2, v3, v4] (xad X) I J Rf (fun r I' J' R' => Z X k0 n0 (V X I' J' R') n L (.long r :: S))) : Z X k0 n0 (V X I J Rf) pc L (v4 :: v3 :: v2 :: v1 :: v0 :: S) := z_sl (As := [v0, v1, v2, v3, v4]) C K hd hn hY hV hm hdd hR rfl hw M
theorem z_sv_5 (C : Cx X own cc d) (K : Kx X) {idx d' nl : Nat} {y : MethodName} {b : ByteArray} {v0 v1 v2 v3 v4 : Value} (hd : decode cc pc = .ok (.invokestatic idx, 3)) (hn : pc + 3 = n) (hY : Yk y b nl none 5) (hV : Cond.static y ∈ gW) (hm : Cond.methodLink own idx y ∈ gW) (hdd : d' < d) (hR : k0 ≤ (xRm X).cells ∧ n0 ≤ (xRm X).slots) (hw : ((S.map fun (v : Value) => v.category).sum).ble 8 = true) (M : Mv d' y (wm y b nl none) [v0, v1, v2, v3, v4] (xad X) I J Rf (fun I' J' R' => Z X k0 n0 (V X I' J' R') n L (S))) : Z X k0 n0 (V X I J Rf) pc L (v4 :: v3 :: v2 :: v1 :: v0 :: S) := z_sv (As := [v0, v1, v2, v3, v4]) C K hd hn hY hV hm hdd hR rfl hw M
theorem z_vi_6 (C : Cx X own cc d) (K : Kx X) {idx d' nl ci nn p : Nat} {y : MethodName} {b : ByteArray} {rt : FieldType} {v0 v1 v2 v3 v4 v5 : Value} {T : u_T} {N : Nat} (hd : decode cc pc = .ok (.invokevirtual idx, 3)) (hn : pc + 3 = n) (hY : Yk y b nl (some rt) 6) (hV : Yv y) (hm : Cond.methodLink own idx y ∈ gW) (hdd : d' < d) (hR : k0 ≤ (xRm X).cells ∧ n0 ≤ (xRm X).slots) (hw : ((S.map fun (v : Value) => v.category).sum).ble 8 = true) (hcl : vwCl[ci]? = some (y.cls, T, N)) (hs : sh p = (ci, nn)) (hc : ci < 11) (hp : p < 110) (M : Mi d' y (wm y b nl (some rt)) [.ref (xad X p), v0, v1, v2, v3, v4, v5] (xad X) I J Rf (fun r I' J' R' => Z X k0 n0 (V X I' J' R') n L (.int r :: S))) : Z X k0 n0 (V X I J Rf) pc L (v5 :: v4 :: v3 :: v2 :: v1 :: v0 :: .ref (xad X p) :: S) := z_vi (As := [v0, v1, v2, v3, v4, v5]) C K hd hn hY hV hm hdd hR rfl hw hcl hs hc hp M
theorem z_vl_6 (C : Cx X own cc d) (K : Kx X) {idx d' nl ci nn p : Nat} {y : MethodName} {b : ByteArray} {v0 v1 v2 v3 v4 v5 : Value} {T : u_T} {N : Nat} (hd : decode cc pc = .ok (.invokevirtual idx, 3)) (hn : pc + 3 = n) (hY : Yk y b nl (some .long) 6) (hV : Yv y) (hm : Cond.methodLink own idx y ∈ gW) (hdd : d' < d) (hR : k0 ≤ (xRm X).cells ∧ n0 ≤ (xRm X).slots) (hw : ((S.map fun (v : Value) => v.category).sum).ble 8 = true) (hcl : vwCl[ci]? = some (y.cls, T, N)) (hs : sh p = (ci, nn)) (hc : ci < 11) (hp : p < 110) (M : Ml d' y (wm y b nl (some .long)) [.ref (xad X p), v0, v1, v2, v3, v4, v5] (xad X) I J Rf (fun r I' J' R' => Z X k0 n0 (V X I' J' R') n L (.long r :: S))) : Z X k0 n0 (V X I J Rf) pc L (v5 :: v4 :: v3 :: v2 :: v1 :: v0 :: .ref (xad X p) :: S) := z_vl (As := [v0, v1, v2, v3, v4, v5]) C K hd hn hY hV hm hdd hR rfl hw hcl hs hc hp M
theorem z_vv_6 (C : Cx X own cc d) (K : Kx X) {idx d' nl ci nn p : Nat} {y : MethodName} {b : ByteArray} {v0 v1 v2 v3 v4 v5 : Value} {T : u_T} {N : Nat} (hd : decode cc pc = .ok (.invokevirtual idx, 3)) (hn : pc + 3 = n) (hY : Yk y b nl none 6) (hV : Yv y) (hm : Cond.methodLink own idx y ∈ gW) (hdd : d' < d) (hR : k0 ≤ (xRm X).cells ∧ n0 ≤ (xRm X).slots) (hw : ((S.map fun (v : Value) => v.category).sum).ble 8 = true) (hcl : vwCl[ci]? = some (y.cls, T, N)) (hs : sh p = (ci, nn)) (hc : ci < 11) (hp : p < 110) (M : Mv d' y (wm y b nl none) [.ref (xad X p), v0, v1, v2, v3, v4, v5] (xad X) I J Rf (fun I' J' R' => Z X k0 n0 (V X I' J' R') n L (S))) : Z X k0 n0 (V X I J Rf) pc L (v5 :: v4 :: v3 :: v2 :: v1 :: v0 :: .ref (xad X p) :: S) := z_vv (As := [v0, v1, v2, v3, v4, v5]) C K hd hn hY hV hm hdd hR rfl hw hcl hs hc hp M
theorem z_si_6 (C : Cx X own cc d) (K : Kx X) {idx d' nl : Nat} {y : MethodName} {b : ByteArray} {rt : FieldType} {v0 v1 v2 v3 v4 v5 : Value} (hd : decode cc pc = .ok (.invokestatic idx, 3)) (hn : pc + 3 = n) (hY : Yk y b nl (some rt) 6) (hV : Cond.static y ∈ gW) (hm : Cond.methodLink own idx y ∈ gW) (hdd : d' < d) (hR : k0 ≤ (xRm X).cells ∧ n0 ≤ (xRm X).slots) (hw : ((S.map fun (v : Value) => v.category).sum).ble 8 = true) (M : Mi d' y (wm y b nl (some rt)) [v0, v1, v2, v3, v4, v5] (xad X) I J Rf (fun r I' J' R' => Z X k0 n0 (V X I' J' R') n L (.int r :: S))) : Z X k0 n0 (V X I J Rf) pc L (v5 :: v4 :: v3 :: v2 :: v1 :: v0 :: S) := z_si (As := [v0, v1, v2, v3, v4, v5]) C K hd hn hY hV hm hdd hR rfl hw M
theorem z_sl_6 (C : Cx X own cc d) (K : Kx X) {idx d' nl : Nat} {y : MethodName} {b : ByteArray} {v0 v1 v2 v3 v4 v5 : Value} (hd : decode cc pc = .ok (.invokestatic idx, 3)) (hn : pc + 3 = n) (hY : Yk y b nl (some .long) 6) (hV : Cond.static y ∈ gW) (hm : Cond.methodLink own idx y ∈ gW) (hdd : d' < d) (hR : k0 ≤ (xRm X).cells ∧ n0 ≤ (xRm X).slots) (hw : ((S.map fun (v : Value) => v.category).sum).ble 8 = true) (M : Ml d' y (wm y b nl (some .long)) [v0, v1, v2, v3, v4, v5] (xad X) I J Rf (fun r I' J' R' => Z X k0 n0 (V X I' J' R') n L (.long r :: S))) : Z X k0 n0 (V X I J Rf) pc L (v5 :: v4 :: v3 :: v2 :: v1 :: v0 :: S) := z_sl (As := [v0, v1, v2, v3, v4, v5]) C K hd hn hY hV hm hdd hR rfl hw M
theorem z_sv_6 (C : Cx X own cc d) (K : Kx X) {idx d' nl : Nat} {y : MethodName} {b : ByteArray} {v0 v1 v2 v3 v4 v5 : Value} (hd : decode cc pc = .ok (.invokestatic idx, 3)) (hn : pc + 3 = n) (hY : Yk y b nl none 6) (hV : Cond.static y ∈ gW) (hm : Cond.methodLink own idx y ∈ gW) (hdd : d' < d) (hR : k0 ≤ (xRm X).cells ∧ n0 ≤ (xRm X).slots) (hw : ((S.map fun (v : Value) => v.category).sum).ble 8 = true) (M : Mv d' y (wm y b nl none) [v0, v1, v2, v3, v4, v5] (xad X) I J Rf (fun I' J' R' => Z X k0 n0 (V X I' J' R') n L (S))) : Z X k0 n0 (V X I J Rf) pc L (v5 :: v4 :: v3 :: v2 :: v1 :: v0 :: S) := z_sv (As := [v0, v1, v2, v3, v4, v5]) C K hd hn hY hV hm hdd hR rfl hw M
theorem z_vi_7 (C : Cx X own cc d) (K : Kx X) {idx d' nl ci nn p : Nat} {y : MethodName} {b : ByteArray} {rt : FieldType} {v0 v1 v2 v3 v4 v5 v6 : Value} {T : u_T} {N : Nat} (hd : decode cc pc = .ok (.invokevirtual idx, 3)) (hn : pc + 3 = n) (hY : Yk y b nl (some rt) 7) (hV : Yv y) (hm : Cond.methodLink own idx y ∈ gW) (hdd : d' < d) (hR : k0 ≤ (xRm X).cells ∧ n0 ≤ (xRm X).slots) (hw : ((S.map fun (v : Value) => v.category).sum).ble 8 = true) (hcl : vwCl[ci]? = some (y.cls, T, N)) (hs : sh p = (ci, nn)) (hc : ci < 11) (hp : p < 110) (M : Mi d' y (wm y b nl (some rt)) [.ref (xad X p), v0, v1, v2, v3, v4, v5, v6] (xad X) I J Rf (fun r I' J' R' => Z X k0 n0 (V X I' J' R') n L (.int r :: S))) : Z X k0 n0 (V X I J Rf) pc L (v6 :: v5 :: v4 :: v3 :: v2 :: v1 :: v0 :: .ref (xad X p) :: S) := z_vi (As := [v0, v1, v2, v3, v4, v5, v6]) C K hd hn hY hV hm hdd hR rfl hw hcl hs hc hp M
theorem z_vl_7 (C : Cx X own cc d) (K : Kx X) {idx d' nl ci nn p : Nat} {y : MethodName} {b : ByteArray} {v0 v1 v2 v3 v4 v5 v6 : Value} {T : u_T} {N : Nat} (hd : decode cc pc = .ok (.invokevirtual idx, 3)) (hn : pc + 3 = n) (hY : Yk y b nl (some .long) 7) (hV : Yv y) (hm : Cond.methodLink own idx y ∈ gW) (hdd : d' < d) (hR : k0 ≤ (xRm X).cells ∧ n0 ≤ (xRm X).slots) (hw : ((S.map fun (v : Value) => v.category).sum).ble 8 = true) (hcl : vwCl[ci]? = some (y.cls, T, N)) (hs : sh p = (ci, nn)) (hc : ci < 11) (hp : p < 110) (M : Ml d' y (wm y b nl (some .long)) [.ref (xad X p), v0, v1, v2, v3, v4, v5, v6] (xad X) I J Rf (fun r I' J' R' => Z X k0 n0 (V X I' J' R') n L (.long r :: S))) : Z X k0 n0 (V X I J Rf) pc L (v6 :: v5 :: v4 :: v3 :: v2 :: v1 :: v0 :: .ref (xad X p) :: S) := z_vl (As := [v0, v1, v2, v3, v4, v5, v6]) C K hd hn hY hV hm hdd hR rfl hw hcl hs hc hp M
theorem z_vv_7 (C : Cx X own cc d) (K : Kx X) {idx d' nl ci nn p : Nat} {y : MethodName} {b : ByteArray} {v0 v1 v2 v3 v4 v5 v6 : Value} {T : u_T} {N : Nat} (hd : decode cc pc = .ok (.invokevirtual idx, 3)) (hn : pc + 3 = n) (hY : Yk y b nl none 7) (hV : Yv y) (hm : Cond.methodLink own idx y ∈ gW) (hdd : d' < d) (hR : k0 ≤ (xRm X).cells ∧ n0 ≤ (xRm X).slots) (hw : ((S.map fun (v : Value) => v.category).sum).ble 8 = true) (hcl : vwCl[ci]? = some (y.cls, T, N)) (hs : sh p = (ci, nn)) (hc : ci < 11) (hp : p < 110) (M : Mv d' y (wm y b nl none) [.ref (xad X p), v0, v1, v2, v3, v4, v5, v6] (xad X) I J Rf (fun I' J' R' => Z X k0 n0 (V X I' J' R') n L (S))) : Z X k0 n0 (V X I J Rf) pc L (v6 :: v5 :: v4 :: v3 :: v2 :: v1 :: v0 :: .ref (xad X p) :: S) := z_vv (As := [v0, v1, v2, v3, v4, v5, v6]) C K hd hn hY hV hm hdd hR rfl hw hcl hs hc hp M
theorem z_si_7 (C : Cx X own cc d) (K : Kx X) {idx d' nl : Nat} {y : MethodName} {b : ByteArray} {rt : FieldType} {v0 v1 v2 v3 v4 v5 v6 : Value} (hd : decode cc pc = .ok (.invokestatic idx, 3)) (hn : pc + 3 = n) (hY : Yk y b nl (some rt) 7) (hV : Cond.static y ∈ gW) (hm : Cond.methodLink own idx y ∈ gW) (hdd : d' < d) (hR : k0 ≤ (xRm X).cells ∧ n0 ≤ (xRm X).slots) (hw : ((S.map fun (v : Value) => v.category).sum).ble 8 = true) (M : Mi d' y (wm y b nl (some rt)) [v0, v1, v2, v3, v4, v5, v6] (xad X) I J Rf (fun r I' J' R' => Z X k0 n0 (V X I' J' R') n L (.int r :: S))) : Z X k0 n0 (V X I J Rf) pc L (v6 :: v5 :: v4 :: v3 :: v2 :: v1 :: v0 :: S) := z_si (As := [v0, v1, v2, v3, v4, v5, v6]) C K hd hn hY hV hm hdd hR rfl hw M
theorem z_sl_7 (C : Cx X own cc d) (K : Kx X) {idx d' nl : Nat} {y : MethodName} {b : ByteArray} {v0 v1 v2 v3 v4 v5 v6 : Value} (hd : decode cc pc = .ok (.invokestatic idx, 3)) (hn : pc + 3 = n) (hY : Yk y b nl (some .long) 7) (hV : Cond.static y ∈ gW) (hm : Cond.methodLink own idx y ∈ gW) (hdd : d' < d) (hR : k0 ≤ (xRm X).cells ∧ n0 ≤ (xRm X).slots) (hw : ((S.map fun (v : Value) => v.category).sum).ble 8 = true) (M : Ml d' y (wm y b nl (some .long)) [v0, v1, v2, v3, v4, v5, v6] (xad X) I J Rf (fun r I' J' R' => Z X k0 n0 (V X I' J' R') n L (.long r :: S))) : Z X k0 n0 (V X I J Rf) pc L (v6 :: v5 :: v4 :: v3 :: v2 :: v1 :: v0 :: S) := z_sl (As := [v0, v1, v2, v3, v4, v5, v6]) C K hd hn hY hV hm hdd hR rfl hw M
theorem z_sv_7 (C : Cx X own cc d) (K : Kx X) {idx d' nl : Nat} {y : MethodName} {b : ByteArray} {v0 v1 v2 v3 v4 v5 v6 : Value} (hd : decode cc pc = .ok (.invokestatic idx, 3)) (hn : pc + 3 = n) (hY : Yk y b nl none 7) (hV : Cond.static y ∈ gW) (hm : Cond.methodLink own idx y ∈ gW) (hdd : d' < d) (hR : k0 ≤ (xRm X).cells ∧ n0 ≤ (xRm X).slots) (hw : ((S.map fun (v : Value) => v.category).sum).ble 8 = true) (M : Mv d' y (wm y b nl none) [v0, v1, v2, v3, v4, v5, v6] (xad X) I J Rf (fun I' J' R' => Z X k0 n0 (V X I' J' R') n L (S))) : Z X k0 n0 (V X I J Rf) pc L (v6 :: v5 :: v4 :: v3 :: v2 :: v1 :: v0 :: S) := z_sv (As := [v0, v1, v2, v3, v4, v5, v6]) C K hd hn hY hV hm hdd hR rfl hw M
theorem z_vi_8 (C : Cx X own cc d) (K : Kx X) {idx d' nl ci nn p : Nat} {y : MethodName} {b : ByteArray} {rt : FieldType} {v0 v1 v2 v3 v4 v5 v6 v7 : Value} {T : u_T} {N : Nat} (hd : decode cc pc = .ok (.invokevirtual idx, 3)) (hn : pc + 3 = n) (hY : Yk y b nl (some rt) 8) (hV : Yv y) (hm : Cond.methodLink own idx y ∈ gW) (hdd : d' < d) (hR : k0 ≤ (xRm X).cells ∧ n0 ≤ (xRm X).slots) (hw : ((S.map fun (v : Value) => v.category).sum).ble 8 = true) (hcl : vwCl[ci]? = some (y.cls, T, N)) (hs : sh p = (ci, nn)) (hc : ci < 11) (hp : p < 110) (M : Mi d' y (wm y b nl (some rt)) [.ref (xad X p), v0, v1, v2, v3, v4, v5, v6, v7] (xad X) I J Rf (fun r I' J' R' => Z X k0 n0 (V X I' J' R') n L (.int r :: S))) : Z X k0 n0 (V X I J Rf) pc L (v7 :: v6 :: v5 :: v4 :: v3 :: v2 :: v1 :: v0 :: .ref (xad X p) :: S) := z_vi (As := [v0, v1, v2, v3, v4, v5, v6, v7]) C K hd hn hY hV hm hdd hR rfl hw hcl hs hc hp M
theorem z_vl_8 (C : Cx X own cc d) (K : Kx X) {idx d' nl ci nn p : Nat} {y : MethodName} {b : ByteArray} {v0 v1 v2 v3 v4 v5 v6 v7 : Value} {T : u_T} {N : Nat} (hd : decode cc pc = .ok (.invokevirtual idx, 3)) (hn : pc + 3 = n) (hY : Yk y b nl (some .long) 8) (hV : Yv y) (hm : Cond.methodLink own idx y ∈ gW) (hdd : d' < d) (hR : k0 ≤ (xRm X).cells ∧ n0 ≤ (xRm X).slots) (hw : ((S.map fun (v : Value) => v.category).sum).ble 8 = true) (hcl : vwCl[ci]? = some (y.cls, T, N)) (hs : sh p = (ci, nn)) (hc : ci < 11) (hp : p < 110) (M : Ml d' y (wm y b nl (some .long)) [.ref (xad X p), v0, v1, v2, v3, v4, v5, v6, v7] (xad X) I J Rf (fun r I' J' R' => Z X k0 n0 (V X I' J' R') n L (.long r :: S))) : Z X k0 n0 (V X I J Rf) pc L (v7 :: v6 :: v5 :: v4 :: v3 :: v2 :: v1 :: v0 :: .ref (xad X p) :: S) := z_vl (As := [v0, v1, v2, v3, v4, v5, v6, v7]) C K hd hn hY hV hm hdd hR rfl hw hcl hs hc hp M
theorem z_vv_8 (C : Cx X own cc d) (K : Kx X) {idx d' nl ci nn p : Nat} {y : MethodName} {b : ByteArray} {v0 v1 v2 v3 v4 v5 v6 v7 : Value} {T : u_T} {N : Nat} (hd : decode cc pc = .ok (.invokevirtual idx, 3)) (hn : pc + 3 = n) (hY : Yk y b nl none 8) (hV : Yv y) (hm : Cond.methodLink own idx y ∈ gW) (hdd : d' < d) (hR : k0 ≤ (xRm X).cells ∧ n0 ≤ (xRm X).slots) (hw : ((S.map fun (v : Value) => v.category).sum).ble 8 = true) (hcl : vwCl[ci]? = some (y.cls, T, N)) (hs : sh p = (ci, nn)) (hc : ci < 11) (hp : p < 110) (M : Mv d' y (wm y b nl none) [.ref (xad X p), v0, v1, v2, v3, v4, v5, v6, v7] (xad X) I J Rf (fun I' J' R' => Z X k0 n0 (V X I' J' R') n L (S))) : Z X k0 n0 (V X I J Rf) pc L (v7 :: v6 :: v5 :: v4 :: v3 :: v2 :: v1 :: v0 :: .ref (xad X p) :: S) := z_vv (As := [v0, v1, v2, v3, v4, v5, v6, v7]) C K hd hn hY hV hm hdd hR rfl hw hcl hs hc hp M
theorem z_si_8 (C : Cx X own cc d) (K : Kx X) {idx d' nl : Nat} {y : MethodName} {b : ByteArray} {rt : FieldType} {v0 v1 v2 v3 v4 v5 v6 v7 : Value} (hd : decode cc pc = .ok (.invokestatic idx, 3)) (hn : pc + 3 = n) (hY : Yk y b nl (some rt) 8) (hV : Cond.static y ∈ gW) (hm : Cond.methodLink own idx y ∈ gW) (hdd : d' < d) (hR : k0 ≤ (xRm X).cells ∧ n0 ≤ (xRm X).slots) (hw : ((S.map fun (v : Value) => v.category).sum).ble 8 = true) (M : Mi d' y (wm y b nl (some rt)) [v0, v1, v2, v3, v4, v5, v6, v7] (xad X) I J Rf (fun r I' J' R' => Z X k0 n0 (V X I' J' R') n L (.int r :: S))) : Z X k0 n0 (V X I J Rf) pc L (v7 :: v6 :: v5 :: v4 :: v3 :: v2 :: v1 :: v0 :: S) := z_si (As := [v0, v1, v2, v3, v4, v5, v6, v7]) C K hd hn hY hV hm hdd hR rfl hw M
theorem z_sl_8 (C : Cx X own cc d) (K : Kx X) {idx d' nl : Nat} {y : MethodName} {b : ByteArray} {v0 v1 v2 v3 v4 v5 v6 v7 : Value} (hd : decode cc pc = .ok (.invokestatic idx, 3)) (hn : pc + 3 = n) (hY : Yk y b nl (some .long) 8) (hV : Cond.static y ∈ gW) (hm : Cond.methodLink own idx y ∈ gW) (hdd : d' < d) (hR : k0 ≤ (xRm X).cells ∧ n0 ≤ (xRm X).slots) (hw : ((S.map fun (v : Value) => v.category).sum).ble 8 = true) (M : Ml d' y (wm y b nl (some .long)) [v0, v1, v2, v3, v4, v5, v6, v7] (xad X) I J Rf (fun r I' J' R' => Z X k0 n0 (V X I' J' R') n L (.long r :: S))) : Z X k0 n0 (V X I J Rf) pc L (v7 :: v6 :: v5 :: v4 :: v3 :: v2 :: v1 :: v0 :: S) := z_sl (As := [v0, v1, v2, v3, v4, v5, v6, v7]) C K hd hn hY hV hm hdd hR rfl hw M
theorem z_sv_8 (C : Cx X own cc d) (K : Kx X) {idx d' nl : Nat} {y : MethodName} {b : ByteArray} {v0 v1 v2 v3 v4 v5 v6 v7 : Value} (hd : decode cc pc = .ok (.invokestatic idx, 3)) (hn : pc + 3 = n) (hY : Yk y b nl none 8) (hV : Cond.static y ∈ gW) (hm : Cond.methodLink own idx y ∈ gW) (hdd : d' < d) (hR : k0 ≤ (xRm X).cells ∧ n0 ≤ (xRm X).slots) (hw : ((S.map fun (v : Value) => v.category).sum).ble 8 = true) (M : Mv d' y (wm y b nl none) [v0, v1, v2, v3, v4, v5, v6, v7] (xad X) I J Rf (fun I' J' R' => Z X k0 n0 (V X I' J' R') n L (S))) : Z X k0 n0 (V X I J Rf) pc L (v7 :: v6 :: v5 :: v4 :: v3 :: v2 :: v1 :: v0 :: S) := z_sv (As := [v0, v1, v2, v3, v4, v5, v6, v7]) C K hd hn hY hV hm hdd hR rfl hw M
theorem z_vi_9 (C : Cx X own cc d) (K : Kx X) {idx d' nl ci nn p : Nat} {y : MethodName} {b : ByteArray} {rt : FieldType} {v0 v1 v2 v3 v4 v5 v6 v7 v8 : Value} {T : u_T} {N : Nat} (hd : decode cc pc = .ok (.invokevirtual idx, 3)) (hn : pc + 3 = n) (hY : Yk y b nl (some rt) 9) (hV : Yv y) (hm : Cond.methodLink own idx y ∈ gW) (hdd : d' < d) (hR : k0 ≤ (xRm X).cells ∧ n0 ≤ (xRm X).slots) (hw : ((S.map fun (v : Value) => v.category).sum).ble 8 = true) (hcl : vwCl[ci]? = some (y.cls, T, N)) (hs : sh p = (ci, nn)) (hc : ci < 11) (hp : p < 110) (M : Mi d' y (wm y b nl (some rt)) [.ref (xad X p), v0, v1, v2, v3, v4, v5, v6, v7, v8] (xad X) I J Rf (fun r I' J' R' => Z X k0 n0 (V X I' J' R') n L (.int r :: S))) : Z X k0 n0 (V X I J Rf) pc L (v8 :: v7 :: v6 :: v5 :: v4 :: v3 :: v2 :: v1 :: v0 :: .ref (xad X p) :: S) := z_vi (As := [v0, v1, v2, v3, v4, v5, v6, v7, v8]) C K hd hn hY hV hm hdd hR rfl hw hcl hs hc hp M
theorem z_vl_9 (C : Cx X own cc d) (K : Kx X) {idx d' nl ci nn p : Nat} {y : MethodName} {b : ByteArray} {v0 v1 v2 v3 v4 v5 v6 v7 v8 : Value} {T : u_T} {N : Nat} (hd : decode cc pc = .ok (.invokevirtual idx, 3)) (hn : pc + 3 = n) (hY : Yk y b nl (some .long) 9) (hV : Yv y) (hm : Cond.methodLink own idx y ∈ gW) (hdd : d' < d) (hR : k0 ≤ (xRm X).cells ∧ n0 ≤ (xRm X).slots) (hw : ((S.map fun (v : Value) => v.category).sum).ble 8 = true) (hcl : vwCl[ci]? = some (y.cls, T, N)) (hs : sh p = (ci, nn)) (hc : ci < 11) (hp : p < 110) (M : Ml d' y (wm y b nl (some .long)) [.ref (xad X p), v0, v1, v2, v3, v4, v5, v6, v7, v8] (xad X) I J Rf (fun r I' J' R' => Z X k0 n0 (V X I' J' R') n L (.long r :: S))) : Z X k0 n0 (V X I J Rf) pc L (v8 :: v7 :: v6 :: v5 :: v4 :: v3 :: v2 :: v1 :: v0 :: .ref (xad X p) :: S) := z_vl (As := [v0, v1, v2, v3, v4, v5, v6, v7, v8]) C K hd hn hY hV hm hdd hR rfl hw hcl hs hc hp M
theorem z_vv_9 (C : Cx X own cc d) (K : Kx X) {idx d' nl ci nn p : Nat} {y : MethodName} {b : ByteArray} {v0 v1 v2 v3 v4 v5 v6 v7 v8 : Value} {T : u_T} {N : Nat} (hd : decode cc pc = .ok (.invokevirtual idx, 3)) (hn : pc + 3 = n) (hY : Yk y b nl none 9) (hV : Yv y) (hm : Cond.methodLink own idx y ∈ gW) (hdd : d' < d) (hR : k0 ≤ (xRm X).cells ∧ n0 ≤ (xRm X).slots) (hw : ((S.map fun (v : Value) => v.category).sum).ble 8 = true) (hcl : vwCl[ci]? = some (y.cls, T, N)) (hs : sh p = (ci, nn)) (hc : ci < 11) (hp : p < 110) (M : Mv d' y (wm y b nl none) [.ref (xad X p), v0, v1, v2, v3, v4, v5, v6, v7, v8] (xad X) I J Rf (fun I' J' R' => Z X k0 n0 (V X I' J' R') n L (S))) : Z X k0 n0 (V X I J Rf) pc L (v8 :: v7 :: v6 :: v5 :: v4 :: v3 :: v2 :: v1 :: v0 :: .ref (xad X p) :: S) := z_vv (As := [v0, v1, v2, v3, v4, v5, v6, v7, v8]) C K hd hn hY hV hm hdd hR rfl hw hcl hs hc hp M
theorem z_si_9 (C : Cx X own cc d) (K : Kx X) {idx d' nl : Nat} {y : MethodName} {b : ByteArray} {rt : FieldType} {v0 v1 v2 v3 v4 v5 v6 v7 v8 : Value} (hd : decode cc pc = .ok (.invokestatic idx, 3)) (hn : pc + 3 = n) (hY : Yk y b nl (some rt) 9) (hV : Cond.static y ∈ gW) (hm : Cond.methodLink own idx y ∈ gW) (hdd : d' < d) (hR : k0 ≤ (xRm X).cells ∧ n0 ≤ (xRm X).slots) (hw : ((S.map fun (v : Value) => v.category).sum).ble 8 = true) (M : Mi d' y (wm y b nl (some rt)) [v0, v1, v2, v3, v4, v5, v6, v7, v8] (xad X) I J Rf (fun r I' J' R' => Z X k0 n0 (V X I' J' R') n L (.int r :: S))) : Z X k0 n0 (V X I J Rf) pc L (v8 :: v7 :: v6 :: v5 :: v4 :: v3 :: v2 :: v1 :: v0 :: S) := z_si (As := [v0, v1, v2, v3, v4, v5, v6, v7, v8]) C K hd hn hY hV hm hdd hR rfl hw M
theorem z_sl_9 (C : Cx X own cc d) (K : Kx X) {idx d' nl : Nat} {y : MethodName} {b : ByteArray} {v0 v1 v2 v3 v4 v5 v6 v7 v8 : Value} (hd : decode cc pc = .ok (.invokestatic idx, 3)) (hn : pc + 3 = n) (hY : Yk y b nl (some .long) 9) (hV : Cond.static y ∈ gW) (hm : Cond.methodLink own idx y ∈ gW) (hdd : d' < d) (hR : k0 ≤ (xRm X).cells ∧ n0 ≤ (xRm X).slots) (hw : ((S.map fun (v : Value) => v.category).sum).ble 8 = true) (M : Ml d' y (wm y b nl (some .long)) [v0, v1, v2, v3, v4, v5, v6, v7, v8] (xad X) I J Rf (fun r I' J' R' => Z X k0 n0 (V X I' J' R') n L (.long r :: S))) : Z X k0 n0 (V X I J Rf) pc L (v8 :: v7 :: v6 :: v5 :: v4 :: v3 :: v2 :: v1 :: v0 :: S) := z_sl (As := [v0, v1, v2, v3, v4, v5, v6, v7, v8]) C K hd hn hY hV hm hdd hR rfl hw M
theorem z_sv_9 (C : Cx X own cc d) (K : Kx X) {idx d' nl : Nat} {y : MethodName} {b : ByteArray} {v0 v1 v2 v3 v4 v5 v6 v7 v8 : Value} (hd : decode cc pc = .ok (.invokestatic idx, 3)) (hn : pc + 3 = n) (hY : Yk y b nl none 9) (hV : Cond.static y ∈ gW) (hm : Cond.methodLink own idx y ∈ gW) (hdd : d' < d) (hR : k0 ≤ (xRm X).cells ∧ n0 ≤ (xRm X).slots) (hw : ((S.map fun (v : Value) => v.category).sum).ble 8 = true) (M : Mv d' y (wm y b nl none) [v0, v1, v2, v3, v4, v5, v6, v7, v8] (xad X) I J Rf (fun I' J' R' => Z X k0 n0 (V X I' J' R') n L (S))) : Z X k0 n0 (V X I J Rf) pc L (v8 :: v7 :: v6 :: v5 :: v4 :: v3 :: v2 :: v1 :: v0 :: S) := z_sv (As := [v0, v1, v2, v3, v4, v5, v6, v7, v8]) C K hd hn hY hV hm hdd hR rfl hw M
theorem z_iincG (C : Cx X own cc d) {j : Nat} {b : Int} {x c : Int32} {L' : List (Nat × Value)} (i : Nat) (hd : decode cc pc = .ok (.iinc j b, 3)) (hn : pc + 3 = n) (hk : L[i]? = some (j, .int x)) (hc : Int32.ofInt b = c) (hb : j < xnL X) (hL : lput j (.int (x + c)) L = L') (k : Z X k0 n0 w n L' S) : Z X k0 n0 w pc L S := z_iinc C i hd hn hk (by rw [hc]) hb hL k
theorem z_sw (C : Cx X own cc d) {dflt lo hi : Int} {offs : Array Int} {len : Nat} {x : Int32} (lo' m : Nat) (tg : List Nat) (td : Nat) (hd : decode cc pc = .ok (.tableswitch dflt lo hi offs, len)) (hl : lo = lo') (hm : hi = (lo' : Int) + m - 1) (hb : lo' + m < 2 ^ 31)
    (ht : ∀ i, i < m → ∃ o t, offs[i]? = some o ∧ tg[i]? = some t ∧ (pc : Int) + o = (t : Int)) (hd2 : (pc : Int) + dflt = (td : Int)) (kk : ∀ i t, i < m → tg[i]? = some t → x = nI (lo' + i) → Z X k0 n0 w t L S) (kd : (∀ i, i < m → ¬ x = nI (lo' + i)) → Z X k0 n0 w td L S) : Z X k0 n0 w pc L (.int x :: S) := by
  subst hl hm
  by_cases h : x.toInt < lo' ∨ ((lo' : Int) + m - 1) < x.toInt
  · refine z_tableOut C hd h hd2 (kd (fun i hi e => ?_))
    subst e
    rw [nI_toInt (by omega)] at h
    omega
  · have h1 : ¬ x.toInt < lo' := fun q => h (Or.inl q)
    have h2 : ¬ ((lo' : Int) + m - 1) < x.toInt := fun q => h (Or.inr q)
    have hi : (x.toInt - lo').toNat < m := by omega
    obtain ⟨o, t, e1, e2, e3⟩ := ht _ hi
    refine z_tableIn C hd h1 h2 e1 e3 (kk _ t hi e2 ?_)
    apply Int32.toInt_inj.mp
    rw [nI_toInt (by omega)]
    omega
end ROWS3
theorem fb_rng (x : Int32) : -2147483648 ≤ x.toInt ∧ x.toInt < 2147483648 := by
  have h1 := Int32.le_toInt x
  have h2 := Int32.toInt_lt x
  omega
theorem fb_bmod {z : Int} (h1 : -2147483648 ≤ z) (h2 : z < 2147483648) : z.bmod (2 ^ 32) = z := by
  rw [Int.bmod_eq_of_le (by omega) (by omega)]
theorem fb_addI {x y : Int32} (h1 : -2147483648 ≤ x.toInt + y.toInt) (h2 : x.toInt + y.toInt < 2147483648) : (x + y).toInt = x.toInt + y.toInt := by
  rw [Int32.toInt_add, fb_bmod h1 h2]
theorem fb_subI {x y : Int32} (h1 : -2147483648 ≤ x.toInt - y.toInt) (h2 : x.toInt - y.toInt < 2147483648) : (x - y).toInt = x.toInt - y.toInt := by
  rw [Int32.toInt_sub, fb_bmod h1 h2]
theorem fb_mulI {x y : Int32} (h1 : -2147483648 ≤ x.toInt * y.toInt) (h2 : x.toInt * y.toInt < 2147483648) : (x * y).toInt = x.toInt * y.toInt := by
  rw [Int32.toInt_mul, fb_bmod h1 h2]
theorem fb_negI {x : Int32} (h : x.toInt ≠ -2147483648) : (-x).toInt = -x.toInt := by
  have := fb_rng x
  rw [Int32.toInt_neg, fb_bmod (by omega) (by omega)]
theorem fb_ofI {z : Int} (h1 : -2147483648 ≤ z) (h2 : z < 2147483648) : (Int32.ofInt z).toInt = z := by
  rw [Int32.toInt_ofInt, fb_bmod h1 h2]
theorem fb_asI (x : Int32) : Int32.ofInt x.toInt = x := Int32.ofInt_toInt x
theorem fb_rngL (x : Int64) : -9223372036854775808 ≤ x.toInt ∧ x.toInt < 9223372036854775808 := by
  have h1 := Int64.le_toInt x
  have h2 := Int64.toInt_lt x
  omega
theorem fb_bmodL {z : Int} (h1 : -9223372036854775808 ≤ z) (h2 : z < 9223372036854775808) : z.bmod (2 ^ 64) = z := by
  rw [Int.bmod_eq_of_le (by omega) (by omega)]
theorem fb_addL {x y : Int64} (h1 : -9223372036854775808 ≤ x.toInt + y.toInt) (h2 : x.toInt + y.toInt < 9223372036854775808) : (x + y).toInt = x.toInt + y.toInt := by
  rw [Int64.toInt_add, fb_bmodL h1 h2]
theorem fb_subL {x y : Int64} (h1 : -9223372036854775808 ≤ x.toInt - y.toInt) (h2 : x.toInt - y.toInt < 9223372036854775808) : (x - y).toInt = x.toInt - y.toInt := by
  rw [Int64.toInt_sub, fb_bmodL h1 h2]
theorem fb_mulL {x y : Int64} (h1 : -9223372036854775808 ≤ x.toInt * y.toInt) (h2 : x.toInt * y.toInt < 9223372036854775808) : (x * y).toInt = x.toInt * y.toInt := by
  rw [Int64.toInt_mul, fb_bmodL h1 h2]
theorem fb_byte {x : Int32} (h1 : -128 ≤ x.toInt) (h2 : x.toInt < 128) : x.toInt8.toInt32 = x := by
  apply Int32.toInt_inj.1
  rw [Int8.toInt_toInt32, Int32.toInt_toInt8, Int.bmod_eq_of_le (by omega) (by omega)]
theorem fb_short {x : Int32} (h1 : -32768 ≤ x.toInt) (h2 : x.toInt < 32768) : x.toInt16.toInt32 = x := by
  apply Int32.toInt_inj.1
  rw [Int16.toInt_toInt32, Int32.toInt_toInt16, Int.bmod_eq_of_le (by omega) (by omega)]
theorem fb_byte_rng (x : Int32) : -128 ≤ x.toInt8.toInt32.toInt ∧ x.toInt8.toInt32.toInt < 128 := by
  rw [Int8.toInt_toInt32]
  have h1 := Int8.le_toInt x.toInt8
  have h2 := Int8.toInt_lt x.toInt8
  omega
theorem fb_short_rng (x : Int32) : -32768 ≤ x.toInt16.toInt32.toInt ∧ x.toInt16.toInt32.toInt < 32768 := by
  rw [Int16.toInt_toInt32]
  have h1 := Int16.le_toInt x.toInt16
  have h2 := Int16.toInt_lt x.toInt16
  omega
theorem fb_byte_twice (x : Int32) : x.toInt8.toInt32.toInt8.toInt32 = x.toInt8.toInt32 := fb_byte (fb_byte_rng x).1 (fb_byte_rng x).2
theorem fb_short_twice (x : Int32) : x.toInt16.toInt32.toInt16.toInt32 = x.toInt16.toInt32 := fb_short (fb_short_rng x).1 (fb_short_rng x).2
theorem fa_lt (a b : Int32) : a < b ↔ a.toInt < b.toInt := Int32.lt_iff_toInt_lt
theorem fa_le (a b : Int32) : a ≤ b ↔ a.toInt ≤ b.toInt := Int32.le_iff_toInt_le
theorem fa_eq (a b : Int32) : a = b ↔ a.toInt = b.toInt := Int32.toInt_inj.symm
theorem fa_lt64 (a b : Int64) : a < b ↔ a.toInt < b.toInt := Int64.lt_iff_toInt_lt
theorem fa_le64 (a b : Int64) : a ≤ b ↔ a.toInt ≤ b.toInt := Int64.le_iff_toInt_le
theorem fa_eq64 (a b : Int64) : a = b ↔ a.toInt = b.toInt := Int64.toInt_inj.symm
theorem i_ext {a b : Int32} (h : a.toInt = b.toInt) : a = b := Int32.toInt_inj.mp h
theorem l_ext {a b : Int64} (h : a.toInt = b.toInt) : a = b := Int64.toInt_inj.mp h
theorem i_nat {x : Int32} (h : 0 ≤ x.toInt) : ∃ j : Nat, j < 2 ^ 31 ∧ x = nI j := by
  have hr := fb_rng x
  exact ⟨x.toInt.toNat, by omega, i_ext (by rw [nI_toInt (by omega)]; omega)⟩
theorem i_natlt {x : Int32} {n : Nat} (h : 0 ≤ x.toInt) (h2 : x.toInt < n) : ∃ j : Nat, j < n ∧ x = nI j := by
  obtain ⟨j, hj, rfl⟩ := i_nat h
  rw [nI_toInt hj] at h2
  exact ⟨j, by omega, rfl⟩
theorem nI_inj {a b : Nat} (h : nI a = nI b) (ha : a < 2 ^ 31) (hb : b < 2 ^ 31) : a = b := (nI_eq ha hb).mp h
