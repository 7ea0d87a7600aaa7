theorem okKd_ch {n c : Nat} {ki co ag re : Nat → Nat} {T : Nat → Nat → Nat} (o : okKd n c ki co ag re T) {k q a r2 : Nat} (h1 : k < 3) (h2 : q < n) (h3 : 4 ≤ a) (h4 : a ≤ 11) (h5 : r2 ≤ 60) (h6 : c < 10) : okKd n (c + 1) (fu ki c k) (fu co c q) (fu ag c a) (fu re c r2) (Tnew T c) := by
  obtain ⟨o1, o2, o3⟩ := o
  refine ⟨by omega, fun x hx => ?_, fun x y hx hy => ?_⟩
  · by_cases e : x = c
    · subst e; rw [fu_same, fu_same, fu_same, fu_same]; exact ⟨h1, h2, h3, h4, h5⟩
    · rw [fu_ne _ _ e, fu_ne _ _ e, fu_ne _ _ e, fu_ne _ _ e]; exact o2 x (by omega)
  · unfold Tnew
    by_cases e : x = c
    · subst e; simp
    · by_cases e2 : y = c
      · subst e2; simp [e]; exact (o3 x x (by omega) (by omega)).2.2
      · simp only [e, e2, or_self, if_false]; exact o3 x y (by omega) (by omega)
theorem okKd_re {n c : Nat} {ki co ag re : Nat → Nat} {T : Nat → Nat → Nat} (o : okKd n c ki co ag re T) {x r2 : Nat} (h5 : r2 ≤ 60) : okKd n c ki co ag (fu re x r2) T := by
  obtain ⟨o1, o2, o3⟩ := o
  refine ⟨o1, fun y hy => ?_, o3⟩
  obtain ⟨q1, q2, q3, q4, q5⟩ := o2 y hy
  refine ⟨q1, q2, q3, q4, ?_⟩
  by_cases e : y = x
  · subst e; rw [fu_same]; exact h5
  · rw [fu_ne _ _ e]; exact q5
theorem okKd_ti {n c : Nat} {ki co ag re : Nat → Nat} {T : Nat → Nat → Nat} (o : okKd n c ki co ag re T) {x y w : Nat} (hne : x ≠ y) (hw : w < 3) : okKd n c ki co ag re (Tset T x y w) := by
  obtain ⟨o1, o2, o3⟩ := o
  refine ⟨o1, o2, fun a b ha hb => ?_⟩
  obtain ⟨q1, q2, q3⟩ := o3 a b ha hb
  unfold Tset
  refine ⟨?_, ?_, ?_⟩
  · split
    · exact hw
    · exact q1
  · by_cases e : (a = x ∧ b = y) ∨ (a = y ∧ b = x)
    · rw [if_pos e, if_pos (by omega)]
    · rw [if_neg e, if_neg (by omega)]; exact q2
  · rw [if_neg (by omega)]; exact q3
theorem okSh_fu {so ct : Nat → Nat} (o : okSh so ct) {k a b : Nat} (h1 : a < 3) (h2 : b ≤ 100) : okSh (fu so k a) (fu ct k b) := by
  intro x hx
  by_cases e : x = k
  · subst e; rw [fu_same, fu_same]; exact ⟨h1, h2⟩
  · rw [fu_ne _ _ e, fu_ne _ _ e]; exact o x hx
theorem isB_nI {w : Nat} {a b : Int} (h1 : a ≤ w) (h2 : (w : Int) ≤ b) (h3 : w < 2 ^ 31) : isB a b (nI w) := by
  unfold isB; rw [nI_toInt h3]; exact ⟨h1, h2⟩
set_option maxHeartbeats 4000000 in
set_option maxRecDepth 100000 in
theorem op_ofRoad {ad : Nat → Nat} {t : Nat} {I : KI} {J : KJ} (hI : Inv t I J) {kv w : Int32} {P : Int32 → KI → KJ → KR → Prop} (hP : ∀ (a : Int32) (I' : KI) (J' : KJ) (t' : Nat), (∀ Q2 : Int32 → KI → KJ → KR → Prop, (∀ I'' J'', Inv t' I'' J'' → Q2 a I'' J'' (rf t')) → Mi 2 yX10_ofRoad (wm yX10_ofRoad cX10_ofRoad 3 (some .int)) [.ref (ad 85), .int kv, .int w] ad I' J' (rf t') Q2) → P a I' J' (rf t')) : Mi 2 yX9_ofRoad (wm yX9_ofRoad cX9_ofRoad 3 (some .int)) [.ref (ad 0), .int kv, .int w] ad I J (rf t) P := by
  have hI0 := hI
  obtain ⟨th, so, ct, ce, n, r, s, rd, C0, c, ki, co, ag, re, T, h, hc, hd, o, k, m, e12, e13⟩ := hI
  have ⟨o1, o2, o3, o4, o5⟩ := o
  have ⟨ht, k1, k2, k3, k4, k5, hz⟩ := k
  have ⟨m1, m2, m3, m4, m5⟩ := m
  have hr12 := o2.2.1
  have hn7 := o2.1
  have hc10 := o4.1
  have hc5 := o5.2.2.1
  have htt : t = 4 ∨ t = 26 := ht
  refine c_X9_ofRoad ht k2 o2 (fun a hr => hP _ _ _ _ (fun Q2 hQ => ?_)) (fun hn a i e1 l1 e2 l2 => hP _ _ _ _ (fun Q2 hQ => ?_))
  · refine c_X10_ofRoad m2 o2 (fun a2 hr2 => ?_) (fun hn => by rw [hr] at hn; cases hn)
    rw [hr] at hr2; cases hr2
    exact hQ _ _ hI0
  · refine c_X10_ofRoad m2 o2 (fun a2 hr2 => by rw [hn] at hr2; cases hr2) (fun _ a2 i2 f1 g1 f2 g2 => ?_)
    subst e1
    subst e2
    obtain rfl := nI_inj f1 (by omega) (by omega)
    obtain rfl := nI_inj f2 (by omega) (by omega)
    exact hQ _ _ hI0
set_option maxHeartbeats 4000000 in
set_option maxRecDepth 100000 in
theorem op_way {ad : Nat → Nat} {t : Nat} {I : KI} {J : KJ} (hI : Inv t I J) {av bv w : Int32} {P : Int32 → KI → KJ → KR → Prop} (hP : ∀ (a : Int32) (I' : KI) (J' : KJ) (t' : Nat), (∀ Q2 : Int32 → KI → KJ → KR → Prop, (∀ I'' J'', Inv t' I'' J'' → Q2 a I'' J'' (rf t')) → Mi 4 yX10_way (wm yX10_way cX10_way 4 (some .int)) [.ref (ad 85), .int av, .int bv, .int w] ad I' J' (rf t') Q2) → P a I' J' (rf t')) : Mi 3 yX9_way (wm yX9_way cX9_way 4 (some .int)) [.ref (ad 0), .int av, .int bv, .int w] ad I J (rf t) P := by
  have hI0 := hI
  obtain ⟨th, so, ct, ce, n, r, s, rd, C0, c, ki, co, ag, re, T, h, hc, hd, o, k, m, e12, e13⟩ := hI
  have ⟨o1, o2, o3, o4, o5⟩ := o
  have ⟨ht, k1, k2, k3, k4, k5, hz⟩ := k
  have ⟨m1, m2, m3, m4, m5⟩ := m
  have hr12 := o2.2.1
  have hn7 := o2.1
  have hc10 := o4.1
  have hc5 := o5.2.2.1
  have htt : t = 4 ∨ t = 26 := ht
  refine c_X9_way ht k2 o2 o3 k3 (fun a hr => hP _ _ _ _ (fun Q2 hQ => ?_)) (fun hn a b i e1 l1 e2 l2 e3 l3 => hP _ _ _ _ (fun Q2 hQ => ?_))
  · refine c_X10_way m2 o2 o3 m3 (fun a2 hr2 => ?_) (fun hn => by rw [hr] at hn; cases hn)
    rw [hr] at hr2; cases hr2
    exact hQ _ _ hI0
  · refine c_X10_way m2 o2 o3 m3 (fun a2 hr2 => by rw [hn] at hr2; cases hr2) (fun _ a2 b2 i2 f1 g1 f2 g2 f3 g3 => ?_)
    subst e1
    subst e2
    subst e3
    obtain rfl := nI_inj f1 (by omega) (by omega)
    obtain rfl := nI_inj f2 (by omega) (by omega)
    obtain rfl := nI_inj f3 (by omega) (by omega)
    exact hQ _ _ hI0
set_option maxHeartbeats 4000000 in
set_option maxRecDepth 100000 in
theorem op_along {ad : Nat → Nat} {t : Nat} {I : KI} {J : KJ} (hI : Inv t I J) {av bv kv : Int32} {P : Int32 → KI → KJ → KR → Prop} (hP : ∀ (a : Int32) (I' : KI) (J' : KJ) (t' : Nat), (∀ Q2 : Int32 → KI → KJ → KR → Prop, (∀ I'' J'', Inv t' I'' J'' → Q2 a I'' J'' (rf t')) → Mi 3 yX10_along (wm yX10_along cX10_along 7 (some .int)) [.ref (ad 85), .int av, .int bv, .int kv] ad I' J' (rf t') Q2) → P a I' J' (rf t')) : Mi 3 yX9_along (wm yX9_along cX9_along 4 (some .int)) [.ref (ad 0), .int av, .int bv, .int kv] ad I J (rf t) P := by
  have hI0 := hI
  obtain ⟨th, so, ct, ce, n, r, s, rd, C0, c, ki, co, ag, re, T, h, hc, hd, o, k, m, e12, e13⟩ := hI
  have ⟨o1, o2, o3, o4, o5⟩ := o
  have ⟨ht, k1, k2, k3, k4, k5, hz⟩ := k
  have ⟨m1, m2, m3, m4, m5⟩ := m
  have hr12 := o2.2.1
  have hn7 := o2.1
  have hc10 := o4.1
  have hc5 := o5.2.2.1
  have htt : t = 4 ∨ t = 26 := ht
  refine c_X9_along ht k2 o2 o3 k3 (fun a hr => hP _ _ _ _ (fun Q2 hQ => ?_)) (fun hn a b e1 l1 e2 l2 => hP _ _ _ _ (fun Q2 hQ => ?_))
  · refine c_X10_along m2 o2 o3 m3 (fun a2 hr2 => ?_) (fun hn => by rw [hr] at hn; cases hn)
    rw [hr] at hr2; cases hr2
    exact hQ _ _ hI0
  · refine c_X10_along m2 o2 o3 m3 (fun a2 hr2 => by rw [hn] at hr2; cases hr2) (fun _ a2 b2 f1 g1 f2 g2 => ?_)
    subst e1
    subst e2
    obtain rfl := nI_inj f1 (by omega) (by omega)
    obtain rfl := nI_inj f2 (by omega) (by omega)
    exact hQ _ _ hI0
set_option maxHeartbeats 4000000 in
set_option maxRecDepth 100000 in
theorem op_ofChild {ad : Nat → Nat} {t : Nat} {I : KI} {J : KJ} (hI : Inv t I J) {xv w : Int32} {P : Int32 → KI → KJ → KR → Prop} (hP : ∀ (a : Int32) (I' : KI) (J' : KJ) (t' : Nat), (∀ Q2 : Int32 → KI → KJ → KR → Prop, (∀ I'' J'', Inv t' I'' J'' → Q2 a I'' J'' (rf t')) → Mi 3 yX10_ofChild (wm yX10_ofChild cX10_ofChild 3 (some .int)) [.ref (ad 85), .int xv, .int w] ad I' J' (rf t') Q2) → P a I' J' (rf t')) : Mi 3 yX9_ofChild (wm yX9_ofChild cX9_ofChild 4 (some .int)) [.ref (ad 0), .int xv, .int w] ad I J (rf t) P := by
  have hI0 := hI
  obtain ⟨th, so, ct, ce, n, r, s, rd, C0, c, ki, co, ag, re, T, h, hc, hd, o, k, m, e12, e13⟩ := hI
  have ⟨o1, o2, o3, o4, o5⟩ := o
  have ⟨ht, k1, k2, k3, k4, k5, hz⟩ := k
  have ⟨m1, m2, m3, m4, m5⟩ := m
  have hr12 := o2.2.1
  have hn7 := o2.1
  have hc10 := o4.1
  have hc5 := o5.2.2.1
  have htt : t = 4 ∨ t = 26 := ht
  refine c_X9_ofChild k4 o4 (fun a hr => hP _ _ _ _ (fun Q2 hQ => ?_)) (fun hn x i e1 l1 e2 l2 => hP _ _ _ _ (fun Q2 hQ => ?_))
  · refine c_X10_ofChild m4 o4 (fun a2 hr2 => ?_) (fun hn => by rw [hr] at hn; cases hn)
    rw [hr] at hr2; cases hr2
    exact hQ _ _ hI0
  · refine c_X10_ofChild m4 o4 (fun a2 hr2 => by rw [hn] at hr2; cases hr2) (fun _ x2 i2 f1 g1 f2 g2 => ?_)
    subst e1
    subst e2
    obtain rfl := nI_inj f1 (by omega) (by omega)
    obtain rfl := nI_inj f2 (by omega) (by omega)
    exact hQ _ _ hI0
set_option maxHeartbeats 4000000 in
set_option maxRecDepth 100000 in
theorem op_grown {ad : Nat → Nat} {t : Nat} {I : KI} {J : KJ} (hI : Inv t I J) {sv : Int32} {P : Int32 → KI → KJ → KR → Prop} (hP : ∀ (a : Int32) (I' : KI) (J' : KJ) (t' : Nat), (∀ Q2 : Int32 → KI → KJ → KR → Prop, (∀ I'' J'', Inv t' I'' J'' → Q2 a I'' J'' (rf t')) → Mi 3 yX10_grown (wm yX10_grown cX10_grown 2 (some .int)) [.ref (ad 85), .int sv] ad I' J' (rf t') Q2) → P a I' J' (rf t')) : Mi 3 yX9_grown (wm yX9_grown cX9_grown 2 (some .int)) [.ref (ad 0), .int sv] ad I J (rf t) P := by
  have hI0 := hI
  obtain ⟨th, so, ct, ce, n, r, s, rd, C0, c, ki, co, ag, re, T, h, hc, hd, o, k, m, e12, e13⟩ := hI
  have ⟨o1, o2, o3, o4, o5⟩ := o
  have ⟨ht, k1, k2, k3, k4, k5, hz⟩ := k
  have ⟨m1, m2, m3, m4, m5⟩ := m
  have hr12 := o2.2.1
  have hn7 := o2.1
  have hc10 := o4.1
  have hc5 := o5.2.2.1
  have htt : t = 4 ∨ t = 26 := ht
  refine c_X9_grown k4 o4 k5 o5 (fun hr => hP _ _ _ _ (fun Q2 hQ => ?_)) (fun w l1 l2 e1 => hP _ _ _ _ (fun Q2 hQ => ?_))
  · exact c_X10_grown m4 o4 m5 o5 (fun _ => hQ _ _ hI0) (fun w l1 l2 e => absurd ⟨w, l1, l2, e⟩ hr)
  · refine c_X10_grown m4 o4 m5 o5 (fun hr => absurd ⟨w, l1, l2, e1⟩ hr) (fun w2 l3 l4 f1 => ?_)
    have hp : 2 ^ c ≤ 2 ^ 10 := Nat.pow_le_pow_right (by decide) hc10
    subst e1
    obtain rfl := nI_inj f1 (by omega) (by omega)
    exact hQ _ _ hI0
set_option maxHeartbeats 4000000 in
set_option maxRecDepth 100000 in
theorem op_loss {ad : Nat → Nat} {t : Nat} {I : KI} {J : KJ} (hI : Inv t I J) {wv nv cv kv qv : Int32} {P : Int64 → KI → KJ → KR → Prop} (hP : ∀ (a : Int64) (I' : KI) (J' : KJ) (t' : Nat), (∀ Q2 : Int64 → KI → KJ → KR → Prop, (∀ I'' J'', Inv t' I'' J'' → Q2 a I'' J'' (rf t')) → Ml 3 yX10_loss (wm yX10_loss cX10_loss 8 (some .long)) [.ref (ad 85), .int wv, .int nv, .int cv, .int kv, .int qv] ad I' J' (rf t') Q2) → P a I' J' (rf t')) : Ml 3 yX9_loss (wm yX9_loss cX9_loss 6 (some .long)) [.ref (ad 0), .int wv, .int nv, .int cv, .int kv, .int qv] ad I J (rf t) P := by
  have hI0 := hI
  obtain ⟨th, so, ct, ce, n, r, s, rd, C0, c, ki, co, ag, re, T, h, hc, hd, o, k, m, e12, e13⟩ := hI
  have ⟨o1, o2, o3, o4, o5⟩ := o
  have ⟨ht, k1, k2, k3, k4, k5, hz⟩ := k
  have ⟨m1, m2, m3, m4, m5⟩ := m
  have hr12 := o2.2.1
  have hn7 := o2.1
  have hc10 := o4.1
  have hc5 := o5.2.2.1
  have htt : t = 4 ∨ t = 26 := ht
  refine c_X9_loss  (fun hr => hP _ _ _ _ (fun Q2 hQ => ?_)) (fun hn a b d e e1 e2 e3 e4 l1 l2 l3 l4 l5 => hP _ _ _ _ (fun Q2 hQ => ?_))
  · exact c_X10_loss (fun _ => hQ _ _ hI0) (fun hn => absurd hr hn)
  · refine c_X10_loss (fun hr => absurd hr hn) (fun _ a2 b2 d2 i2 f1 f2 f3 f4 g1 g2 g3 g4 g5 => ?_)
    subst e1
    subst e2
    subst e3
    subst e4
    obtain rfl := nI_inj f1 (by omega) (by omega)
    obtain rfl := nI_inj f2 (by omega) (by omega)
    obtain rfl := nI_inj f3 (by omega) (by omega)
    obtain rfl := nI_inj f4 (by omega) (by omega)
    exact hQ _ _ hI0
set_option maxHeartbeats 4000000 in
set_option maxRecDepth 100000 in
theorem op_patience {ad : Nat → Nat} {t : Nat} {I : KI} {J : KJ} (hI : Inv t I J) {wv nv cv : Int32} {P : Int32 → KI → KJ → KR → Prop} (hP : ∀ (a : Int32) (I' : KI) (J' : KJ) (t' : Nat), (∀ Q2 : Int32 → KI → KJ → KR → Prop, (∀ I'' J'', Inv t' I'' J'' → Q2 a I'' J'' (rf t')) → Mi 3 yX10_patience (wm yX10_patience cX10_patience 6 (some .int)) [.ref (ad 85), .int wv, .int nv, .int cv] ad I' J' (rf t') Q2) → P a I' J' (rf t')) : Mi 3 yX9_patience (wm yX9_patience cX9_patience 10 (some .int)) [.ref (ad 0), .int wv, .int nv, .int cv] ad I J (rf t) P := by
  have hI0 := hI
  obtain ⟨th, so, ct, ce, n, r, s, rd, C0, c, ki, co, ag, re, T, h, hc, hd, o, k, m, e12, e13⟩ := hI
  have ⟨o1, o2, o3, o4, o5⟩ := o
  have ⟨ht, k1, k2, k3, k4, k5, hz⟩ := k
  have ⟨m1, m2, m3, m4, m5⟩ := m
  have hr12 := o2.2.1
  have hn7 := o2.1
  have hc10 := o4.1
  have hc5 := o5.2.2.1
  have htt : t = 4 ∨ t = 26 := ht
  refine c_X9_patience  (fun hr => hP _ _ _ _ (fun Q2 hQ => ?_)) (fun hn a b d e1 e2 e3 l1 l2 l3 => hP _ _ _ _ (fun Q2 hQ => ?_))
  · exact c_X10_patience (fun _ => hQ _ _ hI0) (fun hn => absurd hn hr)
  · refine c_X10_patience (fun hr => absurd hn hr) (fun _ a2 b2 d2 f1 f2 f3 g1 g2 g3 => ?_)
    subst e1
    subst e2
    subst e3
    obtain rfl := nI_inj f1 (by omega) (by omega)
    obtain rfl := nI_inj f2 (by omega) (by omega)
    obtain rfl := nI_inj f3 (by omega) (by omega)
    exact hQ _ _ hI0
set_option maxHeartbeats 4000000 in
set_option maxRecDepth 100000 in
theorem op_trace {ad : Nat → Nat} {t : Nat} {I : KI} {J : KJ} (hI : Inv t I J) {P : Int32 → KI → KJ → KR → Prop} (hP : ∀ (a : Int32) (I' : KI) (J' : KJ) (t' : Nat), (∀ Q2 : Int32 → KI → KJ → KR → Prop, (∀ I'' J'', Inv t' I'' J'' → Q2 a I'' J'' (rf t')) → Mi 1 yX10_trace (wm yX10_trace cX10_trace 1 (some .int)) [.ref (ad 85)] ad I' J' (rf t') Q2) → P a I' J' (rf t')) : Mi 1 yX9_trace (wm yX9_trace cX9_trace 1 (some .int)) [.ref (ad 0)] ad I J (rf t) P := by
  have hI0 := hI
  obtain ⟨th, so, ct, ce, n, r, s, rd, C0, c, ki, co, ag, re, T, h, hc, hd, o, k, m, e12, e13⟩ := hI
  have ⟨o1, o2, o3, o4, o5⟩ := o
  have ⟨ht, k1, k2, k3, k4, k5, hz⟩ := k
  have ⟨m1, m2, m3, m4, m5⟩ := m
  have hr12 := o2.2.1
  have hn7 := o2.1
  have hc10 := o4.1
  have hc5 := o5.2.2.1
  have htt : t = 4 ∨ t = 26 := ht
  refine c_X9_trace  (hP _ _ _ _ (fun Q2 hQ => ?_))
  · refine c_X10_trace ?_
    rw [← e12]
    exact hQ _ _ hI0
set_option maxHeartbeats 4000000 in
set_option maxRecDepth 100000 in
theorem op_fault {ad : Nat → Nat} {t : Nat} {I : KI} {J : KJ} (hI : Inv t I J) {P : Int32 → KI → KJ → KR → Prop} (hP : ∀ (a : Int32) (I' : KI) (J' : KJ) (t' : Nat), (∀ Q2 : Int32 → KI → KJ → KR → Prop, (∀ I'' J'', Inv t' I'' J'' → Q2 a I'' J'' (rf t')) → Mi 1 yX10_fault (wm yX10_fault cX10_fault 1 (some .int)) [.ref (ad 85)] ad I' J' (rf t') Q2) → P a I' J' (rf t')) : Mi 1 yX9_fault (wm yX9_fault cX9_fault 1 (some .int)) [.ref (ad 0)] ad I J (rf t) P := by
  have hI0 := hI
  obtain ⟨th, so, ct, ce, n, r, s, rd, C0, c, ki, co, ag, re, T, h, hc, hd, o, k, m, e12, e13⟩ := hI
  have ⟨o1, o2, o3, o4, o5⟩ := o
  have ⟨ht, k1, k2, k3, k4, k5, hz⟩ := k
  have ⟨m1, m2, m3, m4, m5⟩ := m
  have hr12 := o2.2.1
  have hn7 := o2.1
  have hc10 := o4.1
  have hc5 := o5.2.2.1
  have htt : t = 4 ∨ t = 26 := ht
  refine c_X9_fault  (hP _ _ _ _ (fun Q2 hQ => ?_))
  · refine c_X10_fault ?_
    rw [← e13]
    exact hQ _ _ hI0
set_option maxHeartbeats 4000000 in
set_option maxRecDepth 100000 in
theorem op_many {ad : Nat → Nat} {t : Nat} {I : KI} {J : KJ} (hI : Inv t I J) {w : Int32} {P : Int32 → KI → KJ → KR → Prop} (hP : ∀ (a : Int32) (I' : KI) (J' : KJ) (t' : Nat), (∀ Q2 : Int32 → KI → KJ → KR → Prop, (∀ I'' J'', Inv t' I'' J'' → Q2 a I'' J'' (rf t')) → Mi 3 yX10_many (wm yX10_many cX10_many 2 (some .int)) [.ref (ad 85), .int w] ad I' J' (rf t') Q2) → P a I' J' (rf t')) : Mi 3 yX9_many (wm yX9_many cX9_many 2 (some .int)) [.ref (ad 0), .int w] ad I J (rf t) P := by
  have hI0 := hI
  obtain ⟨th, so, ct, ce, n, r, s, rd, C0, c, ki, co, ag, re, T, h, hc, hd, o, k, m, e12, e13⟩ := hI
  have ⟨o1, o2, o3, o4, o5⟩ := o
  have ⟨ht, k1, k2, k3, k4, k5, hz⟩ := k
  have ⟨m1, m2, m3, m4, m5⟩ := m
  have hr12 := o2.2.1
  have hn7 := o2.1
  have hc10 := o4.1
  have hc5 := o5.2.2.1
  have htt : t = 4 ∨ t = 26 := ht
  refine c_X9_many ht k2 o2 k4 o4 k5 (hP _ _ _ _ (fun Q2 hQ => ?_))
  · exact c_X10_many m2 o2 m4 o4 m5 (hQ _ _ hI0)
set_option maxHeartbeats 4000000 in
set_option maxRecDepth 100000 in
theorem op_late {ad : Nat → Nat} {t : Nat} {I : KI} {J : KJ} (hI : Inv t I J) {setv cov mv bv kv sov iv nv qv : Int32} {P : Int64 → KI → KJ → KR → Prop} (hP : ∀ (a : Int64) (I' : KI) (J' : KJ) (t' : Nat), (∀ Q2 : Int64 → KI → KJ → KR → Prop, (∀ I'' J'', Inv t' I'' J'' → Q2 a I'' J'' (rf t')) → Ml 5 yX10_late (wm yX10_late cX10_late 11 (some .long)) [.ref (ad 85), .int setv, .int cov, .int mv, .int bv, .int kv, .int sov, .int iv, .int nv, .int qv] ad I' J' (rf t') Q2) → P a I' J' (rf t')) : Ml 5 yX9_late (wm yX9_late cX9_late 10 (some .long)) [.ref (ad 0), .int setv, .int cov, .int mv, .int bv, .int kv, .int sov, .int iv, .int nv, .int qv] ad I J (rf t) P := by
  have hI0 := hI
  obtain ⟨th, so, ct, ce, n, r, s, rd, C0, c, ki, co, ag, re, T, h, hc, hd, o, k, m, e12, e13⟩ := hI
  have ⟨o1, o2, o3, o4, o5⟩ := o
  have ⟨ht, k1, k2, k3, k4, k5, hz⟩ := k
  have ⟨m1, m2, m3, m4, m5⟩ := m
  have hr12 := o2.2.1
  have hn7 := o2.1
  have hc10 := o4.1
  have hc5 := o5.2.2.1
  have htt : t = 4 ∨ t = 26 := ht
  have hcd : ∀ k i m : Nat, kv = nI k → k < 4 → iv = nI i → nv = nI m → i + m ≤ 100 → ∀ j, j < m → ce k (i + j) = cdC I kv iv j := fun k i m e1 l e2 e3 hb j hj => by
    subst e1; subst e2; rw [cdC_nI I l (by omega)]; exact ((k1 k l).2.2.2 (i + j) (by omega)).symm
  refine c_X9_late ht k2 o2 o3 k3 k4 o4 k1 o1 hz (fun f I' hr hf hj h13 hz' => hP _ _ _ _ (fun Q2 hQ => ?_)) (fun og I' J' hr hf hj h13 hJ hz' => hP _ _ _ _ (fun Q2 hQ => ?_))
  · have mp := m.fr (fun q q1 _ _ _ => hf q (by omega) (by omega)) (fun j _ => by rw [hf 85 (by omega) (by omega)])
    have ⟨m1, m2, m3, m4, m5⟩ := mp
    refine c_X10_late m2 o2 o3 m3 m4 o4 m1 o1 (cd := cdC I kv iv) hcd (fun f2 I2 hr2 gf gj g0 => ?_) (fun og I2 J2 hr2 _ _ _ _ => by rw [hr] at hr2; cases hr2)
    rw [hr] at hr2; cases hr2
    exact hQ _ _ (Inv.sc o k m e12 (fun q q1 q2 q3 => hf q (by omega) (by omega)) (fun j j1 j2 j3 j4 => (hj j (by omega))) hz' (fun q q1 q2 q3 q4 => gf q (by omega) (by omega)) (fun j j1 j2 j3 j4 j5 => (gj j (by omega) (by omega) (by omega))) (fun q _ _ => rfl) (((congrFun (gf 0 (by omega) (by omega)) 13).trans h13).trans g0.symm))
  · have mp := m.fr (fun q q1 _ _ _ => hf q (by omega) (by omega)) (fun j _ => by rw [hf 85 (by omega) (by omega)])
    have ⟨m1, m2, m3, m4, m5⟩ := mp
    refine c_X10_late m2 o2 o3 m3 m4 o4 m1 o1 (cd := cdC I kv iv) hcd (fun f2 I2 hr2 gf gj g0 => by rw [hr] at hr2; cases hr2) (fun og2 I2 J2 hr2 gf gj g0 gJ => ?_)
    rw [hr] at hr2; cases hr2
    exact hQ _ _ (Inv.sc o k m e12 (fun q q1 q2 q3 => hf q (by omega) (by omega)) (fun j j1 j2 j3 j4 => (hj j (by omega))) hz' (fun q q1 q2 q3 q4 => gf q (by omega) (by omega)) (fun j j1 j2 j3 j4 j5 => (gj j (by omega) (by omega) (by omega))) (fun q _ q2 => gJ q q2) (((congrFun (gf 0 (by omega) (by omega)) 13).trans h13).trans g0.symm))
set_option maxHeartbeats 4000000 in
set_option maxRecDepth 100000 in
theorem op_mean {ad : Nat → Nat} {t : Nat} {I : KI} {J : KJ} (hI : Inv t I J) {setv cov mv kv sov iv nv qv : Int32} {P : Int64 → KI → KJ → KR → Prop} (hP : ∀ (a : Int64) (I' : KI) (J' : KJ) (t' : Nat), (∀ Q2 : Int64 → KI → KJ → KR → Prop, (∀ I'' J'', Inv t' I'' J'' → Q2 a I'' J'' (rf t')) → Ml 5 yX10_mean (wm yX10_mean cX10_mean 13 (some .long)) [.ref (ad 85), .int setv, .int cov, .int mv, .int kv, .int sov, .int iv, .int nv, .int qv] ad I' J' (rf t') Q2) → P a I' J' (rf t')) : Ml 5 yX9_mean (wm yX9_mean cX9_mean 9 (some .long)) [.ref (ad 0), .int setv, .int cov, .int mv, .int kv, .int sov, .int iv, .int nv, .int qv] ad I J (rf t) P := by
  have hI0 := hI
  obtain ⟨th, so, ct, ce, n, r, s, rd, C0, c, ki, co, ag, re, T, h, hc, hd, o, k, m, e12, e13⟩ := hI
  have ⟨o1, o2, o3, o4, o5⟩ := o
  have ⟨ht, k1, k2, k3, k4, k5, hz⟩ := k
  have ⟨m1, m2, m3, m4, m5⟩ := m
  have hr12 := o2.2.1
  have hn7 := o2.1
  have hc10 := o4.1
  have hc5 := o5.2.2.1
  have htt : t = 4 ∨ t = 26 := ht
  have hcd : ∀ k i m : Nat, kv = nI k → k < 4 → iv = nI i → nv = nI m → i + m ≤ 100 → ∀ j, j < m → ce k (i + j) = cdC I kv iv j := fun k i m e1 l e2 e3 hb j hj => by
    subst e1; subst e2; rw [cdC_nI I l (by omega)]; exact ((k1 k l).2.2.2 (i + j) (by omega)).symm
  refine c_X9_mean ht k2 o2 o3 k3 k4 o4 k1 o1 hz (fun f I' hr hf hj h13 hz' => hP _ _ _ _ (fun Q2 hQ => ?_)) (fun og I' J' hr hf hj h13 hJ hz' => hP _ _ _ _ (fun Q2 hQ => ?_))
  · have mp := m.fr (fun q q1 _ _ _ => hf q (by omega) (by omega)) (fun j _ => by rw [hf 85 (by omega) (by omega)])
    have ⟨m1, m2, m3, m4, m5⟩ := mp
    refine c_X10_mean m2 o2 o3 m3 m4 o4 m1 o1 (cd := cdC I kv iv) hcd (fun f2 I2 hr2 gf gj g0 => ?_) (fun og I2 J2 hr2 _ _ _ _ => by rw [hr] at hr2; cases hr2)
    rw [hr] at hr2; cases hr2
    exact hQ _ _ (Inv.sc o k m e12 (fun q q1 q2 q3 => hf q (by omega) (by omega)) (fun j j1 j2 j3 j4 => (hj j (by omega))) hz' (fun q q1 q2 q3 q4 => gf q (by omega) (by omega)) (fun j j1 j2 j3 j4 j5 => (gj j (by omega) (by omega) (by omega))) (fun q _ _ => rfl) (((congrFun (gf 0 (by omega) (by omega)) 13).trans h13).trans g0.symm))
  · have mp := m.fr (fun q q1 _ _ _ => hf q (by omega) (by omega)) (fun j _ => by rw [hf 85 (by omega) (by omega)])
    have ⟨m1, m2, m3, m4, m5⟩ := mp
    refine c_X10_mean m2 o2 o3 m3 m4 o4 m1 o1 (cd := cdC I kv iv) hcd (fun f2 I2 hr2 gf gj g0 => by rw [hr] at hr2; cases hr2) (fun og2 I2 J2 hr2 gf gj g0 gJ => ?_)
    rw [hr] at hr2; cases hr2
    exact hQ _ _ (Inv.sc o k m e12 (fun q q1 q2 q3 => hf q (by omega) (by omega)) (fun j j1 j2 j3 j4 => (hj j (by omega))) hz' (fun q q1 q2 q3 q4 => gf q (by omega) (by omega)) (fun j j1 j2 j3 j4 j5 => (gj j (by omega) (by omega) (by omega))) (fun q _ q2 => gJ q q2) (((congrFun (gf 0 (by omega) (by omega)) 13).trans h13).trans g0.symm))
set_option maxHeartbeats 4000000 in
set_option maxRecDepth 100000 in
theorem op_start {ad : Nat → Nat} {t : Nat} {I : KI} {J : KJ} (hI : Inv t I J) {setv cov bv hv : Int32} {P : Int32 → KI → KJ → KR → Prop} (hP : ∀ (a : Int32) (I' : KI) (J' : KJ) (t' : Nat), (∀ Q2 : Int32 → KI → KJ → KR → Prop, (∀ I'' J'', Inv t' I'' J'' → Q2 a I'' J'' (rf t')) → Mi 7 yX10_start (wm yX10_start cX10_start 5 (some .int)) [.ref (ad 85), .int setv, .int cov, .int bv, .int hv] ad I' J' (rf t') Q2) → P a I' J' (rf t')) : Mi 6 yX9_start (wm yX9_start cX9_start 6 (some .int)) [.ref (ad 0), .int setv, .int cov, .int bv, .int hv] ad I J (rf t) P := by
  have hI0 := hI
  obtain ⟨th, so, ct, ce, n, r, s, rd, C0, c, ki, co, ag, re, T, h, hc, hd, o, k, m, e12, e13⟩ := hI
  have ⟨o1, o2, o3, o4, o5⟩ := o
  have ⟨ht, k1, k2, k3, k4, k5, hz⟩ := k
  have ⟨m1, m2, m3, m4, m5⟩ := m
  have hr12 := o2.2.1
  have hn7 := o2.1
  have hc10 := o4.1
  have hc5 := o5.2.2.1
  have htt : t = 4 ∨ t = 26 := ht
  refine c_X9_start ht k2 o2 o3 k3 k4 o4 hz (fun v I' hr hf => hP _ _ _ _ (fun Q2 hQ => ?_)) (fun I' J' hn hf hJ hz' => hP _ _ _ _ (fun Q2 hQ => ?_))
  · have mp := m.fr (fun q q1 _ _ _ => hf q (by omega)) (fun j _ => by rw [hf 85 (by omega)])
    have ⟨m1, m2, m3, m4, m5⟩ := mp
    refine c_X10_start m2 o2 o3 m3 m4 o4 (fun v2 I2 hr2 gf gj => ?_) (fun I2 J2 hn _ _ _ => by rw [hr] at hn; cases hn)
    rw [hr] at hr2; cases hr2
    exact hQ _ _ (Inv.sc o k m e12 (fun q q1 q2 q3 => hf q (by omega)) (fun j j1 j2 j3 j4 => (congrFun (hf 0 (by omega)) j)) (hz.fr (hf 54 (by omega)) rfl) (fun q q1 q2 q3 q4 => gf q (by omega) (by omega) (by omega) (by omega)) (fun j j1 j2 j3 j4 j5 => (gj j (by omega) (by omega) (by omega))) (fun q _ _ => rfl) (((congrFun (gf 0 (by omega) (by omega) (by omega) (by omega)) 13).trans (congrFun (hf 0 (by omega)) 13)).trans (e13.trans (((congrFun (hf 85 (by omega)) 0).symm).trans (gj 0 (by omega) (by omega) (by omega)).symm))))
  · have mp := m.fr (fun q q1 _ _ _ => hf q (by omega)) (fun j _ => by rw [hf 85 (by omega)])
    have ⟨m1, m2, m3, m4, m5⟩ := mp
    refine c_X10_start m2 o2 o3 m3 m4 o4 (fun v2 I2 hr2 gf gj => by rw [hn] at hr2; cases hr2) (fun I2 J2 _ gf gj gJ => ?_)
    exact hQ _ _ (Inv.sc o k m e12 (fun q q1 q2 q3 => hf q (by omega)) (fun j j1 j2 j3 j4 => (congrFun (hf 0 (by omega)) j)) hz' (fun q q1 q2 q3 q4 => gf q (by omega) (by omega) (by omega) (by omega)) (fun j j1 j2 j3 j4 j5 => (gj j (by omega) (by omega) (by omega))) (fun q _ q2 => gJ q q2) (((congrFun (gf 0 (by omega) (by omega) (by omega) (by omega)) 13).trans (congrFun (hf 0 (by omega)) 13)).trans (e13.trans (((congrFun (hf 85 (by omega)) 0).symm).trans (gj 0 (by omega) (by omega) (by omega)).symm))))
set_option maxHeartbeats 4000000 in
set_option maxRecDepth 100000 in
theorem op_gate {ad : Nat → Nat} {t : Nat} {I : KI} {J : KJ} (hI : Inv t I J) {setv cov bv hv kv : Int32} {P : Int32 → KI → KJ → KR → Prop} (hP : ∀ (a : Int32) (I' : KI) (J' : KJ) (t' : Nat), (∀ Q2 : Int32 → KI → KJ → KR → Prop, (∀ I'' J'', Inv t' I'' J'' → Q2 a I'' J'' (rf t')) → Mi 7 yX10_gate (wm yX10_gate cX10_gate 6 (some .int)) [.ref (ad 85), .int setv, .int cov, .int bv, .int hv, .int kv] ad I' J' (rf t') Q2) → P a I' J' (rf t')) : Mi 6 yX9_gate (wm yX9_gate cX9_gate 7 (some .int)) [.ref (ad 0), .int setv, .int cov, .int bv, .int hv, .int kv] ad I J (rf t) P := by
  have hI0 := hI
  obtain ⟨th, so, ct, ce, n, r, s, rd, C0, c, ki, co, ag, re, T, h, hc, hd, o, k, m, e12, e13⟩ := hI
  have ⟨o1, o2, o3, o4, o5⟩ := o
  have ⟨ht, k1, k2, k3, k4, k5, hz⟩ := k
  have ⟨m1, m2, m3, m4, m5⟩ := m
  have hr12 := o2.2.1
  have hn7 := o2.1
  have hc10 := o4.1
  have hc5 := o5.2.2.1
  have htt : t = 4 ∨ t = 26 := ht
  refine c_X9_gate ht k2 o2 o3 k3 k4 o4 hz (fun v I' hr hf => hP _ _ _ _ (fun Q2 hQ => ?_)) (fun I' J' hn hf hJ hz' => hP _ _ _ _ (fun Q2 hQ => ?_))
  · have mp := m.fr (fun q q1 _ _ _ => hf q (by omega)) (fun j _ => by rw [hf 85 (by omega)])
    have ⟨m1, m2, m3, m4, m5⟩ := mp
    refine c_X10_gate m2 o2 o3 m3 m4 o4 (fun v2 I2 hr2 gf gj => ?_) (fun I2 J2 hn _ _ _ => by rw [hr] at hn; cases hn)
    rw [hr] at hr2; cases hr2
    exact hQ _ _ (Inv.sc o k m e12 (fun q q1 q2 q3 => hf q (by omega)) (fun j j1 j2 j3 j4 => (congrFun (hf 0 (by omega)) j)) (hz.fr (hf 54 (by omega)) rfl) (fun q q1 q2 q3 q4 => gf q (by omega) (by omega) (by omega) (by omega)) (fun j j1 j2 j3 j4 j5 => (gj j (by omega) (by omega) (by omega))) (fun q _ _ => rfl) (((congrFun (gf 0 (by omega) (by omega) (by omega) (by omega)) 13).trans (congrFun (hf 0 (by omega)) 13)).trans (e13.trans (((congrFun (hf 85 (by omega)) 0).symm).trans (gj 0 (by omega) (by omega) (by omega)).symm))))
  · have mp := m.fr (fun q q1 _ _ _ => hf q (by omega)) (fun j _ => by rw [hf 85 (by omega)])
    have ⟨m1, m2, m3, m4, m5⟩ := mp
    refine c_X10_gate m2 o2 o3 m3 m4 o4 (fun v2 I2 hr2 gf gj => by rw [hn] at hr2; cases hr2) (fun I2 J2 _ gf gj gJ => ?_)
    exact hQ _ _ (Inv.sc o k m e12 (fun q q1 q2 q3 => hf q (by omega)) (fun j j1 j2 j3 j4 => (congrFun (hf 0 (by omega)) j)) hz' (fun q q1 q2 q3 q4 => gf q (by omega) (by omega) (by omega) (by omega)) (fun j j1 j2 j3 j4 j5 => (gj j (by omega) (by omega) (by omega))) (fun q _ q2 => gJ q q2) (((congrFun (gf 0 (by omega) (by omega) (by omega) (by omega)) 13).trans (congrFun (hf 0 (by omega)) 13)).trans (e13.trans (((congrFun (hf 85 (by omega)) 0).symm).trans (gj 0 (by omega) (by omega) (by omega)).symm))))
set_option maxHeartbeats 4000000 in
set_option maxRecDepth 100000 in
theorem op_split {ad : Nat → Nat} {t : Nat} {I : KI} {J : KJ} (hI : Inv t I J) {setv cov bv hv wv : Int32} {P : Int32 → KI → KJ → KR → Prop} (hP : ∀ (a : Int32) (I' : KI) (J' : KJ) (t' : Nat), (∀ Q2 : Int32 → KI → KJ → KR → Prop, (∀ I'' J'', Inv t' I'' J'' → Q2 a I'' J'' (rf t')) → Mi 8 yX10_split (wm yX10_split cX10_split 15 (some .int)) [.ref (ad 85), .int setv, .int cov, .int bv, .int hv, .int wv] ad I' J' (rf t') Q2) → P a I' J' (rf t')) : Mi 7 yX9_split (wm yX9_split cX9_split 7 (some .int)) [.ref (ad 0), .int setv, .int cov, .int bv, .int hv, .int wv] ad I J (rf t) P := by
  have hI0 := hI
  obtain ⟨th, so, ct, ce, n, r, s, rd, C0, c, ki, co, ag, re, T, h, hc, hd, o, k, m, e12, e13⟩ := hI
  have ⟨o1, o2, o3, o4, o5⟩ := o
  have ⟨ht, k1, k2, k3, k4, k5, hz⟩ := k
  have ⟨m1, m2, m3, m4, m5⟩ := m
  have hr12 := o2.2.1
  have hn7 := o2.1
  have hc10 := o4.1
  have hc5 := o5.2.2.1
  have htt : t = 4 ∨ t = 26 := ht
  refine c_X9_split ht k2 o2 o3 k3 k4 o4 k5 o5 hz (fun v I' hr hf => hP _ _ _ _ (fun Q2 hQ => ?_)) (fun I' J' hn hf hj hJ hz' => hP _ _ _ _ (fun Q2 hQ => ?_))
  · have mp := m.fr (fun q q1 _ _ _ => hf q (by omega)) (fun j _ => by rw [hf 85 (by omega)])
    have ⟨m1, m2, m3, m4, m5⟩ := mp
    refine c_X10_split m2 o2 o3 m3 m4 o4 m5 o5 (fun v2 I2 hr2 gf gj => ?_) (fun I2 J2 hn _ _ _ => by rw [hr] at hn; cases hn)
    rw [hr] at hr2; cases hr2
    exact hQ _ _ (Inv.sc o k m e12 (fun q q1 q2 q3 => hf q (by omega)) (fun j j1 j2 j3 j4 => (congrFun (hf 0 (by omega)) j)) (hz.fr (hf 54 (by omega)) rfl) (fun q q1 q2 q3 q4 => gf q (by omega) (by omega) (by omega) (by omega)) (fun j j1 j2 j3 j4 j5 => (gj j (by omega) (by omega) (by omega))) (fun q _ _ => rfl) (((congrFun (gf 0 (by omega) (by omega) (by omega) (by omega)) 13).trans (congrFun (hf 0 (by omega)) 13)).trans (e13.trans (((congrFun (hf 85 (by omega)) 0).symm).trans (gj 0 (by omega) (by omega) (by omega)).symm))))
  · have mp := m.fr (fun q q1 _ _ _ => hf q (by omega) (by omega)) (fun j _ => by rw [hf 85 (by omega) (by omega)])
    have ⟨m1, m2, m3, m4, m5⟩ := mp
    refine c_X10_split m2 o2 o3 m3 m4 o4 m5 o5 (fun v2 I2 hr2 gf gj => by rw [hn] at hr2; cases hr2) (fun I2 J2 _ gf gj gJ => ?_)
    exact hQ _ _ (Inv.sc o k m e12 (fun q q1 q2 q3 => hf q (by omega) (by omega)) (fun j j1 j2 j3 j4 => (hj j (by omega) (by omega) (by omega))) hz' (fun q q1 q2 q3 q4 => gf q (by omega) (by omega) (by omega) (by omega)) (fun j j1 j2 j3 j4 j5 => (gj j (by omega) (by omega) (by omega))) (fun q _ q2 => gJ q q2) (((congrFun (gf 0 (by omega) (by omega) (by omega) (by omega)) 13).trans (hj 13 (by omega) (by omega) (by omega))).trans (e13.trans (((congrFun (hf 85 (by omega) (by omega)) 0).symm).trans (gj 0 (by omega) (by omega) (by omega)).symm))))
set_option maxHeartbeats 4000000 in
set_option maxRecDepth 100000 in
theorem op_ways {ad : Nat → Nat} {t : Nat} {I : KI} {J : KJ} (hI : Inv t I J) {setv rv : Int32} {P : Int64 → KI → KJ → KR → Prop} (hP : ∀ (a : Int64) (I' : KI) (J' : KJ) (t' : Nat), (∀ Q2 : Int64 → KI → KJ → KR → Prop, (∀ I'' J'', Inv t' I'' J'' → Q2 a I'' J'' (rf t')) → Ml 3 yX10_ways (wm yX10_ways cX10_ways 3 (some .long)) [.ref (ad 85), .int setv, .int rv] ad I' J' (rf t') Q2) → P a I' J' (rf t')) : Ml 13 yX9_ways (wm yX9_ways cX9_ways 3 (some .long)) [.ref (ad 0), .int setv, .int rv] ad I J (rf t) P := by
  have hI0 := hI
  obtain ⟨th, so, ct, ce, n, r, s, rd, C0, c, ki, co, ag, re, T, h, hc, hd, o, k, m, e12, e13⟩ := hI
  have ⟨o1, o2, o3, o4, o5⟩ := o
  have ⟨ht, k1, k2, k3, k4, k5, hz⟩ := k
  have ⟨m1, m2, m3, m4, m5⟩ := m
  have hr12 := o2.2.1
  have hn7 := o2.1
  have hc10 := o4.1
  have hc5 := o5.2.2.1
  have htt : t = 4 ∨ t = 26 := ht
  refine c_X9_ways k4 o4 (fun hr => hP _ _ _ _ (fun Q2 hQ => ?_)) (fun I' hn hf => hP _ _ _ _ (fun Q2 hQ => ?_))
  · exact c_X10_ways m4 o4 (fun _ => hQ _ _ hI0) (fun I2 J2 hn _ _ _ _ => absurd hn hr)
  · have mp := m.fr (fun q q1 _ _ _ => hf q (by omega)) (fun j _ => by rw [hf 85 (by omega)])
    have ⟨m1, m2, m3, m4, m5⟩ := mp
    refine c_X10_ways m4 o4 (fun hr => absurd hn hr) (fun I2 J2 _ gf gj gJ gK => ?_)
    exact hQ _ _ (Inv.sc o k m e12 (fun q q1 q2 q3 => hf q (by omega)) (fun j j1 j2 j3 j4 => (congrFun (hf 0 (by omega)) j)) (hz.fr (hf 54 (by omega)) rfl) (fun q q1 q2 q3 q4 => gf q (by omega) (by omega) (by omega)) (fun j j1 j2 j3 j4 j5 => (gj j (by omega))) (fun q q1 _ => gJ q q1) (((congrFun (gf 0 (by omega) (by omega) (by omega)) 13).trans (congrFun (hf 0 (by omega)) 13)).trans (e13.trans (((congrFun (hf 85 (by omega)) 0).symm).trans (gj 0 (by omega)).symm))))
set_option maxHeartbeats 4000000 in
set_option maxRecDepth 100000 in
theorem op_friendly {ad : Nat → Nat} {t : Nat} {I : KI} {J : KJ} (hI : Inv t I J) {setv rv kv : Int32} {P : Int32 → KI → KJ → KR → Prop} (hP : ∀ (a : Int32) (I' : KI) (J' : KJ) (t' : Nat), (∀ Q2 : Int32 → KI → KJ → KR → Prop, (∀ I'' J'', Inv t' I'' J'' → Q2 a I'' J'' (rf t')) → Mi 3 yX10_friendly (wm yX10_friendly cX10_friendly 4 (some .int)) [.ref (ad 85), .int setv, .int rv, .int kv] ad I' J' (rf t') Q2) → P a I' J' (rf t')) : Mi 13 yX9_friendly (wm yX9_friendly cX9_friendly 4 (some .int)) [.ref (ad 0), .int setv, .int rv, .int kv] ad I J (rf t) P := by
  have hI0 := hI
  obtain ⟨th, so, ct, ce, n, r, s, rd, C0, c, ki, co, ag, re, T, h, hc, hd, o, k, m, e12, e13⟩ := hI
  have ⟨o1, o2, o3, o4, o5⟩ := o
  have ⟨ht, k1, k2, k3, k4, k5, hz⟩ := k
  have ⟨m1, m2, m3, m4, m5⟩ := m
  have hr12 := o2.2.1
  have hn7 := o2.1
  have hc10 := o4.1
  have hc5 := o5.2.2.1
  have htt : t = 4 ∨ t = 26 := ht
  refine c_X9_friendly k4 o4 (fun v hr => hP _ _ _ _ (fun Q2 hQ => ?_)) (fun I' hn hf => hP _ _ _ _ (fun Q2 hQ => ?_))
  · refine c_X10_friendly m4 o4 (fun v2 hr2 => ?_) (fun I2 J2 hn _ _ _ _ => by rw [hr] at hn; cases hn)
    rw [hr] at hr2; cases hr2
    exact hQ _ _ hI0
  · have mp := m.fr (fun q q1 _ _ _ => hf q (by omega)) (fun j _ => by rw [hf 85 (by omega)])
    have ⟨m1, m2, m3, m4, m5⟩ := mp
    refine c_X10_friendly m4 o4 (fun v2 hr2 => by rw [hn] at hr2; cases hr2) (fun I2 J2 _ gf gj gJ gK => ?_)
    exact hQ _ _ (Inv.sc o k m e12 (fun q q1 q2 q3 => hf q (by omega)) (fun j j1 j2 j3 j4 => (congrFun (hf 0 (by omega)) j)) (hz.fr (hf 54 (by omega)) rfl) (fun q q1 q2 q3 q4 => gf q (by omega) (by omega) (by omega)) (fun j j1 j2 j3 j4 j5 => (gj j (by omega))) (fun q q1 _ => gJ q q1) (((congrFun (gf 0 (by omega) (by omega) (by omega)) 13).trans (congrFun (hf 0 (by omega)) 13)).trans (e13.trans (((congrFun (hf 85 (by omega)) 0).symm).trans (gj 0 (by omega)).symm))))
set_option maxHeartbeats 4000000 in
set_option maxRecDepth 100000 in
theorem op_week {ad : Nat → Nat} {t : Nat} {I : KI} {J : KJ} (hI : Inv t I J) {nv kv : Int32} {P : Int32 → KI → KJ → KR → Prop} (hP : ∀ (a : Int32) (I' : KI) (J' : KJ) (t' : Nat), (∀ Q2 : Int32 → KI → KJ → KR → Prop, (∀ I'' J'', Inv t' I'' J'' → Q2 a I'' J'' (rf t')) → Mi 4 yX10_week (wm yX10_week cX10_week 3 (some .int)) [.ref (ad 85), .int nv, .int kv] ad I' J' (rf t') Q2) → P a I' J' (rf t')) : Mi 10 yX9_week (wm yX9_week cX9_week 3 (some .int)) [.ref (ad 0), .int nv, .int kv] ad I J (rf t) P := by
  have hI0 := hI
  obtain ⟨th, so, ct, ce, n, r, s, rd, C0, c, ki, co, ag, re, T, h, hc, hd, o, k, m, e12, e13⟩ := hI
  have ⟨o1, o2, o3, o4, o5⟩ := o
  have ⟨ht, k1, k2, k3, k4, k5, hz⟩ := k
  have ⟨m1, m2, m3, m4, m5⟩ := m
  have hr12 := o2.2.1
  have hn7 := o2.1
  have hc10 := o4.1
  have hc5 := o5.2.2.1
  have htt : t = 4 ∨ t = 26 := ht
  refine c_X9_week k5 o5 (fun v hr => hP _ _ _ _ (fun Q2 hQ => ?_)) (fun I' hn hf => hP _ _ _ _ (fun Q2 hQ => ?_))
  · refine c_X10_week m5 o5 (fun v2 hr2 => ?_) (fun I2 hn _ _ => by rw [hr] at hn; cases hn)
    rw [hr] at hr2; cases hr2
    exact hQ _ _ hI0
  · have mp := m.fr (fun q q1 _ _ _ => hf q (by omega)) (fun j _ => by rw [hf 85 (by omega)])
    have ⟨m1, m2, m3, m4, m5⟩ := mp
    refine c_X10_week m5 o5 (fun v2 hr2 => by rw [hn] at hr2; cases hr2) (fun I2 _ gf gj => ?_)
    exact hQ _ _ (Inv.sc o k m e12 (fun q q1 q2 q3 => hf q (by omega)) (fun j j1 j2 j3 j4 => (congrFun (hf 0 (by omega)) j)) (hz.fr (hf 54 (by omega)) rfl) (fun q q1 q2 q3 q4 => gf q (by omega) (by omega) (by omega)) (fun j j1 j2 j3 j4 j5 => (gj j (by omega))) (fun q _ _ => rfl) (((congrFun (gf 0 (by omega) (by omega) (by omega)) 13).trans (congrFun (hf 0 (by omega)) 13)).trans (e13.trans (((congrFun (hf 85 (by omega)) 0).symm).trans (gj 0 (by omega)).symm))))
set_option maxHeartbeats 4000000 in
set_option maxRecDepth 100000 in
theorem op_as {ad : Nat → Nat} {t : Nat} {I : KI} {J : KJ} (hI : Inv t I J) {xv kv : Int32} {P : Int32 → KI → KJ → KR → Prop} (hP : ∀ (a : Int32) (I' : KI) (J' : KJ) (t' : Nat), (∀ Q2 : Int32 → KI → KJ → KR → Prop, (∀ I'' J'', Inv t' I'' J'' → Q2 a I'' J'' (rf t')) → Mi 4 yX10_as (wm yX10_as cX10_as 3 (some .int)) [.ref (ad 85), .int xv, .int kv] ad I' J' (rf t') Q2) → P a I' J' (rf t')) : Mi 4 yX9_as (wm yX9_as cX9_as 3 (some .int)) [.ref (ad 0), .int xv, .int kv] ad I J (rf t) P := by
  have hI0 := hI
  obtain ⟨th, so, ct, ce, n, r, s, rd, C0, c, ki, co, ag, re, T, h, hc, hd, o, k, m, e12, e13⟩ := hI
  have ⟨o1, o2, o3, o4, o5⟩ := o
  have ⟨ht, k1, k2, k3, k4, k5, hz⟩ := k
  have ⟨m1, m2, m3, m4, m5⟩ := m
  have hr12 := o2.2.1
  have hn7 := o2.1
  have hc10 := o4.1
  have hc5 := o5.2.2.1
  have htt : t = 4 ∨ t = 26 := ht
  refine c_X9_as k4 o4 (hP _ _ _ _ (fun Q2 hQ => ?_))
  · obtain ⟨I', eI⟩ : ∃ I', I' = upI I 0 13 (nI (asR c ki xv kv).2) := ⟨_, rfl⟩
    have hf : ∀ q, q ≠ 0 → I' q = I q := fun q hq => by rw [eI]; exact upI_row I _ hq
    have hj : ∀ j, j ≠ 13 → I' 0 j = I 0 j := fun j hq => by rw [eI]; exact upI_k I _ hq
    have h13 : I' 0 13 = nI (asR c ki xv kv).2 := by rw [eI]; exact upI_same I _ _ _
    rw [← eI]
    have mp := m.fr (fun q q1 _ _ _ => hf q (by omega)) (fun j _ => by rw [hf 85 (by omega)])
    have ⟨m1, m2, m3, m4, m5⟩ := mp
    refine c_X10_as m4 o4 ?_
    have gf : ∀ q, q ≠ 85 → (upI I' 85 0 (nI (asR c ki xv kv).2)) q = I' q := fun q hq => upI_row I' _ hq
    have gj : ∀ j, j ≠ 0 → (upI I' 85 0 (nI (asR c ki xv kv).2)) 85 j = I' 85 j := fun j hq => upI_k I' _ hq
    have g0 := upI_same I' 85 0 (nI (asR c ki xv kv).2)
    exact hQ _ _ (Inv.sc o k m e12 (fun q q1 q2 q3 => hf q (by omega)) (fun j j1 j2 j3 j4 => (hj j (by omega))) (hz.fr (hf 54 (by omega)) rfl) (fun q q1 q2 q3 q4 => gf q (by omega)) (fun j j1 j2 j3 j4 j5 => (gj j (by omega))) (fun q _ _ => rfl) (((congrFun (gf 0 (by omega)) 13).trans h13).trans g0.symm))
set_option maxHeartbeats 4000000 in
set_option maxRecDepth 100000 in
theorem op_cell {ad : Nat → Nat} {t : Nat} {I : KI} {J : KJ} (hI : Inv t I J) {kv iv sv : Int32} {P : Int64 → KI → KJ → KR → Prop} (hP : ∀ (a : Int64) (I' : KI) (J' : KJ) (t' : Nat), (∀ Q2 : Int64 → KI → KJ → KR → Prop, (∀ I'' J'', Inv t' I'' J'' → Q2 a I'' J'' (rf t')) → Ml 3 yX10_cell (wm yX10_cell cX10_cell 4 (some .long)) [.ref (ad 85), .int kv, .int iv, .int sv] ad I' J' (rf t') Q2) → P a I' J' (rf t')) : Ml 3 yX9_cell (wm yX9_cell cX9_cell 4 (some .long)) [.ref (ad 0), .int kv, .int iv, .int sv] ad I J (rf t) P := by
  have hI0 := hI
  obtain ⟨th, so, ct, ce, n, r, s, rd, C0, c, ki, co, ag, re, T, h, hc, hd, o, k, m, e12, e13⟩ := hI
  have ⟨o1, o2, o3, o4, o5⟩ := o
  have ⟨ht, k1, k2, k3, k4, k5, hz⟩ := k
  have ⟨m1, m2, m3, m4, m5⟩ := m
  have hr12 := o2.2.1
  have hn7 := o2.1
  have hc10 := o4.1
  have hc5 := o5.2.2.1
  have htt : t = 4 ∨ t = 26 := ht
  refine c_X9_cell k1 o1 (fun f hr => hP _ _ _ _ (fun Q2 hQ => ?_)) (fun hn a i e1 l1 e2 l2 => hP _ _ _ _ (fun Q2 hQ => ?_))
  · obtain ⟨I', eI⟩ : ∃ I', I' = upI I 0 13 (nI f) := ⟨_, rfl⟩
    have hf : ∀ q, q ≠ 0 → I' q = I q := fun q hq => by rw [eI]; exact upI_row I _ hq
    have hj : ∀ j, j ≠ 13 → I' 0 j = I 0 j := fun j hq => by rw [eI]; exact upI_k I _ hq
    have h13 : I' 0 13 = nI f := by rw [eI]; exact upI_same I _ _ _
    rw [← eI]
    have mp := m.fr (fun q q1 _ _ _ => hf q (by omega)) (fun j _ => by rw [hf 85 (by omega)])
    have ⟨m1, m2, m3, m4, m5⟩ := mp
    refine c_X10_cell m1 o1 (fun f2 hr2 => ?_) (fun hn => by rw [hr] at hn; cases hn)
    rw [hr] at hr2; cases hr2
    have gf : ∀ q, q ≠ 85 → (upI I' 85 0 (nI f)) q = I' q := fun q hq => upI_row I' _ hq
    have gj : ∀ j, j ≠ 0 → (upI I' 85 0 (nI f)) 85 j = I' 85 j := fun j hq => upI_k I' _ hq
    have g0 := upI_same I' 85 0 (nI f)
    exact hQ _ _ (Inv.sc o k m e12 (fun q q1 q2 q3 => hf q (by omega)) (fun j j1 j2 j3 j4 => (hj j (by omega))) (hz.fr (hf 54 (by omega)) rfl) (fun q q1 q2 q3 q4 => gf q (by omega)) (fun j j1 j2 j3 j4 j5 => (gj j (by omega))) (fun q _ _ => rfl) (((congrFun (gf 0 (by omega)) 13).trans h13).trans g0.symm))
  · obtain ⟨I', eI⟩ : ∃ I', I' = upI I 0 13 (nI 0) := ⟨_, rfl⟩
    have hf : ∀ q, q ≠ 0 → I' q = I q := fun q hq => by rw [eI]; exact upI_row I _ hq
    have hj : ∀ j, j ≠ 13 → I' 0 j = I 0 j := fun j hq => by rw [eI]; exact upI_k I _ hq
    have h13 : I' 0 13 = nI 0 := by rw [eI]; exact upI_same I _ _ _
    rw [← eI]
    have mp := m.fr (fun q q1 _ _ _ => hf q (by omega)) (fun j _ => by rw [hf 85 (by omega)])
    have ⟨m1, m2, m3, m4, m5⟩ := mp
    refine c_X10_cell m1 o1 (fun f2 hr2 => by rw [hn] at hr2; cases hr2) (fun _ a2 i2 f1 g1 f2 g2 => ?_)
    subst e1
    subst e2
    obtain rfl := nI_inj f1 (by omega) (by omega)
    obtain rfl := nI_inj f2 (by omega) (by omega)
    have gf : ∀ q, q ≠ 85 → (upI I' 85 0 (nI 0)) q = I' q := fun q hq => upI_row I' _ hq
    have gj : ∀ j, j ≠ 0 → (upI I' 85 0 (nI 0)) 85 j = I' 85 j := fun j hq => upI_k I' _ hq
    have g0 := upI_same I' 85 0 (nI 0)
    exact hQ _ _ (Inv.sc o k m e12 (fun q q1 q2 q3 => hf q (by omega)) (fun j j1 j2 j3 j4 => (hj j (by omega))) (hz.fr (hf 54 (by omega)) rfl) (fun q q1 q2 q3 q4 => gf q (by omega)) (fun j j1 j2 j3 j4 j5 => (gj j (by omega))) (fun q _ _ => rfl) (((congrFun (gf 0 (by omega)) 13).trans h13).trans g0.symm))
set_option maxHeartbeats 4000000 in
set_option maxRecDepth 100000 in
theorem op_child {ad : Nat → Nat} {t : Nat} {I : KI} {J : KJ} (hI : Inv t I J) {kd cr av rv : Int32} {P : Int32 → KI → KJ → KR → Prop} (hP : ∀ (a : Int32) (I' : KI) (J' : KJ) (t' : Nat), (∀ Q2 : Int32 → KI → KJ → KR → Prop, (∀ I'' J'', Inv t' I'' J'' → Q2 a I'' J'' (rf t')) → Mi 3 yX10_child (wm yX10_child cX10_child 6 (some .int)) [.ref (ad 85), .int kd, .int cr, .int av, .int rv] ad I' J' (rf t') Q2) → P a I' J' (rf t')) : Mi 3 yX9_child (wm yX9_child cX9_child 5 (some .int)) [.ref (ad 0), .int kd, .int cr, .int av, .int rv] ad I J (rf t) P := by
  have hI0 := hI
  obtain ⟨th, so, ct, ce, n, r, s, rd, C0, c, ki, co, ag, re, T, h, hc, hd, o, k, m, e12, e13⟩ := hI
  have ⟨o1, o2, o3, o4, o5⟩ := o
  have ⟨ht, k1, k2, k3, k4, k5, hz⟩ := k
  have ⟨m1, m2, m3, m4, m5⟩ := m
  have hr12 := o2.2.1
  have hn7 := o2.1
  have hc10 := o4.1
  have hc5 := o5.2.2.1
  have htt : t = 4 ∨ t = 26 := ht
  refine c_X9_child k4 o4 ht k2 hn7 (fun a hr => hP _ _ _ _ (fun Q2 hQ => ?_)) (fun hn a b d i e1 e2 e3 e4 l1 l2 l3 l4 l5 l6 I' hf hj hk => hP _ _ _ _ (fun Q2 hQ => ?_))
  · refine c_X10_child m4 o4 m2 hn7 (fun a2 hr2 => ?_) (fun hn => by rw [hr] at hn; cases hn)
    rw [hr] at hr2; cases hr2
    exact hQ _ _ hI0
  · have mp := m.fr (fun q q1 _ _ _ => hf q (by omega) (by omega)) (fun j _ => by rw [hf 85 (by omega) (by omega)])
    have ⟨m1, m2, m3, m4, m5⟩ := mp
    refine c_X10_child m4 o4 m2 hn7 (fun a2 hr2 => by rw [hn] at hr2; cases hr2) (fun _ a2 b2 d2 i2 f1 f2 f3 f4 g1 g2 g3 g4 g5 _ I2 gf gj gk => ?_)
    subst e1
    subst e2
    subst e3
    subst e4
    obtain rfl := nI_inj f1 (by omega) (by omega)
    obtain rfl := nI_inj f2 (by omega) (by omega)
    obtain rfl := nI_inj f3 (by omega) (by omega)
    obtain rfl := nI_inj f4 (by omega) (by omega)
    exact hQ _ _ (Inv.ch ⟨o1, o2, o3, okKd_ch o4 l1 l2 l3 l4 l5 l6, o5⟩ (t' := t) ⟨ht, k1.fr (fun p _ _ => hf p (by omega) (by omega)), k2.fr (fun p _ _ => hf p (by omega) (by omega)), k3.fr hn7 (fun p _ _ => hf p (by omega) (by omega)), hk, k5.fr (hj 8 (by omega)) (hj 10 (by omega)) (hf 62 (by omega) (by omega)), hz.fr (hf 54 (by omega) (by omega)) rfl⟩ ⟨m1.fr (fun p _ _ => gf p (by omega) (by omega)), m2.fr (gj 5 (by omega)) (gj 6 (by omega)) (gj 7 (by omega)) (fun p _ _ => gf p (by omega) (by omega)), m3.fr (gf 94 (by omega) (by omega)), gk, m5.fr (gj 32 (by omega)) (gj 37 (by omega)) (gf 107 (by omega) (by omega))⟩ (((congrFun (gf 0 (by omega) (by omega)) 12).trans (hj 12 (by omega))).trans (e12.trans (((congrFun (hf 85 (by omega) (by omega)) 1).symm).trans (gj 1 (by omega)).symm))) (fun q _ => gf q (by omega) (by omega)) rfl (((congrFun (gf 0 (by omega) (by omega)) 13).trans (hj 13 (by omega))).trans (e13.trans (((congrFun (hf 85 (by omega) (by omega)) 0).symm).trans (gj 0 (by omega)).symm))))
set_option maxHeartbeats 4000000 in
set_option maxRecDepth 100000 in
theorem op_ready {ad : Nat → Nat} {t : Nat} {I : KI} {J : KJ} (hI : Inv t I J) {xv v : Int32} {P : Int32 → KI → KJ → KR → Prop} (hP : ∀ (a : Int32) (I' : KI) (J' : KJ) (t' : Nat), (∀ Q2 : Int32 → KI → KJ → KR → Prop, (∀ I'' J'', Inv t' I'' J'' → Q2 a I'' J'' (rf t')) → Mi 3 yX10_ready (wm yX10_ready cX10_ready 4 (some .int)) [.ref (ad 85), .int xv, .int v] ad I' J' (rf t') Q2) → P a I' J' (rf t')) : Mi 3 yX9_ready (wm yX9_ready cX9_ready 4 (some .int)) [.ref (ad 0), .int xv, .int v] ad I J (rf t) P := by
  have hI0 := hI
  obtain ⟨th, so, ct, ce, n, r, s, rd, C0, c, ki, co, ag, re, T, h, hc, hd, o, k, m, e12, e13⟩ := hI
  have ⟨o1, o2, o3, o4, o5⟩ := o
  have ⟨ht, k1, k2, k3, k4, k5, hz⟩ := k
  have ⟨m1, m2, m3, m4, m5⟩ := m
  have hr12 := o2.2.1
  have hn7 := o2.1
  have hc10 := o4.1
  have hc5 := o5.2.2.1
  have htt : t = 4 ∨ t = 26 := ht
  refine c_X9_ready k4 o4 (fun a hr => hP _ _ _ _ (fun Q2 hQ => ?_)) (fun hn a b e1 l1 e2 l2 I' hf hk => hP _ _ _ _ (fun Q2 hQ => ?_))
  · refine c_X10_ready m4 o4 (fun a2 hr2 => ?_) (fun hn => by rw [hr] at hn; cases hn)
    rw [hr] at hr2; cases hr2
    exact hQ _ _ hI0
  · have mp := m.fr (fun q q1 _ _ _ => hf q (by omega)) (fun j _ => by rw [hf 85 (by omega)])
    have ⟨m1, m2, m3, m4, m5⟩ := mp
    refine c_X10_ready m4 o4 (fun a2 hr2 => by rw [hn] at hr2; cases hr2) (fun _ a2 b2 f1 g1 f2 g2 I2 gf gk => ?_)
    subst e1
    subst e2
    obtain rfl := nI_inj f1 (by omega) (by omega)
    obtain rfl := nI_inj f2 (by omega) (by omega)
    exact hQ _ _ (Inv.ch ⟨o1, o2, o3, okKd_re o4 l2, o5⟩ (t' := t) ⟨ht, k1.fr (fun p _ _ => hf p (by omega)), k2.fr (fun p _ _ => hf p (by omega)), k3.fr hn7 (fun p _ _ => hf p (by omega)), hk, k5.fr (congrFun (hf 0 (by omega)) 8) (congrFun (hf 0 (by omega)) 10) (hf 62 (by omega)), hz.fr (hf 54 (by omega)) rfl⟩ ⟨m1.fr (fun p _ _ => gf p (by omega)), m2.fr (congrFun (gf 85 (by omega)) 5) (congrFun (gf 85 (by omega)) 6) (congrFun (gf 85 (by omega)) 7) (fun p _ _ => gf p (by omega)), m3.fr (gf 94 (by omega)), gk, m5.fr (congrFun (gf 85 (by omega)) 32) (congrFun (gf 85 (by omega)) 37) (gf 107 (by omega))⟩ (((congrFun (gf 0 (by omega)) 12).trans (congrFun (hf 0 (by omega)) 12)).trans (e12.trans (((congrFun (hf 85 (by omega)) 1).symm).trans (congrFun (gf 85 (by omega)) 1).symm))) (fun q _ => gf q (by omega)) rfl (((congrFun (gf 0 (by omega)) 13).trans (congrFun (hf 0 (by omega)) 13)).trans (e13.trans (((congrFun (hf 85 (by omega)) 0).symm).trans (congrFun (gf 85 (by omega)) 0).symm))))
set_option maxHeartbeats 4000000 in
set_option maxRecDepth 100000 in
theorem op_tie {ad : Nat → Nat} {t : Nat} {I : KI} {J : KJ} (hI : Inv t I J) {xv yv v : Int32} {P : Int32 → KI → KJ → KR → Prop} (hP : ∀ (a : Int32) (I' : KI) (J' : KJ) (t' : Nat), (∀ Q2 : Int32 → KI → KJ → KR → Prop, (∀ I'' J'', Inv t' I'' J'' → Q2 a I'' J'' (rf t')) → Mi 3 yX10_tie (wm yX10_tie cX10_tie 5 (some .int)) [.ref (ad 85), .int xv, .int yv, .int v] ad I' J' (rf t') Q2) → P a I' J' (rf t')) : Mi 3 yX9_tie (wm yX9_tie cX9_tie 5 (some .int)) [.ref (ad 0), .int xv, .int yv, .int v] ad I J (rf t) P := by
  have hI0 := hI
  obtain ⟨th, so, ct, ce, n, r, s, rd, C0, c, ki, co, ag, re, T, h, hc, hd, o, k, m, e12, e13⟩ := hI
  have ⟨o1, o2, o3, o4, o5⟩ := o
  have ⟨ht, k1, k2, k3, k4, k5, hz⟩ := k
  have ⟨m1, m2, m3, m4, m5⟩ := m
  have hr12 := o2.2.1
  have hn7 := o2.1
  have hc10 := o4.1
  have hc5 := o5.2.2.1
  have htt : t = 4 ∨ t = 26 := ht
  refine c_X9_tie k4 o4 (fun a hr => hP _ _ _ _ (fun Q2 hQ => ?_)) (fun hn a b d e1 l1 e2 l2 hne e3 l3 I' hf hk => hP _ _ _ _ (fun Q2 hQ => ?_))
  · refine c_X10_tie m4 o4 (fun a2 hr2 => ?_) (fun hn => by rw [hr] at hn; cases hn)
    rw [hr] at hr2; cases hr2
    exact hQ _ _ hI0
  · have mp := m.fr (fun q q1 _ _ _ => hf q (by omega)) (fun j _ => by rw [hf 85 (by omega)])
    have ⟨m1, m2, m3, m4, m5⟩ := mp
    refine c_X10_tie m4 o4 (fun a2 hr2 => by rw [hn] at hr2; cases hr2) (fun _ a2 b2 d2 f1 g1 f2 g2 _ f3 g3 I2 gf gk => ?_)
    subst e1
    subst e2
    subst e3
    obtain rfl := nI_inj f1 (by omega) (by omega)
    obtain rfl := nI_inj f2 (by omega) (by omega)
    obtain rfl := nI_inj f3 (by omega) (by omega)
    exact hQ _ _ (Inv.ch ⟨o1, o2, o3, okKd_ti o4 hne l3, o5⟩ (t' := t) ⟨ht, k1.fr (fun p _ _ => hf p (by omega)), k2.fr (fun p _ _ => hf p (by omega)), k3.fr hn7 (fun p _ _ => hf p (by omega)), hk, k5.fr (congrFun (hf 0 (by omega)) 8) (congrFun (hf 0 (by omega)) 10) (hf 62 (by omega)), hz.fr (hf 54 (by omega)) rfl⟩ ⟨m1.fr (fun p _ _ => gf p (by omega)), m2.fr (congrFun (gf 85 (by omega)) 5) (congrFun (gf 85 (by omega)) 6) (congrFun (gf 85 (by omega)) 7) (fun p _ _ => gf p (by omega)), m3.fr (gf 94 (by omega)), gk, m5.fr (congrFun (gf 85 (by omega)) 32) (congrFun (gf 85 (by omega)) 37) (gf 107 (by omega))⟩ (((congrFun (gf 0 (by omega)) 12).trans (congrFun (hf 0 (by omega)) 12)).trans (e12.trans (((congrFun (hf 85 (by omega)) 1).symm).trans (congrFun (gf 85 (by omega)) 1).symm))) (fun q _ => gf q (by omega)) rfl (((congrFun (gf 0 (by omega)) 13).trans (congrFun (hf 0 (by omega)) 13)).trans (e13.trans (((congrFun (hf 85 (by omega)) 0).symm).trans (congrFun (gf 85 (by omega)) 0).symm))))
set_option maxHeartbeats 4000000 in
set_option maxRecDepth 100000 in
theorem op_holds {ad : Nat → Nat} {t : Nat} {I : KI} {J : KJ} (hI : Inv t I J) {v : Int32} {P : Int32 → KI → KJ → KR → Prop} (hP : ∀ (a : Int32) (I' : KI) (J' : KJ) (t' : Nat), (∀ Q2 : Int32 → KI → KJ → KR → Prop, (∀ I'' J'', Inv t' I'' J'' → Q2 a I'' J'' (rf t')) → Mi 2 yX10_holds (wm yX10_holds cX10_holds 3 (some .int)) [.ref (ad 85), .int v] ad I' J' (rf t') Q2) → P a I' J' (rf t')) : Mi 2 yX9_holds (wm yX9_holds cX9_holds 3 (some .int)) [.ref (ad 0), .int v] ad I J (rf t) P := by
  have hI0 := hI
  obtain ⟨th, so, ct, ce, n, r, s, rd, C0, c, ki, co, ag, re, T, h, hc, hd, o, k, m, e12, e13⟩ := hI
  have ⟨o1, o2, o3, o4, o5⟩ := o
  have ⟨ht, k1, k2, k3, k4, k5, hz⟩ := k
  have ⟨m1, m2, m3, m4, m5⟩ := m
  have hr12 := o2.2.1
  have hn7 := o2.1
  have hc10 := o4.1
  have hc5 := o5.2.2.1
  have htt : t = 4 ∨ t = 26 := ht
  refine c_X9_holds k5 (fun hr => hP _ _ _ _ (fun Q2 hQ => ?_)) (fun a e1 l1 l2 => hP _ _ _ _ (fun Q2 hQ => ?_))
  · exact c_X10_holds m5 (fun _ => hQ _ _ hI0) (fun w e l1 l2 => by subst e; exact absurd (isB_nI (by omega) (by omega) (by omega)) hr)
  · obtain ⟨I', eI⟩ : ∃ z, z = upI I 0 8 (nI a) := ⟨_, rfl⟩
    rw [← eI]
    have hf : ∀ q, q ≠ 0 → I' q = I q := fun q hq => by rw [eI]; exact upI_row I _ hq
    have hj : ∀ j, j ≠ 8 → I' 0 j = I 0 j := fun j hq => by rw [eI]; exact upI_k I _ hq
    have h8 : I' 0 8 = nI a := by rw [eI]; exact upI_same I _ _ _
    have mp := m.fr (fun q q1 _ _ _ => hf q (by omega)) (fun j _ => by rw [hf 85 (by omega)])
    have ⟨m1, m2, m3, m4, m5⟩ := mp
    refine c_X10_holds m5 (fun hr => by subst e1; exact absurd (isB_nI (by omega) (by omega) (by omega)) hr) (fun a2 f1 g1 g2 => ?_)
    subst e1
    obtain rfl := nI_inj f1 (by omega) (by omega)
    obtain ⟨I2, eJ⟩ : ∃ z, z = upI I' 85 32 (nI a) := ⟨_, rfl⟩
    rw [← eJ]
    have gf : ∀ q, q ≠ 85 → I2 q = I' q := fun q hq => by rw [eJ]; exact upI_row I' _ hq
    have gj : ∀ j, j ≠ 32 → I2 85 j = I' 85 j := fun j hq => by rw [eJ]; exact upI_k I' _ hq
    have g8 : I2 85 32 = nI a := by rw [eJ]; exact upI_same I' _ _ _
    exact hQ _ _ (Inv.ch ⟨o1, o2, o3, o4, ⟨l1, l2, o5.2.2⟩⟩ (t' := t) ⟨ht, k1.fr (fun p _ _ => hf p (by omega)), k2.fr (fun p _ _ => hf p (by omega)), k3.fr hn7 (fun p _ _ => hf p (by omega)), k4.fr hc10 (hj 5 (by omega)) (fun p _ _ => hf p (by omega)), ⟨h8, (hj 10 (by omega)).trans k5.2.1, fun x hx => by rw [hf 62 (by omega)]; exact k5.2.2 x hx⟩, hz.fr (hf 54 (by omega)) rfl⟩ ⟨m1.fr (fun p _ _ => gf p (by omega)), m2.fr (gj 5 (by omega)) (gj 6 (by omega)) (gj 7 (by omega)) (fun p _ _ => gf p (by omega)), m3.fr (gf 94 (by omega)), m4.fr (gj 19 (by omega)) (fun p _ _ => gf p (by omega)), ⟨g8, (gj 37 (by omega)).trans m5.2.1, fun x hx => by rw [gf 107 (by omega)]; exact m5.2.2 x hx⟩⟩ (((congrFun (gf 0 (by omega)) 12).trans (hj 12 (by omega))).trans (e12.trans (((congrFun (hf 85 (by omega)) 1).symm).trans (gj 1 (by omega)).symm))) (fun q _ => gf q (by omega)) rfl (((congrFun (gf 0 (by omega)) 13).trans (hj 13 (by omega))).trans (e13.trans (((congrFun (hf 85 (by omega)) 0).symm).trans (gj 0 (by omega)).symm))))
set_option maxHeartbeats 4000000 in
set_option maxRecDepth 100000 in
theorem op_helper {ad : Nat → Nat} {t : Nat} {I : KI} {J : KJ} (hI : Inv t I J) {v : Int32} {P : Int32 → KI → KJ → KR → Prop} (hP : ∀ (a : Int32) (I' : KI) (J' : KJ) (t' : Nat), (∀ Q2 : Int32 → KI → KJ → KR → Prop, (∀ I'' J'', Inv t' I'' J'' → Q2 a I'' J'' (rf t')) → Mi 2 yX10_helper (wm yX10_helper cX10_helper 2 (some .int)) [.ref (ad 85), .int v] ad I' J' (rf t') Q2) → P a I' J' (rf t')) : Mi 2 yX9_helper (wm yX9_helper cX9_helper 2 (some .int)) [.ref (ad 0), .int v] ad I J (rf t) P := by
  have hI0 := hI
  obtain ⟨th, so, ct, ce, n, r, s, rd, C0, c, ki, co, ag, re, T, h, hc, hd, o, k, m, e12, e13⟩ := hI
  have ⟨o1, o2, o3, o4, o5⟩ := o
  have ⟨ht, k1, k2, k3, k4, k5, hz⟩ := k
  have ⟨m1, m2, m3, m4, m5⟩ := m
  have hr12 := o2.2.1
  have hn7 := o2.1
  have hc10 := o4.1
  have hc5 := o5.2.2.1
  have htt : t = 4 ∨ t = 26 := ht
  refine c_X9_helper k5 o5 (fun a hr => hP _ _ _ _ (fun Q2 hQ => ?_)) (fun hn a e1 l1 l2 => hP _ _ _ _ (fun Q2 hQ => ?_))
  · refine c_X10_helper m5 o5 (fun a2 hr2 => ?_) (fun hn => by rw [hr] at hn; cases hn)
    rw [hr] at hr2; cases hr2
    exact hQ _ _ hI0
  · obtain ⟨I', eI⟩ : ∃ z, z = upI (upI I 62 hc (nI a)) 0 10 (nI (hc + 1)) := ⟨_, rfl⟩
    rw [← eI]
    have hf : ∀ q, q ≠ 0 → q ≠ 62 → I' q = I q := fun q h1 h2 => by rw [eI, upI_row _ _ h1]; exact upI_row I _ h2
    have hj : ∀ j, j ≠ 10 → I' 0 j = I 0 j := fun j hq => by rw [eI, upI_k _ _ hq]; exact upI_p I _ (by omega)
    have h8 : I' 0 10 = nI (hc + 1) := by rw [eI]; exact upI_same _ _ _ _
    have h62 : ∀ x, x < hc + 1 → I' 62 x = nI (fu hd hc a x) := fun x hx => by
      rw [eI, upI_p _ _ (by omega)]
      by_cases e : x = hc
      · subst e; rw [upI_same, fu_same]
      · rw [upI_k _ _ e, fu_ne _ _ e]; exact k5.2.2 x (by omega)
    have mp := m.fr (fun q q1 _ _ _ => hf q (by omega) (by omega)) (fun j _ => by rw [hf 85 (by omega) (by omega)])
    have ⟨m1, m2, m3, m4, m5⟩ := mp
    refine c_X10_helper m5 o5 (fun a2 hr2 => by rw [hn] at hr2; cases hr2) (fun _ a2 f1 g1 g2 => ?_)
    subst e1
    obtain rfl := nI_inj f1 (by omega) (by omega)
    obtain ⟨I2, eJ⟩ : ∃ z, z = upI (upI I' 107 hc (nI a)) 85 37 (nI (hc + 1)) := ⟨_, rfl⟩
    rw [← eJ]
    have gf : ∀ q, q ≠ 85 → q ≠ 107 → I2 q = I' q := fun q h1 h2 => by rw [eJ, upI_row _ _ h1]; exact upI_row I' _ h2
    have gj : ∀ j, j ≠ 37 → I2 85 j = I' 85 j := fun j hq => by rw [eJ, upI_k _ _ hq]; exact upI_p I' _ (by omega)
    have g8 : I2 85 37 = nI (hc + 1) := by rw [eJ]; exact upI_same _ _ _ _
    have g107 : ∀ x, x < hc + 1 → I2 107 x = nI (fu hd hc a x) := fun x hx => by
      rw [eJ, upI_p _ _ (by omega)]
      by_cases e : x = hc
      · subst e; rw [upI_same, fu_same]
      · rw [upI_k _ _ e, fu_ne _ _ e]; exact m5.2.2 x (by omega)
    have oo : okMi h (hc + 1) (fu hd hc a) := ⟨o5.1, o5.2.1, by omega, fun x hx => by
          by_cases e : x = hc
          · subst e; rw [fu_same]; exact l1
          · rw [fu_ne _ _ e]; exact o5.2.2.2 x (by omega)⟩
    exact hQ _ _ (Inv.ch ⟨o1, o2, o3, o4, oo⟩ (t' := t) ⟨ht, k1.fr (fun p _ _ => hf p (by omega) (by omega)), k2.fr (fun p _ _ => hf p (by omega) (by omega)), k3.fr hn7 (fun p _ _ => hf p (by omega) (by omega)), k4.fr hc10 (hj 5 (by omega)) (fun p _ _ => hf p (by omega) (by omega)), ⟨(hj 8 (by omega)).trans k5.1, h8, h62⟩, hz.fr (hf 54 (by omega) (by omega)) rfl⟩ ⟨m1.fr (fun p _ _ => gf p (by omega) (by omega)), m2.fr (gj 5 (by omega)) (gj 6 (by omega)) (gj 7 (by omega)) (fun p _ _ => gf p (by omega) (by omega)), m3.fr (gf 94 (by omega) (by omega)), m4.fr (gj 19 (by omega)) (fun p _ _ => gf p (by omega) (by omega)), ⟨(gj 32 (by omega)).trans m5.1, g8, g107⟩⟩ (((congrFun (gf 0 (by omega) (by omega)) 12).trans (hj 12 (by omega))).trans (e12.trans (((congrFun (hf 85 (by omega) (by omega)) 1).symm).trans (gj 1 (by omega)).symm))) (fun q _ => gf q (by omega) (by omega)) rfl (((congrFun (gf 0 (by omega) (by omega)) 13).trans (hj 13 (by omega))).trans (e13.trans (((congrFun (hf 85 (by omega) (by omega)) 0).symm).trans (gj 0 (by omega)).symm))))
set_option maxHeartbeats 4000000 in
set_option maxRecDepth 100000 in
theorem op_days {ad : Nat → Nat} {t : Nat} {I : KI} {J : KJ} (hI : Inv t I J) {xv v : Int32} {P : Int32 → KI → KJ → KR → Prop} (hP : ∀ (a : Int32) (I' : KI) (J' : KJ) (t' : Nat), (∀ Q2 : Int32 → KI → KJ → KR → Prop, (∀ I'' J'', Inv t' I'' J'' → Q2 a I'' J'' (rf t')) → Mi 2 yX10_days (wm yX10_days cX10_days 4 (some .int)) [.ref (ad 85), .int xv, .int v] ad I' J' (rf t') Q2) → P a I' J' (rf t')) : Mi 2 yX9_days (wm yX9_days cX9_days 4 (some .int)) [.ref (ad 0), .int xv, .int v] ad I J (rf t) P := by
  have hI0 := hI
  obtain ⟨th, so, ct, ce, n, r, s, rd, C0, c, ki, co, ag, re, T, h, hc, hd, o, k, m, e12, e13⟩ := hI
  have ⟨o1, o2, o3, o4, o5⟩ := o
  have ⟨ht, k1, k2, k3, k4, k5, hz⟩ := k
  have ⟨m1, m2, m3, m4, m5⟩ := m
  have hr12 := o2.2.1
  have hn7 := o2.1
  have hc10 := o4.1
  have hc5 := o5.2.2.1
  have htt : t = 4 ∨ t = 26 := ht
  refine c_X9_days k5 o5 (fun a hr => hP _ _ _ _ (fun Q2 hQ => ?_)) (fun hn a b e1 l0 e2 l1 => hP _ _ _ _ (fun Q2 hQ => ?_))
  · refine c_X10_days m5 o5 (fun a2 hr2 => ?_) (fun hn => by rw [hr] at hn; cases hn)
    rw [hr] at hr2; cases hr2
    exact hQ _ _ hI0
  · obtain ⟨I', eI⟩ : ∃ z, z = upI I 62 a (nI b) := ⟨_, rfl⟩
    rw [← eI]
    have hf : ∀ q, q ≠ 62 → I' q = I q := fun q hq => by rw [eI]; exact upI_row I _ hq
    have h62 : ∀ x, x < hc → I' 62 x = nI (fu hd a b x) := fun x hx => by
      rw [eI]
      by_cases e : x = a
      · subst e; rw [upI_same, fu_same]
      · rw [upI_k _ _ e, fu_ne _ _ e]; exact k5.2.2 x (by omega)
    have mp := m.fr (fun q q1 _ _ _ => hf q (by omega)) (fun j _ => by rw [hf 85 (by omega)])
    have ⟨m1, m2, m3, m4, m5⟩ := mp
    refine c_X10_days m5 o5 (fun a2 hr2 => by rw [hn] at hr2; cases hr2) (fun _ a2 b2 f1 g0 f2 g1 => ?_)
    subst e1
    subst e2
    obtain rfl := nI_inj f1 (by omega) (by omega)
    obtain rfl := nI_inj f2 (by omega) (by omega)
    obtain ⟨I2, eJ⟩ : ∃ z, z = upI I' 107 a (nI b) := ⟨_, rfl⟩
    rw [← eJ]
    have gf : ∀ q, q ≠ 107 → I2 q = I' q := fun q hq => by rw [eJ]; exact upI_row I' _ hq
    have g107 : ∀ x, x < hc → I2 107 x = nI (fu hd a b x) := fun x hx => by
      rw [eJ]
      by_cases e : x = a
      · subst e; rw [upI_same, fu_same]
      · rw [upI_k _ _ e, fu_ne _ _ e]; exact m5.2.2 x (by omega)
    have oo : okMi h hc (fu hd a b) := ⟨o5.1, o5.2.1, o5.2.2.1, fun x hx => by
          by_cases e : x = a
          · subst e; rw [fu_same]; exact l1
          · rw [fu_ne _ _ e]; exact o5.2.2.2 x (by omega)⟩
    exact hQ _ _ (Inv.ch ⟨o1, o2, o3, o4, oo⟩ (t' := t) ⟨ht, k1.fr (fun p _ _ => hf p (by omega)), k2.fr (fun p _ _ => hf p (by omega)), k3.fr hn7 (fun p _ _ => hf p (by omega)), k4.fr hc10 (congrFun (hf 0 (by omega)) 5) (fun p _ _ => hf p (by omega)), ⟨(congrFun (hf 0 (by omega)) 8).trans k5.1, (congrFun (hf 0 (by omega)) 10).trans k5.2.1, h62⟩, hz.fr (hf 54 (by omega)) rfl⟩ ⟨m1.fr (fun p _ _ => gf p (by omega)), m2.fr (congrFun (gf 85 (by omega)) 5) (congrFun (gf 85 (by omega)) 6) (congrFun (gf 85 (by omega)) 7) (fun p _ _ => gf p (by omega)), m3.fr (gf 94 (by omega)), m4.fr (congrFun (gf 85 (by omega)) 19) (fun p _ _ => gf p (by omega)), ⟨(congrFun (gf 85 (by omega)) 32).trans m5.1, (congrFun (gf 85 (by omega)) 37).trans m5.2.1, g107⟩⟩ (((congrFun (gf 0 (by omega)) 12).trans (congrFun (hf 0 (by omega)) 12)).trans (e12.trans (((congrFun (hf 85 (by omega)) 1).symm).trans (congrFun (gf 85 (by omega)) 1).symm))) (fun q _ => gf q (by omega)) rfl (((congrFun (gf 0 (by omega)) 13).trans (congrFun (hf 0 (by omega)) 13)).trans (e13.trans (((congrFun (hf 85 (by omega)) 0).symm).trans (congrFun (gf 85 (by omega)) 0).symm))))
set_option maxHeartbeats 4000000 in
set_option maxRecDepth 100000 in
theorem op_sheet {ad : Nat → Nat} {t : Nat} {I : KI} {J : KJ} (hI : Inv t I J) {kv sv nv : Int32} {P : Int32 → KI → KJ → KR → Prop} (hP : ∀ (a : Int32) (I' : KI) (J' : KJ) (t' : Nat), (∀ Q2 : Int32 → KI → KJ → KR → Prop, (∀ I'' J'', Inv t' I'' J'' → Q2 a I'' J'' (rf t')) → Mi 3 yX10_sheet (wm yX10_sheet cX10_sheet 5 (some .int)) [.ref (ad 85), .int kv, .int sv, .int nv] ad I' J' (rf t') Q2) → P a I' J' (rf t')) : Mi 3 yX9_sheet (wm yX9_sheet cX9_sheet 4 (some .int)) [.ref (ad 0), .int kv, .int sv, .int nv] ad I J (rf t) P := by
  have hI0 := hI
  obtain ⟨th, so, ct, ce, n, r, s, rd, C0, c, ki, co, ag, re, T, h, hc, hd, o, k, m, e12, e13⟩ := hI
  have ⟨o1, o2, o3, o4, o5⟩ := o
  have ⟨ht, k1, k2, k3, k4, k5, hz⟩ := k
  have ⟨m1, m2, m3, m4, m5⟩ := m
  have hr12 := o2.2.1
  have hn7 := o2.1
  have hc10 := o4.1
  have hc5 := o5.2.2.1
  have htt : t = 4 ∨ t = 26 := ht
  refine c_X9_sheet k1 o1 (fun a f hr => hP _ _ _ _ (fun Q2 hQ => ?_)) (fun hn a b d e1 l1 e2 l2 e3 l3 I' hf hj h13 hk => hP _ _ _ _ (fun Q2 hQ => ?_))
  · obtain ⟨I', eI⟩ : ∃ I', I' = upI I 0 13 (nI f) := ⟨_, rfl⟩
    have hf : ∀ q, q ≠ 0 → I' q = I q := fun q hq => by rw [eI]; exact upI_row I _ hq
    have hj : ∀ j, j ≠ 13 → I' 0 j = I 0 j := fun j hq => by rw [eI]; exact upI_k I _ hq
    have h13 : I' 0 13 = nI f := by rw [eI]; exact upI_same I _ _ _
    rw [← eI]
    have mp := m.fr (fun q q1 _ _ _ => hf q (by omega)) (fun j _ => by rw [hf 85 (by omega)])
    have ⟨m1, m2, m3, m4, m5⟩ := mp
    refine c_X10_sheet m1 o1 (fun a2 f2 hr2 => ?_) (fun hn => by rw [hr] at hn; cases hn)
    rw [hr] at hr2; cases hr2
    have gf : ∀ q, q ≠ 85 → (upI I' 85 0 (nI f)) q = I' q := fun q hq => upI_row I' _ hq
    have gj : ∀ j, j ≠ 0 → (upI I' 85 0 (nI f)) 85 j = I' 85 j := fun j hq => upI_k I' _ hq
    have g0 := upI_same I' 85 0 (nI f)
    exact hQ _ _ (Inv.sc o k m e12 (fun q q1 q2 q3 => hf q (by omega)) (fun j j1 j2 j3 j4 => (hj j (by omega))) (hz.fr (hf 54 (by omega)) rfl) (fun q q1 q2 q3 q4 => gf q (by omega)) (fun j j1 j2 j3 j4 j5 => (gj j (by omega))) (fun q _ _ => rfl) (((congrFun (gf 0 (by omega)) 13).trans h13).trans g0.symm))
  · have mp := m.fr (fun q q1 _ _ _ => hf q (by omega) (by omega)) (fun j _ => by rw [hf 85 (by omega) (by omega)])
    have ⟨m1, m2, m3, m4, m5⟩ := mp
    refine c_X10_sheet m1 o1 (fun a2 f2 hr2 => by rw [hn] at hr2; cases hr2) (fun _ a2 b2 d2 f1 g1 f2 g2 f3 g3 I2 gf gj g0 gk => ?_)
    subst e1
    subst e2
    subst e3
    obtain rfl := nI_inj f1 (by omega) (by omega)
    obtain rfl := nI_inj f2 (by omega) (by omega)
    obtain rfl := nI_inj f3 (by omega) (by omega)
    exact hQ _ _ (Inv.ch ⟨okSh_fu o1 l2 l3, o2, o3, o4, o5⟩ (t' := t) ⟨ht, hk, k2.fr (fun p _ _ => hf p (by omega) (by omega)), k3.fr hn7 (fun p _ _ => hf p (by omega) (by omega)), k4.fr hc10 (hj 5 (by omega)) (fun p _ _ => hf p (by omega) (by omega)), k5.fr (hj 8 (by omega)) (hj 10 (by omega)) (hf 62 (by omega) (by omega)), hz.fr (hf 54 (by omega) (by omega)) rfl⟩ ⟨gk, m2.fr (gj 5 (by omega)) (gj 6 (by omega)) (gj 7 (by omega)) (fun p _ _ => gf p (by omega) (by omega)), m3.fr (gf 94 (by omega) (by omega)), m4.fr (gj 19 (by omega)) (fun p _ _ => gf p (by omega) (by omega)), m5.fr (gj 32 (by omega)) (gj 37 (by omega)) (gf 107 (by omega) (by omega))⟩ (((congrFun (gf 0 (by omega) (by omega)) 12).trans (hj 12 (by omega))).trans (e12.trans (((congrFun (hf 85 (by omega) (by omega)) 1).symm).trans (gj 1 (by omega)).symm))) (fun q _ => gf q (by omega) (by omega)) rfl (((congrFun (gf 0 (by omega) (by omega)) 13).trans h13).trans g0.symm))
set_option maxHeartbeats 4000000 in
set_option maxRecDepth 100000 in
theorem op_put {ad : Nat → Nat} {t : Nat} {I : KI} {J : KJ} (hI : Inv t I J) {kv iv v : Int32} {P : Int32 → KI → KJ → KR → Prop} (hP : ∀ (a : Int32) (I' : KI) (J' : KJ) (t' : Nat), (∀ Q2 : Int32 → KI → KJ → KR → Prop, (∀ I'' J'', Inv t' I'' J'' → Q2 a I'' J'' (rf t')) → Mi 3 yX10_put (wm yX10_put cX10_put 4 (some .int)) [.ref (ad 85), .int kv, .int iv, .int v] ad I' J' (rf t') Q2) → P a I' J' (rf t')) : Mi 3 yX9_put (wm yX9_put cX9_put 4 (some .int)) [.ref (ad 0), .int kv, .int iv, .int v] ad I J (rf t) P := by
  have hI0 := hI
  obtain ⟨th, so, ct, ce, n, r, s, rd, C0, c, ki, co, ag, re, T, h, hc, hd, o, k, m, e12, e13⟩ := hI
  have ⟨o1, o2, o3, o4, o5⟩ := o
  have ⟨ht, k1, k2, k3, k4, k5, hz⟩ := k
  have ⟨m1, m2, m3, m4, m5⟩ := m
  have hr12 := o2.2.1
  have hn7 := o2.1
  have hc10 := o4.1
  have hc5 := o5.2.2.1
  have htt : t = 4 ∨ t = 26 := ht
  refine c_X9_put k1 o1 (fun a f hr => hP _ _ _ _ (fun Q2 hQ => ?_)) (fun hn a b e1 l1 e2 l2 I' hf hj h13 hk => hP _ _ _ _ (fun Q2 hQ => ?_))
  · obtain ⟨I', eI⟩ : ∃ I', I' = upI I 0 13 (nI f) := ⟨_, rfl⟩
    have hf : ∀ q, q ≠ 0 → I' q = I q := fun q hq => by rw [eI]; exact upI_row I _ hq
    have hj : ∀ j, j ≠ 13 → I' 0 j = I 0 j := fun j hq => by rw [eI]; exact upI_k I _ hq
    have h13 : I' 0 13 = nI f := by rw [eI]; exact upI_same I _ _ _
    rw [← eI]
    have mp := m.fr (fun q q1 _ _ _ => hf q (by omega)) (fun j _ => by rw [hf 85 (by omega)])
    have ⟨m1, m2, m3, m4, m5⟩ := mp
    refine c_X10_put m1 o1 (fun a2 f2 hr2 => ?_) (fun hn => by rw [hr] at hn; cases hn)
    rw [hr] at hr2; cases hr2
    have gf : ∀ q, q ≠ 85 → (upI I' 85 0 (nI f)) q = I' q := fun q hq => upI_row I' _ hq
    have gj : ∀ j, j ≠ 0 → (upI I' 85 0 (nI f)) 85 j = I' 85 j := fun j hq => upI_k I' _ hq
    have g0 := upI_same I' 85 0 (nI f)
    exact hQ _ _ (Inv.sc o k m e12 (fun q q1 q2 q3 => hf q (by omega)) (fun j j1 j2 j3 j4 => (hj j (by omega))) (hz.fr (hf 54 (by omega)) rfl) (fun q q1 q2 q3 q4 => gf q (by omega)) (fun j j1 j2 j3 j4 j5 => (gj j (by omega))) (fun q _ _ => rfl) (((congrFun (gf 0 (by omega)) 13).trans h13).trans g0.symm))
  · have mp := m.fr (fun q q1 _ _ _ => hf q (by omega) (by omega)) (fun j _ => by rw [hf 85 (by omega) (by omega)])
    have ⟨m1, m2, m3, m4, m5⟩ := mp
    refine c_X10_put m1 o1 (fun a2 f2 hr2 => by rw [hn] at hr2; cases hr2) (fun _ a2 b2 f1 g1 f2 g2 I2 gf gj g0 gk => ?_)
    subst e1
    subst e2
    obtain rfl := nI_inj f1 (by omega) (by omega)
    obtain rfl := nI_inj f2 (by omega) (by omega)
    exact hQ _ _ (Inv.ch ⟨o1, o2, o3, o4, o5⟩ (t' := t) ⟨ht, hk, k2.fr (fun p _ _ => hf p (by omega) (by omega)), k3.fr hn7 (fun p _ _ => hf p (by omega) (by omega)), k4.fr hc10 (hj 5 (by omega)) (fun p _ _ => hf p (by omega) (by omega)), k5.fr (hj 8 (by omega)) (hj 10 (by omega)) (hf 62 (by omega) (by omega)), hz.fr (hf 54 (by omega) (by omega)) rfl⟩ ⟨gk, m2.fr (gj 5 (by omega)) (gj 6 (by omega)) (gj 7 (by omega)) (fun p _ _ => gf p (by omega) (by omega)), m3.fr (gf 94 (by omega) (by omega)), m4.fr (gj 19 (by omega)) (fun p _ _ => gf p (by omega) (by omega)), m5.fr (gj 32 (by omega)) (gj 37 (by omega)) (gf 107 (by omega) (by omega))⟩ (((congrFun (gf 0 (by omega) (by omega)) 12).trans (hj 12 (by omega))).trans (e12.trans (((congrFun (hf 85 (by omega) (by omega)) 1).symm).trans (gj 1 (by omega)).symm))) (fun q _ => gf q (by omega) (by omega)) rfl (((congrFun (gf 0 (by omega) (by omega)) 13).trans h13).trans g0.symm))
set_option maxHeartbeats 4000000 in
set_option maxRecDepth 100000 in
theorem op_copy {ad : Nat → Nat} {t : Nat} {I : KI} {J : KJ} (hI : Inv t I J) {kv iv ov jv nv : Int32} {P : Int32 → KI → KJ → KR → Prop} (hP : ∀ (a : Int32) (I' : KI) (J' : KJ) (t' : Nat), (∀ Q2 : Int32 → KI → KJ → KR → Prop, (∀ I'' J'', Inv t' I'' J'' → Q2 a I'' J'' (rf t')) → Mi 3 yX10_copy (wm yX10_copy cX10_copy 10 (some .int)) [.ref (ad 85), .int kv, .int iv, .int ov, .int jv, .int nv] ad I' J' (rf t') Q2) → P a I' J' (rf t')) : Mi 3 yX9_copy (wm yX9_copy cX9_copy 8 (some .int)) [.ref (ad 0), .int kv, .int iv, .int ov, .int jv, .int nv] ad I J (rf t) P := by
  have hI0 := hI
  obtain ⟨th, so, ct, ce, n, r, s, rd, C0, c, ki, co, ag, re, T, h, hc, hd, o, k, m, e12, e13⟩ := hI
  have ⟨o1, o2, o3, o4, o5⟩ := o
  have ⟨ht, k1, k2, k3, k4, k5, hz⟩ := k
  have ⟨m1, m2, m3, m4, m5⟩ := m
  have hr12 := o2.2.1
  have hn7 := o2.1
  have hc10 := o4.1
  have hc5 := o5.2.2.1
  have htt : t = 4 ∨ t = 26 := ht
  refine c_X9_copy k1 o1 (fun a f hr => hP _ _ _ _ (fun Q2 hQ => ?_)) (fun hn a b d i j e1 l1 e2 e3 l3 e4 e5 l4 l5 I' hf hj h13 hk => hP _ _ _ _ (fun Q2 hQ => ?_))
  · obtain ⟨I', eI⟩ : ∃ I', I' = upI I 0 13 (nI f) := ⟨_, rfl⟩
    have hf : ∀ q, q ≠ 0 → I' q = I q := fun q hq => by rw [eI]; exact upI_row I _ hq
    have hj : ∀ j, j ≠ 13 → I' 0 j = I 0 j := fun j hq => by rw [eI]; exact upI_k I _ hq
    have h13 : I' 0 13 = nI f := by rw [eI]; exact upI_same I _ _ _
    rw [← eI]
    have mp := m.fr (fun q q1 _ _ _ => hf q (by omega)) (fun j _ => by rw [hf 85 (by omega)])
    have ⟨m1, m2, m3, m4, m5⟩ := mp
    refine c_X10_copy m1 o1 (fun a2 f2 hr2 => ?_) (fun hn => by rw [hr] at hn; cases hn)
    rw [hr] at hr2; cases hr2
    have gf : ∀ q, q ≠ 85 → (upI I' 85 0 (nI f)) q = I' q := fun q hq => upI_row I' _ hq
    have gj : ∀ j, j ≠ 0 → (upI I' 85 0 (nI f)) 85 j = I' 85 j := fun j hq => upI_k I' _ hq
    have g0 := upI_same I' 85 0 (nI f)
    exact hQ _ _ (Inv.sc o k m e12 (fun q q1 q2 q3 => hf q (by omega)) (fun j j1 j2 j3 j4 => (hj j (by omega))) (hz.fr (hf 54 (by omega)) rfl) (fun q q1 q2 q3 q4 => gf q (by omega)) (fun j j1 j2 j3 j4 j5 => (gj j (by omega))) (fun q _ _ => rfl) (((congrFun (gf 0 (by omega)) 13).trans h13).trans g0.symm))
  · have mp := m.fr (fun q q1 _ _ _ => hf q (by omega) (by omega)) (fun j _ => by rw [hf 85 (by omega) (by omega)])
    have ⟨m1, m2, m3, m4, m5⟩ := mp
    refine c_X10_copy m1 o1 (fun a2 f2 hr2 => by rw [hn] at hr2; cases hr2) (fun _ a2 b2 d2 i2 j2 f1 g1 f2 f3 g3 f4 f5 g4 g5 I2 gf gj g0 gk => ?_)
    have hca := (o1 a l1).2
    have hcb := (o1 d l3).2
    have hca2 := (o1 a2 g1).2
    have hcb2 := (o1 d2 g3).2
    subst e1
    subst e2
    subst e3
    subst e4
    subst e5
    obtain rfl := nI_inj f1 (by omega) (by omega)
    obtain rfl := nI_inj f2 (by omega) (by omega)
    obtain rfl := nI_inj f3 (by omega) (by omega)
    obtain rfl := nI_inj f4 (by omega) (by omega)
    obtain rfl := nI_inj f5 (by omega) (by omega)
    exact hQ _ _ (Inv.ch ⟨o1, o2, o3, o4, o5⟩ (t' := t) ⟨ht, hk, k2.fr (fun p _ _ => hf p (by omega) (by omega)), k3.fr hn7 (fun p _ _ => hf p (by omega) (by omega)), k4.fr hc10 (hj 5 (by omega)) (fun p _ _ => hf p (by omega) (by omega)), k5.fr (hj 8 (by omega)) (hj 10 (by omega)) (hf 62 (by omega) (by omega)), hz.fr (hf 54 (by omega) (by omega)) rfl⟩ ⟨gk, m2.fr (gj 5 (by omega)) (gj 6 (by omega)) (gj 7 (by omega)) (fun p _ _ => gf p (by omega) (by omega)), m3.fr (gf 94 (by omega) (by omega)), m4.fr (gj 19 (by omega)) (fun p _ _ => gf p (by omega) (by omega)), m5.fr (gj 32 (by omega)) (gj 37 (by omega)) (gf 107 (by omega) (by omega))⟩ (((congrFun (gf 0 (by omega) (by omega)) 12).trans (hj 12 (by omega))).trans (e12.trans (((congrFun (hf 85 (by omega) (by omega)) 1).symm).trans (gj 1 (by omega)).symm))) (fun q _ => gf q (by omega) (by omega)) rfl (((congrFun (gf 0 (by omega) (by omega)) 13).trans h13).trans g0.symm))
set_option maxHeartbeats 4000000 in
set_option maxRecDepth 100000 in
theorem op_lose {ad : Nat → Nat} {t : Nat} {I : KI} {J : KJ} (hI : Inv t I J) {kv : Int32} {P : Int32 → KI → KJ → KR → Prop} (hP : ∀ (a : Int32) (I' : KI) (J' : KJ) (t' : Nat), (∀ Q2 : Int32 → KI → KJ → KR → Prop, (∀ I'' J'', Inv t' I'' J'' → Q2 a I'' J'' (rf t')) → Mi 3 yX10_lose (wm yX10_lose cX10_lose 3 (some .int)) [.ref (ad 85), .int kv] ad I' J' (rf t') Q2) → P a I' J' (rf t')) : Mi 3 yX9_lose (wm yX9_lose cX9_lose 3 (some .int)) [.ref (ad 0), .int kv] ad I J (rf t) P := by
  have hI0 := hI
  obtain ⟨th, so, ct, ce, n, r, s, rd, C0, c, ki, co, ag, re, T, h, hc, hd, o, k, m, e12, e13⟩ := hI
  have ⟨o1, o2, o3, o4, o5⟩ := o
  have ⟨ht, k1, k2, k3, k4, k5, hz⟩ := k
  have ⟨m1, m2, m3, m4, m5⟩ := m
  have hr12 := o2.2.1
  have hn7 := o2.1
  have hc10 := o4.1
  have hc5 := o5.2.2.1
  have htt : t = 4 ∨ t = 26 := ht
  refine c_X9_lose k1 o1 (fun hr => hP _ _ _ _ (fun Q2 hQ => ?_)) (fun a e1 l1 I' hf hk => hP _ _ _ _ (fun Q2 hQ => ?_))
  · exact c_X10_lose m1 o1 (fun _ => hQ _ _ hI0) (fun w e l1 => by subst e; exact absurd (isB_nI (by omega) (by omega) (by omega)) hr)
  · have mp := m.fr (fun q q1 _ _ _ => hf q (by omega)) (fun j _ => by rw [hf 85 (by omega)])
    have ⟨m1, m2, m3, m4, m5⟩ := mp
    refine c_X10_lose m1 o1 (fun hr => by subst e1; exact absurd (isB_nI (by omega) (by omega) (by omega)) hr) (fun a2 f1 g1 I2 gf gk => ?_)
    subst e1
    obtain rfl := nI_inj f1 (by omega) (by omega)
    exact hQ _ _ (Inv.ch ⟨o1, o2, o3, o4, o5⟩ (t' := t) ⟨ht, hk, k2.fr (fun p _ _ => hf p (by omega)), k3.fr hn7 (fun p _ _ => hf p (by omega)), k4.fr hc10 (congrFun (hf 0 (by omega)) 5) (fun p _ _ => hf p (by omega)), k5.fr (congrFun (hf 0 (by omega)) 8) (congrFun (hf 0 (by omega)) 10) (hf 62 (by omega)), hz.fr (hf 54 (by omega)) rfl⟩ ⟨gk, m2.fr (congrFun (gf 85 (by omega)) 5) (congrFun (gf 85 (by omega)) 6) (congrFun (gf 85 (by omega)) 7) (fun p _ _ => gf p (by omega)), m3.fr (gf 94 (by omega)), m4.fr (congrFun (gf 85 (by omega)) 19) (fun p _ _ => gf p (by omega)), m5.fr (congrFun (gf 85 (by omega)) 32) (congrFun (gf 85 (by omega)) 37) (gf 107 (by omega))⟩ (((congrFun (gf 0 (by omega)) 12).trans (congrFun (hf 0 (by omega)) 12)).trans (e12.trans (((congrFun (hf 85 (by omega)) 1).symm).trans (congrFun (gf 85 (by omega)) 1).symm))) (fun q _ => gf q (by omega)) rfl (((congrFun (gf 0 (by omega)) 13).trans (congrFun (hf 0 (by omega)) 13)).trans (e13.trans (((congrFun (hf 85 (by omega)) 0).symm).trans (congrFun (gf 85 (by omega)) 0).symm))))
set_option maxHeartbeats 4000000 in
set_option maxRecDepth 100000 in
theorem op_tag {ad : Nat → Nat} {t : Nat} {I : KI} {J : KJ} (hI : Inv t I J) {xv : Int32} {P : Int32 → KI → KJ → KR → Prop} (hP : ∀ (a : Int32) (I' : KI) (J' : KJ) (t' : Nat), (∀ Q2 : Int32 → KI → KJ → KR → Prop, (∀ I'' J'', Inv t' I'' J'' → Q2 a I'' J'' (rf t')) → Mi 3 yX10_tag (wm yX10_tag cX10_tag 2 (some .int)) [.ref (ad 85), .int xv] ad I' J' (rf t') Q2) → P a I' J' (rf t')) : Mi 3 yX9_tag (wm yX9_tag cX9_tag 2 (some .int)) [.ref (ad 0), .int xv] ad I J (rf t) P := by
  have hI0 := hI
  obtain ⟨th, so, ct, ce, n, r, s, rd, C0, c, ki, co, ag, re, T, h, hc, hd, o, k, m, e12, e13⟩ := hI
  have ⟨o1, o2, o3, o4, o5⟩ := o
  have ⟨ht, k1, k2, k3, k4, k5, hz⟩ := k
  have ⟨m1, m2, m3, m4, m5⟩ := m
  have hr12 := o2.2.1
  have hn7 := o2.1
  have hc10 := o4.1
  have hc5 := o5.2.2.1
  have htt : t = 4 ∨ t = 26 := ht
  refine c_X9_tag k4 o4 (fun hr => hP _ _ _ _ (fun Q2 hQ => ?_)) (fun a e1 l1 => hP _ _ _ _ (fun Q2 hQ => ?_))
  · exact c_X10_tag m4 o4 (fun _ => hQ _ _ hI0) (fun w e l1 => by subst e; exact absurd (isN_nI l1 (by omega)) hr)
  · have h85 : I 85 1 = I 0 12 := e12.symm
    obtain ⟨w, ew⟩ : ∃ w, w = tagS ki a (I 0 12) := ⟨_, rfl⟩
    rw [← ew]
    obtain ⟨I', eI⟩ : ∃ z, z = upI I 0 12 w.2 := ⟨_, rfl⟩
    rw [← eI]
    have hf : ∀ q, q ≠ 0 → I' q = I q := fun q hq => by rw [eI]; exact upI_row I _ hq
    have hj : ∀ j, j ≠ 12 → I' 0 j = I 0 j := fun j hq => by rw [eI]; exact upI_k I _ hq
    have h8 : I' 0 12 = w.2 := by rw [eI]; exact upI_same I _ _ _
    rw [← ew] at hQ
    have mp := m.fr (fun q q1 _ _ _ => hf q (by omega)) (fun j _ => by rw [hf 85 (by omega)])
    have ⟨m1, m2, m3, m4, m5⟩ := mp
    refine c_X10_tag m4 o4 (fun hr => by subst e1; exact absurd (isN_nI l1 (by omega)) hr) (fun a2 f1 g1 => ?_)
    subst e1
    obtain rfl := nI_inj f1 (by omega) (by omega)
    rw [hf 85 (by omega), h85, ← ew]
    obtain ⟨I2, eJ⟩ : ∃ z, z = upI I' 85 1 w.2 := ⟨_, rfl⟩
    rw [← eJ]
    have gf : ∀ q, q ≠ 85 → I2 q = I' q := fun q hq => by rw [eJ]; exact upI_row I' _ hq
    have gj : ∀ j, j ≠ 1 → I2 85 j = I' 85 j := fun j hq => by rw [eJ]; exact upI_k I' _ hq
    have g8 : I2 85 1 = w.2 := by rw [eJ]; exact upI_same I' _ _ _
    exact hQ _ _ (Inv.ch ⟨o1, o2, o3, o4, o5⟩ (t' := t) ⟨ht, k1.fr (fun p _ _ => hf p (by omega)), k2.fr (fun p _ _ => hf p (by omega)), k3.fr hn7 (fun p _ _ => hf p (by omega)), k4.fr hc10 (hj 5 (by omega)) (fun p _ _ => hf p (by omega)), k5.fr (hj 8 (by omega)) (hj 10 (by omega)) (hf 62 (by omega)), hz.fr (hf 54 (by omega)) rfl⟩ ⟨m1.fr (fun p _ _ => gf p (by omega)), m2.fr (gj 5 (by omega)) (gj 6 (by omega)) (gj 7 (by omega)) (fun p _ _ => gf p (by omega)), m3.fr (gf 94 (by omega)), m4.fr (gj 19 (by omega)) (fun p _ _ => gf p (by omega)), m5.fr (gj 32 (by omega)) (gj 37 (by omega)) (gf 107 (by omega))⟩ (((congrFun (gf 0 (by omega)) 12).trans h8).trans g8.symm) (fun q _ => gf q (by omega)) rfl (((congrFun (gf 0 (by omega)) 13).trans (hj 13 (by omega))).trans (e13.trans (((congrFun (hf 85 (by omega)) 0).symm).trans (gj 0 (by omega)).symm))))
set_option maxHeartbeats 4000000 in
set_option maxRecDepth 100000 in
theorem op_tell {ad : Nat → Nat} {t : Nat} {I : KI} {J : KJ} (hI : Inv t I J) {xv : Int32} {P : Int32 → KI → KJ → KR → Prop} (hP : ∀ (a : Int32) (I' : KI) (J' : KJ) (t' : Nat), (∀ Q2 : Int32 → KI → KJ → KR → Prop, (∀ I'' J'', Inv t' I'' J'' → Q2 a I'' J'' (rf t')) → Mi 5 yX10_tell (wm yX10_tell cX10_tell 3 (some .int)) [.ref (ad 85), .int xv] ad I' J' (rf t') Q2) → P a I' J' (rf t')) : Mi 5 yX9_tell (wm yX9_tell cX9_tell 3 (some .int)) [.ref (ad 0), .int xv] ad I J (rf t) P := by
  have hI0 := hI
  obtain ⟨th, so, ct, ce, n, r, s, rd, C0, c, ki, co, ag, re, T, h, hc, hd, o, k, m, e12, e13⟩ := hI
  have ⟨o1, o2, o3, o4, o5⟩ := o
  have ⟨ht, k1, k2, k3, k4, k5, hz⟩ := k
  have ⟨m1, m2, m3, m4, m5⟩ := m
  have hr12 := o2.2.1
  have hn7 := o2.1
  have hc10 := o4.1
  have hc5 := o5.2.2.1
  have htt : t = 4 ∨ t = 26 := ht
  refine c_X9_tell k4 o4 (fun hr => hP _ _ _ _ (fun Q2 hQ => ?_)) (fun a e1 l1 => hP _ _ _ _ (fun Q2 hQ => ?_))
  · exact c_X10_tell m4 o4 (fun _ => hQ _ _ hI0) (fun w e l1 => by subst e; exact absurd (isN_nI l1 (by omega)) hr)
  · have h85 : I 85 1 = I 0 12 := e12.symm
    obtain ⟨w, ew⟩ : ∃ w, w = tellS ki ag a (I 0 12) := ⟨_, rfl⟩
    rw [← ew]
    obtain ⟨I', eI⟩ : ∃ z, z = upI I 0 12 w.2 := ⟨_, rfl⟩
    rw [← eI]
    have hf : ∀ q, q ≠ 0 → I' q = I q := fun q hq => by rw [eI]; exact upI_row I _ hq
    have hj : ∀ j, j ≠ 12 → I' 0 j = I 0 j := fun j hq => by rw [eI]; exact upI_k I _ hq
    have h8 : I' 0 12 = w.2 := by rw [eI]; exact upI_same I _ _ _
    rw [← ew] at hQ
    have mp := m.fr (fun q q1 _ _ _ => hf q (by omega)) (fun j _ => by rw [hf 85 (by omega)])
    have ⟨m1, m2, m3, m4, m5⟩ := mp
    refine c_X10_tell m4 o4 (fun hr => by subst e1; exact absurd (isN_nI l1 (by omega)) hr) (fun a2 f1 g1 => ?_)
    subst e1
    obtain rfl := nI_inj f1 (by omega) (by omega)
    rw [hf 85 (by omega), h85, ← ew]
    obtain ⟨I2, eJ⟩ : ∃ z, z = upI I' 85 1 w.2 := ⟨_, rfl⟩
    rw [← eJ]
    have gf : ∀ q, q ≠ 85 → I2 q = I' q := fun q hq => by rw [eJ]; exact upI_row I' _ hq
    have gj : ∀ j, j ≠ 1 → I2 85 j = I' 85 j := fun j hq => by rw [eJ]; exact upI_k I' _ hq
    have g8 : I2 85 1 = w.2 := by rw [eJ]; exact upI_same I' _ _ _
    exact hQ _ _ (Inv.ch ⟨o1, o2, o3, o4, o5⟩ (t' := t) ⟨ht, k1.fr (fun p _ _ => hf p (by omega)), k2.fr (fun p _ _ => hf p (by omega)), k3.fr hn7 (fun p _ _ => hf p (by omega)), k4.fr hc10 (hj 5 (by omega)) (fun p _ _ => hf p (by omega)), k5.fr (hj 8 (by omega)) (hj 10 (by omega)) (hf 62 (by omega)), hz.fr (hf 54 (by omega)) rfl⟩ ⟨m1.fr (fun p _ _ => gf p (by omega)), m2.fr (gj 5 (by omega)) (gj 6 (by omega)) (gj 7 (by omega)) (fun p _ _ => gf p (by omega)), m3.fr (gf 94 (by omega)), m4.fr (gj 19 (by omega)) (fun p _ _ => gf p (by omega)), m5.fr (gj 32 (by omega)) (gj 37 (by omega)) (gf 107 (by omega))⟩ (((congrFun (gf 0 (by omega)) 12).trans h8).trans g8.symm) (fun q _ => gf q (by omega)) rfl (((congrFun (gf 0 (by omega)) 13).trans (hj 13 (by omega))).trans (e13.trans (((congrFun (hf 85 (by omega)) 0).symm).trans (gj 0 (by omega)).symm))))
set_option maxHeartbeats 4000000 in
set_option maxRecDepth 100000 in
theorem op_streets {ad : Nat → Nat} {t : Nat} {I : KI} {J : KJ} (hI : Inv t I J) {kv sv iv nv : Int32} {P : Int32 → KI → KJ → KR → Prop} (hP : ∀ (a : Int32) (I' : KI) (J' : KJ) (t' : Nat), (∀ Q2 : Int32 → KI → KJ → KR → Prop, (∀ I'' J'', Inv t' I'' J'' → Q2 a I'' J'' (rf t')) → Mi 6 yX10_streets (wm yX10_streets cX10_streets 8 (some .int)) [.ref (ad 85), .int kv, .int sv, .int iv, .int nv] ad I' J' (rf t') Q2) → P a I' J' (rf t')) : Mi 8 yX9_streets (wm yX9_streets cX9_streets 6 (some .int)) [.ref (ad 0), .int kv, .int sv, .int iv, .int nv] ad I J (rf t) P := by
  have hI0 := hI
  obtain ⟨th, so, ct, ce, n, r, s, rd, C0, c, ki, co, ag, re, T, h, hc, hd, o, k, m, e12, e13⟩ := hI
  have ⟨o1, o2, o3, o4, o5⟩ := o
  have ⟨ht, k1, k2, k3, k4, k5, hz⟩ := k
  have ⟨m1, m2, m3, m4, m5⟩ := m
  have hr12 := o2.2.1
  have hn7 := o2.1
  have hc10 := o4.1
  have hc5 := o5.2.2.1
  have htt : t = 4 ∨ t = 26 := ht
  have hcd : ∀ k i m : Nat, kv = nI k → k < 4 → iv = nI i → nv = nI m → i + m ≤ 100 → ∀ j, j < m → ce k (i + j) = cdC I kv iv j := fun k i m e1 l e2 e3 hb j hj => by
    subst e1; subst e2; rw [cdC_nI I l (by omega)]; exact ((k1 k l).2.2.2 (i + j) (by omega)).symm
  refine c_X9_streets ht k1 o1 (fun a f I' hr hf hj h13 => hP _ _ _ _ (fun Q2 hQ => ?_)) (fun q I' C1 hr hf hj h13 h5 hT hW hY => hP _ _ _ _ (fun Q2 hQ => ?_))
  · have mp := m.fr (I' := I') (fun q q1 _ _ _ => hf q (by omega) (by omega) (by omega) (by omega)) (fun j _ => by rw [hf 85 (by omega) (by omega) (by omega) (by omega)])
    have ⟨m1, m2, m3, m4, m5⟩ := mp
    refine c_X10_streets m1 o1 (cd := cdC I kv iv) hcd (C0 := C0) (fun q hq => by rw [hr] at hq; cases hq) (fun a2 f2 I2 hr2 gf gj g0 => ?_) (fun q I2 hr2 _ _ _ _ _ _ => by rw [hr] at hr2; cases hr2)
    rw [hr] at hr2; cases hr2
    exact hQ _ _ (Inv.ch o (t' := t) ⟨ht, k1.fr (fun p _ _ => hf p (by omega) (by omega) (by omega) (by omega)), k2.fr (fun p _ _ => hf p (by omega) (by omega) (by omega) (by omega)), k3.fr hn7 (fun p _ _ => hf p (by omega) (by omega) (by omega) (by omega)), k4.fr hc10 (hj 5 (by omega)) (fun p _ _ => hf p (by omega) (by omega) (by omega) (by omega)), k5.fr (hj 8 (by omega)) (hj 10 (by omega)) (hf 62 (by omega) (by omega) (by omega) (by omega)), hz.fr (hf 54 (by omega) (by omega) (by omega) (by omega)) rfl⟩ ⟨m1.fr (fun p _ _ => gf p (by omega) (by omega)), m2.fr (gj 5 (by omega) (by omega) (by omega) (by omega) (by omega)) (gj 6 (by omega) (by omega) (by omega) (by omega) (by omega)) (gj 7 (by omega) (by omega) (by omega) (by omega) (by omega)) (fun p _ _ => gf p (by omega) (by omega)), m3.fr (gf 94 (by omega) (by omega)), m4.fr (gj 19 (by omega) (by omega) (by omega) (by omega) (by omega)) (fun p _ _ => gf p (by omega) (by omega)), m5.fr (gj 32 (by omega) (by omega) (by omega) (by omega) (by omega)) (gj 37 (by omega) (by omega) (by omega) (by omega) (by omega)) (gf 107 (by omega) (by omega))⟩ (((congrFun (gf 0 (by omega) (by omega)) 12).trans (hj 12 (by omega))).trans (e12.trans (((congrFun (hf 85 (by omega) (by omega) (by omega) (by omega)) 1).symm).trans (gj 1 (by omega) (by omega) (by omega) (by omega) (by omega)).symm))) (fun q _ => gf q (by omega) (by omega)) rfl (((congrFun (gf 0 (by omega) (by omega)) 13).trans h13).trans g0.symm))
  · have mp := m.fr (I' := I') (fun q q1 _ _ _ => hf q (by omega) (by omega) (by omega) (by omega)) (fun j _ => by rw [hf 85 (by omega) (by omega) (by omega) (by omega)])
    have ⟨m1, m2, m3, m4, m5⟩ := mp
    refine c_X10_streets m1 o1 (cd := cdC I kv iv) hcd (C0 := C1) (fun q2 hq => by rw [hr] at hq; cases hq; exact hW) (fun a2 f2 I2 hr2 gf gj g0 => by rw [hr] at hr2; cases hr2) (fun q2 I2 hr2 gf gj g0 g19 gT gW => ?_)
    rw [hr] at hr2; cases hr2
    exact hQ _ _ (Inv.ch ⟨o1, strA_r hr, hW, okKd_0, o5⟩ (t' := 30 - t) ⟨ht.o, k1.fr (fun p _ _ => hf p (by omega) (by omega) (by omega) (by omega)), hT, hY, (cKd_0 (ki := ki) (co := co) (ag := ag) (re := re) (T := T) h5), k5.fr (hj 8 (by omega) (by omega)) (hj 10 (by omega) (by omega)) (hf 62 (by omega) (by omega) (by omega) (by omega)), hz.fr (hf 54 (by omega) (by omega) (by omega) (by omega)) rfl⟩ ⟨m1.fr (fun p _ _ => gf p (by omega) (by omega) (by omega)), gT, gW, mKd_0 g19, m5.fr (gj 32 (by omega) (by omega) (by omega) (by omega) (by omega) (by omega) (by omega) (by omega) (by omega)) (gj 37 (by omega) (by omega) (by omega) (by omega) (by omega) (by omega) (by omega) (by omega) (by omega)) (gf 107 (by omega) (by omega) (by omega))⟩ (((congrFun (gf 0 (by omega) (by omega) (by omega)) 12).trans (hj 12 (by omega) (by omega))).trans (e12.trans (((congrFun (hf 85 (by omega) (by omega) (by omega) (by omega)) 1).symm).trans (gj 1 (by omega) (by omega) (by omega) (by omega) (by omega) (by omega) (by omega) (by omega) (by omega)).symm))) (fun q _ => gf q (by omega) (by omega) (by omega)) rfl (((congrFun (gf 0 (by omega) (by omega) (by omega)) 13).trans h13).trans g0.symm))
