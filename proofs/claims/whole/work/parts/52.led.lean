/-! ===== whom c leads to: the least set ===== -/
def rE (B : bT) (x y : Nat) : Prop := x < bN B ∧ y < bN B ∧ bW B x = 0 ∧ btB B x y = true
def rC (B : bT) (c y : Nat) : Prop := ∀ T : Nat → Prop, (∀ z, rE B c z → T z) → (∀ x z, T x → rE B x z → T z) → T y
theorem rC_1 {B : bT} {c z : Nat} (h : rE B c z) : rC B c z := fun T h1 _ => h1 z h
theorem rC_s {B : bT} {c x z : Nat} (hx : rC B c x) (h : rE B x z) : rC B c z := fun T h1 h2 => h2 x z (hx T h1 h2) h
theorem bt_w {B : bT} {x y : Nat} (h : btB B x y = true) : bW B y = 0 := by
  simp only [btB, Bool.and_eq_true, decide_eq_true_eq] at h
  exact h.2.1
theorem rC_w {B : bT} {c y : Nat} (h : rC B c y) : bW B y = 0 := h (fun z => bW B z = 0) (fun z hz => bt_w hz.2.2.2) (fun x z _ hz => bt_w hz.2.2.2)
/-- a set of places that is just what c leads to -/
def isL (B : bT) (c : Nat) (s : Nat → Bool) : Prop := ∀ y, y < bN B → (s y = true ↔ rC B c y)
theorem isL_of {B : bT} {c : Nat} {s : Nat → Bool} (h1 : ∀ y, y < bN B → s y = true → rC B c y) (h2 : ∀ y, rE B c y → s y = true) (h3 : ∀ x y, s x = true → rE B x y → s y = true) : isL B c s := fun y hy => ⟨h1 y hy, fun h => h (fun z => s z = true) h2 (fun x z hx hz => h3 x z hx hz)⟩
theorem lb_X {B : bT} {S : sc_M} (hB : bOK B) (hX : bX B S) {c : Nat} (hc : c < bN B) : ∀ (d st f : Nat) (led asked : Int32), st + d = bN B → d < f → (∀ k, bN B ≤ k → k < 32 → bq led k = false) → (∀ y, y < bN B → bq led y = true → rC B c y) → (∀ y, rE B c y → bq led y = true) → (∀ x y, bq asked x = true → rE B x y → bq led y = true) → cnP (bq asked) (bN B) = st → ∃ led', fn_X0_ledBy_24 f S led asked (nI st) = some (led', S) ∧ (∀ k, bN B ≤ k → k < 32 → bq led' k = false) ∧ isL B c (bq led') := by
  have hn12 := hB.1.2.1
  intro d
  induction d with
  | zero =>
    intro st f led asked hst hf hh h1 h2 h3 h4
    obtain ⟨f, rfl⟩ : ∃ f', f = f' + 1 := ⟨f - 1, by omega⟩
    refine ⟨led, ?_, hh, isL_of h1 h2 (fun x y hx hxy => h3 x y (cnP_full _ _ (by omega) x hxy.1) hxy)⟩
    rw [fn_X0_ledBy_24, hX.1, if_pos (nI_le (by omega) (by omega))]
  | succ d ih =>
    intro st f led asked hst hf hh h1 h2 h3 h4
    obtain ⟨f, rfl⟩ : ∃ f', f = f' + 1 := ⟨f - 1, by omega⟩
    rw [fn_X0_ledBy_24, hX.1, if_neg (nI_ge (by omega) (by omega))]
    have hbit : ∀ j, j < bN B → bq (led &&& (asked ^^^ (-1))) j = (bq led j && !bq asked j) := fun j hj => by rw [bq_and, bq_not _ (by omega)]
    rcases fi_X hn12 hX.1 (led &&& (asked ^^^ (-1))) (bN B) 0 sc_FU (by omega) (by rw [sa_FU]; omega) with ⟨j, _, j2, j3, j4⟩ | ⟨j1, j2⟩
    · have j5 : fn_X0_firstIn S (led &&& (asked ^^^ (-1))) = some (nI j, S) := j4
      rw [hbit j j2, Bool.and_eq_true] at j3
      obtain ⟨k1, k2⟩ := j3
      have k3 : bq asked j = false := by simpa using k2
      have hr := h1 j j2 k1
      have hwj := rC_w hr
      rw [j5, sa_cl, if_neg (by
        intro q
        have := congrArg Int32.toInt q
        rw [nI_toInt (by omega)] at this
        have e9 : (-9 : Int32).toInt = -9 := rfl
        omega), bb_Xr hB hX j2, sa_cl, sa_sq, sa_sq, nI_1]
      have hled : ∀ y, y < 32 → bq (led ||| mkF (btB B j) (bN B)) y = (bq led y || (decide (y < bN B) && btB B j y)) := fun y hy => by rw [bq_or, bq_mk _ _ hn12 y hy]
      have hask : ∀ y, y < 32 → bq (asked ||| oB j) y = (bq asked y || decide (j = y)) := fun y hy => by rw [bq_or, bq_oB j (by omega) y hy]
      refine ih (st + 1) f (led ||| mkF (btB B j) (bN B)) (asked ||| oB j) (by omega) (by omega) (fun k q1 q2 => ?_) (fun y hy hs => ?_) (fun y hy => ?_) (fun x y hx hxy => ?_) ?_
      · rw [hled k q2, hh k q1 q2, decide_eq_false (by omega)]; rfl
      · rw [hled y (by omega), Bool.or_eq_true] at hs
        rcases hs with hs | hs
        · exact h1 y hy hs
        · rw [Bool.and_eq_true] at hs
          exact rC_s hr ⟨j2, hy, hwj, hs.2⟩
      · have hy12 := hy.2.1
        rw [hled y (by omega), h2 y hy]; rfl
      · have hy12 := hxy.2.1
        have hx12 := hxy.1
        rw [hask x (by omega), Bool.or_eq_true] at hx
        rw [hled y (by omega)]
        rcases hx with hx | hx
        · rw [h3 x y hx hxy]; rfl
        · have : j = x := of_decide_eq_true hx
          subst this
          rw [hxy.2.2.2, decide_eq_true hy12]; simp
      · have := cnP_add (bq asked) j k3 (bN B)
        rw [if_pos j2] at this
        rw [cnP_congr (Q := fun k => bq asked k || decide (j = k)) (bN B) (fun k hk => hask k (by omega)), this, h4]
    · have j5 : fn_X0_firstIn S (led &&& (asked ^^^ (-1))) = some (-9, S) := j2
      rw [j5, sa_cl, if_pos rfl]
      refine ⟨led, rfl, hh, isL_of h1 h2 (fun x y hx hxy => h3 x y ?_ hxy)⟩
      have := j1 x (Nat.zero_le x) hxy.1
      rw [hbit x hxy.1, hx, Bool.true_and] at this
      simpa using this
theorem lb_Xr {B : bT} {S : sc_M} (hB : bOK B) (hX : bX B S) {c : Nat} (hc : c < bN B) : ∃ led, fn_X0_ledBy S (nI c) = some (led, S) ∧ (∀ k, bN B ≤ k → k < 32 → bq led k = false) ∧ isL B c (bq led) := by
  have hn12 := hB.1.2.1
  by_cases hw : bW B c = 0
  · have hm : ∀ y, y < 32 → bq (mkF (btB B c) (bN B)) y = (decide (y < bN B) && btB B c y) := fun y hy => bq_mk _ _ hn12 y hy
    have ho : ∀ y, y < 32 → bq (oB c) y = decide (c = y) := fun y hy => bq_oB c (by omega) y hy
    obtain ⟨led, r1, r2, r3⟩ := lb_X hB hX hc (bN B - 1) 1 sc_FU (mkF (btB B c) (bN B)) (oB c) (by have := hB.1.1; omega) (by rw [sa_FU]; omega) (fun k q1 q2 => by rw [hm k q2, decide_eq_false (by omega)]; rfl) (fun y hy hs => by
        rw [hm y (by omega), Bool.and_eq_true] at hs
        exact rC_1 ⟨hc, hy, hw, hs.2⟩) (fun y hy => by
        have := hy.2.1
        rw [hm y (by omega), hy.2.2.2, decide_eq_true hy.2.1]; rfl) (fun x y hx hxy => by
        have q1 := hxy.1
        have q2 := hxy.2.1
        rw [ho x (by omega)] at hx
        have : c = x := of_decide_eq_true hx
        subst this
        rw [hm y (by omega), hxy.2.2.2, decide_eq_true q2]; rfl) (by
        have e := cnP_add (fun _ => false) c rfl (bN B)
        rw [if_pos hc] at e
        have z : ∀ n, cnP (fun _ => false) n = 0 := fun n => by
          induction n with
          | zero => rfl
          | succ n ih => simp only [cnP, ih]; rfl
        rw [cnP_congr (Q := fun k => (fun _ => false) k || decide (c = k)) (bN B) (fun k hk => by rw [ho k (by omega)]; rfl), e, z])
    refine ⟨led, ?_, r2, r3⟩
    rw [fn_X0_ledBy, sa_ck _ (by omega) (by omega), sa_cl9 (by omega), hX.2.2.1 c (by omega), if_pos hw, bb_Xr hB hX hc, sa_cl, sa_sq]
    exact r1
  · refine ⟨0, ?_, fun k _ _ => bq_0 k, fun y hy => ⟨fun h => absurd ((bq_0 y).symm.trans h) (by decide), fun h => ?_⟩⟩
    · rw [fn_X0_ledBy, sa_ck _ (by omega) (by omega), sa_cl9 (by omega), hX.2.2.1 c (by omega), if_neg hw]
    · exact (h (fun _ => False) (fun z hz => hw hz.2.2.1) (fun _ _ q _ => q)).elim
