/-! ===== rule 3: excess, who must go, keeps ===== -/
def exF (u : Nat → Int32) (v : Nat → Nat) (q : Nat) : Nat → Nat
  | 0 => 0
  | c + 1 => exF u v q c + if u c = 1 then v c - q else 0
theorem mx_N {v q : Nat} (hv : v < 2 ^ 50) (hq : q < 2 ^ 50) : (if lN v - lN q < (0 : Int64) then (0 : Int64) else lN v - lN q) = lN (v - q) := by
  by_cases h : q ≤ v
  · rw [lN_sub h, if_neg (by rw [sa_L0, pk_lLT (by omega) (by omega)]; omega)]
  · have e := v_sub (vOK_N (x := v) (by omega)) (vOK_N (x := q) (by omega))
    rw [pk_lT (by omega), pk_lT (by omega)] at e
    rw [if_pos (by rw [Int64.lt_iff_toInt_lt, e]; have e0 : (0 : Int64).toInt = 0 := rfl; omega), show v - q = 0 by omega]
    rfl
theorem exc_X {S : sc_M} {n t q : Nat} {u : Nat → Int32} {v : Nat → Nat} (hn : n ≤ 12) (ht : t < 72) (hq : q < 2 ^ 50) (e4 : sc_gi S 4 = nI n) (e5 : sc_gi S 5 = nI (t + 1)) (e6 : sc_gi S 6 = nI (12 * t)) (h17 : sc_gb S 17 t = lN q) (hu : ∀ c, c < n → sc_ga S 20 (12 * t + c) = u c) (hv : ∀ c, c < n → sc_gb S 19 (12 * t + c) = lN (v c)) (hvb : ∀ c, c < n → v c < 2 ^ 50) : ∀ (d x f : Nat), x + d = n → d < f → fn_X2_excessOf_4 f S (lN (exF u v q x)) (nI x) = some (lN (exF u v q n), S) := by
  intro d
  induction d with
  | zero =>
    intro x f hx hf
    obtain ⟨f, rfl⟩ : ∃ f', f = f' + 1 := ⟨f - 1, by omega⟩
    obtain rfl : x = n := by omega
    rw [fn_X2_excessOf_4, e4, if_pos (nI_le (by omega) (by omega))]
  | succ d ih =>
    intro x f hx hf
    obtain ⟨f, rfl⟩ : ∃ f', f = f' + 1 := ⟨f - 1, by omega⟩
    have ihk := ih (x + 1) f (by omega) (by omega)
    rw [fn_X2_excessOf_4, e4, if_neg (nI_ge (by omega) (by omega)), isE_X e6 (by omega) hn (by omega) hu, sa_cl, nI_1]
    rw [exF] at ihk
    by_cases h1 : u x = 1
    · rw [decide_eq_true h1, if_neg (show ¬ b2i true = 0 by decide), e6, nI_add, sa_ck _ (by omega) (by omega), sa_quota ht e5 h17, sa_cl, sa_sq, sa_cl9 (by omega), hv x (by omega), mx_N (hvb x (by omega)) hq, lN_add]
      rw [if_pos h1] at ihk
      exact ihk
    · rw [decide_eq_false h1, if_pos (show b2i false = 0 from rfl)]
      rw [if_neg h1, Nat.add_zero] at ihk
      exact ihk
theorem exc_M {S : sc_M} {n q : Nat} {u : Nat → Int32} {v : Nat → Nat} (hn : n ≤ 12) (hq : q < 2 ^ 50) (e0 : sc_gi S 0 = nI n) (hj : sc_gj S 0 = lN q) (hu : ∀ c, c < n → sc_ga S 22 c = u c) (hv : ∀ c, c < n → sc_gb S 21 c = lN (v c)) (hvb : ∀ c, c < n → v c < 2 ^ 50) : ∀ (d x f : Nat), x + d = n → d < f → fn_X5_excess_4 f S (lN (exF u v q x)) (nI x) = some (lN (exF u v q n), S) := by
  intro d
  induction d with
  | zero =>
    intro x f hx hf
    obtain ⟨f, rfl⟩ : ∃ f', f = f' + 1 := ⟨f - 1, by omega⟩
    obtain rfl : x = n := by omega
    rw [fn_X5_excess_4, e0, if_pos (nI_le (by omega) (by omega))]
  | succ d ih =>
    intro x f hx hf
    obtain ⟨f, rfl⟩ : ∃ f', f = f' + 1 := ⟨f - 1, by omega⟩
    have ihk := ih (x + 1) f (by omega) (by omega)
    have hvx := hvb x (by omega)
    rw [fn_X5_excess_4, e0, if_neg (nI_ge (by omega) (by omega))]
    simp -implicitDefEqProofs (disch := omega) only [sa_ck, sa_sq, sa_cl9, hu x (by omega), hv x (by omega), hj, lN_0, nI_1]
    rw [exF] at ihk
    by_cases h1 : u x = 1
    · rw [if_pos h1]
      rw [if_pos h1] at ihk
      by_cases hle : v x ≤ q
      · rw [if_pos (by rw [pk_lLE (by omega) (by omega)]; exact hle)]
        rw [show v x - q = 0 by omega, Nat.add_zero] at ihk
        exact ihk
      · rw [if_neg (by rw [pk_lLE (by omega) (by omega)]; exact hle), lN_sub (by omega), lN_add]
        exact ihk
    · rw [if_neg h1]
      rw [if_neg h1, Nat.add_zero] at ihk
      exact ihk
/-- must somebody go out? -/
def muB (t el el' : Nat) (e : Int64) (k : Int32) (ep : Int64) : Bool := decide (60 ≤ t) || (decide (el' = el) && (decide (e < 1000) || (decide (0 < t) && (decide (k = 3) && !decide (e < ep)))))
theorem sa_l60 : (60 : Int32) = nI 60 := rfl
theorem mpo_X {S : sc_M} {t el el' : Nat} {e : Int64} (ht : t < 72) (e5 : sc_gi S 5 = nI (t + 1)) (h18 : sc_gb S 18 t = e) : fn_X2_mustPutOut S (if el' = el then 0 else 1) = some (b2i (muB t el el' e (sc_ga S 12 (t - 1)) (sc_gb S 18 (t - 1))), S) := by
  have h60 : ∀ z : Bool, fn_X2_mustPutOut_60 S e (b2i z) = some (b2i (decide (e < 1000) || z), S) := fun z => by
    rw [fn_X2_mustPutOut_60]
    by_cases he : e < 1000
    · rw [if_pos he, decide_eq_true he]; rfl
    · rw [if_neg he, decide_eq_false he]
      cases z <;> rfl
  have h59 : fn_X2_mustPutOut_59 S e = some (b2i (decide (e < 1000) || false), S) := h60 false
  have h61 : fn_X2_mustPutOut_60 S e 1 = some (b2i (decide (e < 1000) || true), S) := h60 true
  have key : fn_X2_mustPutOut_e S (if el' = el then 0 else 1) = some (b2i (muB t el el' e (sc_ga S 12 (t - 1)) (sc_gb S 18 (t - 1))), S) := by
    rw [fn_X2_mustPutOut_e, sa_now e5, sa_cl, sa_l60, muB]
    by_cases h6 : t < 60
    · rw [if_pos (nI_lt h6 (by omega)), decide_eq_false (show ¬ 60 ≤ t by omega)]
      by_cases hel : el' = el
      · rw [if_pos hel, if_pos rfl, sa_ck _ (by omega) (by omega), sa_sq, sa_cl9 (by omega), h18, decide_eq_true hel, h59, h61]
        by_cases h0 : t = 0
        · rw [h0, if_pos (by decide)]
          simp
        · rw [if_neg (nI_nle (by omega) (by omega)), sa_m1 (by omega), sa_ck _ (by omega) (by omega), sa_cl9 (by omega), decide_eq_true (show 0 < t by omega)]
          by_cases hk : sc_ga S 12 (t - 1) = 3
          · rw [if_pos hk, sa_ck _ (by omega) (by omega), decide_eq_true hk]
            by_cases hep : e < sc_gb S 18 (t - 1)
            · rw [if_pos hep, decide_eq_true hep]; simp
            · rw [if_neg hep, decide_eq_false hep]; simp
          · rw [if_neg hk, decide_eq_false hk]; simp
      · rw [if_neg hel, if_neg (by decide), decide_eq_false hel]; rfl
    · rw [if_neg (nI_nlt (by omega) (by omega)), decide_eq_true (show 60 ≤ t by omega)]; rfl
  rw [fn_X2_mustPutOut, key, sa_bz _ (b2i_01 _)]
theorem mpo_M {S : sc_M} {t el el' : Nat} {e : Int64} {x1 : Int32} {k2 : sc_M → Int32 → Option sc_M} (ht : t < 72) (hel1 : el ≤ 12) (hel2 : el' ≤ 12) (e7 : sc_gi S 7 = nI el') : (if nI t ≤ 0 then fn_X5_countByKeeps_116 k2 S x1 (nI el) e (nI t) else sc_ck (nI t - (1 : Int32)) 90 (if (sc_ga S 7 (nI t - (1 : Int32)).toNatClampNeg) = (3 : Int32) then sc_ck (nI t - (1 : Int32)) 90 (if e < (sc_gb S 13 (nI t - (1 : Int32)).toNatClampNeg) then fn_X5_countByKeeps_116 k2 S x1 (nI el) e (nI t) else fn_X5_countByKeeps_117 k2 S x1 (nI el) e (nI t) (1 : Int32)) else fn_X5_countByKeeps_116 k2 S x1 (nI el) e (nI t))) = if muB t el el' e (sc_ga S 7 (t - 1)) (sc_gb S 13 (t - 1)) = true then fn_X5_countByKeeps_147 k2 S x1 e else fn_X5_countByKeeps_180 k2 S x1 e := by
  have h7 : ∀ z : Bool, fn_X5_countByKeeps_117 k2 S x1 (nI el) e (nI t) (b2i z) = if (decide (60 ≤ t) || (decide (el' = el) && (decide (e < 1000) || z))) = true then fn_X5_countByKeeps_147 k2 S x1 e else fn_X5_countByKeeps_180 k2 S x1 e := fun z => by
    rw [fn_X5_countByKeeps_117, sa_l60, e7]
    by_cases h6 : 60 ≤ t
    · rw [if_pos (nI_le h6 (by omega)), decide_eq_true h6]; rfl
    · rw [if_neg (nI_ge (by omega) (by omega)), decide_eq_false h6]
      by_cases hel : el' = el
      · rw [if_pos (by rw [hel]), decide_eq_true hel]
        by_cases he : e < 1000
        · rw [if_pos he, decide_eq_true he]; rfl
        · rw [if_neg he, decide_eq_false he]
          cases z <;> rfl
      · rw [if_neg (by rw [nI_eq (by omega) (by omega)]; exact hel), decide_eq_false hel]; rfl
  have h6 : fn_X5_countByKeeps_116 k2 S x1 (nI el) e (nI t) = if (decide (60 ≤ t) || (decide (el' = el) && (decide (e < 1000) || false))) = true then fn_X5_countByKeeps_147 k2 S x1 e else fn_X5_countByKeeps_180 k2 S x1 e := h7 false
  have h71 : fn_X5_countByKeeps_117 k2 S x1 (nI el) e (nI t) 1 = if (decide (60 ≤ t) || (decide (el' = el) && (decide (e < 1000) || true))) = true then fn_X5_countByKeeps_147 k2 S x1 e else fn_X5_countByKeeps_180 k2 S x1 e := h7 true
  rw [h6, h71, muB]
  by_cases h0 : t = 0
  · rw [h0, if_pos (by decide)]
    simp
  · rw [if_neg (nI_nle (by omega) (by omega)), sa_m1 (by omega), sa_ck _ (by omega) (by omega), sa_cl9 (by omega), decide_eq_true (show 0 < t by omega)]
    by_cases hk : sc_ga S 7 (t - 1) = 3
    · rw [if_pos hk, sa_ck _ (by omega) (by omega), decide_eq_true hk]
      by_cases hep : e < sc_gb S 13 (t - 1)
      · rw [if_pos hep, decide_eq_true hep]; simp
      · rw [if_neg hep, decide_eq_false hep]; simp
    · rw [if_neg hk, decide_eq_false hk]; simp
/-- the reference tells the keeps -/
theorem ka_M {n t : Nat} {k2 : sc_M → Int32 → Option sc_M} (hn : n ≤ 12) (ht : t < 72) : ∀ (d x f : Nat) (S : sc_M), x + d = n → d < f → sc_gi S 0 = nI n → sc_gi S 6 = nI t →
    ∃ S', fn_X5_countByKeeps_12 k2 f S (nI x) = fn_X5_countByKeeps_12 k2 1 S' (nI n) ∧ (∀ k, sc_gi S' k = sc_gi S k) ∧ (∀ k, sc_gj S' k = sc_gj S k) ∧ (∀ k, sc_ga S' k = sc_ga S k) ∧ (∀ k, k ≠ 16 → sc_gb S' k = sc_gb S k) ∧ (∀ j, j < 12 * t + x → sc_gb S' 16 j = sc_gb S 16 j) ∧ (∀ c, x ≤ c → c < n → sc_gb S' 16 (12 * t + c) = sc_gb S 23 c) := by
  intro d
  induction d with
  | zero =>
    intro x f S hx hf e0 e6
    obtain ⟨f, rfl⟩ : ∃ f', f = f' + 1 := ⟨f - 1, by omega⟩
    obtain rfl : x = n := by omega
    refine ⟨S, ?_, fun _ => rfl, fun _ => rfl, fun _ => rfl, fun _ _ => rfl, fun _ _ => rfl, fun c h1 h2 => by omega⟩
    rw [fn_X5_countByKeeps_12, fn_X5_countByKeeps_12, e0, if_pos (nI_le (by omega) (by omega)), if_pos (nI_le (by omega) (by omega))]
  | succ d ih =>
    intro x f S hx hf e0 e6
    obtain ⟨f, rfl⟩ : ∃ f', f = f' + 1 := ⟨f - 1, by omega⟩
    obtain ⟨S', h1, h2, h3, h4, h5, h6, h7⟩ := ih (x + 1) f (sc_mB S 16 (vp_updL (sc_gb S 16) (12 * t + x) (sc_gb S 23 x))) (by omega) (by omega) e0 e6
    refine ⟨S', ?_, h2, h3, h4, fun k k1 => ?_, fun j hj => ?_, fun c c1 c2 => ?_⟩
    · rw [fn_X5_countByKeeps_12, e0, if_neg (nI_ge (by omega) (by omega)), e6, sa_12m, sa_ck _ (by omega) (by omega), sa_ck _ (by omega) (by omega), sa_sq, sa_cl9 (by omega), sa_cl9 (by omega), nI_1]; exact h1
    · rw [h5 k k1]; simp -implicitDefEqProofs (disch := omega) only [sa_gi_s, sa_gi_n, sa_gi_j, sa_gi_A, sa_gi_B, sa_gj_s, sa_gj_n, sa_gj_i, sa_gj_A, sa_gj_B, sa_ga_s, sa_ga_n, sa_ga_i, sa_ga_j, sa_ga_B, sa_gb_s, sa_gb_n, sa_gb_i, sa_gb_j, sa_gb_A, sa_us, sa_un, sa_vs, sa_vn]
    · rw [h6 j (by omega)]; simp -implicitDefEqProofs (disch := omega) only [sa_gi_s, sa_gi_n, sa_gi_j, sa_gi_A, sa_gi_B, sa_gj_s, sa_gj_n, sa_gj_i, sa_gj_A, sa_gj_B, sa_ga_s, sa_ga_n, sa_ga_i, sa_ga_j, sa_ga_B, sa_gb_s, sa_gb_n, sa_gb_i, sa_gb_j, sa_gb_A, sa_us, sa_un, sa_vs, sa_vn]
    · by_cases hcx : c = x
      · rw [h6 _ (by omega), hcx]; simp -implicitDefEqProofs (disch := omega) only [sa_gi_s, sa_gi_n, sa_gi_j, sa_gi_A, sa_gi_B, sa_gj_s, sa_gj_n, sa_gj_i, sa_gj_A, sa_gj_B, sa_ga_s, sa_ga_n, sa_ga_i, sa_ga_j, sa_ga_B, sa_gb_s, sa_gb_n, sa_gb_i, sa_gb_j, sa_gb_A, sa_us, sa_un, sa_vs, sa_vn]
      · rw [h7 c (by omega) c2]; simp -implicitDefEqProofs (disch := omega) only [sa_gi_s, sa_gi_n, sa_gi_j, sa_gi_A, sa_gi_B, sa_gj_s, sa_gj_n, sa_gj_i, sa_gj_A, sa_gj_B, sa_ga_s, sa_ga_n, sa_ga_i, sa_ga_j, sa_ga_B, sa_gb_s, sa_gb_n, sa_gb_i, sa_gb_j, sa_gb_A, sa_us, sa_un, sa_vs, sa_vn]
/-- a keep becomes this one -/
def nk (q v k : Nat) : Nat := if v = 0 then 1000000 else if k * q / v + 1 ≤ 1000000 then k * q / v + 1 else 1000000
theorem nk_le (q v k : Nat) : nk q v k ≤ 1000000 := by
  unfold nk
  split
  · omega
  · split <;> omega
theorem kf_X {S : sc_M} {q v k : Nat} (hk : k ≤ 1000000) (hq : q ≤ 2900000000000) (hv : v ≤ 480000000000) : fn_X2_keepFor S (lN k) (lN q) (lN v) = some (nI (nk q v k), S) := by
  have hmul : k * q ≤ 1000000 * 2900000000000 := Nat.mul_le_mul hk hq
  have hdiv : k * q / v ≤ k * q := Nat.div_le_self _ _
  rw [fn_X2_keepFor, nk]
  by_cases h0 : v = 0
  · rw [if_neg (by rw [sa_L0, pk_lLT (by omega) (by omega)]; omega), if_pos h0]; rfl
  · rw [if_pos (by rw [sa_L0, pk_lLT (by omega) (by omega)]; omega), sa_nlN _ (by omega) (by omega), lN_mul, pk_lDiv (by omega) (by omega) (by omega), lN_1, if_neg h0, show (1000000 : Int64) = lN 1000000 from rfl]
    by_cases h1 : k * q / v + 1 < 1000000
    · rw [if_pos (by rw [pk_lLT (by omega) (by omega)]; exact h1), if_pos (by omega), lN_i]
    · rw [if_neg (by rw [pk_lLT (by omega) (by omega)]; exact h1), lN_i]
      by_cases h2 : k * q / v + 1 ≤ 1000000
      · rw [if_pos h2, show k * q / v + 1 = 1000000 by omega]
      · rw [if_neg h2]
def cFr (t : Nat) (SX SM SX' SM' : sc_M) : Prop := ((∀ k, sc_gi SX' k = sc_gi SX k) ∧ (∀ k, k ≠ 21 → sc_ga SX' k = sc_ga SX k) ∧ (∀ k, sc_gb SX' k = sc_gb SX k) ∧ (∀ j, j < 12 * t → sc_ga SX' 21 j = sc_ga SX 21 j)) ∧ ((∀ k, sc_gi SM' k = sc_gi SM k) ∧ (∀ k, sc_gj SM' k = sc_gj SM k) ∧ (∀ k, sc_ga SM' k = sc_ga SM k) ∧ (∀ k, k ≠ 23 → sc_gb SM' k = sc_gb SM k))
theorem cFr_rfl (t : Nat) (SX SM : sc_M) : cFr t SX SM SX SM := ⟨⟨fun _ => rfl, fun _ _ => rfl, fun _ => rfl, fun _ _ => rfl⟩, fun _ => rfl, fun _ => rfl, fun _ => rfl, fun _ _ => rfl⟩
theorem cFr_trans {t : Nat} {X M X1 M1 X2 M2 : sc_M} (a : cFr t X M X1 M1) (b : cFr t X1 M1 X2 M2) : cFr t X M X2 M2 := by
  obtain ⟨⟨a1, a2, a3, a4⟩, a5, a6, a7, a8⟩ := a
  obtain ⟨⟨b1, b2, b3, b4⟩, b5, b6, b7, b8⟩ := b
  exact ⟨⟨fun k => (b1 k).trans (a1 k), fun k h => (b2 k h).trans (a2 k h), fun k => (b3 k).trans (a3 k), fun j h => (b4 j h).trans (a4 j h)⟩, fun k => (b5 k).trans (a5 k), fun k => (b6 k).trans (a6 k), fun k => (b7 k).trans (a7 k), fun k h => (b8 k h).trans (a8 k h)⟩
theorem kR_set {B : bT} {t c0 y : Nat} {kp : Nat → Nat} {SX SM : sc_M} (hy : y ≤ 1000000) (hw : bW B c0 = 0) (h : kR B t kp SX SM) : kR B t (uN kp c0 y) (sc_mA SX 21 (upd (sc_ga SX 21) (12 * t + c0) (nI y))) (sc_mB SM 23 (vp_updL (sc_gb SM 23) c0 (lN y))) ∧ cFr t SX SM (sc_mA SX 21 (upd (sc_ga SX 21) (12 * t + c0) (nI y))) (sc_mB SM 23 (vp_updL (sc_gb SM 23) c0 (lN y))) := by
  refine ⟨fun c hc => ?_, ⟨fun k => ?_, fun k k1 => ?_, fun k => ?_, fun j hj => ?_⟩, fun k => ?_, fun k => ?_, fun k => ?_, fun k k1 => ?_⟩
  · by_cases hcc : c = c0
    · rw [hcc, uN_s]; simp -implicitDefEqProofs (disch := omega) only [sa_gi_s, sa_gi_n, sa_gi_j, sa_gi_A, sa_gi_B, sa_gj_s, sa_gj_n, sa_gj_i, sa_gj_A, sa_gj_B, sa_ga_s, sa_ga_n, sa_ga_i, sa_ga_j, sa_ga_B, sa_gb_s, sa_gb_n, sa_gb_i, sa_gb_j, sa_gb_A, sa_us, sa_un, sa_vs, sa_vn]
      exact ⟨fun _ => ⟨hy, trivial, trivial⟩, fun q => absurd hw q⟩
    · rw [uN_n _ _ _ _ hcc]; simp -implicitDefEqProofs (disch := omega) only [sa_gi_s, sa_gi_n, sa_gi_j, sa_gi_A, sa_gi_B, sa_gj_s, sa_gj_n, sa_gj_i, sa_gj_A, sa_gj_B, sa_ga_s, sa_ga_n, sa_ga_i, sa_ga_j, sa_ga_B, sa_gb_s, sa_gb_n, sa_gb_i, sa_gb_j, sa_gb_A, sa_us, sa_un, sa_vs, sa_vn]; exact h c hc
  all_goals simp -implicitDefEqProofs (disch := omega) only [sa_gi_s, sa_gi_n, sa_gi_j, sa_gi_A, sa_gi_B, sa_gj_s, sa_gj_n, sa_gj_i, sa_gj_A, sa_gj_B, sa_ga_s, sa_ga_n, sa_ga_i, sa_ga_j, sa_ga_B, sa_gb_s, sa_gb_n, sa_gb_i, sa_gb_j, sa_gb_A, sa_us, sa_un, sa_vs, sa_vn]
theorem ckp_both {B : bT} {t q : Nat} {u : Nat → Int32} {v : Nat → Nat} {x1 : Int32} {k2 : sc_M → Int32 → Option sc_M} (hB : bOK B) (ht : t < 72) (hq : q ≤ 2900000000000) (hvb : ∀ c, c < bN B → v c ≤ 480000000000) (huw : ∀ c, c < bN B → u c = 1 → bW B c = 0) : ∀ (d x fX fM : Nat) (kp : Nat → Nat) (SX SM : sc_M), x + d = bN B → d < fX → d < fM → sc_gi SX 4 = nI (bN B) → sc_gi SX 5 = nI (t + 1) → sc_gi SX 6 = nI (12 * t) → sc_gi SM 0 = nI (bN B) → sc_gb SX 17 t = lN q → sc_gj SM 0 = lN q → (∀ c, c < bN B → sc_ga SX 20 (12 * t + c) = u c ∧ sc_ga SM 22 c = u c) → (∀ c, c < bN B → sc_gb SX 19 (12 * t + c) = lN (v c) ∧ sc_gb SM 21 c = lN (v c)) → kR B t kp SX SM →
    ∃ (kp' : Nat → Nat) (SX' SM' : sc_M), fn_X2_changeKeeps_21 fX SX (nI x) = some SX' ∧ fn_X5_countByKeeps_191 k2 fM SM x1 (nI x) = k2 SM' x1 ∧ kR B t kp' SX' SM' ∧ cFr t SX SM SX' SM' := by
  have hn := hB.1.2.1
  intro d
  induction d with
  | zero =>
    intro x fX fM kp SX SM hx hfX hfM g5 e5 e6 m0 h17 hj hu hv hk
    obtain ⟨fX, rfl⟩ : ∃ f', fX = f' + 1 := ⟨fX - 1, by omega⟩
    obtain ⟨fM, rfl⟩ : ∃ f', fM = f' + 1 := ⟨fM - 1, by omega⟩
    refine ⟨kp, SX, SM, ?_, ?_, hk, cFr_rfl _ _ _⟩
    · rw [fn_X2_changeKeeps_21, g5, if_pos (nI_le (by omega) (by omega))]
    · rw [fn_X5_countByKeeps_191, m0, if_pos (nI_le (by omega) (by omega))]
  | succ d ih =>
    intro x fX fM kp SX SM hx hfX hfM g5 e5 e6 m0 h17 hj hu hv hk
    obtain ⟨fX, rfl⟩ : ∃ f', fX = f' + 1 := ⟨fX - 1, by omega⟩
    obtain ⟨fM, rfl⟩ : ∃ f', fM = f' + 1 := ⟨fM - 1, by omega⟩
    have hxn : x < bN B := by omega
    by_cases h1 : u x = 1
    · have hw := huw x hxn h1
      obtain ⟨q1, q2, q3⟩ := (hk x hxn).1 hw
      have hvx := hvb x hxn
      obtain ⟨w1, w2⟩ := kR_set (c0 := x) (nk_le q (v x) (kp x)) hw hk
      obtain ⟨kp', SX', SM', r1, r2, r3, r4⟩ := ih (x + 1) fX fM (uN kp x (nk q (v x) (kp x))) (sc_mA SX 21 (upd (sc_ga SX 21) (12 * t + x) (nI (nk q (v x) (kp x))))) (sc_mB SM 23 (vp_updL (sc_gb SM 23) x (lN (nk q (v x) (kp x))))) (by omega) (by omega) (by omega) g5 e5 e6 m0 h17 hj (fun c hc => by simp -implicitDefEqProofs (disch := omega) only [sa_gi_s, sa_gi_n, sa_gi_j, sa_gi_A, sa_gi_B, sa_gj_s, sa_gj_n, sa_gj_i, sa_gj_A, sa_gj_B, sa_ga_s, sa_ga_n, sa_ga_i, sa_ga_j, sa_ga_B, sa_gb_s, sa_gb_n, sa_gb_i, sa_gb_j, sa_gb_A, sa_us, sa_un, sa_vs, sa_vn]; exact hu c hc) (fun c hc => by simp -implicitDefEqProofs (disch := omega) only [sa_gi_s, sa_gi_n, sa_gi_j, sa_gi_A, sa_gi_B, sa_gj_s, sa_gj_n, sa_gj_i, sa_gj_A, sa_gj_B, sa_ga_s, sa_ga_n, sa_ga_i, sa_ga_j, sa_ga_B, sa_gb_s, sa_gb_n, sa_gb_i, sa_gb_j, sa_gb_A, sa_us, sa_un, sa_vs, sa_vn]; exact hv c hc) w1
      refine ⟨kp', SX', SM', ?_, ?_, r3, cFr_trans w2 r4⟩
      · rw [fn_X2_changeKeeps_21, g5, if_neg (nI_ge (by omega) (by omega)), isE_X e6 (by omega) hn hxn (fun c hc => (hu c hc).1), sa_cl, decide_eq_true h1, if_neg (show ¬ b2i true = 0 by decide), e6, nI_add, sa_sq, sa_ck _ (by omega) (by omega), sa_quota ht e5 h17, sa_cl, sa_ck _ (by omega) (by omega), sa_cl9 (by omega), q2, nI_l (by omega), (hv x hxn).1, kf_X q1 hq hvx, sa_cl, sa_ck _ (by omega) (by omega), sa_sq, nI_1]
        exact r1
      · have hmul : kp x * q ≤ 1000000 * 2900000000000 := Nat.mul_le_mul q1 hq
        have hdiv : kp x * q / v x ≤ kp x * q := Nat.div_le_self _ _
        have h251 : ∀ z : Nat, z < 2 ^ 63 → (if z ≤ 1000000 then z else 1000000) = nk q (v x) (kp x) → fn_X5_countByKeeps_251 (fn_X5_countByKeeps_191 k2 fM) SM x1 (nI x) (lN z) = k2 SM' x1 := fun z hz hzz => by
          rw [fn_X5_countByKeeps_251, show (1000000 : Int64) = lN 1000000 from rfl, sa_ck _ (by omega) (by omega), sa_ck _ (by omega) (by omega), sa_sq, sa_sq, sa_cl9 (by omega), nI_1]
          rw [← hzz] at r2
          by_cases hz1 : z ≤ 1000000
          · rw [if_pos (by rw [pk_lLE (by omega) (by omega)]; exact hz1)]
            rw [if_pos hz1] at r2
            exact r2
          · rw [if_neg (by rw [pk_lLE (by omega) (by omega)]; exact hz1)]
            rw [if_neg hz1] at r2
            exact r2
        rw [fn_X5_countByKeeps_191, m0, if_neg (nI_ge (by omega) (by omega))]
        simp -implicitDefEqProofs (disch := omega) only [sa_ck, sa_cl9, (hu x hxn).2, (hv x hxn).2, hj, q3]
        rw [if_pos h1]
        by_cases h0 : v x = 0
        · rw [if_pos (by rw [h0]; rfl)]
          exact h251 1000000 (by omega) (by rw [nk, if_pos h0]; rfl)
        · rw [if_neg (by rw [sa_L0, pk_lEQ (by omega) (by omega)]; exact h0), sa_nlN _ (by omega) (by omega), lN_mul, pk_lDiv (by omega) (by omega) (by omega), lN_1]
          exact h251 _ (by omega) (by rw [nk, if_neg h0])
    · obtain ⟨kp', SX', SM', r1, r2, r3, r4⟩ := ih (x + 1) fX fM kp SX SM (by omega) (by omega) (by omega) g5 e5 e6 m0 h17 hj hu hv hk
      refine ⟨kp', SX', SM', ?_, ?_, r3, r4⟩
      · rw [fn_X2_changeKeeps_21, g5, if_neg (nI_ge (by omega) (by omega)), isE_X e6 (by omega) hn hxn (fun c hc => (hu c hc).1), sa_cl, decide_eq_false h1, if_pos (show b2i false = 0 from rfl), nI_1]
        exact r1
      · rw [fn_X5_countByKeeps_191, m0, if_neg (nI_ge (by omega) (by omega)), sa_ck _ (by omega) (by omega), sa_cl9 (by omega), (hu x hxn).2, if_neg h1, nI_1]
        exact r2
