/-! ===== counting ===== -/
def cW (w : Nat → Int32) : Nat → Nat
  | 0 => 0
  | k + 1 => cW w k + if w k = 0 then 0 else 1
def vdF (w : Nat → Int32) (f : Nat → Nat) : Nat → Bool
  | 0 => false
  | k + 1 => vdF w f k || decide (w (f k) = 0)
def sB (P : Nat → Bool) (q : Nat → Nat) : Nat → Nat
  | 0 => 0
  | k + 1 => sB P q k + if P k then q k else 0
def vB (B : bT) (p : Nat) : Bool := vdF (bW B) (bF B p) (bE B p)
def b2i (b : Bool) : Int32 := if b then 1 else 0
theorem b2i_01 (b : Bool) : b2i b = 0 ∨ b2i b = 1 := by cases b <;> simp [b2i]
theorem cW_le (w : Nat → Int32) : ∀ n, cW w n ≤ n := by
  intro n
  induction n with
  | zero => exact Nat.le_refl _
  | succ n ih => simp only [cW]; split <;> omega
theorem vdF_mono (w : Nat → Int32) (f : Nat → Nat) : ∀ (d k : Nat), vdF w f k = true → vdF w f (k + d) = true := by
  intro d
  induction d with
  | zero => intro k h; exact h
  | succ d ih => intro k h; rw [← Nat.add_assoc, vdF, ih k h]; rfl
theorem sB_le (P : Nat → Bool) (q : Nat → Nat) (m : Nat) : ∀ n, (∀ k, k < n → q k ≤ m) → sB P q n ≤ m * n := by
  intro n
  induction n with
  | zero => intro _; exact Nat.zero_le _
  | succ n ih =>
    intro h
    have h1 := ih (fun k hk => h k (by omega))
    have h2 := h n (by omega)
    simp only [sB, Nat.mul_succ]
    split <;> omega
theorem wo_X {S : sc_M} {w : Nat → Int32} {n : Nat} (hn : n ≤ 12) (e : sc_gi S 0 = nI n) (hw : ∀ c, c < 12 → sc_ga S 4 c = w c) : ∀ (d x f : Nat), x + d = n → d < f → fn_X0_withdrawnOnes_4 f S (nI (cW w x)) (nI x) = some (nI (cW w n), S) := by
  intro d
  induction d with
  | zero =>
    intro x f hx hf
    obtain ⟨g, rfl⟩ : ∃ g, f = g + 1 := ⟨f - 1, by omega⟩
    obtain rfl : x = n := by omega
    rw [fn_X0_withdrawnOnes_4, e, if_pos (nI_le (by omega) (by omega))]
  | succ d ih =>
    intro x f hx hf
    obtain ⟨g, rfl⟩ : ∃ g, f = g + 1 := ⟨f - 1, by omega⟩
    have := ih (x + 1) g (by omega) (by omega)
    rw [fn_X0_withdrawnOnes_4, e, if_neg (nI_ge (by omega) (by omega)), sa_ck _ (by omega) (by omega), sa_cl9 (by omega), hw x (by omega), nI_1]
    by_cases h : w x = 0
    · rw [if_pos h]; simp only [cW, if_pos h, Nat.add_zero] at this; exact this
    · rw [if_neg h, nI_1]; simp only [cW, if_neg h] at this; exact this
theorem wo_M {S : sc_M} {w : Nat → Int32} {n : Nat} (hn : n ≤ 12) (e : sc_gi S 0 = nI n) (hw : ∀ c, c < 12 → sc_ga S 1 c = w c) : ∀ (d x f : Nat), x + d = n → d < f → fn_X5_told_78 f S (nI (cW w x)) (nI x) = some (nI (cW w n), S) := by
  intro d
  induction d with
  | zero =>
    intro x f hx hf
    obtain ⟨g, rfl⟩ : ∃ g, f = g + 1 := ⟨f - 1, by omega⟩
    obtain rfl : x = n := by omega
    rw [fn_X5_told_78, e, if_pos (nI_le (by omega) (by omega))]
  | succ d ih =>
    intro x f hx hf
    obtain ⟨g, rfl⟩ : ∃ g, f = g + 1 := ⟨f - 1, by omega⟩
    have := ih (x + 1) g (by omega) (by omega)
    rw [fn_X5_told_78, e, if_neg (nI_ge (by omega) (by omega)), sa_ck _ (by omega) (by omega), sa_cl9 (by omega), hw x (by omega), sa_sq, sa_sq, nI_1]
    by_cases h : w x = 0
    · rw [if_pos h, sa_l0, nI_add]; simp only [cW, if_pos h] at this; exact this
    · rw [if_neg h, nI_1]; simp only [cW, if_neg h] at this; exact this
theorem wo_Xr {B : bT} {S : sc_M} (hB : bOK B) (hX : bX B S) : fn_X0_withdrawnOnes S = some (nI (cW (bW B) (bN B)), S) := by
  have := wo_X hB.1.2.1 hX.1 hX.2.2.1 (bN B) 0 sc_FU (by omega) (by have := hB.1.2.1; rw [sa_FU]; omega)
  rw [fn_X0_withdrawnOnes]; exact this
/-! ===== valid piles ===== -/
theorem iv_X {B : bT} {S : sc_M} (hB : bOK B) (hX : bX B S) {p : Nat} (hp : p < bP B) : ∀ (d k f : Nat), k + d = bE B p → d < f → vdF (bW B) (bF B p) k = false → fn_X0_isValid_2 f S (nI p) (nI k) = some (b2i (vB B p), S) := by
  obtain ⟨_, ⟨l1, l2⟩, hf, _⟩ := hB.2.2 p hp
  obtain ⟨_, x2, x3, _⟩ := hX.2.2.2.2 p hp
  have hn12 := hB.1.2.1
  have hp80 := hB.1.2.2
  intro d
  induction d with
  | zero =>
    intro k f hk hf0 hv
    obtain ⟨g, rfl⟩ : ∃ g, f = g + 1 := ⟨f - 1, by omega⟩
    obtain rfl : k = bE B p := by omega
    rw [fn_X0_isValid_2, sa_ck _ (by omega) (by omega), sa_cl9 (by omega), x2, if_pos (nI_le (by omega) (by omega)), vB, hv]; rfl
  | succ d ih =>
    intro k f hk hf0 hv
    obtain ⟨g, rfl⟩ : ∃ g, f = g + 1 := ⟨f - 1, by omega⟩
    have hfk := hf k (by omega)
    rw [fn_X0_isValid_2, sa_ck _ (by omega) (by omega), sa_cl9 (show p < 100000 by omega), x2, if_neg (nI_ge (by omega) (by omega)), sa_12x, sa_ck _ (by omega) (by omega), sa_cl9 (show 12 * p + k < 100000 by omega), x3 k (by omega), sa_ck _ (by omega) (by omega), sa_cl9 (by omega), hX.2.2.1 _ (by omega), nI_1]
    by_cases h : bW B (bF B p k) = 0
    · rw [if_pos h]
      have h1 : vdF (bW B) (bF B p) (k + 1) = true := by rw [vdF, hv]; simp [h]
      have h2 := vdF_mono _ _ d (k + 1) h1
      rw [show k + 1 + d = bE B p by omega] at h2
      rw [vB, h2]; rfl
    · rw [if_neg h]
      exact ih (k + 1) g (by omega) (by omega) (by rw [vdF, hv]; simp [h])
theorem iv_Xr {B : bT} {S : sc_M} (hB : bOK B) (hX : bX B S) {p : Nat} (hp : p < bP B) : fn_X0_isValid S (nI p) = some (b2i (vB B p), S) := by
  have h12 := (hB.2.2 p hp).2.1.2
  have := iv_X hB hX hp (bE B p) 0 sc_FU (by omega) (by rw [sa_FU]; omega) rfl
  rw [fn_X0_isValid, fn_X0_isValid_e, sa_l0, this, sa_bz _ (b2i_01 _)]
theorem iv_M {B : bT} {S : sc_M} (hB : bOK B) (hM : bM B S) {p : Nat} (hp : p < bP B) : ∀ (d k f : Nat), k + d = bE B p → d < f → fn_X5_isValid_4 f S (nI p) (b2i (vdF (bW B) (bF B p) k)) (nI k) = some (b2i (vB B p), S) := by
  obtain ⟨_, ⟨l1, l2⟩, hf, _⟩ := hB.2.2 p hp
  obtain ⟨_, x2, x3⟩ := hM.2.2.2.2 p hp
  have hn12 := hB.1.2.1
  have hp80 := hB.1.2.2
  intro d
  induction d with
  | zero =>
    intro k f hk hf0
    obtain ⟨g, rfl⟩ : ∃ g, f = g + 1 := ⟨f - 1, by omega⟩
    obtain rfl : k = bE B p := by omega
    rw [fn_X5_isValid_4, sa_ck _ (by omega) (by omega), sa_cl9 (by omega), x2, if_pos (nI_le (by omega) (by omega)), vB]
  | succ d ih =>
    intro k f hk hf0
    obtain ⟨g, rfl⟩ : ∃ g, f = g + 1 := ⟨f - 1, by omega⟩
    have hfk := hf k (by omega)
    have ihk := ih (k + 1) g (by omega) (by omega)
    rw [fn_X5_isValid_4, sa_ck _ (by omega) (by omega), sa_cl9 (show p < 100000 by omega), x2, if_neg (nI_ge (by omega) (by omega)), sa_12m, sa_ck _ (by omega) (by omega), sa_cl9 (show 12 * p + k < 100000 by omega), x3 k (by omega), sa_ck _ (by omega) (by omega), sa_cl9 (show bF B p k < 100000 by omega), hM.2.2.1 _ (by omega), nI_1]
    rw [vdF] at ihk
    cases hv : vdF (bW B) (bF B p) k with
    | true =>
      rw [hv] at ihk
      rw [if_neg (by decide)]; exact ihk
    | false =>
      rw [hv] at ihk
      rw [if_pos (show b2i false = 0 from rfl)]
      by_cases h : bW B (bF B p k) = 0
      · rw [if_pos h]; simp only [h, decide_true, Bool.or_true] at ihk; exact ihk
      · rw [if_neg h]; simp only [h, decide_false, Bool.or_false] at ihk; exact ihk
theorem iv_Mr {B : bT} {S : sc_M} (hB : bOK B) (hM : bM B S) {p : Nat} (hp : p < bP B) : fn_X5_isValid S (nI p) = some (b2i (vB B p), S) := by
  have h12 := (hB.2.2 p hp).2.1.2
  have := iv_M hB hM hp (bE B p) 0 sc_FU (by omega) (by rw [sa_FU]; omega)
  rw [fn_X5_isValid, fn_X5_isValid_e, show (fn_X5_isValid_4 sc_FU S (nI p) 0 0) = some (b2i (vB B p), S) from this, sa_bz _ (b2i_01 _)]
theorem vp_X {B : bT} {S : sc_M} (hB : bOK B) (hX : bX B S) : ∀ (d x f : Nat), x + d = bP B → d < f → fn_X0_validPapers_4 f S (nI (sB (vB B) (bQ B) x)) (nI x) = some (nI (sB (vB B) (bQ B) (bP B)), S) := by
  have hp80 := hB.1.2.2
  intro d
  induction d with
  | zero =>
    intro x f hx hf
    obtain ⟨g, rfl⟩ : ∃ g, f = g + 1 := ⟨f - 1, by omega⟩
    obtain rfl : x = bP B := by omega
    rw [fn_X0_validPapers_4, hX.2.1, if_pos (nI_le (by omega) (by omega))]
  | succ d ih =>
    intro x f hx hf
    obtain ⟨g, rfl⟩ : ∃ g, f = g + 1 := ⟨f - 1, by omega⟩
    have ihk := ih (x + 1) g (by omega) (by omega)
    rw [fn_X0_validPapers_4, hX.2.1, if_neg (nI_ge (by omega) (by omega)), iv_Xr hB hX (show x < bP B by omega), sa_cl]
    rw [sB] at ihk
    cases hv : vB B x with
    | true =>
      rw [hv] at ihk
      rw [if_neg (by decide), sa_ck _ (by omega) (by omega), sa_sq, sa_cl9 (by omega), (hX.2.2.2.2 x (by omega)).1, nI_add, nI_1]
      exact ihk
    | false =>
      rw [hv] at ihk
      rw [if_pos (show b2i false = 0 from rfl), nI_1]
      exact ihk
theorem vp_Xr {B : bT} {S : sc_M} (hB : bOK B) (hX : bX B S) : fn_X0_validPapers S = some (nI (sB (vB B) (bQ B) (bP B)), S) := by
  have hp80 := hB.1.2.2
  have := vp_X hB hX (bP B) 0 sc_FU (by omega) (by rw [sa_FU]; omega)
  rw [fn_X0_validPapers]; exact this
theorem vp_M {B : bT} {S : sc_M} (hB : bOK B) (hX : bM B S) : ∀ (d x f : Nat), x + d = bP B → d < f → fn_X5_validPapers_4 f S (nI (sB (vB B) (bQ B) x)) (nI x) = some (nI (sB (vB B) (bQ B) (bP B)), S) := by
  have hp80 := hB.1.2.2
  intro d
  induction d with
  | zero =>
    intro x f hx hf
    obtain ⟨g, rfl⟩ : ∃ g, f = g + 1 := ⟨f - 1, by omega⟩
    obtain rfl : x = bP B := by omega
    rw [fn_X5_validPapers_4, hX.2.1, if_pos (nI_le (by omega) (by omega))]
  | succ d ih =>
    intro x f hx hf
    obtain ⟨g, rfl⟩ : ∃ g, f = g + 1 := ⟨f - 1, by omega⟩
    have ihk := ih (x + 1) g (by omega) (by omega)
    rw [fn_X5_validPapers_4, hX.2.1, if_neg (nI_ge (by omega) (by omega)), iv_Mr hB hX (show x < bP B by omega), sa_cl]
    rw [sB] at ihk
    cases hv : vB B x with
    | true =>
      rw [hv] at ihk
      rw [if_neg (by decide), sa_ck _ (by omega) (by omega), sa_sq, sa_cl9 (by omega), (hX.2.2.2.2 x (by omega)).1, nI_add, nI_1]
      exact ihk
    | false =>
      rw [hv] at ihk
      rw [if_pos (show b2i false = 0 from rfl), sa_sq, sa_l0, nI_add, nI_1]
      exact ihk
theorem vp_Mr {B : bT} {S : sc_M} (hB : bOK B) (hX : bM B S) : fn_X5_validPapers S = some (nI (sB (vB B) (bQ B) (bP B)), S) := by
  have hp80 := hB.1.2.2
  have := vp_M hB hX (bP B) 0 sc_FU (by omega) (by rw [sa_FU]; omega)
  rw [fn_X5_validPapers]; exact this
theorem so_told : sm_told sRel := by
  intro SX SM a hr
  obtain ⟨B, hB, hX, hM, hj⟩ := id hr
  obtain ⟨st, nc, el, np, ⟨h1, h2, h3, h4⟩, ⟨e1, e2, e3, e4, e5, e6, e7⟩, hm, ho, hs, hv⟩ := id hj
  have hwo := wo_M hB.1.2.1 hM.1 hM.2.2.1 (bN B) 0 sc_FU (by omega) (by have := hB.1.2.1; rw [sa_FU]; omega)
  refine ⟨if a = 0 then nI (bN B) else if a = 1 then nI (bP B) else if a = 2 then nI (sB (vB B) (bQ B) (bP B)) else if a = 3 then nI st else if a = 4 then nI el else if a = 5 then sc_gi SM 2 else if a = 6 then nI (cW (bW B) (bN B)) else -2, SX, SM, ?_, ?_, hr⟩
  · rw [fn_X4_told, vp_Xr hB hX, wo_Xr hB hX, hX.1, hX.2.1, e1, e5, e7]
    simp only [sa_cl, sa_its]
  · rw [fn_X5_told, vp_Mr hB hM, show fn_X5_told_78 sc_FU SM 0 0 = some (nI (cW (bW B) (bN B)), SM) from hwo, hM.1, hM.2.1, e2, e6]
    simp only [sa_cl, sa_its]
theorem ip_X {S : sc_M} {x : Int32} : fn_X4_isPapers S x = fn_X5_in S x 1 500 := rfl
theorem so_change : sm_change sRel := by
  intro SX SM a b hr
  obtain ⟨B, hB, hX, hM, hj⟩ := id hr
  have hp80 := hB.1.2.2
  have hn : bP B < 100000 := by omega
  rcases sa_rg a hn with ha | ⟨p, hp, rfl⟩
  · refine ⟨-1, SX, SM, ?_, ?_, hr⟩
    · rw [fn_X4_change, xp_out hX.2.1 ha]; rfl
    · rw [fn_X5_change, hM.2.1, pr_out hn ha]; rfl
  · by_cases h : b < 1 ∨ 500 < b
    · refine ⟨-2, SX, SM, ?_, ?_, hr⟩
      · rw [fn_X4_change, xp_in hn hX.2.1 hp, sa_cl, if_neg (by decide), ip_X, pi_out h, sa_cl, if_pos rfl]
      · rw [fn_X5_change, hM.2.1, pr_in hn hp, sa_cl, if_neg (by decide), pi_out h, sa_cl, if_pos rfl]
    · have hb1 : 1 ≤ b := Int32.not_lt.mp (fun q => h (Or.inl q))
      have hb2 : b ≤ 500 := Int32.not_lt.mp (fun q => h (Or.inr q))
      obtain ⟨v, hv, rfl⟩ := nI_of2 (n := 500) (M := 500) rfl (fun q => h (Or.inl (Int32.lt_of_lt_of_le q (by decide)))) hb2
      have hv1 : 1 ≤ v := by
        rcases Nat.eq_zero_or_pos v with rfl | q
        · exact absurd hb1 (by decide)
        · exact q
      obtain ⟨x1, x2, x3, x4⟩ := hX.2.2.2.2 p hp
      obtain ⟨m1, m2, m3⟩ := hM.2.2.2.2 p hp
      refine ⟨nI (bQ B p), sc_mA SX 6 (upd (sc_ga SX 6) p (nI v)), sc_mA SM 3 (upd (sc_ga SM 3) p (nI v)), ?_, ?_, (bN B, bP B, bW B, bL B, fun k => if k = p then v else bQ B k, bE B, bF B), ?_, ?_, ?_, ?_⟩
      · rw [fn_X4_change, xp_in hn hX.2.1 hp, sa_cl, if_neg (by decide), ip_X, pi_in hb1 hb2, sa_cl, if_neg (by decide), sa_ck _ (by omega) (by omega), sa_sq, sa_ck _ (by omega) (by omega), sa_sq, sa_cl9 (by omega), x1]
      · rw [fn_X5_change, hM.2.1, pr_in hn hp, sa_cl, if_neg (by decide), pi_in hb1 hb2, sa_cl, if_neg (by decide), sa_ck _ (by omega) (by omega), sa_sq, sa_ck _ (by omega) (by omega), sa_sq, sa_cl9 (by omega), m1]
      · refine ⟨hB.1, hB.2.1, fun k hk => ?_⟩
        obtain ⟨g1, g2, g3, g4⟩ := hB.2.2 k hk
        refine ⟨?_, g2, g3, g4⟩
        show 1 ≤ (if k = p then v else bQ B k) ∧ (if k = p then v else bQ B k) ≤ 500
        split
        · exact ⟨hv1, hv⟩
        · exact g1
      · refine ⟨hX.1, hX.2.1, ?_, ?_, fun k hk => ?_⟩
        · rw [sa_ga_n _ _ _ _ (by decide)]; exact hX.2.2.1
        · rw [sa_ga_n _ _ _ _ (by decide)]; exact hX.2.2.2.1
        · obtain ⟨y1, y2⟩ := hX.2.2.2.2 k hk
          rw [sa_ga_s, sa_ga_n _ _ _ _ (by decide), sa_ga_n _ _ _ _ (by decide), sa_ga_n _ _ _ _ (by decide)]
          refine ⟨?_, y2⟩
          show upd (sc_ga SX 6) p (nI v) k = nI (if k = p then v else bQ B k)
          by_cases hkp : k = p
          · rw [hkp, sa_us, if_pos rfl]
          · rw [sa_un _ _ _ _ hkp, if_neg hkp]; exact y1
      · refine ⟨hM.1, hM.2.1, ?_, ?_, fun k hk => ?_⟩
        · rw [sa_ga_n _ _ _ _ (by decide)]; exact hM.2.2.1
        · rw [sa_ga_n _ _ _ _ (by decide)]; exact hM.2.2.2.1
        · obtain ⟨y1, y2⟩ := hM.2.2.2.2 k hk
          rw [sa_ga_s, sa_ga_n _ _ _ _ (by decide), sa_ga_n _ _ _ _ (by decide)]
          refine ⟨?_, y2⟩
          show upd (sc_ga SM 3) p (nI v) k = nI (if k = p then v else bQ B k)
          by_cases hkp : k = p
          · rw [hkp, sa_us, if_pos rfl]
          · rw [sa_un _ _ _ _ hkp, if_neg hkp]; exact y1
      · exact jR_frame (SX := SX) (SM := SM) (fun _ _ => rfl) (fun k hk => sa_ga_n SX 6 _ k (by omega)) (fun _ => rfl) (fun _ _ => rfl) (fun k h1 h2 => sa_ga_n SM 3 _ k (by omega)) (fun _ => rfl) hj
theorem so_about : sm_about sRel := by
  intro SX SM a w hr
  obtain ⟨B, hB, hX, hM, hj⟩ := id hr
  have hp80 := hB.1.2.2
  have hn12 := hB.1.2.1
  have hn : bP B < 100000 := by omega
  rcases sa_rg a hn with ha | ⟨p, hp, rfl⟩
  · refine ⟨-1, SX, SM, ?_, ?_, hr⟩
    · rw [fn_X4_about, xp_out hX.2.1 ha]; rfl
    · rw [fn_X5_about, hM.2.1, pr_out hn ha]; rfl
  · obtain ⟨x1, x2, x3, x4⟩ := hX.2.2.2.2 p hp
    obtain ⟨m1, m2, m3⟩ := hM.2.2.2.2 p hp
    obtain ⟨_, ⟨l1, l2⟩, hf, _⟩ := hB.2.2 p hp
    by_cases h : w < 10 ∨ 21 < w
    · have hX38 : fn_X4_about SX (nI p) w = fn_X4_about_38 SX (nI p) w := by
        rw [fn_X4_about, xp_in hn hX.2.1 hp, sa_cl, if_neg (by decide)]
        by_cases h1 : w < 10
        · rw [if_pos h1]
        · rw [if_neg h1, if_pos]
          have h2 := h.resolve_left h1
          rw [Int32.lt_iff_toInt_lt] at h2
          rw [Int32.le_iff_toInt_le]
          have a1 : (21 : Int32).toInt = 21 := rfl
          have a2 : (22 : Int32).toInt = 22 := rfl
          omega
      rw [hX38]
      refine ⟨if w = 0 then nI (bQ B p) else if w = 1 then nI (bE B p) else if w = 2 then b2i (vB B p) else -2, SX, SM, ?_, ?_, hr⟩
      · rw [fn_X4_about_38, sa_ck _ (by omega) (by omega), sa_ck _ (by omega) (by omega), sa_cl9 (by omega), x1, x2, iv_Xr hB hX hp, sa_cl]
        cases vB B p <;> simp only [b2i, if_true, if_false, Bool.false_eq_true, sa_its] <;> rfl
      · rw [fn_X5_about, hM.2.1, pr_in hn hp, sa_cl, if_neg (by decide)]
        by_cases w2 : w = 2
        · subst w2
          rw [if_pos rfl, iv_Mr hB hM hp, sa_cl]
          cases vB B p <;> rfl
        · rw [if_neg w2, pi_out h, sa_cl, if_pos rfl, sa_ck _ (by omega) (by omega), sa_ck _ (by omega) (by omega), sa_cl9 (by omega), m1, m2, if_neg w2, sa_its, sa_its]
    · have hw1 : 10 ≤ w := Int32.not_lt.mp (fun q => h (Or.inl q))
      have hw2 : w ≤ 21 := Int32.not_lt.mp (fun q => h (Or.inr q))
      obtain ⟨k, hk, rfl⟩ := nI_of2 (n := 21) (M := 21) rfl (fun q => h (Or.inl (Int32.lt_trans q (by decide)))) hw2
      have hk10 : 10 ≤ k := by
        rw [sa_l10, nI_leI (by omega) (by omega)] at hw1; exact hw1
      have e10 : nI k - 10 = nI (k - 10) := by rw [sa_l10, pk_sub hk10]
      have hn22 : ¬ (22 : Int32) ≤ nI k := by
        rw [show (22 : Int32) = nI 22 from rfl, nI_leI (by omega) (by omega)]; omega
      have hne2 : ¬ nI k = 2 := by
        rw [show (2 : Int32) = nI 2 from rfl, nI_eq (by omega) (by omega)]; omega
      have e12 : (12 : Int32) * nI p + nI k - 10 = nI (12 * p + (k - 10)) := by
        rw [sa_12m, sa_l10, pk_sub (by omega)]
        congr 1
        omega
      by_cases hl : bE B p ≤ k - 10
      · refine ⟨-9, SX, SM, ?_, ?_, hr⟩
        · rw [fn_X4_about, xp_in hn hX.2.1 hp, sa_cl, if_neg (by decide), if_neg (Int32.not_lt.mpr hw1), if_neg hn22, e10, fn_X0_preferenceAt, sa_ck _ (by omega) (by omega), sa_cl9 (by omega), x2, if_pos (nI_le hl (by omega)), sa_cl]
        · rw [fn_X5_about, hM.2.1, pr_in hn hp, sa_cl, if_neg (by decide), if_neg hne2, pi_in hw1 hw2, sa_cl, if_neg (by decide), sa_ck _ (by omega) (by omega), sa_cl9 (by omega), m2, e10, if_pos (nI_le hl (by omega))]
      · refine ⟨nI (bF B p (k - 10)), SX, SM, ?_, ?_, hr⟩
        · rw [fn_X4_about, xp_in hn hX.2.1 hp, sa_cl, if_neg (by decide), if_neg (Int32.not_lt.mpr hw1), if_neg hn22, e10, fn_X0_preferenceAt, sa_ck _ (by omega) (by omega), sa_cl9 (show p < 100000 by omega), x2, if_neg (nI_ge (by omega) (by omega)), sa_12x, sa_ck _ (by omega) (by omega), sa_cl9 (by omega), x3 _ (by omega), sa_cl]
        · rw [fn_X5_about, hM.2.1, pr_in hn hp, sa_cl, if_neg (by decide), if_neg hne2, pi_in hw1 hw2, sa_cl, if_neg (by decide), sa_ck _ (by omega) (by omega), sa_cl9 (show p < 100000 by omega), m2, e10, if_neg (nI_ge (by omega) (by omega)), e12, sa_ck _ (by omega) (by omega), sa_cl9 (by omega), m3 _ (by omega)]
