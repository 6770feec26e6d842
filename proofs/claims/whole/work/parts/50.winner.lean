/-! ===== winner ===== -/
def okF (P Q : Nat → Bool) : Nat → Bool
  | 0 => true
  | k + 1 => okF P Q k && (!Q k || P k)
def qB (B : bT) (c b : Nat) : Bool := decide (b ≠ c) && decide (bW B b = 0)
theorem okF_mono (P Q : Nat → Bool) : ∀ d k, okF P Q k = false → okF P Q (k + d) = false := by
  intro d
  induction d with
  | zero => intro k h; exact h
  | succ d ih => intro k h; rw [← Nat.add_assoc, okF, ih k h]; rfl
theorem cn_ok (P Q : Nat → Bool) (h : ∀ b, P b = true → Q b = true) : ∀ k, cnP P k ≤ cnP Q k ∧ (cnP P k = cnP Q k ↔ okF P Q k = true) := by
  intro k
  induction k with
  | zero => exact ⟨Nat.le_refl _, ⟨fun _ => rfl, fun _ => rfl⟩⟩
  | succ k ih =>
    obtain ⟨i1, i2⟩ := ih
    have hk := h k
    simp only [cnP, okF]
    cases hp : P k with
    | true =>
      rw [hk hp]
      simp only [if_true, Bool.not_true, Bool.or_true, Bool.and_true]
      refine ⟨by omega, ?_⟩
      rw [← i2]; omega
    | false =>
      cases hq : Q k with
      | true =>
        simp only [if_true, Bool.false_eq_true, if_false, Bool.not_true, Bool.or_false, Bool.and_false, iff_false]
        omega
      | false =>
        simp only [Bool.false_eq_true, if_false, Bool.not_false, Bool.or_false, Bool.and_true]
        refine ⟨by omega, ?_⟩
        rw [← i2]; omega
theorem cn_q {B : bT} {c : Nat} (hw : bW B c = 0) : ∀ k, cnP (qB B c) k + (if c < k then 1 else 0) + cW (bW B) k = k := by
  intro k
  induction k with
  | zero => simp [cnP, cW]
  | succ k ih =>
    simp only [cnP, cW]
    by_cases hk : k = c
    · subst hk
      have : qB B k k = false := by simp [qB]
      rw [this, if_pos hw, if_pos (show k < k + 1 by omega)]
      rw [if_neg (show ¬ k < k by omega)] at ih
      simp only [Bool.false_eq_true, if_false]
      omega
    · have e : (if c < k + 1 then 1 else 0) = (if c < k then 1 else 0) := by
        by_cases h1 : c < k
        · rw [if_pos h1, if_pos (by omega)]
        · rw [if_neg h1, if_neg (by omega)]
      rw [e]
      by_cases hwk : bW B k = 0
      · have : qB B c k = true := by simp [qB, hk, hwk]
        rw [this, if_pos hwk]
        simp only [if_true]
        omega
      · have : qB B c k = false := by simp [qB, hwk]
        rw [this, if_neg hwk]
        simp only [Bool.false_eq_true, if_false]
        omega
theorem bt_q (B : bT) (c b : Nat) (h : btB B c b = true) : qB B c b = true := by
  simp only [btB, Bool.and_eq_true] at h
  simp only [qB, Bool.and_eq_true]
  exact ⟨h.1, h.2.1⟩
theorem wn_M {B : bT} {S : sc_M} (hB : bOK B) (hM : bM B S) {a : Nat} (ha : a < bN B) (hw : bW B a = 0) (k2 : sc_M → Int32 → Option (Int32 × sc_M)) : ∀ (d b f : Nat), b + d = bN B → d < f → fn_X5_winner_27 k2 f S (nI a) (b2i (okF (btB B a) (qB B a) b)) (nI b) = fn_X5_winner_74 k2 S (nI a) (b2i (okF (btB B a) (qB B a) (bN B))) := by
  have hn12 := hB.1.2.1
  intro d
  induction d with
  | zero =>
    intro b f hb hf
    obtain ⟨g, rfl⟩ : ∃ g, f = g + 1 := ⟨f - 1, by omega⟩
    obtain rfl : b = bN B := by omega
    rw [fn_X5_winner_27, hM.1, if_pos (nI_le (by omega) (by omega))]
  | succ d ih =>
    intro b f hb hf
    obtain ⟨g, rfl⟩ : ∃ g, f = g + 1 := ⟨f - 1, by omega⟩
    have ihk := ih (b + 1) g (by omega) (by omega)
    rw [fn_X5_winner_27, hM.1, if_neg (nI_ge (by omega) (by omega))]
    cases hok : okF (btB B a) (qB B a) b with
    | false =>
      have := okF_mono (btB B a) (qB B a) (d + 1) b hok
      rw [show b + (d + 1) = bN B by omega] at this
      rw [if_pos (show b2i false = 0 from rfl), this]
    | true =>
      rw [if_neg (show ¬ b2i true = 0 by decide), sa_ck _ (by omega) (by omega), sa_cl9 (by omega), hM.2.2.1 b (by omega), bt_M hB hM ha (by omega), sa_cl, nI_1]
      rw [okF, hok, Bool.true_and] at ihk
      by_cases h : a = b
      · rw [if_pos (by rw [h])]
        have : qB B a b = false := by simp [qB, h]
        rw [this] at ihk
        exact ihk
      · rw [if_neg (by rw [nI_eq (by omega) (by omega)]; exact h)]
        by_cases hwb : bW B b = 0
        · rw [if_pos hwb]
          have hq : qB B a b = true := by simp [qB, hwb]; exact fun q => h q.symm
          rw [hq, Bool.not_true, Bool.false_or] at ihk
          have hda : decide (bW B a = 0) = true := by simp [hw]
          rw [hda, Bool.true_and]
          cases hbt : btB B a b with
          | true => rw [hbt] at ihk; rw [if_neg (show ¬ b2i true = 0 by decide)]; exact ihk
          | false => rw [hbt] at ihk; rw [if_pos (show b2i false = 0 from rfl)]; exact ihk
        · rw [if_neg hwb]
          have : qB B a b = false := by simp [qB, hwb]
          rw [this] at ihk
          exact ihk
theorem wn_both {B : bT} {SX SM : sc_M} (hB : bOK B) (hX : bX B SX) (hM : bM B SM) : ∀ (d a f g : Nat), a + d = bN B → d < f → d < g → ∃ r, fn_X4_winner_18 f SX (nI (bN B - cW (bW B) (bN B))) (nI a) = some (r, SX) ∧ fn_X5_winner_2 g SM (nI a) = some (r, SM) := by
  have hn12 := hB.1.2.1
  have hn1 := hB.1.1
  intro d
  induction d with
  | zero =>
    intro a f g ha hf hg
    obtain ⟨f, rfl⟩ : ∃ f', f = f' + 1 := ⟨f - 1, by omega⟩
    obtain ⟨g, rfl⟩ : ∃ g', g = g' + 1 := ⟨g - 1, by omega⟩
    refine ⟨-9, ?_, ?_⟩
    · rw [fn_X4_winner_18, hX.1, if_pos (nI_le (by omega) (by omega))]
    · rw [fn_X5_winner_2, hM.1, if_pos (nI_le (by omega) (by omega))]
  | succ d ih =>
    intro a f g ha hf hg
    obtain ⟨f, rfl⟩ : ∃ f', f = f' + 1 := ⟨f - 1, by omega⟩
    obtain ⟨g, rfl⟩ : ∃ g', g = g' + 1 := ⟨g - 1, by omega⟩
    have ihk := ih (a + 1) f g (by omega) (by omega) (by omega)
    have hac : a < bN B := by omega
    rw [fn_X4_winner_18, hX.1, if_neg (nI_ge (by omega) (by omega)), sa_ck _ (by omega) (by omega), sa_cl9 (by omega), hX.2.2.1 a (by omega), fn_X5_winner_2, hM.1, if_neg (nI_ge (by omega) (by omega)), sa_ck _ (by omega) (by omega), sa_cl9 (by omega), hM.2.2.1 a (by omega), nI_1]
    by_cases hw : bW B a = 0
    · rw [if_pos hw, if_pos hw, bb_Xr hB hX hac, sa_cl, bc_fn, sa_cl, bc_mk _ hn12]
      have hin := wn_M hB hM hac hw (fn_X5_winner_2 g) (bN B) 0 sc_FU (by omega) (by rw [sa_FU]; omega)
      have hin2 : fn_X5_winner_27 (fn_X5_winner_2 g) sc_FU SM (nI a) 1 0 = fn_X5_winner_74 (fn_X5_winner_2 g) SM (nI a) (b2i (okF (btB B a) (qB B a) (bN B))) := hin
      rw [hin2, fn_X5_winner_74, nI_1]
      have hq := cn_q hw (bN B)
      rw [if_pos hac] at hq
      obtain ⟨c1, c2⟩ := cn_ok (btB B a) (qB B a) (bt_q B a) (bN B)
      have hcw := cW_le (bW B) (bN B)
      rw [sa_m1 (by omega)]
      cases hok : okF (btB B a) (qB B a) (bN B) with
      | true =>
        have := c2.mpr hok
        rw [if_pos (by rw [nI_eq (by omega) (by omega)]; omega), if_neg (show ¬ b2i true = 0 by decide)]
        exact ⟨_, rfl, rfl⟩
      | false =>
        have hne : cnP (btB B a) (bN B) ≠ cnP (qB B a) (bN B) := fun q => by rw [c2.mp q] at hok; cases hok
        rw [if_neg (by rw [nI_eq (by omega) (by omega)]; omega), if_pos (show b2i false = 0 from rfl)]
        exact ihk
    · rw [if_neg hw, if_neg hw]
      obtain ⟨h, eh⟩ : ∃ h, sc_FU = h + 1 := ⟨99, rfl⟩
      rw [eh, fn_X5_winner_27, hM.1, if_neg (show ¬ nI (bN B) ≤ 0 from nI_nle (by omega) (by omega)), if_pos rfl, fn_X5_winner_74, if_pos rfl, nI_1]
      exact ihk
theorem so_winner : sm_winner sRel := by
  intro SX SM hr
  obtain ⟨B, hB, hX, hM, hj⟩ := id hr
  have hn12 := hB.1.2.1
  obtain ⟨r, h1, h2⟩ := wn_both hB hX hM (bN B) 0 sc_FU sc_FU (by omega) (by rw [sa_FU]; omega) (by rw [sa_FU]; omega)
  refine ⟨r, SX, SM, ?_, ?_, hr⟩
  · rw [fn_X4_winner, wo_Xr hB hX, sa_cl, sa_sq, hX.1, pk_sub (cW_le _ _)]; exact h1
  · rw [fn_X5_winner]; exact h2
