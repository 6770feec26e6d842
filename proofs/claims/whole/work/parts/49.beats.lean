/-! ===== masks and their bits counted ===== -/
def mkF (P : Nat → Bool) : Nat → Int32
  | 0 => 0
  | k + 1 => if P k then mkF P k ||| oB k else mkF P k
def tF (P : Nat → Bool) : Nat → Nat
  | 0 => 0
  | k + 1 => tF P k + if P k then 2 ^ k else 0
def cnP (P : Nat → Bool) : Nat → Nat
  | 0 => 0
  | k + 1 => cnP P k + if P k then 1 else 0
def pcF (t : Nat) : Nat → Nat
  | 0 => 0
  | k + 1 => pcF t k + t / 2 ^ k % 2
def bcE (x0 : Int32) : Int32 :=
  let y9 := x0 - ((x0.toUInt32 >>> ((1 : Int32).toUInt32 &&& Int32.toUInt32 31)).toInt32 &&& (1431655765 : Int32))
  let y23 := (y9 &&& (858993459 : Int32)) + ((y9.toUInt32 >>> ((2 : Int32).toUInt32 &&& Int32.toUInt32 31)).toInt32 &&& (858993459 : Int32))
  let y33 := (y23 + (y23.toUInt32 >>> ((4 : Int32).toUInt32 &&& Int32.toUInt32 31)).toInt32) &&& (252645135 : Int32)
  let y40 := y33 + (y33.toUInt32 >>> ((8 : Int32).toUInt32 &&& Int32.toUInt32 31)).toInt32
  let y47 := y40 + (y40.toUInt32 >>> ((16 : Int32).toUInt32 &&& Int32.toUInt32 31)).toInt32
  y47 &&& (63 : Int32)
theorem bc_fn (S : sc_M) (x : Int32) : fn_J6_bitCount_0f7a4 S x = some (bcE x, S) := rfl
theorem bc_all : ∀ a, a < 64 → ∀ b, b < 64 → bcE (nI (64 * a + b)) = nI (pcF (64 * a + b) 12) := by decide +kernel
theorem bc_t {t : Nat} (h : t < 4096) : bcE (nI t) = nI (pcF t 12) := by
  have := bc_all (t / 64) (by omega) (t % 64) (by omega)
  rw [show 64 * (t / 64) + t % 64 = t by omega] at this
  exact this
theorem tF_lt (P : Nat → Bool) : ∀ n, tF P n < 2 ^ n := by
  intro n
  induction n with
  | zero => exact Nat.lt_succ_self 0
  | succ n ih => simp only [tF, Nat.pow_succ]; split <;> omega
theorem tF_bit (P : Nat → Bool) : ∀ n k, k < n → tF P n / 2 ^ k % 2 = if P k then 1 else 0 := by
  intro n
  induction n with
  | zero => intro k h; omega
  | succ n ih =>
    intro k hk
    by_cases h : k = n
    · subst h
      have h1 := tF_lt P k
      have h2 : 0 < 2 ^ k := Nat.two_pow_pos k
      simp only [tF]
      split
      · rw [Nat.add_div_right _ h2, Nat.div_eq_of_lt h1]
      · rw [Nat.add_zero, Nat.div_eq_of_lt h1]
    · have hk2 : k < n := by omega
      rw [← ih k hk2]
      simp only [tF]
      split
      · obtain ⟨j, rfl⟩ : ∃ j, n = k + 1 + j := ⟨n - (k + 1), by omega⟩
        have e : 2 ^ (k + 1 + j) = 2 ^ k * (2 * 2 ^ j) := by rw [Nat.pow_add, Nat.pow_succ, Nat.mul_assoc]
        rw [e, Nat.add_mul_div_left _ _ (Nat.two_pow_pos k), Nat.add_mul_mod_self_left]
      · rw [Nat.add_zero]
theorem tF_up (P : Nat → Bool) (n : Nat) : ∀ k, n ≤ k → tF P n / 2 ^ k % 2 = 0 := fun k hk => by
  have h1 := tF_lt P n
  have h2 : 2 ^ n ≤ 2 ^ k := Nat.pow_le_pow_right (by decide) hk
  rw [Nat.div_eq_of_lt (by omega)]
theorem pcF_tF (P : Nat → Bool) (n : Nat) : ∀ m, m ≤ n → pcF (tF P n) m = cnP P m := by
  intro m
  induction m with
  | zero => intro _; rfl
  | succ m ih => intro h; simp only [pcF, cnP]; rw [ih (by omega), tF_bit P n m (by omega)]
theorem pcF_12 (P : Nat → Bool) (n : Nat) : ∀ d, pcF (tF P n) (n + d) = cnP P n := by
  intro d
  induction d with
  | zero => exact pcF_tF P n n (Nat.le_refl _)
  | succ d ih => rw [← Nat.add_assoc, pcF, ih, tF_up P n _ (by omega), Nat.add_zero]
theorem nI_or (a b : Nat) : nI a ||| nI b = nI (a ||| b) := by
  apply Int32.toBitVec_inj.mp
  show BitVec.ofNat 32 a ||| BitVec.ofNat 32 b = BitVec.ofNat 32 (a ||| b)
  exact BitVec.ofNat_or.symm
theorem oB_pow : ∀ k, k < 16 → oB k = nI (2 ^ k) := by decide
theorem mkF_t (P : Nat → Bool) : ∀ n, n ≤ 12 → mkF P n = nI (tF P n) := by
  intro n
  induction n with
  | zero => intro _; rfl
  | succ n ih =>
    intro h
    simp only [mkF, tF]
    split
    · rw [ih (by omega), oB_pow n (by omega), nI_or]
      congr 1
      have h1 := tF_lt P n
      have := Nat.two_pow_add_eq_or_of_lt h1 1
      rw [Nat.mul_one] at this
      rw [Nat.or_comm, ← this, Nat.add_comm]
    · rw [ih (by omega), Nat.add_zero]
theorem bc_mk (P : Nat → Bool) {n : Nat} (h : n ≤ 12) : bcE (mkF P n) = nI (cnP P n) := by
  have h1 := tF_lt P n
  have h2 : 2 ^ n ≤ 2 ^ 12 := Nat.pow_le_pow_right (by decide) h
  have h3 := pcF_12 P n (12 - n)
  rw [show n + (12 - n) = 12 by omega] at h3
  rw [mkF_t P n h, bc_t (by omega), h3]
/-! ===== who beats whom ===== -/
def btB (B : bT) (a b : Nat) : Bool := decide (b ≠ a) && (decide (bW B b = 0) && decide (pB B b a < pB B a b))
theorem bb_X {B : bT} {S : sc_M} (hB : bOK B) (hX : bX B S) {c : Nat} (hc : c < bN B) : ∀ (d x f : Nat), x + d = bN B → d < f → fn_X0_beatenBy_4 f S (nI c) (mkF (btB B c) x) (nI x) = some (mkF (btB B c) (bN B), S) := by
  have hn12 := hB.1.2.1
  intro d
  induction d with
  | zero =>
    intro x f hx hf
    obtain ⟨g, rfl⟩ : ∃ g, f = g + 1 := ⟨f - 1, by omega⟩
    obtain rfl : x = bN B := by omega
    rw [fn_X0_beatenBy_4, hX.1, if_pos (nI_le (by omega) (by omega))]
  | succ d ih =>
    intro x f hx hf
    obtain ⟨g, rfl⟩ : ∃ g, f = g + 1 := ⟨f - 1, by omega⟩
    have ihk := ih (x + 1) g (by omega) (by omega)
    have l1 := pB_le hB c x
    have l2 := pB_le hB x c
    rw [fn_X0_beatenBy_4, hX.1, if_neg (nI_ge (by omega) (by omega)), sa_ck _ (by omega) (by omega), sa_cl9 (by omega), hX.2.2.1 x (by omega), pf_Xr hB hX (by omega) (by omega), sa_cl, pf_Xr hB hX (by omega) (by omega), sa_cl, sa_sq, nI_1]
    simp only [mkF] at ihk
    by_cases h : x = c
    · rw [if_pos (by rw [h])]
      have hb : btB B c x = false := by simp [btB, h]
      rw [hb, if_neg (by decide)] at ihk
      exact ihk
    · rw [if_neg (by rw [nI_eq (by omega) (by omega)]; exact h)]
      by_cases hw : bW B x = 0
      · rw [if_pos hw]
        by_cases hp : pB B x c < pB B c x
        · rw [if_neg (nI_ge hp (by omega))]
          have hb : btB B c x = true := by simp [btB, h, hw, hp]
          rw [hb, if_pos rfl] at ihk
          exact ihk
        · rw [if_pos (nI_le (by omega) (by omega))]
          have hb : btB B c x = false := by simp [btB, hp]
          rw [hb, if_neg (by decide)] at ihk
          exact ihk
      · rw [if_neg hw]
        have hb : btB B c x = false := by simp [btB, hw]
        rw [hb, if_neg (by decide)] at ihk
        exact ihk
theorem bb_Xr {B : bT} {S : sc_M} (hB : bOK B) (hX : bX B S) {c : Nat} (hc : c < bN B) : fn_X0_beatenBy S (nI c) = some (mkF (btB B c) (bN B), S) := by
  have hn12 := hB.1.2.1
  have := bb_X hB hX hc (bN B) 0 sc_FU (by omega) (by rw [sa_FU]; omega)
  rw [fn_X0_beatenBy]; exact this
theorem bt_M {B : bT} {S : sc_M} (hB : bOK B) (hM : bM B S) {a b : Nat} (ha : a < bN B) (hb : b < bN B) : fn_X5_beats S (nI a) (nI b) = some (b2i (decide (bW B a = 0) && btB B a b), S) := by
  have hn12 := hB.1.2.1
  have l1 := pB_le hB a b
  have l2 := pB_le hB b a
  have key : fn_X5_beats_e S (nI a) (nI b) = some (b2i (decide (bW B a = 0) && btB B a b), S) := by
    rw [fn_X5_beats_e, sa_ck _ (by omega) (by omega), sa_ck _ (by omega) (by omega), sa_cl9 (by omega), sa_cl9 (by omega), hM.2.2.1 a (by omega), hM.2.2.1 b (by omega), pf_Mr hB hM (by omega) (by omega), sa_cl, pf_Mr hB hM (by omega) (by omega), sa_cl]
    by_cases h : a = b
    · rw [if_pos (by rw [h])]
      have : btB B a b = false := by simp [btB, h]
      rw [this, Bool.and_false]; rfl
    · rw [if_neg (by rw [nI_eq (by omega) (by omega)]; exact h)]
      have hne : b ≠ a := fun q => h q.symm
      by_cases hwa : bW B a = 0
      · rw [if_pos hwa]
        by_cases hwb : bW B b = 0
        · rw [if_pos hwb]
          by_cases hp : pB B b a < pB B a b
          · rw [if_neg (nI_ge hp (by omega))]
            have : btB B a b = true := by simp [btB, hne, hwb, hp]
            rw [this, hwa]; rfl
          · rw [if_pos (nI_le (by omega) (by omega))]
            have : btB B a b = false := by simp [btB, hp]
            rw [this, Bool.and_false]; rfl
        · rw [if_neg hwb]
          have : btB B a b = false := by simp [btB, hwb]
          rw [this, Bool.and_false]; rfl
      · rw [if_neg hwa]
        have : decide (bW B a = 0) = false := by simp [hwa]
        rw [this, Bool.false_and]; rfl
  rw [fn_X5_beats, key, sa_bz _ (b2i_01 _)]
