/-! ===== reading preferences ===== -/
def fr6 (S S' : sc_M) : Prop := (∀ k, sc_gi S' k = sc_gi S k) ∧ (∀ k, k ≠ 6 → sc_ga S' k = sc_ga S k) ∧ ∀ k, sc_gb S' k = sc_gb S k
theorem fr6_rf (S : sc_M) : fr6 S S := ⟨fun _ => rfl, fun _ _ => rfl, fun _ => rfl⟩
theorem fr6_st (S : sc_M) (f : Nat → Int32) : fr6 S (sc_mA S 6 f) := ⟨fun _ => rfl, fun k hk => sa_ga_n _ _ _ _ hk, fun _ => rfl⟩
theorem fr6_tr {S S1 S2 : sc_M} (h : fr6 S S1) (h2 : fr6 S1 S2) : fr6 S S2 := ⟨fun k => (h2.1 k).trans (h.1 k), fun k hk => (h2.2.1 k hk).trans (h.2.1 k hk), fun k => (h2.2.2 k).trans (h.2.2 k)⟩
def ndF (f : Nat → Nat) (v : Nat) : Nat → Bool
  | 0 => true
  | i + 1 => ndF f v i && decide (f i ≠ v)
theorem ndF_iff (f : Nat → Nat) (v : Nat) : ∀ n, ndF f v n = true ↔ ∀ j, j < n → f j ≠ v := by
  intro n
  induction n with
  | zero => exact ⟨fun _ j h => absurd h (Nat.not_lt_zero j), fun _ => rfl⟩
  | succ n ih =>
    simp only [ndF, Bool.and_eq_true, ih, decide_eq_true_eq]
    constructor
    · rintro ⟨h1, h2⟩ j hj
      by_cases h : j = n
      · rw [h]; exact h2
      · exact h1 j (by omega)
    · intro h
      exact ⟨fun j hj => h j (by omega), h n (by omega)⟩
theorem rd_in {S : sc_M} {x : Int64} {m v k : Nat} {e : Int32} (hm : m < 16) (hv : 1 ≤ v ∧ v < 16) (c : Bool) (f : Nat → Nat) (hf : c = true → ∀ j, j < m → 1 ≤ f j ∧ f j < 16 ∧ sc_ga S 6 j = nI (f j - 1)) (k11 : sc_M → Int64 → Int32 → Int32 → Int32 → Int32 → Option (Int32 × sc_M)) : ∀ (d i g : Nat), i + d = m → d < g → fn_X5_read_71 k11 g S x (nI m) (b2i (c && ndF f v i)) e (nI k) (nI v) (nI i) = k11 (sc_mA S 6 (upd (sc_ga S 6) m (nI (v - 1)))) x (nI (m + 1)) (b2i (c && ndF f v m)) e (nI (k + 1)) := by
  intro d
  induction d with
  | zero =>
    intro i g hi hg
    obtain ⟨g, rfl⟩ : ∃ g', g = g' + 1 := ⟨g - 1, by omega⟩
    obtain rfl : i = m := by omega
    rw [fn_X5_read_71, if_pos (nI_le (by omega) (by omega)), sa_ck _ (by omega) (by omega), sa_sq, sa_cl9 (by omega), sa_m1 (by omega), nI_1, nI_1]
  | succ d ih =>
    intro i g hi hg
    obtain ⟨g, rfl⟩ : ∃ g', g = g' + 1 := ⟨g - 1, by omega⟩
    have ihk := ih (i + 1) g (by omega) (by omega)
    rw [fn_X5_read_71, if_neg (nI_ge (by omega) (by omega)), sa_ck _ (by omega) (by omega), sa_cl9 (by omega), nI_1, sa_m1 (by omega)]
    rw [ndF] at ihk
    cases hc : (c && ndF f v i) with
    | false =>
      rw [if_pos (show b2i false = 0 from rfl)]
      rw [← Bool.and_assoc, hc, Bool.false_and] at ihk
      exact ihk
    | true =>
      rw [if_neg (show ¬ b2i true = 0 by decide)]
      rw [← Bool.and_assoc, hc, Bool.true_and] at ihk
      have hct : c = true := by cases c <;> simp_all
      obtain ⟨f1, f2, f3⟩ := hf hct i (by omega)
      rw [f3]
      by_cases he : f i = v
      · rw [if_pos (by rw [he])]
        simp only [ne_eq, he, not_true, decide_false] at ihk
        exact ihk
      · rw [if_neg (by rw [nI_eq (by omega) (by omega)]; omega)]
        simp only [ne_eq, he, not_false_eq_true, decide_true] at ihk
        exact ihk
theorem rd_bad (x : Int64) {n : Nat} (hn : n ≤ 12) : ∀ (d k m g : Nat) (S : sc_M) (e : Int32), k + d = 16 → m ≤ k → d < g → sc_gi S 0 = nI n → ∃ S', fn_X5_read_11 g S x (nI m) 0 e (nI k) = some (0, S') ∧ fr6 S S' := by
  intro d
  induction d with
  | zero =>
    intro k m g S e hk hm hg h0
    obtain ⟨g, rfl⟩ : ∃ g', g = g' + 1 := ⟨g - 1, by omega⟩
    refine ⟨S, ?_, fr6_rf S⟩
    rw [fn_X5_read_11, sa_l16, if_pos (nI_le (by omega) (by omega)), if_pos rfl]
  | succ d ih =>
    intro k m g S e hk hm hg h0
    obtain ⟨g, rfl⟩ : ∃ g', g = g' + 1 := ⟨g - 1, by omega⟩
    have hd16 := dg_16 x k
    have hdE : ((x.toUInt64 >>> (((4 : Int32) * nI k).toInt64.toUInt64 &&& Int64.toUInt64 63)).toInt64 &&& (15 : Int64)).toInt32 = nI (dg x k) := dg_e x k
    rw [fn_X5_read_11, sa_l16, if_neg (nI_ge (by omega) (by omega)), sa_sq, hdE, nI_1]
    by_cases hz : dg x k = 0
    · rw [hz, if_pos (show nI 0 = 0 from rfl)]
      exact ih (k + 1) m g S 1 (by omega) (by omega) (by omega) h0
    · rw [if_neg (nI_ne0 (by omega) (by omega)), if_pos rfl]
      have := rd_in (S := S) (x := x) (m := m) (v := dg x k) (k := k) (e := e) (by omega) ⟨by omega, hd16⟩ false (fun _ => 0) (fun h => by cases h) (fn_X5_read_11 g) m 0 sc_FU (by omega) (by rw [sa_FU]; omega)
      obtain ⟨S', h1, h2⟩ := ih (k + 1) (m + 1) g (sc_mA S 6 (upd (sc_ga S 6) m (nI (dg x k - 1)))) e (by omega) (by omega) (by omega) h0
      exact ⟨S', this.trans h1, fr6_tr (fr6_st S _) h2⟩
theorem rd_good (x : Int64) {n : Nat} (hn : n ≤ 12) (SX : sc_M) (hX0 : sc_gi SX 0 = nI n) : ∀ (d k m fX g : Nat) (seen : Int32) (S : sc_M), k + d = 16 → d < fX → d < g → sc_gi S 0 = nI n → m ≤ k → (∀ j, j < m → 1 ≤ dg x j ∧ dg x j ≤ n) → (∀ i j, i < m → j < m → dg x i = dg x j → i = j) → (∀ j, j < m → sc_ga S 6 j = nI (dg x j - 1)) → (∀ e, e < 16 → ((seen &&& oB e) = 0 ↔ ∀ j, j < m → dg x j ≠ e)) → ∃ (r : Nat) (S' : sc_M), r ≤ 16 ∧ fn_X0_preferencesTold_8 fX SX x (nI m) seen (nI k) = some (nI r, SX) ∧ fn_X5_read_11 g S x (nI m) 1 (b2i (decide (m < k))) (nI k) = some (nI r, S') ∧ fr6 S S' ∧ (∀ j, j < r → 1 ≤ dg x j ∧ dg x j ≤ n) ∧ (∀ i j, i < r → j < r → dg x i = dg x j → i = j) ∧ (∀ j, j < r → sc_ga S' 6 j = nI (dg x j - 1)) := by
  intro d
  induction d with
  | zero =>
    intro k m fX g seen S hk hf hg h0 hm h1 h2 h3 h4
    obtain ⟨g, rfl⟩ : ∃ g', g = g' + 1 := ⟨g - 1, by omega⟩
    obtain ⟨f, rfl⟩ : ∃ f', fX = f' + 1 := ⟨fX - 1, by omega⟩
    refine ⟨m, S, by omega, ?_, ?_, fr6_rf S, h1, h2, h3⟩
    · rw [fn_X0_preferencesTold_8, sa_l16, if_pos (nI_le (by omega) (by omega))]
    · rw [fn_X5_read_11, sa_l16, if_pos (nI_le (by omega) (by omega)), if_neg (by decide)]
  | succ d ih =>
    intro k m fX g seen S hk hf hg h0 hm h1 h2 h3 h4
    obtain ⟨g, rfl⟩ : ∃ g', g = g' + 1 := ⟨g - 1, by omega⟩
    obtain ⟨f, rfl⟩ : ∃ f', fX = f' + 1 := ⟨fX - 1, by omega⟩
    have hd16 := dg_16 x k
    have hdE : ((x.toUInt64 >>> (((4 : Int32) * nI k).toInt64.toUInt64 &&& Int64.toUInt64 63)).toInt64 &&& (15 : Int64)).toInt32 = nI (dg x k) := dg_e x k
    rw [fn_X5_read_11, sa_l16, if_neg (nI_ge (by omega) (by omega)), sa_sq, hdE, fn_X0_preferencesTold_8, sa_l16, if_neg (nI_ge (by omega) (by omega)), dg_X, sa_cl, nI_1]
    by_cases hz : dg x k = 0
    · rw [hz, if_pos (show nI 0 = 0 from rfl), if_pos (show nI 0 = 0 from rfl)]
      have := ih (k + 1) m f g seen S (by omega) (by omega) (by omega) h0 (by omega) h1 h2 h3 h4
      rw [show decide (m < k + 1) = true by simp; omega] at this
      exact this
    · rw [if_neg (nI_ne0 (by omega) (by omega)), if_neg (nI_ne0 (by omega) (by omega)), if_neg (show ¬ (1 : Int32) = 0 by decide)]
      have hin := fun (c : Bool) (fd : Nat → Nat) hh (e : Int32) => rd_in (S := S) (x := x) (m := m) (v := dg x k) (k := k) (e := e) (by omega) ⟨by omega, hd16⟩ c fd hh (fn_X5_read_11 g) m 0 sc_FU (by omega) (by rw [sa_FU]; omega)
      have bad : ∀ (e : Int32) (q : Option (Int32 × sc_M)), q = fn_X5_read_11 g (sc_mA S 6 (upd (sc_ga S 6) m (nI (dg x k - 1)))) x (nI (m + 1)) 0 e (nI (k + 1)) → ∃ (r : Nat) (S' : sc_M), r ≤ 16 ∧ (some ((0 : Int32), SX) : Option (Int32 × sc_M)) = some (nI r, SX) ∧ q = some (nI r, S') ∧ fr6 S S' ∧ (∀ j, j < r → 1 ≤ dg x j ∧ dg x j ≤ n) ∧ (∀ i j, i < r → j < r → dg x i = dg x j → i = j) ∧ (∀ j, j < r → sc_ga S' 6 j = nI (dg x j - 1)) := by
        intro e q hq
        obtain ⟨S', b1, b2⟩ := rd_bad x hn d (k + 1) (m + 1) g (sc_mA S 6 (upd (sc_ga S 6) m (nI (dg x k - 1)))) e (by omega) (by omega) (by omega) h0
        exact ⟨0, S', by omega, rfl, hq.trans b1, fr6_tr (fr6_st S _) b2, fun j hj => by omega, fun i j hi => by omega, fun j hj => by omega⟩
      by_cases hmk : m < k
      · rw [if_neg (nI_ge hmk (by omega)), fn_X0_preferencesTold_42, if_neg (by decide), show decide (m < k) = true by simp; omega, if_neg (show ¬ b2i true = 0 by decide)]
        exact bad _ _ (hin false (fun _ => 0) (fun h => by cases h) _)
      · obtain rfl : m = k := by omega
        rw [if_pos (nI_le (by omega) (by omega)), fn_X0_preferencesTold_42, if_pos rfl, hX0, h0, show decide (m < m) = false by simp, if_pos (show b2i false = 0 from rfl)]
        by_cases hgt : n < dg x m
        · rw [if_pos (nI_lt hgt (by omega)), if_pos (nI_lt hgt (by omega))]
          exact bad _ _ (hin false (fun _ => 0) (fun h => by cases h) _)
        · rw [if_neg (nI_nlt (by omega) (by omega)), if_neg (nI_nlt (by omega) (by omega))]
          have hg1 := hin true (dg x) (fun _ j hj => ⟨(h1 j hj).1, dg_16 x j, h3 j hj⟩) (b2i false)
          have hseen : (seen &&& ((1 : Int32) <<< (nI (dg x m) &&& 31))) = 0 ↔ ∀ j, j < m → dg x j ≠ dg x m := h4 (dg x m) hd16
          by_cases hdup : ∀ j, j < m → dg x j ≠ dg x m
          · rw [if_pos (hseen.mpr hdup), sa_sq, nI_1]
            rw [(ndF_iff (dg x) (dg x m) m).mpr hdup] at hg1
            have := ih (m + 1) (m + 1) f g (seen ||| oB (dg x m)) (sc_mA S 6 (upd (sc_ga S 6) m (nI (dg x m - 1)))) (by omega) (by omega) (by omega) h0 (by omega) (fun j hj => by
                by_cases h : j = m
                · rw [h]; exact ⟨by omega, by omega⟩
                · exact h1 j (by omega)) (fun i j hi hj he => by
                by_cases hi2 : i = m
                · by_cases hj2 : j = m
                  · omega
                  · exact absurd (by rw [← he, hi2]) (hdup j (by omega))
                · by_cases hj2 : j = m
                  · exact absurd (by rw [he, hj2]) (hdup i (by omega))
                  · exact h2 i j (by omega) (by omega) he) (fun j hj => by
                rw [sa_ga_s]
                by_cases h : j = m
                · rw [h, sa_us]
                · rw [sa_un _ _ _ _ h]; exact h3 j (by omega)) (fun e he => by
                rw [oB_add hd16 he, h4 e he]
                constructor
                · rintro ⟨a1, a2⟩ j hj
                  by_cases h : j = m
                  · rw [h]; exact a2
                  · exact a1 j (by omega)
                · intro a
                  exact ⟨fun j hj => a j (by omega), a m (by omega)⟩)
            obtain ⟨r, S', r0, r1, r2, r3, r4, r5, r6⟩ := this
            rw [show decide (m + 1 < m + 1) = false by simp] at r2
            exact ⟨r, S', r0, r1, hg1.trans r2, fr6_tr (fr6_st S _) r3, r4, r5, r6⟩
          · rw [if_neg (fun q => hdup (hseen.mp q))]
            have hnd : ndF (dg x) (dg x m) m = false := by
              cases hh : ndF (dg x) (dg x m) m with
              | false => rfl
              | true => exact absurd ((ndF_iff _ _ _).mp hh) hdup
            rw [hnd] at hg1
            exact bad _ _ hg1
theorem rd_both (x : Int64) {n : Nat} (hn : n ≤ 12) (SX SM : sc_M) (hX0 : sc_gi SX 0 = nI n) (hM0 : sc_gi SM 0 = nI n) : ∃ (r : Nat) (S' : sc_M), r ≤ 16 ∧ fn_X0_preferencesTold SX x = some (nI r, SX) ∧ fn_X5_read SM x = some (nI r, S') ∧ fr6 SM S' ∧ (∀ j, j < r → 1 ≤ dg x j ∧ dg x j ≤ n) ∧ (∀ i j, i < r → j < r → dg x i = dg x j → i = j) ∧ (∀ j, j < r → sc_ga S' 6 j = nI (dg x j - 1)) := by
  have := rd_good x hn SX hX0 16 0 0 sc_FU sc_FU 0 SM rfl (by rw [sa_FU]; omega) (by rw [sa_FU]; omega) hM0 (Nat.le_refl _) (fun j hj => absurd hj (Nat.not_lt_zero j)) (fun i j hi => absurd hi (Nat.not_lt_zero i)) (fun j hj => absurd hj (Nat.not_lt_zero j)) (fun e _ => ⟨fun _ j hj => absurd hj (Nat.not_lt_zero j), fun _ => oB_zero e⟩)
  exact this
