/-! ===== count: small helpers ===== -/
theorem pick_none (fit : Nat → Bool) (mr : Nat → Nat → Bool) : ∀ n, pick fit mr n = none → ∀ c, c < n → fit c = false := by
  intro n
  induction n with
  | zero => intro _ c hc; omega
  | succ n ih =>
    intro h c hc
    simp only [pick] at h
    by_cases hf : fit n = true
    · rw [if_pos hf] at h
      exfalso
      cases hp : pick fit mr n with
      | none => rw [hp] at h; simp at h
      | some q =>
        rw [hp] at h
        simp only at h
        split at h <;> simp at h
    · rw [if_neg hf] at h
      by_cases hcn : c = n
      · rw [hcn]; simpa using hf
      · exact ih h c (by omega)
theorem pick_ex (fit : Nat → Bool) (mr : Nat → Nat → Bool) {n c : Nat} (hc : c < n) (hf : fit c = true) : ∃ b, pick fit mr n = some b := by
  cases hp : pick fit mr n with
  | none => have := pick_none fit mr n hp c hc; rw [hf] at this; cases this
  | some b => exact ⟨b, rfl⟩
theorem cnP_mono {P Q : Nat → Bool} : ∀ n, (∀ c, c < n → P c = true → Q c = true) → cnP P n ≤ cnP Q n := by
  intro n
  induction n with
  | zero => intro _; exact Nat.le_refl 0
  | succ n ih =>
    intro h
    have h1 := ih (fun c hc => h c (by omega))
    have h2 := h n (by omega)
    rw [cnP, cnP]
    by_cases hp : P n = true
    · rw [if_pos hp, if_pos (h2 hp)]; omega
    · rw [if_neg hp]; split <;> omega
theorem cnP_lt {P Q : Nat → Bool} {b : Nat} : ∀ n, (∀ c, c < n → P c = true → Q c = true) → b < n → P b = false → Q b = true → cnP P n + 1 ≤ cnP Q n := by
  intro n
  induction n with
  | zero => intro _ hb; omega
  | succ n ih =>
    intro h hb hP hQ
    have h2 := h n (by omega)
    rw [cnP, cnP]
    by_cases hbn : b = n
    · rw [← hbn, hP, hQ, if_neg (by decide), if_pos rfl, hbn]
      have := cnP_mono n (fun c hc => h c (by omega))
      omega
    · have h1 := ih (fun c hc => h c (by omega)) (by omega) hP hQ
      by_cases hp : P n = true
      · rw [if_pos hp, if_pos (h2 hp)]; omega
      · rw [if_neg hp]; split <;> omega
theorem cnP_zero {P : Nat → Bool} : ∀ n, cnP P n = 0 → ∀ c, c < n → P c = false := by
  intro n
  induction n with
  | zero => intro _ c hc; omega
  | succ n ih =>
    intro h c hc
    rw [cnP] at h
    by_cases hp : P n = true
    · rw [if_pos hp] at h; omega
    · by_cases hcn : c = n
      · rw [hcn]; simpa using hp
      · exact ih (by omega) c (by omega)
theorem cnP_ex {P : Nat → Bool} {n : Nat} (h : ¬ cnP P n = 0) : ∃ c, c < n ∧ P c = true := by
  by_cases hx : ∃ c, c < n ∧ P c = true
  · exact hx
  · exfalso
    apply h
    have : cnP P n ≤ cnP (fun _ => false) n := cnP_mono n (fun c hc hp => absurd ⟨c, hc, hp⟩ hx)
    have h0 : ∀ m, cnP (fun _ => false) m = 0 := by
      intro m
      induction m with
      | zero => rfl
      | succ m ih => rw [cnP, ih]; rfl
    rw [h0] at this
    omega
theorem cnP_pos {P : Nat → Bool} {n c : Nat} (hc : c < n) (hp : P c = true) : 0 < cnP P n := by
  by_cases h : cnP P n = 0
  · have := cnP_zero n h c hc; rw [hp] at this; cases this
  · omega
/-! one row of states and votes, of both sides; t is the stage that is being made -/
def eR (n t el : Nat) (u : Nat → Int32) (v : Nat → Int64) (SX SM : sc_M) : Prop :=
  (sc_gi SX 4 = nI n ∧ sc_gi SX 6 = nI (12 * t) ∧ sc_gi SX 7 = nI el ∧ sc_gi SM 0 = nI n ∧ sc_gi SM 7 = nI el) ∧
  (∀ c, c < n → sc_ga SX 20 (12 * t + c) = u c ∧ sc_ga SM 22 c = u c) ∧
  (∀ c, c < n → sc_gb SX 19 (12 * t + c) = v c ∧ sc_gb SM 21 c = v c) ∧
  (∀ k, k < el → sc_ga SX 10 k = sc_ga SM 20 k)
def eXf (t : Nat) (S S' : sc_M) : Prop := (∀ k, k ≠ 7 → sc_gi S' k = sc_gi S k) ∧ (∀ k, k ≠ 10 → k ≠ 20 → sc_ga S' k = sc_ga S k) ∧ (∀ k, sc_gb S' k = sc_gb S k) ∧ (∀ j, j < 12 * t → sc_ga S' 20 j = sc_ga S 20 j)
def eMf (S S' : sc_M) : Prop := (∀ k, k ≠ 7 → sc_gi S' k = sc_gi S k) ∧ (∀ k, k ≠ 20 → k ≠ 22 → sc_ga S' k = sc_ga S k) ∧ (∀ k, sc_gb S' k = sc_gb S k) ∧ (∀ k, sc_gj S' k = sc_gj S k)
theorem eXf_rfl (t : Nat) (S : sc_M) : eXf t S S := ⟨fun _ _ => rfl, fun _ _ _ => rfl, fun _ => rfl, fun _ _ => rfl⟩
theorem eMf_rfl (S : sc_M) : eMf S S := ⟨fun _ _ => rfl, fun _ _ _ => rfl, fun _ => rfl, fun _ => rfl⟩
/-- one is chosen on both sides -/
theorem el_step {n t el b : Nat} {u : Nat → Int32} {v : Nat → Int64} {SX SM SX0 SM0 : sc_M} (hn : n ≤ 12) (ht : t < 72) (hb : b < n) (he : el < n) (h : eR n t el u v SX SM) (hX : eXf t SX0 SX) (hM : eMf SM0 SM) :
    eR n t (el + 1) (upd u b 1) v (sc_mi (sc_mA (sc_mA SX 20 (upd (sc_ga SX 20) (12 * t + b) 1)) 10 (upd (sc_ga SX 10) el (nI b))) 7 (nI (el + 1))) (sc_mi (sc_mA (sc_mA SM 22 (upd (sc_ga SM 22) b 1)) 20 (upd (sc_ga SM 20) el (nI b))) 7 (nI (el + 1))) ∧
    eXf t SX0 (sc_mi (sc_mA (sc_mA SX 20 (upd (sc_ga SX 20) (12 * t + b) 1)) 10 (upd (sc_ga SX 10) el (nI b))) 7 (nI (el + 1))) ∧ eMf SM0 (sc_mi (sc_mA (sc_mA SM 22 (upd (sc_ga SM 22) b 1)) 20 (upd (sc_ga SM 20) el (nI b))) 7 (nI (el + 1))) := by
  obtain ⟨⟨h1, h2, h3, h4, h5⟩, hu, hv, ho⟩ := h
  obtain ⟨x1, x2, x3, x4⟩ := hX
  obtain ⟨m1, m2, m3, m4⟩ := hM
  refine ⟨⟨⟨?_, ?_, ?_, ?_, ?_⟩, fun c hc => ⟨?_, ?_⟩, fun c hc => ⟨?_, ?_⟩, fun k hk => ?_⟩, ⟨fun k hk => ?_, fun k k1 k2 => ?_, fun k => ?_, fun j hj => ?_⟩, ⟨fun k hk => ?_, fun k k1 k2 => ?_, fun k => ?_, fun k => ?_⟩⟩
  · simp (disch := omega) only [sa_gi_s, sa_gi_n, sa_gi_j, sa_gi_A, sa_gi_B, sa_gj_s, sa_gj_n, sa_gj_i, sa_gj_A, sa_gj_B, sa_ga_s, sa_ga_n, sa_ga_i, sa_ga_j, sa_ga_B, sa_gb_s, sa_gb_n, sa_gb_i, sa_gb_j, sa_gb_A, sa_us, sa_un, sa_vs, sa_vn]; exact h1
  · simp (disch := omega) only [sa_gi_s, sa_gi_n, sa_gi_j, sa_gi_A, sa_gi_B, sa_gj_s, sa_gj_n, sa_gj_i, sa_gj_A, sa_gj_B, sa_ga_s, sa_ga_n, sa_ga_i, sa_ga_j, sa_ga_B, sa_gb_s, sa_gb_n, sa_gb_i, sa_gb_j, sa_gb_A, sa_us, sa_un, sa_vs, sa_vn]; exact h2
  · simp (disch := omega) only [sa_gi_s, sa_gi_n, sa_gi_j, sa_gi_A, sa_gi_B, sa_gj_s, sa_gj_n, sa_gj_i, sa_gj_A, sa_gj_B, sa_ga_s, sa_ga_n, sa_ga_i, sa_ga_j, sa_ga_B, sa_gb_s, sa_gb_n, sa_gb_i, sa_gb_j, sa_gb_A, sa_us, sa_un, sa_vs, sa_vn]
  · simp (disch := omega) only [sa_gi_s, sa_gi_n, sa_gi_j, sa_gi_A, sa_gi_B, sa_gj_s, sa_gj_n, sa_gj_i, sa_gj_A, sa_gj_B, sa_ga_s, sa_ga_n, sa_ga_i, sa_ga_j, sa_ga_B, sa_gb_s, sa_gb_n, sa_gb_i, sa_gb_j, sa_gb_A, sa_us, sa_un, sa_vs, sa_vn]; exact h4
  · simp (disch := omega) only [sa_gi_s, sa_gi_n, sa_gi_j, sa_gi_A, sa_gi_B, sa_gj_s, sa_gj_n, sa_gj_i, sa_gj_A, sa_gj_B, sa_ga_s, sa_ga_n, sa_ga_i, sa_ga_j, sa_ga_B, sa_gb_s, sa_gb_n, sa_gb_i, sa_gb_j, sa_gb_A, sa_us, sa_un, sa_vs, sa_vn]
  · by_cases hcb : c = b
    · subst hcb; simp (disch := omega) only [sa_gi_s, sa_gi_n, sa_gi_j, sa_gi_A, sa_gi_B, sa_gj_s, sa_gj_n, sa_gj_i, sa_gj_A, sa_gj_B, sa_ga_s, sa_ga_n, sa_ga_i, sa_ga_j, sa_ga_B, sa_gb_s, sa_gb_n, sa_gb_i, sa_gb_j, sa_gb_A, sa_us, sa_un, sa_vs, sa_vn]
    · simp (disch := omega) only [sa_gi_s, sa_gi_n, sa_gi_j, sa_gi_A, sa_gi_B, sa_gj_s, sa_gj_n, sa_gj_i, sa_gj_A, sa_gj_B, sa_ga_s, sa_ga_n, sa_ga_i, sa_ga_j, sa_ga_B, sa_gb_s, sa_gb_n, sa_gb_i, sa_gb_j, sa_gb_A, sa_us, sa_un, sa_vs, sa_vn]; exact (hu c hc).1
  · by_cases hcb : c = b
    · subst hcb; simp (disch := omega) only [sa_gi_s, sa_gi_n, sa_gi_j, sa_gi_A, sa_gi_B, sa_gj_s, sa_gj_n, sa_gj_i, sa_gj_A, sa_gj_B, sa_ga_s, sa_ga_n, sa_ga_i, sa_ga_j, sa_ga_B, sa_gb_s, sa_gb_n, sa_gb_i, sa_gb_j, sa_gb_A, sa_us, sa_un, sa_vs, sa_vn]
    · simp (disch := omega) only [sa_gi_s, sa_gi_n, sa_gi_j, sa_gi_A, sa_gi_B, sa_gj_s, sa_gj_n, sa_gj_i, sa_gj_A, sa_gj_B, sa_ga_s, sa_ga_n, sa_ga_i, sa_ga_j, sa_ga_B, sa_gb_s, sa_gb_n, sa_gb_i, sa_gb_j, sa_gb_A, sa_us, sa_un, sa_vs, sa_vn]; exact (hu c hc).2
  · simp (disch := omega) only [sa_gi_s, sa_gi_n, sa_gi_j, sa_gi_A, sa_gi_B, sa_gj_s, sa_gj_n, sa_gj_i, sa_gj_A, sa_gj_B, sa_ga_s, sa_ga_n, sa_ga_i, sa_ga_j, sa_ga_B, sa_gb_s, sa_gb_n, sa_gb_i, sa_gb_j, sa_gb_A, sa_us, sa_un, sa_vs, sa_vn]; exact (hv c hc).1
  · simp (disch := omega) only [sa_gi_s, sa_gi_n, sa_gi_j, sa_gi_A, sa_gi_B, sa_gj_s, sa_gj_n, sa_gj_i, sa_gj_A, sa_gj_B, sa_ga_s, sa_ga_n, sa_ga_i, sa_ga_j, sa_ga_B, sa_gb_s, sa_gb_n, sa_gb_i, sa_gb_j, sa_gb_A, sa_us, sa_un, sa_vs, sa_vn]; exact (hv c hc).2
  · by_cases hke : k = el
    · subst hke; simp (disch := omega) only [sa_gi_s, sa_gi_n, sa_gi_j, sa_gi_A, sa_gi_B, sa_gj_s, sa_gj_n, sa_gj_i, sa_gj_A, sa_gj_B, sa_ga_s, sa_ga_n, sa_ga_i, sa_ga_j, sa_ga_B, sa_gb_s, sa_gb_n, sa_gb_i, sa_gb_j, sa_gb_A, sa_us, sa_un, sa_vs, sa_vn]
    · simp (disch := omega) only [sa_gi_s, sa_gi_n, sa_gi_j, sa_gi_A, sa_gi_B, sa_gj_s, sa_gj_n, sa_gj_i, sa_gj_A, sa_gj_B, sa_ga_s, sa_ga_n, sa_ga_i, sa_ga_j, sa_ga_B, sa_gb_s, sa_gb_n, sa_gb_i, sa_gb_j, sa_gb_A, sa_us, sa_un, sa_vs, sa_vn]; exact ho k (by omega)
  · simp (disch := omega) only [sa_gi_s, sa_gi_n, sa_gi_j, sa_gi_A, sa_gi_B, sa_gj_s, sa_gj_n, sa_gj_i, sa_gj_A, sa_gj_B, sa_ga_s, sa_ga_n, sa_ga_i, sa_ga_j, sa_ga_B, sa_gb_s, sa_gb_n, sa_gb_i, sa_gb_j, sa_gb_A, sa_us, sa_un, sa_vs, sa_vn]; exact x1 k hk
  · simp (disch := omega) only [sa_gi_s, sa_gi_n, sa_gi_j, sa_gi_A, sa_gi_B, sa_gj_s, sa_gj_n, sa_gj_i, sa_gj_A, sa_gj_B, sa_ga_s, sa_ga_n, sa_ga_i, sa_ga_j, sa_ga_B, sa_gb_s, sa_gb_n, sa_gb_i, sa_gb_j, sa_gb_A, sa_us, sa_un, sa_vs, sa_vn]; exact x2 k k1 k2
  · simp (disch := omega) only [sa_gi_s, sa_gi_n, sa_gi_j, sa_gi_A, sa_gi_B, sa_gj_s, sa_gj_n, sa_gj_i, sa_gj_A, sa_gj_B, sa_ga_s, sa_ga_n, sa_ga_i, sa_ga_j, sa_ga_B, sa_gb_s, sa_gb_n, sa_gb_i, sa_gb_j, sa_gb_A, sa_us, sa_un, sa_vs, sa_vn]; exact x3 k
  · simp (disch := omega) only [sa_gi_s, sa_gi_n, sa_gi_j, sa_gi_A, sa_gi_B, sa_gj_s, sa_gj_n, sa_gj_i, sa_gj_A, sa_gj_B, sa_ga_s, sa_ga_n, sa_ga_i, sa_ga_j, sa_ga_B, sa_gb_s, sa_gb_n, sa_gb_i, sa_gb_j, sa_gb_A, sa_us, sa_un, sa_vs, sa_vn]; exact x4 j hj
  · simp (disch := omega) only [sa_gi_s, sa_gi_n, sa_gi_j, sa_gi_A, sa_gi_B, sa_gj_s, sa_gj_n, sa_gj_i, sa_gj_A, sa_gj_B, sa_ga_s, sa_ga_n, sa_ga_i, sa_ga_j, sa_ga_B, sa_gb_s, sa_gb_n, sa_gb_i, sa_gb_j, sa_gb_A, sa_us, sa_un, sa_vs, sa_vn]; exact m1 k hk
  · simp (disch := omega) only [sa_gi_s, sa_gi_n, sa_gi_j, sa_gi_A, sa_gi_B, sa_gj_s, sa_gj_n, sa_gj_i, sa_gj_A, sa_gj_B, sa_ga_s, sa_ga_n, sa_ga_i, sa_ga_j, sa_ga_B, sa_gb_s, sa_gb_n, sa_gb_i, sa_gb_j, sa_gb_A, sa_us, sa_un, sa_vs, sa_vn]; exact m2 k k1 k2
  · simp (disch := omega) only [sa_gi_s, sa_gi_n, sa_gi_j, sa_gi_A, sa_gi_B, sa_gj_s, sa_gj_n, sa_gj_i, sa_gj_A, sa_gj_B, sa_ga_s, sa_ga_n, sa_ga_i, sa_ga_j, sa_ga_B, sa_gb_s, sa_gb_n, sa_gb_i, sa_gb_j, sa_gb_A, sa_us, sa_un, sa_vs, sa_vn]; exact m3 k
  · simp (disch := omega) only [sa_gi_s, sa_gi_n, sa_gi_j, sa_gi_A, sa_gi_B, sa_gj_s, sa_gj_n, sa_gj_i, sa_gj_A, sa_gj_B, sa_ga_s, sa_ga_n, sa_ga_i, sa_ga_j, sa_ga_B, sa_gb_s, sa_gb_n, sa_gb_i, sa_gb_j, sa_gb_A, sa_us, sa_un, sa_vs, sa_vn]; exact m4 k
