/-! ===== turn, of the class; who is next ===== -/
theorem sa_cp {α : Type} {a b n N : Nat} (K : Option α) (h1 : a + n ≤ N) (h2 : b + n ≤ N) (hN : N < 100000) : sc_cp (nI a) (nI b) (nI n) N N K = K := by
  unfold sc_cp
  rw [if_neg]
  rw [sa_cl9 (by omega), sa_cl9 (by omega), sa_cl9 (by omega)]
  have q1 := n_nlt0 (b := a) (by omega)
  have q2 := n_nlt0 (b := b) (by omega)
  have q3 := n_nlt0 (b := n) (by omega)
  rintro (h | h | h | h | h)
  · exact q1 h
  · exact q2 h
  · exact q3 h
  · omega
  · omega
theorem sa_cell0 (S : sc_M) (i : Nat) : fn_X4_cell S (nI i) 0 = some (nI (12 * i), S) := by rw [sa_l0, sa_cell]; rfl
theorem sa_now {S : sc_M} {t : Nat} (h : sc_gi S 5 = nI (t + 1)) : fn_X1_now S = some (nI t, S) := by rw [fn_X1_now, h, nI_pred]
noncomputable def tnX (n t : Nat) (kd wh : Int32) (S : sc_M) : sc_M :=
  sc_mA (sc_mA (sc_mB (sc_mB (sc_mB (sc_mB (sc_mB (sc_mA (sc_mA (sc_mi (sc_mi S 5 (nI (t + 1 + 1))) 6 (nI (12 * (t + 1)))) 12 (upd (sc_ga S 12) (t + 1) kd)) 13 (upd (sc_ga S 13) (t + 1) wh)) 15 (vp_updL (sc_gb S 15) (t + 1) (sc_gb S 15 t))) 16 (vp_updL (sc_gb S 16) (t + 1) (sc_gb S 16 t))) 17 (vp_updL (sc_gb S 17) (t + 1) (sc_gb S 17 t))) 18 (vp_updL (sc_gb S 18) (t + 1) 0)) 19 (va_cpy (sc_gb S 19) (sc_gb S 19) (12 * t) (12 * (t + 1)) n)) 20 (va_cpy (sc_ga S 20) (sc_ga S 20) (12 * t) (12 * (t + 1)) n)) 21 (va_cpy (sc_ga S 21) (sc_ga S 21) (12 * t) (12 * (t + 1)) n)

theorem turn_X {n t : Nat} {kd wh : Int32} {S : sc_M} (hn : n ≤ 12) (ht : t + 1 < 72) (e4 : sc_gi S 4 = nI n) (e5 : sc_gi S 5 = nI (t + 1)) : fn_X1_turn S kd wh = some (1, tnX n t kd wh S) := by
  rw [fn_X1_turn, fn_X1_turn_e, e5, if_pos (show nI (t + 1) < 72 from nI_lt (b := 72) (by omega) (by omega))]
  simp -implicitDefEqProofs (disch := omega) only [fn_X1_now, sa_cl, sa_sq, e5, e4, sa_gi_s, sa_gi_n, sa_gi_j, sa_gi_A, sa_gi_B, sa_gj_s, sa_gj_n, sa_gj_i, sa_gj_A, sa_gj_B, sa_ga_s, sa_ga_n, sa_ga_i, sa_ga_j, sa_ga_B, sa_gb_s, sa_gb_n, sa_gb_i, sa_gb_j, sa_gb_A, sa_us, sa_un, sa_vs, sa_vn, nI_pred, nI_1, sa_cell0, sa_ck, sa_cl9, sa_cp]
  exact sa_bz1 _
theorem tn_at {n t : Nat} {kd wh : Int32} {S : sc_M} : (sc_gi (tnX n t kd wh S) 5 = nI (t + 1 + 1) ∧ sc_gi (tnX n t kd wh S) 6 = nI (12 * (t + 1)) ∧ sc_ga (tnX n t kd wh S) 12 (t + 1) = kd ∧ sc_ga (tnX n t kd wh S) 13 (t + 1) = wh ∧ sc_gb (tnX n t kd wh S) 15 (t + 1) = sc_gb S 15 t ∧ sc_gb (tnX n t kd wh S) 16 (t + 1) = sc_gb S 16 t ∧ sc_gb (tnX n t kd wh S) 17 (t + 1) = sc_gb S 17 t ∧ sc_gb (tnX n t kd wh S) 18 (t + 1) = 0) ∧ ∀ c, c < n → sc_gb (tnX n t kd wh S) 19 (12 * (t + 1) + c) = sc_gb S 19 (12 * t + c) ∧ sc_ga (tnX n t kd wh S) 20 (12 * (t + 1) + c) = sc_ga S 20 (12 * t + c) ∧ sc_ga (tnX n t kd wh S) 21 (12 * (t + 1) + c) = sc_ga S 21 (12 * t + c) := by
  unfold tnX
  refine ⟨⟨?_, ?_, ?_, ?_, ?_, ?_, ?_, ?_⟩, fun c hc => ⟨?_, ?_, ?_⟩⟩
  · simp -implicitDefEqProofs (disch := omega) only [sa_gi_s, sa_gi_n, sa_gi_j, sa_gi_A, sa_gi_B, sa_gj_s, sa_gj_n, sa_gj_i, sa_gj_A, sa_gj_B, sa_ga_s, sa_ga_n, sa_ga_i, sa_ga_j, sa_ga_B, sa_gb_s, sa_gb_n, sa_gb_i, sa_gb_j, sa_gb_A, sa_us, sa_un, sa_vs, sa_vn]
  · simp -implicitDefEqProofs (disch := omega) only [sa_gi_s, sa_gi_n, sa_gi_j, sa_gi_A, sa_gi_B, sa_gj_s, sa_gj_n, sa_gj_i, sa_gj_A, sa_gj_B, sa_ga_s, sa_ga_n, sa_ga_i, sa_ga_j, sa_ga_B, sa_gb_s, sa_gb_n, sa_gb_i, sa_gb_j, sa_gb_A, sa_us, sa_un, sa_vs, sa_vn]
  · simp -implicitDefEqProofs (disch := omega) only [sa_gi_s, sa_gi_n, sa_gi_j, sa_gi_A, sa_gi_B, sa_gj_s, sa_gj_n, sa_gj_i, sa_gj_A, sa_gj_B, sa_ga_s, sa_ga_n, sa_ga_i, sa_ga_j, sa_ga_B, sa_gb_s, sa_gb_n, sa_gb_i, sa_gb_j, sa_gb_A, sa_us, sa_un, sa_vs, sa_vn]
  · simp -implicitDefEqProofs (disch := omega) only [sa_gi_s, sa_gi_n, sa_gi_j, sa_gi_A, sa_gi_B, sa_gj_s, sa_gj_n, sa_gj_i, sa_gj_A, sa_gj_B, sa_ga_s, sa_ga_n, sa_ga_i, sa_ga_j, sa_ga_B, sa_gb_s, sa_gb_n, sa_gb_i, sa_gb_j, sa_gb_A, sa_us, sa_un, sa_vs, sa_vn]
  · simp -implicitDefEqProofs (disch := omega) only [sa_gi_s, sa_gi_n, sa_gi_j, sa_gi_A, sa_gi_B, sa_gj_s, sa_gj_n, sa_gj_i, sa_gj_A, sa_gj_B, sa_ga_s, sa_ga_n, sa_ga_i, sa_ga_j, sa_ga_B, sa_gb_s, sa_gb_n, sa_gb_i, sa_gb_j, sa_gb_A, sa_us, sa_un, sa_vs, sa_vn]
  · simp -implicitDefEqProofs (disch := omega) only [sa_gi_s, sa_gi_n, sa_gi_j, sa_gi_A, sa_gi_B, sa_gj_s, sa_gj_n, sa_gj_i, sa_gj_A, sa_gj_B, sa_ga_s, sa_ga_n, sa_ga_i, sa_ga_j, sa_ga_B, sa_gb_s, sa_gb_n, sa_gb_i, sa_gb_j, sa_gb_A, sa_us, sa_un, sa_vs, sa_vn]
  · simp -implicitDefEqProofs (disch := omega) only [sa_gi_s, sa_gi_n, sa_gi_j, sa_gi_A, sa_gi_B, sa_gj_s, sa_gj_n, sa_gj_i, sa_gj_A, sa_gj_B, sa_ga_s, sa_ga_n, sa_ga_i, sa_ga_j, sa_ga_B, sa_gb_s, sa_gb_n, sa_gb_i, sa_gb_j, sa_gb_A, sa_us, sa_un, sa_vs, sa_vn]
  · simp -implicitDefEqProofs (disch := omega) only [sa_gi_s, sa_gi_n, sa_gi_j, sa_gi_A, sa_gi_B, sa_gj_s, sa_gj_n, sa_gj_i, sa_gj_A, sa_gj_B, sa_ga_s, sa_ga_n, sa_ga_i, sa_ga_j, sa_ga_B, sa_gb_s, sa_gb_n, sa_gb_i, sa_gb_j, sa_gb_A, sa_us, sa_un, sa_vs, sa_vn]
  · simp -implicitDefEqProofs (disch := omega) only [sa_gi_s, sa_gi_n, sa_gi_j, sa_gi_A, sa_gi_B, sa_gj_s, sa_gj_n, sa_gj_i, sa_gj_A, sa_gj_B, sa_ga_s, sa_ga_n, sa_ga_i, sa_ga_j, sa_ga_B, sa_gb_s, sa_gb_n, sa_gb_i, sa_gb_j, sa_gb_A, sa_us, sa_un, sa_vs, sa_vn, pk_cpy_in]; congr 1; omega
  · simp -implicitDefEqProofs (disch := omega) only [sa_gi_s, sa_gi_n, sa_gi_j, sa_gi_A, sa_gi_B, sa_gj_s, sa_gj_n, sa_gj_i, sa_gj_A, sa_gj_B, sa_ga_s, sa_ga_n, sa_ga_i, sa_ga_j, sa_ga_B, sa_gb_s, sa_gb_n, sa_gb_i, sa_gb_j, sa_gb_A, sa_us, sa_un, sa_vs, sa_vn, pk_cpy_in]; congr 1; omega
  · simp -implicitDefEqProofs (disch := omega) only [sa_gi_s, sa_gi_n, sa_gi_j, sa_gi_A, sa_gi_B, sa_gj_s, sa_gj_n, sa_gj_i, sa_gj_A, sa_gj_B, sa_ga_s, sa_ga_n, sa_ga_i, sa_ga_j, sa_ga_B, sa_gb_s, sa_gb_n, sa_gb_i, sa_gb_j, sa_gb_A, sa_us, sa_un, sa_vs, sa_vn, pk_cpy_in]; congr 1; omega
def tXf (t : Nat) (S S' : sc_M) : Prop := (∀ k, k ≠ 5 → k ≠ 6 → sc_gi S' k = sc_gi S k) ∧ (∀ k, k ≠ 12 → k ≠ 13 → k ≠ 20 → k ≠ 21 → sc_ga S' k = sc_ga S k) ∧ (∀ k, k < 15 ∨ 19 < k → sc_gb S' k = sc_gb S k) ∧ (∀ j, j < t + 1 → sc_ga S' 12 j = sc_ga S 12 j ∧ sc_ga S' 13 j = sc_ga S 13 j ∧ sc_gb S' 15 j = sc_gb S 15 j ∧ sc_gb S' 16 j = sc_gb S 16 j ∧ sc_gb S' 17 j = sc_gb S 17 j ∧ sc_gb S' 18 j = sc_gb S 18 j) ∧ (∀ j, j < 12 * (t + 1) → sc_gb S' 19 j = sc_gb S 19 j ∧ sc_ga S' 20 j = sc_ga S 20 j ∧ sc_ga S' 21 j = sc_ga S 21 j)
theorem tn_fr {n t : Nat} {kd wh : Int32} {S : sc_M} : tXf t S (tnX n t kd wh S) := by
  unfold tnX
  refine ⟨fun k k1 k2 => ?_, fun k k1 k2 k3 k4 => ?_, fun k hk => ?_, fun j hj => ⟨?_, ?_, ?_, ?_, ?_, ?_⟩, fun j hj => ⟨?_, ?_, ?_⟩⟩
  · simp -implicitDefEqProofs (disch := omega) only [sa_gi_s, sa_gi_n, sa_gi_j, sa_gi_A, sa_gi_B, sa_gj_s, sa_gj_n, sa_gj_i, sa_gj_A, sa_gj_B, sa_ga_s, sa_ga_n, sa_ga_i, sa_ga_j, sa_ga_B, sa_gb_s, sa_gb_n, sa_gb_i, sa_gb_j, sa_gb_A, sa_us, sa_un, sa_vs, sa_vn]
  · simp -implicitDefEqProofs (disch := omega) only [sa_gi_s, sa_gi_n, sa_gi_j, sa_gi_A, sa_gi_B, sa_gj_s, sa_gj_n, sa_gj_i, sa_gj_A, sa_gj_B, sa_ga_s, sa_ga_n, sa_ga_i, sa_ga_j, sa_ga_B, sa_gb_s, sa_gb_n, sa_gb_i, sa_gb_j, sa_gb_A, sa_us, sa_un, sa_vs, sa_vn]
  · simp -implicitDefEqProofs (disch := omega) only [sa_gi_s, sa_gi_n, sa_gi_j, sa_gi_A, sa_gi_B, sa_gj_s, sa_gj_n, sa_gj_i, sa_gj_A, sa_gj_B, sa_ga_s, sa_ga_n, sa_ga_i, sa_ga_j, sa_ga_B, sa_gb_s, sa_gb_n, sa_gb_i, sa_gb_j, sa_gb_A, sa_us, sa_un, sa_vs, sa_vn]
  · simp -implicitDefEqProofs (disch := omega) only [sa_gi_s, sa_gi_n, sa_gi_j, sa_gi_A, sa_gi_B, sa_gj_s, sa_gj_n, sa_gj_i, sa_gj_A, sa_gj_B, sa_ga_s, sa_ga_n, sa_ga_i, sa_ga_j, sa_ga_B, sa_gb_s, sa_gb_n, sa_gb_i, sa_gb_j, sa_gb_A, sa_us, sa_un, sa_vs, sa_vn]
  · simp -implicitDefEqProofs (disch := omega) only [sa_gi_s, sa_gi_n, sa_gi_j, sa_gi_A, sa_gi_B, sa_gj_s, sa_gj_n, sa_gj_i, sa_gj_A, sa_gj_B, sa_ga_s, sa_ga_n, sa_ga_i, sa_ga_j, sa_ga_B, sa_gb_s, sa_gb_n, sa_gb_i, sa_gb_j, sa_gb_A, sa_us, sa_un, sa_vs, sa_vn]
  · simp -implicitDefEqProofs (disch := omega) only [sa_gi_s, sa_gi_n, sa_gi_j, sa_gi_A, sa_gi_B, sa_gj_s, sa_gj_n, sa_gj_i, sa_gj_A, sa_gj_B, sa_ga_s, sa_ga_n, sa_ga_i, sa_ga_j, sa_ga_B, sa_gb_s, sa_gb_n, sa_gb_i, sa_gb_j, sa_gb_A, sa_us, sa_un, sa_vs, sa_vn]
  · simp -implicitDefEqProofs (disch := omega) only [sa_gi_s, sa_gi_n, sa_gi_j, sa_gi_A, sa_gi_B, sa_gj_s, sa_gj_n, sa_gj_i, sa_gj_A, sa_gj_B, sa_ga_s, sa_ga_n, sa_ga_i, sa_ga_j, sa_ga_B, sa_gb_s, sa_gb_n, sa_gb_i, sa_gb_j, sa_gb_A, sa_us, sa_un, sa_vs, sa_vn]
  · simp -implicitDefEqProofs (disch := omega) only [sa_gi_s, sa_gi_n, sa_gi_j, sa_gi_A, sa_gi_B, sa_gj_s, sa_gj_n, sa_gj_i, sa_gj_A, sa_gj_B, sa_ga_s, sa_ga_n, sa_ga_i, sa_ga_j, sa_ga_B, sa_gb_s, sa_gb_n, sa_gb_i, sa_gb_j, sa_gb_A, sa_us, sa_un, sa_vs, sa_vn]
  · simp -implicitDefEqProofs (disch := omega) only [sa_gi_s, sa_gi_n, sa_gi_j, sa_gi_A, sa_gi_B, sa_gj_s, sa_gj_n, sa_gj_i, sa_gj_A, sa_gj_B, sa_ga_s, sa_ga_n, sa_ga_i, sa_ga_j, sa_ga_B, sa_gb_s, sa_gb_n, sa_gb_i, sa_gb_j, sa_gb_A, sa_us, sa_un, sa_vs, sa_vn]
  · simp -implicitDefEqProofs (disch := omega) only [sa_gi_s, sa_gi_n, sa_gi_j, sa_gi_A, sa_gi_B, sa_gj_s, sa_gj_n, sa_gj_i, sa_gj_A, sa_gj_B, sa_ga_s, sa_ga_n, sa_ga_i, sa_ga_j, sa_ga_B, sa_gb_s, sa_gb_n, sa_gb_i, sa_gb_j, sa_gb_A, sa_us, sa_un, sa_vs, sa_vn, pk_cpy_out]
  · simp -implicitDefEqProofs (disch := omega) only [sa_gi_s, sa_gi_n, sa_gi_j, sa_gi_A, sa_gi_B, sa_gj_s, sa_gj_n, sa_gj_i, sa_gj_A, sa_gj_B, sa_ga_s, sa_ga_n, sa_ga_i, sa_ga_j, sa_ga_B, sa_gb_s, sa_gb_n, sa_gb_i, sa_gb_j, sa_gb_A, sa_us, sa_un, sa_vs, sa_vn, pk_cpy_out]
  · simp -implicitDefEqProofs (disch := omega) only [sa_gi_s, sa_gi_n, sa_gi_j, sa_gi_A, sa_gi_B, sa_gj_s, sa_gj_n, sa_gj_i, sa_gj_A, sa_gj_B, sa_ga_s, sa_ga_n, sa_ga_i, sa_ga_j, sa_ga_B, sa_gb_s, sa_gb_n, sa_gb_i, sa_gb_j, sa_gb_A, sa_us, sa_un, sa_vs, sa_vn, pk_cpy_out]
/-- the first hopeful one of d preferences from k on -/
def nxt (u : Nat → Int32) (f : Nat → Nat) : Nat → Nat → Option Nat
  | 0, _ => none
  | d + 1, k => if u (f k) = 0 then some (f k) else nxt u f d (k + 1)
def nB (B : bT) (u : Nat → Int32) (p : Nat) : Option Nat := nxt u (bF B p) (bE B p) 0
theorem nxt_lt {u : Nat → Int32} {f : Nat → Nat} : ∀ d k b, nxt u f d k = some b → u b = 0 ∧ ∃ j, j < k + d ∧ f j = b := by
  intro d
  induction d with
  | zero => intro k b h; cases h
  | succ d ih =>
    intro k b h
    rw [nxt] at h
    by_cases h0 : u (f k) = 0
    · rw [if_pos h0] at h
      simp only [Option.some.injEq] at h
      rw [← h]
      exact ⟨h0, k, by omega, rfl⟩
    · rw [if_neg h0] at h
      obtain ⟨q, j, hj, e⟩ := ih (k + 1) b h
      exact ⟨q, j, by omega, e⟩
theorem nB_lt {B : bT} {u : Nat → Int32} {p b : Nat} (hB : bOK B) (hp : p < bP B) (h : nB B u p = some b) : b < bN B ∧ u b = 0 := by
  obtain ⟨q, j, hj, e⟩ := nxt_lt _ _ _ h
  rw [← e]
  exact ⟨(hB.2.2 p hp).2.2.1 j (by omega), by rw [e]; exact q⟩
theorem nx_X {B : bT} {S : sc_M} {u : Nat → Int32} {p R : Nat} (hB : bOK B) (hX : bX B S) (hp : p < bP B) (e6 : sc_gi S 6 = nI R) (hR : R + 12 ≤ 864) (hu : ∀ c, c < bN B → sc_ga S 20 (R + c) = u c) : ∀ (d k f : Nat), k + d = bE B p → d < f → fn_X3_nextOf_3 f S (nI p) (nI k) = some (oX (nxt u (bF B p) d k), S) := by
  obtain ⟨-, ⟨hE1, hE2⟩, hF, -⟩ := hB.2.2 p hp
  obtain ⟨-, x7, x8, -⟩ := hX.2.2.2.2 p hp
  have hp80 : p < 80 := by have := hB.1.2.2; omega
  intro d
  induction d with
  | zero =>
    intro k f hk hf
    obtain ⟨f, rfl⟩ : ∃ f', f = f' + 1 := ⟨f - 1, by omega⟩
    rw [fn_X3_nextOf_3, sa_ck _ hp80 (by omega), sa_cl9 (by omega), x7, if_pos (nI_le (by omega) (by omega))]; rfl
  | succ d ih =>
    intro k f hk hf
    obtain ⟨f, rfl⟩ : ∃ f', f = f' + 1 := ⟨f - 1, by omega⟩
    rw [fn_X3_nextOf_3, sa_ck _ hp80 (by omega), sa_cl9 (by omega), x7, if_neg (nI_ge (by omega) (by omega)), sa_12x, sa_ck _ (by omega) (by omega), sa_sq, sa_cl9 (by omega), x8 k (by omega), isH_X e6 hR hB.1.2.1 (hF k (by omega)) hu, sa_cl, nxt, nI_1]
    by_cases h0 : u (bF B p k) = 0
    · rw [decide_eq_true h0, if_neg (show ¬ b2i true = 0 by decide), if_pos h0]; rfl
    · rw [decide_eq_false h0, if_pos (show b2i false = 0 from rfl), if_neg h0]
      exact ih (k + 1) f (by omega) (by omega)
theorem nx_M {B : bT} {S : sc_M} {u : Nat → Int32} {p : Nat} (hB : bOK B) (hM : bM B S) (hp : p < bP B) (hu : ∀ c, c < bN B → sc_ga S 22 c = u c) : ∀ (d k f : Nat), k + d = bE B p → d < f → fn_X5_next_2 f S (nI p) (nI k) = some (oM (nxt u (bF B p) d k), S) := by
  obtain ⟨-, ⟨hE1, hE2⟩, hF, -⟩ := hB.2.2 p hp
  obtain ⟨-, x4, x5⟩ := hM.2.2.2.2 p hp
  have hp80 : p < 80 := by have := hB.1.2.2; omega
  have hn := hB.1.2.1
  intro d
  induction d with
  | zero =>
    intro k f hk hf
    obtain ⟨f, rfl⟩ : ∃ f', f = f' + 1 := ⟨f - 1, by omega⟩
    rw [fn_X5_next_2, sa_ck _ hp80 (by omega), sa_cl9 (by omega), x4, if_pos (nI_le (by omega) (by omega))]; rfl
  | succ d ih =>
    intro k f hk hf
    obtain ⟨f, rfl⟩ : ∃ f', f = f' + 1 := ⟨f - 1, by omega⟩
    have hFk := hF k (by omega)
    rw [fn_X5_next_2, sa_ck _ hp80 (by omega), sa_cl9 (by omega), x4, if_neg (nI_ge (by omega) (by omega)), sa_12m, sa_ck _ (by omega) (by omega), sa_cl9 (by omega), x5 k (by omega), sa_ck _ (by omega) (by omega), sa_cl9 (by omega), hu _ hFk, nxt, nI_1]
    by_cases h0 : u (bF B p k) = 0
    · rw [if_pos h0, if_pos h0, sa_ck _ (by omega) (by omega)]; rfl
    · rw [if_neg h0, if_neg h0]
      exact ih (k + 1) f (by omega) (by omega)
theorem nxX_r {B : bT} {S : sc_M} {u : Nat → Int32} {p R : Nat} (hB : bOK B) (hX : bX B S) (hp : p < bP B) (e6 : sc_gi S 6 = nI R) (hR : R + 12 ≤ 864) (hu : ∀ c, c < bN B → sc_ga S 20 (R + c) = u c) : fn_X3_nextOf S (nI p) = some (oX (nB B u p), S) :=
  nx_X hB hX hp e6 hR hu (bE B p) 0 sc_FU (Nat.zero_add _) (by have := (hB.2.2 p hp).2.1.2; rw [sa_FU]; omega)
theorem nxM_r {B : bT} {S : sc_M} {u : Nat → Int32} {p : Nat} (hB : bOK B) (hM : bM B S) (hp : p < bP B) (hu : ∀ c, c < bN B → sc_ga S 22 c = u c) : fn_X5_next S (nI p) = some (oM (nB B u p), S) :=
  nx_M hB hM hp hu (bE B p) 0 sc_FU (Nat.zero_add _) (by have := (hB.2.2 p hp).2.1.2; rw [sa_FU]; omega)
