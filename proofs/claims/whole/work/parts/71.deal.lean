/-! ===== what the piles bound; the first stage; one goes out ===== -/
theorem sB_congr {P Q : Nat → Bool} {q : Nat → Nat} : ∀ n, (∀ k, k < n → P k = Q k) → sB P q n = sB Q q n := by
  intro n
  induction n with
  | zero => intro _; rfl
  | succ n ih => intro h; rw [sB, sB, ih (fun k hk => h k (by omega)), h n (by omega)]
theorem sB_add {P Q : Nat → Bool} {q : Nat → Nat} {x : Nat} : ∀ n, x < n → P x = false → Q x = true → (∀ k, k < n → k ≠ x → P k = Q k) → sB Q q n = sB P q n + q x := by
  intro n
  induction n with
  | zero => intro h; omega
  | succ n ih =>
    intro hx hP hQ h
    rw [sB, sB]
    by_cases hxn : x = n
    · rw [← hxn, hP, hQ, if_pos rfl, if_neg (by decide), hxn, sB_congr n (fun k hk => (h k (by omega) (by omega)).symm), Nat.add_zero]
    · rw [ih (by omega) hP hQ (fun k hk => h k (by omega)), h n (by omega) (by omega)]
      omega
def ppB (B : bT) (pl : Nat → Option Nat) (c : Nat) : Nat := sB (fun p => decide (pl p = some c)) (bQ B) (bP B)
def pI (B : bT) (q c0 : Nat) (u : Nat → Int32) (v : Nat → Nat) (pl : Nat → Option Nat) : Prop := ∀ c, c < bN B → c ≠ c0 → (u c = 0 ∨ q < v c) → v c ≤ 100000 * ppB B pl c
theorem ppB_le {B : bT} (hB : bOK B) (pl : Nat → Option Nat) (c : Nat) : ppB B pl c ≤ 40000 := by
  have h := sB_le (fun p => decide (pl p = some c)) (bQ B) 500 (bP B) (fun k hk => (hB.2.2 k hk).1.2)
  have := hB.1.2.2
  unfold ppB
  omega
theorem pI_send {B : bT} {q c0 p val : Nat} {u : Nat → Int32} {v : Nat → Nat} {pl : Nat → Option Nat} (hB : bOK B) (hp : p < bP B) (hval : val ≤ 100000) (hpl : pl p = none ∨ pl p = some c0) (h : pI B q c0 u v pl) : pI B q c0 u (vS B u v p val) (uN pl p (nB B u p)) := by
  intro c hc hc0 hor
  have hne : ¬ pl p = some c := by
    rcases hpl with e | e
    · rw [e]; simp
    · rw [e]; simp only [Option.some.injEq]; omega
  by_cases hb : nB B u p = some c
  · have hu := (nB_lt hB hp hb).2
    have h1 := h c hc hc0 (Or.inl hu)
    have h2 : ppB B (uN pl p (nB B u p)) c = ppB B pl c + bQ B p := by
      refine sB_add (bP B) hp ?_ ?_ (fun k hk hkp => ?_)
      · simp [hne]
      · rw [uN_s]; simp [hb]
      · rw [uN_n _ _ _ _ hkp]
    have h3 : bQ B p * val ≤ bQ B p * 100000 := Nat.mul_le_mul (Nat.le_refl _) hval
    rw [vS, if_pos hb, h2]
    omega
  · have h2 : ppB B (uN pl p (nB B u p)) c = ppB B pl c := by
      refine sB_congr (bP B) (fun k hk => ?_)
      by_cases hkp : k = p
      · rw [hkp, uN_s, decide_eq_false hb, decide_eq_false hne]
      · rw [uN_n _ _ _ _ hkp]
    rw [vS, if_neg hb] at hor ⊢
    rw [h2]
    exact h c hc hc0 hor
theorem vS_same {B : bT} {p val c : Nat} {u : Nat → Int32} {v : Nat → Nat} (hB : bOK B) (hp : p < bP B) (hu : u c ≠ 0) : vS B u v p val c = v c := by
  rw [vS, if_neg]
  intro hb
  exact hu (nB_lt hB hp hb).2
theorem ite_pq {α : Type} {P Q : Prop} [Decidable P] [Decidable Q] (h : P = Q) {a b : α} : (if P then a else b) = if Q then a else b := by
  by_cases hq : Q
  · rw [if_pos hq, if_pos (h ▸ hq)]
  · rw [if_neg hq, if_neg (h ▸ hq)]
theorem oX_eq {o : Option Nat} {c : Nat} (hc : c < 100000) (ho : ∀ d, o = some d → d < 100000) : (oX o = nI c) = (o = some c) := by
  cases o with
  | none => simp only [reduceCtorEq, eq_iff_iff, iff_false]; exact fun h => n_ne9 hc h.symm
  | some d => rw [show oX (some d) = nI d from rfl, sa_eq (ho d rfl) hc, Option.some.injEq]
theorem oM_eq {o : Option Nat} {c : Nat} (hc : c < 100000) (ho : ∀ d, o = some d → d < 100000) : (oM o = nI c) = (o = some c) := by
  cases o with
  | none =>
    simp only [reduceCtorEq, eq_iff_iff, iff_false]
    intro h
    have h1 := n_nlt0 hc
    rw [← h] at h1
    exact h1 (by decide)
  | some d => rw [show oM (some d) = nI d from rfl, sa_eq (ho d rfl) hc, Option.some.injEq]
theorem pR_lt {B : bT} {t p : Nat} {pl : Nat → Option Nat} {vl cm : Nat → Nat} {SX SM : sc_M} (hB : bOK B) (h : pR B t pl vl cm SX SM p) : ∀ d, pl p = some d → d < 100000 := by
  intro d hd
  have := (h.2.2.2 d hd).1
  have := hB.1.2.1
  omega
theorem deal_both {B : bT} {u : Nat → Int32} {q : Nat} (hB : bOK B) : ∀ (d x fX fM : Nat) (v : Nat → Nat) (pl : Nat → Option Nat) (vl cm : Nat → Nat) (SX SM : sc_M), x + d = bP B → d < fX → d < fM → wR B 0 x u v pl vl cm SX SM → (∀ k, x ≤ k → pl k = none) → pI B q (bN B) u v pl →
    ∃ (v' : Nat → Nat) (pl' : Nat → Option Nat) (vl' cm' : Nat → Nat) (SX' SM' : sc_M), fn_X3_dealFirst_2 fX SX (nI x) = some SX' ∧ fn_X5_countByPiles_24 fM SM (nI x) = sc_cl (fn_X5_ends SM') (fun r75 S75 => sc_cv (fn_X5_record S75 (0 : Int32) (-9 : Int32) (0 : Int64)) (fun S83 => fn_X5_countByPiles_86 sc_FU S83 r75)) ∧ wR B 0 (bP B) u v' pl' vl' cm' SX' SM' ∧ pI B q (bN B) u v' pl' ∧ sFr 0 SX SM SX' SM' := by
  intro d
  induction d with
  | zero =>
    intro x fX fM v pl vl cm SX SM hx hfX hfM h hn hI
    obtain ⟨fX, rfl⟩ : ∃ f', fX = f' + 1 := ⟨fX - 1, by omega⟩
    obtain ⟨fM, rfl⟩ : ∃ f', fM = f' + 1 := ⟨fM - 1, by omega⟩
    obtain rfl : x = bP B := by omega
    have hnp := hB.1.2.2
    refine ⟨v, pl, vl, cm, SX, SM, ?_, ?_, h, hI, sFr_rfl _ _ _⟩
    · rw [fn_X3_dealFirst_2, h.2.1.2.2.1, if_pos (nI_le (by omega) (by omega))]
    · rw [fn_X5_countByPiles_24, h.1.2.2.1, if_pos (nI_le (by omega) (by omega))]
  | succ d ih =>
    intro x fX fM v pl vl cm SX SM hx hfX hfM h hn hI
    obtain ⟨fX, rfl⟩ : ∃ f', fX = f' + 1 := ⟨fX - 1, by omega⟩
    obtain ⟨fM, rfl⟩ : ∃ f', fM = f' + 1 := ⟨fM - 1, by omega⟩
    have hnp := hB.1.2.2
    have hxp : x < bP B := by omega
    obtain ⟨⟨hX, hM⟩, ⟨e5, e6, e8, e9, m6⟩, hu, hv, hid, hpp⟩ := h
    have hw : wR B 0 (x + 1) u v pl vl cm (sc_mA (sc_mA SX 22 (upd (sc_ga SX 22) x (-9))) 23 (upd (sc_ga SX 23) x 0)) (sc_mB (sc_mA SM 24 (upd (sc_ga SM 24) x (-1))) 25 (vp_updL (sc_gb SM 25) x 0)) := by
      refine ⟨⟨?_, ?_⟩, ⟨e5, e6, e8, e9, m6⟩, fun c hc => ⟨?_, ?_⟩, fun c hc => ⟨?_, ?_⟩, ?_, fun k hk => ?_⟩
      · exact bX_f (fun k hk => by simp -implicitDefEqProofs (disch := omega) only [sa_gi_s, sa_gi_n, sa_gi_j, sa_gi_A, sa_gi_B, sa_gj_s, sa_gj_n, sa_gj_i, sa_gj_A, sa_gj_B, sa_ga_s, sa_ga_n, sa_ga_i, sa_ga_j, sa_ga_B, sa_gb_s, sa_gb_n, sa_gb_i, sa_gb_j, sa_gb_A, sa_us, sa_un, sa_vs, sa_vn]) (fun k hk => by simp -implicitDefEqProofs (disch := omega) only [sa_gi_s, sa_gi_n, sa_gi_j, sa_gi_A, sa_gi_B, sa_gj_s, sa_gj_n, sa_gj_i, sa_gj_A, sa_gj_B, sa_ga_s, sa_ga_n, sa_ga_i, sa_ga_j, sa_ga_B, sa_gb_s, sa_gb_n, sa_gb_i, sa_gb_j, sa_gb_A, sa_us, sa_un, sa_vs, sa_vn]) hX
      · exact bM_f (fun k hk => by simp -implicitDefEqProofs (disch := omega) only [sa_gi_s, sa_gi_n, sa_gi_j, sa_gi_A, sa_gi_B, sa_gj_s, sa_gj_n, sa_gj_i, sa_gj_A, sa_gj_B, sa_ga_s, sa_ga_n, sa_ga_i, sa_ga_j, sa_ga_B, sa_gb_s, sa_gb_n, sa_gb_i, sa_gb_j, sa_gb_A, sa_us, sa_un, sa_vs, sa_vn]) (fun k hk => by simp -implicitDefEqProofs (disch := omega) only [sa_gi_s, sa_gi_n, sa_gi_j, sa_gi_A, sa_gi_B, sa_gj_s, sa_gj_n, sa_gj_i, sa_gj_A, sa_gj_B, sa_ga_s, sa_ga_n, sa_ga_i, sa_ga_j, sa_ga_B, sa_gb_s, sa_gb_n, sa_gb_i, sa_gb_j, sa_gb_A, sa_us, sa_un, sa_vs, sa_vn]) hM
      · simp -implicitDefEqProofs (disch := omega) only [sa_gi_s, sa_gi_n, sa_gi_j, sa_gi_A, sa_gi_B, sa_gj_s, sa_gj_n, sa_gj_i, sa_gj_A, sa_gj_B, sa_ga_s, sa_ga_n, sa_ga_i, sa_ga_j, sa_ga_B, sa_gb_s, sa_gb_n, sa_gb_i, sa_gb_j, sa_gb_A, sa_us, sa_un, sa_vs, sa_vn]; exact (hu c hc).1
      · simp -implicitDefEqProofs (disch := omega) only [sa_gi_s, sa_gi_n, sa_gi_j, sa_gi_A, sa_gi_B, sa_gj_s, sa_gj_n, sa_gj_i, sa_gj_A, sa_gj_B, sa_ga_s, sa_ga_n, sa_ga_i, sa_ga_j, sa_ga_B, sa_gb_s, sa_gb_n, sa_gb_i, sa_gb_j, sa_gb_A, sa_us, sa_un, sa_vs, sa_vn]; exact (hu c hc).2
      · simp -implicitDefEqProofs (disch := omega) only [sa_gi_s, sa_gi_n, sa_gi_j, sa_gi_A, sa_gi_B, sa_gj_s, sa_gj_n, sa_gj_i, sa_gj_A, sa_gj_B, sa_ga_s, sa_ga_n, sa_ga_i, sa_ga_j, sa_ga_B, sa_gb_s, sa_gb_n, sa_gb_i, sa_gb_j, sa_gb_A, sa_us, sa_un, sa_vs, sa_vn]; exact (hv c hc).1
      · simp -implicitDefEqProofs (disch := omega) only [sa_gi_s, sa_gi_n, sa_gi_j, sa_gi_A, sa_gi_B, sa_gj_s, sa_gj_n, sa_gj_i, sa_gj_A, sa_gj_B, sa_ga_s, sa_ga_n, sa_ga_i, sa_ga_j, sa_ga_B, sa_gb_s, sa_gb_n, sa_gb_i, sa_gb_j, sa_gb_A, sa_us, sa_un, sa_vs, sa_vn]; exact (hv c hc).2
      · simp -implicitDefEqProofs (disch := omega) only [sa_gi_s, sa_gi_n, sa_gi_j, sa_gi_A, sa_gi_B, sa_gj_s, sa_gj_n, sa_gj_i, sa_gj_A, sa_gj_B, sa_ga_s, sa_ga_n, sa_ga_i, sa_ga_j, sa_ga_B, sa_gb_s, sa_gb_n, sa_gb_i, sa_gb_j, sa_gb_A, sa_us, sa_un, sa_vs, sa_vn]; exact hid
      · unfold pR
        by_cases hkx : k = x
        · rw [hkx, hn x (Nat.le_refl _)]
          simp -implicitDefEqProofs (disch := omega) only [Nat.mul_zero, Nat.zero_add, sa_gi_s, sa_gi_n, sa_gi_j, sa_gi_A, sa_gi_B, sa_gj_s, sa_gj_n, sa_gj_i, sa_gj_A, sa_gj_B, sa_ga_s, sa_ga_n, sa_ga_i, sa_ga_j, sa_ga_B, sa_gb_s, sa_gb_n, sa_gb_i, sa_gb_j, sa_gb_A, sa_us, sa_un, sa_vs, sa_vn]
          exact ⟨rfl, rfl, fun _ => trivial, fun d hd => by cases hd⟩
        · have := hpp k (by omega)
          unfold pR at this
          simp -implicitDefEqProofs (disch := omega) only [Nat.mul_zero, Nat.zero_add, sa_gi_s, sa_gi_n, sa_gi_j, sa_gi_A, sa_gi_B, sa_gj_s, sa_gj_n, sa_gj_i, sa_gj_A, sa_gj_B, sa_ga_s, sa_ga_n, sa_ga_i, sa_ga_j, sa_ga_B, sa_gb_s, sa_gb_n, sa_gb_i, sa_gb_j, sa_gb_A, sa_us, sa_un, sa_vs, sa_vn] at this ⊢
          exact this
    have hf : sFr 0 SX SM (sc_mA (sc_mA SX 22 (upd (sc_ga SX 22) x (-9))) 23 (upd (sc_ga SX 23) x 0)) (sc_mB (sc_mA SM 24 (upd (sc_ga SM 24) x (-1))) 25 (vp_updL (sc_gb SM 25) x 0)) := by
      refine ⟨⟨fun k => ?_, fun k hk => ?_, fun k k1 k2 => ?_, fun j hj => ?_, fun j hj => ?_, fun j hj => ?_⟩, fun k => ?_, fun k k1 => ?_, fun k k1 k2 => ?_, fun k k1 k2 => ?_⟩
      · simp -implicitDefEqProofs (disch := omega) only [sa_gi_s, sa_gi_n, sa_gi_j, sa_gi_A, sa_gi_B, sa_gj_s, sa_gj_n, sa_gj_i, sa_gj_A, sa_gj_B, sa_ga_s, sa_ga_n, sa_ga_i, sa_ga_j, sa_ga_B, sa_gb_s, sa_gb_n, sa_gb_i, sa_gb_j, sa_gb_A, sa_us, sa_un, sa_vs, sa_vn]
      · simp -implicitDefEqProofs (disch := omega) only [sa_gi_s, sa_gi_n, sa_gi_j, sa_gi_A, sa_gi_B, sa_gj_s, sa_gj_n, sa_gj_i, sa_gj_A, sa_gj_B, sa_ga_s, sa_ga_n, sa_ga_i, sa_ga_j, sa_ga_B, sa_gb_s, sa_gb_n, sa_gb_i, sa_gb_j, sa_gb_A, sa_us, sa_un, sa_vs, sa_vn]
      · simp -implicitDefEqProofs (disch := omega) only [sa_gi_s, sa_gi_n, sa_gi_j, sa_gi_A, sa_gi_B, sa_gj_s, sa_gj_n, sa_gj_i, sa_gj_A, sa_gj_B, sa_ga_s, sa_ga_n, sa_ga_i, sa_ga_j, sa_ga_B, sa_gb_s, sa_gb_n, sa_gb_i, sa_gb_j, sa_gb_A, sa_us, sa_un, sa_vs, sa_vn]
      · omega
      · omega
      · omega
      · simp -implicitDefEqProofs (disch := omega) only [sa_gi_s, sa_gi_n, sa_gi_j, sa_gi_A, sa_gi_B, sa_gj_s, sa_gj_n, sa_gj_i, sa_gj_A, sa_gj_B, sa_ga_s, sa_ga_n, sa_ga_i, sa_ga_j, sa_ga_B, sa_gb_s, sa_gb_n, sa_gb_i, sa_gb_j, sa_gb_A, sa_us, sa_un, sa_vs, sa_vn]
      · simp -implicitDefEqProofs (disch := omega) only [sa_gi_s, sa_gi_n, sa_gi_j, sa_gi_A, sa_gi_B, sa_gj_s, sa_gj_n, sa_gj_i, sa_gj_A, sa_gj_B, sa_ga_s, sa_ga_n, sa_ga_i, sa_ga_j, sa_ga_B, sa_gb_s, sa_gb_n, sa_gb_i, sa_gb_j, sa_gb_A, sa_us, sa_un, sa_vs, sa_vn]
      · simp -implicitDefEqProofs (disch := omega) only [sa_gi_s, sa_gi_n, sa_gi_j, sa_gi_A, sa_gi_B, sa_gj_s, sa_gj_n, sa_gj_i, sa_gj_A, sa_gj_B, sa_ga_s, sa_ga_n, sa_ga_i, sa_ga_j, sa_ga_B, sa_gb_s, sa_gb_n, sa_gb_i, sa_gb_j, sa_gb_A, sa_us, sa_un, sa_vs, sa_vn]
      · simp -implicitDefEqProofs (disch := omega) only [sa_gi_s, sa_gi_n, sa_gi_j, sa_gi_A, sa_gi_B, sa_gj_s, sa_gj_n, sa_gj_i, sa_gj_A, sa_gj_B, sa_ga_s, sa_ga_n, sa_ga_i, sa_ga_j, sa_ga_B, sa_gb_s, sa_gb_n, sa_gb_i, sa_gb_j, sa_gb_A, sa_us, sa_un, sa_vs, sa_vn]
    have vX := iv_Xr hB hw.1.1 hxp
    have vM := iv_Mr hB hw.1.2 hxp
    rw [fn_X3_dealFirst_2, e8, if_neg (nI_ge (by omega) (by omega)), fn_X5_countByPiles_24, hM.2.1, if_neg (nI_ge (by omega) (by omega))]
    simp -implicitDefEqProofs (disch := omega) only [sa_ck, sa_sq, sa_cl9, sa_ga_n, sa_gb_A]
    rw [vX, vM, sa_cl, sa_cl, nI_1]
    by_cases hval : vB B x = true
    · rw [hval, if_neg (show ¬ b2i true = 0 by decide), if_neg (show ¬ b2i true = 0 by decide), show (100000 : Int64) = lN 100000 from rfl]
      obtain ⟨rM, SX1, SM1, s1, s2, s3, s4, s5⟩ := send_both (p := x) (val := 100000) hB (by omega) (by omega) hxp (Nat.le_refl _) hw
      obtain ⟨v', pl', vl', cm', SX', SM', r1, r2, r3, r4, r5⟩ := ih (x + 1) fX fM _ _ _ _ SX1 SM1 (by omega) (by omega) (by omega) s3 (fun k hk => by rw [uN_n _ _ _ _ (by omega)]; exact hn k (by omega)) (pI_send hB hxp (Nat.le_refl _) (Or.inl (hn x (Nat.le_refl _))) hI)
      refine ⟨v', pl', vl', cm', SX', SM', ?_, ?_, r3, r4, sFr_trans (sFr_trans hf s5) r5⟩
      · rw [s1, sa_cl]; exact r1
      · rw [s2, sa_cl]; exact r2
    · have hval' : vB B x = false := by simpa using hval
      rw [hval', if_pos (show b2i false = 0 from rfl), if_pos (show b2i false = 0 from rfl)]
      obtain ⟨v', pl', vl', cm', SX', SM', r1, r2, r3, r4, r5⟩ := ih (x + 1) fX fM v pl vl cm _ _ (by omega) (by omega) (by omega) hw (fun k hk => hn k (by omega)) hI
      exact ⟨v', pl', vl', cm', SX', SM', r1, r2, r3, r4, sFr_trans hf r5⟩
theorem out_both {B : bT} {u : Nat → Int32} {q c0 t : Nat} (hB : bOK B) (ht : t < 13) (hc0 : c0 < bN B) : ∀ (d x fX fM : Nat) (v : Nat → Nat) (pl : Nat → Option Nat) (vl cm : Nat → Nat) (SX SM : sc_M), x + d = bP B → d < fX → d < fM → wR B t (bP B) u v pl vl cm SX SM → pI B q c0 u v pl →
    ∃ (v' : Nat → Nat) (pl' : Nat → Option Nat) (vl' cm' : Nat → Nat) (SX' SM' : sc_M), fn_X3_putOut_15 fX SX (nI c0) (nI x) = some (sc_mB SX' 19 (vp_updL (sc_gb SX' 19) (12 * t + c0) 0)) ∧ fn_X5_goesOut_9 fM SM (nI c0) (nI x) = some (sc_mB SM' 21 (vp_updL (sc_gb SM' 21) c0 0)) ∧ wR B t (bP B) u v' pl' vl' cm' SX' SM' ∧ pI B q c0 u v' pl' ∧ sFr t SX SM SX' SM' ∧ (∀ c, u c ≠ 0 → v' c = v c) := by
  intro d
  have hn := hB.1.2.1
  have hnp := hB.1.2.2
  induction d with
  | zero =>
    intro x fX fM v pl vl cm SX SM hx hfX hfM h hI
    obtain ⟨fX, rfl⟩ : ∃ f', fX = f' + 1 := ⟨fX - 1, by omega⟩
    obtain ⟨fM, rfl⟩ : ∃ f', fM = f' + 1 := ⟨fM - 1, by omega⟩
    obtain rfl : x = bP B := by omega
    refine ⟨v, pl, vl, cm, SX, SM, ?_, ?_, h, hI, sFr_rfl _ _ _, fun _ _ => rfl⟩
    · rw [fn_X3_putOut_15, h.2.1.2.2.1, if_pos (nI_le (by omega) (by omega)), h.2.1.2.1, nI_add, sa_ck _ (by omega) (by omega), sa_sq, sa_cl9 (by omega)]
    · rw [fn_X5_goesOut_9, h.1.2.2.1, if_pos (nI_le (by omega) (by omega)), sa_ck _ (by omega) (by omega), sa_sq, sa_cl9 (by omega)]
  | succ d ih =>
    intro x fX fM v pl vl cm SX SM hx hfX hfM h hI
    obtain ⟨fX, rfl⟩ : ∃ f', fX = f' + 1 := ⟨fX - 1, by omega⟩
    obtain ⟨fM, rfl⟩ : ∃ f', fM = f' + 1 := ⟨fM - 1, by omega⟩
    have hxp : x < bP B := by omega
    have hpx := h.2.2.2.2.2 x hxp
    have hlt := pR_lt hB hpx
    rw [fn_X3_putOut_15, h.2.1.2.2.1, if_neg (nI_ge (by omega) (by omega)), fn_X5_goesOut_9, h.1.2.2.1, if_neg (nI_ge (by omega) (by omega)), h.2.1.2.2.2.1, nI_add, sa_ck _ (by omega) (by omega), sa_ck _ (by omega) (by omega), sa_ck _ (by omega) (by omega), sa_ck _ (by omega) (by omega), sa_cl9 (by omega), sa_cl9 (by omega), hpx.1, hpx.2.1, ite_pq (oX_eq (by omega) hlt), ite_pq (oM_eq (by omega) hlt), nI_1]
    by_cases hpl : pl x = some c0
    · obtain ⟨_, q2, _, q4, q5, _, _⟩ := hpx.2.2.2 c0 hpl
      rw [if_pos hpl, if_pos hpl, q4, q5, nI_l (by omega)]
      obtain ⟨rM, SX1, SM1, s1, s2, s3, s4, s5⟩ := send_both (p := x) (val := vl x) hB ht (Nat.le_refl _) hxp q2 h
      obtain ⟨v', pl', vl', cm', SX', SM', r1, r2, r3, r4, r5, r6⟩ := ih (x + 1) fX fM _ _ _ _ SX1 SM1 (by omega) (by omega) (by omega) s3 (pI_send hB hxp q2 (Or.inr hpl) hI)
      refine ⟨v', pl', vl', cm', SX', SM', ?_, ?_, r3, r4, sFr_trans s5 r5, fun c hc => by rw [r6 c hc, vS_same hB hxp hc]⟩
      · rw [s1, sa_cl]; exact r1
      · rw [s2, sa_cl]; exact r2
    · rw [if_neg hpl, if_neg hpl]
      exact ih (x + 1) fX fM v pl vl cm SX SM (by omega) (by omega) (by omega) h hI
