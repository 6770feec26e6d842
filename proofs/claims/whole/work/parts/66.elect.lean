/-! ===== electFrom and electAll in step ===== -/
abbrev hpN (u : Nat → Int32) (n : Nat) : Nat := cnP (fun c => decide (u c = 0)) n
theorem mostX_r {S : sc_M} {n R : Nat} {u : Nat → Int32} {v : Nat → Int64} {mr : Nat → Nat → Bool} {s : Int32} {ls : Int64} (hn : n ≤ 12) (e4 : sc_gi S 4 = nI n) (e6 : sc_gi S 6 = nI R) (hR : R + 12 ≤ 864) (hu : ∀ c, c < n → sc_ga S 20 (R + c) = u c) (hv : ∀ c, c < n → sc_gb S 19 (R + c) = v c) (hmr : ∀ a b, a < n → b < n → fn_X1_hasMore S (nI a) (nI b) = some (b2i (mr a b), S)) : fn_X1_most S s ls = some (oX (pick (fun c => decide (u c = s) && !decide (v c < ls)) mr n), S) :=
  most_X hn e4 e6 hR hu hv hmr n 0 sc_FU (Nat.zero_add n) (by rw [sa_FU]; omega)
theorem mostM_r {S : sc_M} {n : Nat} {u : Nat → Int32} {v : Nat → Int64} {mr : Nat → Nat → Bool} {s : Int32} {ls : Int64} (hn : n ≤ 12) (e0 : sc_gi S 0 = nI n) (hu : ∀ c, c < n → sc_ga S 22 c = u c) (hv : ∀ c, c < n → sc_gb S 21 c = v c) (hmr : ∀ a b, a < n → b < n → fn_X5_hasMore S (nI a) (nI b) = some (b2i (mr a b), S)) : fn_X5_most S s ls = some (oM (pick (fun c => decide (u c = s) && !decide (v c < ls)) mr n), S) :=
  most_M hn e0 hu hv hmr n 0 sc_FU (Nat.zero_add n) (by rw [sa_FU]; omega)
theorem hp_drop {u : Nat → Int32} {n b : Nat} (hb : b < n) (h0 : u b = 0) {x : Int32} (hx : x ≠ 0) : hpN (upd u b x) n + 1 ≤ hpN u n := by
  refine cnP_lt (b := b) n (fun c hc hp => ?_) hb ?_ ?_
  · by_cases hcb : c = b
    · rw [hcb]; simp [h0]
    · rw [sa_un _ _ _ _ hcb] at hp; exact hp
  · rw [sa_us]; simp [hx]
  · simp [h0]
theorem el_both {n t : Nat} {v : Nat → Int64} {mr : Nat → Nat → Bool} {ls : Int64} {SX0 SM0 : sc_M} (hn : n ≤ 12) (ht : t < 72)
    (HX : ∀ S, eXf t SX0 S → ∀ a b, a < n → b < n → fn_X1_hasMore S (nI a) (nI b) = some (b2i (mr a b), S))
    (HM : ∀ S, eMf SM0 S → ∀ a b, a < n → b < n → fn_X5_hasMore S (nI a) (nI b) = some (b2i (mr a b), S)) :
    ∀ (d fX fM el : Nat) (u : Nat → Int32) (SX SM : sc_M), hpN u n < d → d ≤ fX → d ≤ fM → el + hpN u n ≤ n → eR n t el u v SX SM → eXf t SX0 SX → eMf SM0 SM →
    ∃ (u' : Nat → Int32) (el' : Nat) (SX' SM' : sc_M), fn_X1_electFrom_5 fX SX ls (nI el) = some SX' ∧ sc_cl (fn_X5_most SM 0 ls) (fun r S => fn_X5_electAll_7 fM S ls r) = some SM' ∧ eR n t el' u' v SX' SM' ∧ eXf t SX0 SX' ∧ eMf SM0 SM' ∧ el' + hpN u' n ≤ el + hpN u n ∧ (∀ c, c < n → u' c = u c ∨ (u c = 0 ∧ u' c = 1)) ∧ (∀ c, c < n → u' c = 0 → v c < ls) ∧ el ≤ el' := by
  intro d
  induction d with
  | zero => intro fX fM el u SX SM hd; omega
  | succ d ih =>
    intro fX fM el u SX SM hd hfX hfM hel h hX hM
    obtain ⟨fX, rfl⟩ : ∃ f', fX = f' + 1 := ⟨fX - 1, by omega⟩
    obtain ⟨fM, rfl⟩ : ∃ f', fM = f' + 1 := ⟨fM - 1, by omega⟩
    obtain ⟨⟨h1, h2, h3, h4, h5⟩, hu, hv, ho⟩ := id h
    have pX := mostX_r (s := 0) (ls := ls) hn h1 h2 (by omega) (fun c hc => (hu c hc).1) (fun c hc => (hv c hc).1) (HX SX hX)
    have pM := mostM_r (s := 0) (ls := ls) hn h4 (fun c hc => (hu c hc).2) (fun c hc => (hv c hc).2) (HM SM hM)
    rw [fn_X1_electFrom_5, h1, pX, pM, sa_cl, sa_cl]
    cases hp : pick (fun c => decide (u c = 0) && !decide (v c < ls)) mr n with
    | none =>
      refine ⟨u, el, SX, SM, ?_, ?_, h, hX, hM, Nat.le_refl _, fun c _ => Or.inl rfl, fun c hc hc0 => ?_, Nat.le_refl _⟩
      · by_cases hq : nI n ≤ nI el
        · rw [if_pos hq]
        · rw [if_neg hq, if_pos (show oX none = -9 from rfl)]
      · rw [fn_X5_electAll_7, if_pos (by decide)]
      · have := pick_none _ _ _ hp c hc
        by_cases hlt : v c < ls
        · exact hlt
        · simp [hc0, hlt] at this
    | some b =>
      obtain ⟨hb, hfit⟩ := pick_lt _ _ _ _ hp
      have hub : u b = 0 := by
        simp only [Bool.and_eq_true, decide_eq_true_eq] at hfit
        exact hfit.1
      have hpos : 0 < hpN u n := cnP_pos hb (by simp [hub])
      have hdrop : hpN (upd u b 1) n + 1 ≤ hpN u n := hp_drop hb hub (by decide)
      obtain ⟨s1, s2, s3⟩ := el_step (b := b) hn ht hb (by omega) h hX hM
      obtain ⟨u', el', SX', SM', r1, r2, r3, r4, r5, r6, r7, r8, r9⟩ := ih fX fM (el + 1) (upd u b 1) _ _ (by omega) (by omega) (by omega) (by omega) s1 s2 s3
      refine ⟨u', el', SX', SM', ?_, ?_, r3, r4, r5, by omega, fun c hc => ?_, r8, by omega⟩
      · rw [if_neg (nI_ge (by omega) (by omega)), if_neg (show ¬ oX (some b) = -9 from n_ne9 (by omega)), show oX (some b) = nI b from rfl]
        simp (disch := omega) only [h2, nI_add, sa_ck, sa_sq, sa_cl9, sa_ga_n, nI_1]
        exact r1
      · rw [show oM (some b) = nI b from rfl, fn_X5_electAll_7, if_neg (n_nlt0 (by omega))]
        simp (disch := omega) only [sa_ck, sa_sq, sa_cl9, sa_ga_n, sa_gi_A, h5, nI_1]
        exact r2
      · rcases r7 c hc with e | ⟨e1, e2⟩
        · by_cases hcb : c = b
          · right
            rw [hcb] at e ⊢
            rw [sa_us] at e
            exact ⟨hub, e⟩
          · left
            rw [e, sa_un _ _ _ _ hcb]
        · by_cases hcb : c = b
          · rw [hcb, sa_us] at e1
            exact absurd e1 (by decide)
          · rw [sa_un _ _ _ _ hcb] at e1
            exact Or.inr ⟨e1, e2⟩
theorem nI_addlt {a b s : Nat} (h1 : a + b < 100000) (h2 : s < 100000) : (nI s < nI a + nI b) = (s < a + b) := by rw [nI_add]; exact propext (nI_ltI (by omega) (by omega))
