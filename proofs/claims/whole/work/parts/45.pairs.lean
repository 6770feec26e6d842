/-! ===== two by two ===== -/
def rB (B : bT) (p c : Nat) : Nat := rkF (bF B p) c (bE B p)
def pB (B : bT) (a b : Nat) : Nat := sB (fun p => decide (rB B p a < rB B p b)) (bQ B) (bP B)
theorem rkF_le (f : Nat → Nat) (c : Nat) : ∀ n, n ≤ 12 → rkF f c n ≤ 12 := by
  intro n
  induction n with
  | zero => intro _; exact Nat.le_refl _
  | succ n ih =>
    intro h
    simp only [rkF]
    split
    · omega
    · exact ih (by omega)
theorem rB_le {B : bT} (hB : bOK B) {p : Nat} (hp : p < bP B) (c : Nat) : rB B p c ≤ 12 := rkF_le _ _ _ (hB.2.2 p hp).2.1.2
theorem pB_le {B : bT} (hB : bOK B) (a b : Nat) : pB B a b ≤ 40000 := by
  have := sB_le (fun p => decide (rB B p a < rB B p b)) (bQ B) 500 (bP B) (fun k hk => (hB.2.2 k hk).1.2)
  have h80 := hB.1.2.2
  unfold pB
  omega
theorem pf_X {B : bT} {S : sc_M} (hB : bOK B) (hX : bX B S) {a b : Nat} (ha : a < 12) (hb : b < 12) : ∀ (d x f : Nat), x + d = bP B → d < f → fn_X0_papersFor_5 f S (nI a) (nI b) (nI (sB (fun p => decide (rB B p a < rB B p b)) (bQ B) x)) (nI x) = some (nI (pB B a b), S) := by
  have hp80 := hB.1.2.2
  intro d
  induction d with
  | zero =>
    intro x f hx hf
    obtain ⟨g, rfl⟩ : ∃ g, f = g + 1 := ⟨f - 1, by omega⟩
    obtain rfl : x = bP B := by omega
    rw [fn_X0_papersFor_5, hX.2.1, if_pos (nI_le (by omega) (by omega)), pB]
  | succ d ih =>
    intro x f hx hf
    obtain ⟨g, rfl⟩ : ∃ g, f = g + 1 := ⟨f - 1, by omega⟩
    have ihk := ih (x + 1) g (by omega) (by omega)
    obtain ⟨x1, x2, x3, x4⟩ := hX.2.2.2.2 x (by omega)
    have r1 := rB_le hB (show x < bP B by omega) a
    have r2 := rB_le hB (show x < bP B by omega) b
    have y1 : sc_ga S 9 (12 * x + a) = nI (rB B x a) := x4 a ha
    have y2 : sc_ga S 9 (12 * x + b) = nI (rB B x b) := x4 b hb
    rw [fn_X0_papersFor_5, hX.2.1, if_neg (nI_ge (by omega) (by omega)), sa_sq, sa_12x, sa_12x, sa_ck _ (by omega) (by omega), sa_ck _ (by omega) (by omega), sa_cl9 (show 12 * x + a < 100000 by omega), sa_cl9 (show 12 * x + b < 100000 by omega), y1, y2, sa_ck _ (by omega) (by omega), sa_sq, sa_cl9 (show x < 100000 by omega), x1, nI_add, nI_1]
    simp only [sB] at ihk
    by_cases h : rB B x a < rB B x b
    · rw [if_neg (nI_ge h (by omega))]
      simp only [h, decide_true, if_true] at ihk
      exact ihk
    · rw [if_pos (nI_le (by omega) (by omega))]
      simp only [h, decide_false, if_false, Bool.false_eq_true, Nat.add_zero] at ihk
      exact ihk
theorem pf_Xr {B : bT} {S : sc_M} (hB : bOK B) (hX : bX B S) {a b : Nat} (ha : a < 12) (hb : b < 12) : fn_X0_papersFor S (nI a) (nI b) = some (nI (pB B a b), S) := by
  have hp80 := hB.1.2.2
  have := pf_X hB hX ha hb (bP B) 0 sc_FU (by omega) (by rw [sa_FU]; omega)
  rw [fn_X0_papersFor]; exact this
theorem rk_M {B : bT} {S : sc_M} (hB : bOK B) (hM : bM B S) {p c : Nat} (hp : p < bP B) (hc : c < 12) : ∀ (d k f : Nat), k + d = bE B p → d < f → fn_X5_rank_6 f S (nI p) (nI c) (nI (rkF (bF B p) c k)) (nI k) = some (nI (rB B p c), S) := by
  obtain ⟨_, ⟨l1, l2⟩, hf, _⟩ := hB.2.2 p hp
  obtain ⟨_, x2, x3⟩ := hM.2.2.2.2 p hp
  have hn12 := hB.1.2.1
  have hp80 := hB.1.2.2
  intro d
  induction d with
  | zero =>
    intro k f hk hf0
    obtain ⟨g, rfl⟩ : ∃ g, f = g + 1 := ⟨f - 1, by omega⟩
    obtain rfl : k = bE B p := by omega
    rw [fn_X5_rank_6, sa_ck _ (by omega) (by omega), sa_cl9 (by omega), x2, if_pos (nI_le (by omega) (by omega)), rB]
  | succ d ih =>
    intro k f hk hf0
    obtain ⟨g, rfl⟩ : ∃ g, f = g + 1 := ⟨f - 1, by omega⟩
    have hfk := hf k (by omega)
    have ihk := ih (k + 1) g (by omega) (by omega)
    rw [fn_X5_rank_6, sa_ck _ (by omega) (by omega), sa_cl9 (show p < 100000 by omega), x2, if_neg (nI_ge (by omega) (by omega)), sa_12m, sa_ck _ (by omega) (by omega), sa_cl9 (show 12 * p + k < 100000 by omega), x3 k (by omega), nI_1]
    rw [rkF] at ihk
    by_cases h : bF B p k = c
    · rw [if_pos (by rw [h])]; rw [if_pos h] at ihk; exact ihk
    · rw [if_neg (by rw [nI_eq (by omega) (by omega)]; exact h)]; rw [if_neg h] at ihk; exact ihk
theorem rk_Mr {B : bT} {S : sc_M} (hB : bOK B) (hM : bM B S) {p c : Nat} (hp : p < bP B) (hc : c < 12) : fn_X5_rank S (nI p) (nI c) = some (nI (rB B p c), S) := by
  have h12 := (hB.2.2 p hp).2.1.2
  have := rk_M hB hM hp hc (bE B p) 0 sc_FU (by omega) (by rw [sa_FU]; omega)
  rw [fn_X5_rank]; exact this
theorem pf_M {B : bT} {S : sc_M} (hB : bOK B) (hM : bM B S) {a b : Nat} (ha : a < 12) (hb : b < 12) : ∀ (d x f : Nat), x + d = bP B → d < f → fn_X5_preferring_5 f S (nI a) (nI b) (nI (sB (fun p => decide (rB B p a < rB B p b)) (bQ B) x)) (nI x) = some (nI (pB B a b), S) := by
  have hp80 := hB.1.2.2
  intro d
  induction d with
  | zero =>
    intro x f hx hf
    obtain ⟨g, rfl⟩ : ∃ g, f = g + 1 := ⟨f - 1, by omega⟩
    obtain rfl : x = bP B := by omega
    rw [fn_X5_preferring_5, hM.2.1, if_pos (nI_le (by omega) (by omega)), pB]
  | succ d ih =>
    intro x f hx hf
    obtain ⟨g, rfl⟩ : ∃ g, f = g + 1 := ⟨f - 1, by omega⟩
    have ihk := ih (x + 1) g (by omega) (by omega)
    obtain ⟨x1, x2, x3⟩ := hM.2.2.2.2 x (by omega)
    have r1 := rB_le hB (show x < bP B by omega) a
    have r2 := rB_le hB (show x < bP B by omega) b
    rw [fn_X5_preferring_5, hM.2.1, if_neg (nI_ge (by omega) (by omega)), rk_Mr hB hM (by omega) ha, sa_cl, rk_Mr hB hM (by omega) hb, sa_cl, sa_sq, sa_ck _ (by omega) (by omega), sa_sq, sa_cl9 (show x < 100000 by omega), x1, nI_add, nI_1]
    simp only [sB] at ihk
    by_cases h : rB B x a < rB B x b
    · rw [if_neg (nI_ge h (by omega))]
      simp only [h, decide_true, if_true] at ihk
      exact ihk
    · rw [if_pos (nI_le (by omega) (by omega)), sa_l0, nI_add]
      simp only [h, decide_false, if_false, Bool.false_eq_true] at ihk
      exact ihk
theorem pf_Mr {B : bT} {S : sc_M} (hB : bOK B) (hM : bM B S) {a b : Nat} (ha : a < 12) (hb : b < 12) : fn_X5_preferring S (nI a) (nI b) = some (nI (pB B a b), S) := by
  have hp80 := hB.1.2.2
  have := pf_M hB hM ha hb (bP B) 0 sc_FU (by omega) (by rw [sa_FU]; omega)
  rw [fn_X5_preferring]; exact this
theorem so_prefer : sm_prefer sRel := by
  intro SX SM a b hr
  obtain ⟨B, hB, hX, hM, hj⟩ := id hr
  have hn12 := hB.1.2.1
  have hn : bN B < 100000 := by omega
  rcases sa_rg a hn with ha | ⟨c, hc, rfl⟩
  · refine ⟨-1, SX, SM, ?_, ?_, hr⟩
    · rw [fn_X4_prefer, xc_out hX.1 ha]; rfl
    · rw [fn_X5_prefer, pn_out hn hM.1 ha]; rfl
  · rcases sa_rg b hn with hb | ⟨e, he, rfl⟩
    · refine ⟨-1, SX, SM, ?_, ?_, hr⟩
      · rw [fn_X4_prefer, xc_in hn hX.1 hc, sa_cl, if_neg (by decide), xc_out hX.1 hb]; rfl
      · rw [fn_X5_prefer, pn_in hn hM.1 hc, sa_cl, if_pos rfl, pn_out hn hM.1 hb]; rfl
    · by_cases h : nI c = nI e
      · refine ⟨-3, SX, SM, ?_, ?_, hr⟩
        · rw [fn_X4_prefer, xc_in hn hX.1 hc, sa_cl, if_neg (by decide), xc_in hn hX.1 he, sa_cl, if_neg (by decide), if_pos h]
        · rw [fn_X5_prefer, pn_in hn hM.1 hc, sa_cl, if_pos rfl, pn_in hn hM.1 he, sa_cl, if_pos rfl, if_pos h]
      · refine ⟨nI (pB B c e), SX, SM, ?_, ?_, hr⟩
        · rw [fn_X4_prefer, xc_in hn hX.1 hc, sa_cl, if_neg (by decide), xc_in hn hX.1 he, sa_cl, if_neg (by decide), if_neg h, pf_Xr hB hX (by omega) (by omega), sa_cl]
        · rw [fn_X5_prefer, pn_in hn hM.1 hc, sa_cl, if_pos rfl, pn_in hn hM.1 he, sa_cl, if_pos rfl, if_neg h, pf_Mr hB hM (by omega) (by omega), sa_cl]
/-! points: the sums exchanged -/
def qX (B : bT) (c : Nat) : Nat → Nat
  | 0 => 0
  | x + 1 => qX B c x + if x = c then 0 else if bW B x = 0 then pB B c x else 0
def qI (B : bT) (c p : Nat) : Nat → Nat
  | 0 => 0
  | x + 1 => qI B c p x + if bW B x = 0 then (if rB B p c < rB B p x then bQ B p else 0) else 0
def qM (B : bT) (c : Nat) : Nat → Nat
  | 0 => 0
  | p + 1 => qM B c p + qI B c p (bN B)
theorem q_eq (B : bT) (c : Nat) (p x : Nat) : ∀ np, (∀ x, qX (B.1, np, B.2.2) c x = (List.range np).foldl (fun s p => s + qI B c p x) 0) := by
  intro np y
  have hs : ∀ (b : Nat) np, sB (fun p => decide (rB B p c < rB B p b)) (bQ B) np = (List.range np).foldl (fun s p => s + if rB B p c < rB B p b then bQ B p else 0) 0 := by
    intro b np
    induction np with
    | zero => rfl
    | succ np ih => rw [List.range_succ, List.foldl_append, ← ih]; simp [sB]
  have h0 : ∀ np, (List.range np).foldl (fun s (_ : Nat) => s + 0) 0 = 0 := by
    intro np
    induction np with
    | zero => rfl
    | succ np ih => rw [List.range_succ, List.foldl_append, ih]; rfl
  have hadd : ∀ (f g : Nat → Nat) np, (List.range np).foldl (fun s p => s + (f p + g p)) 0 = (List.range np).foldl (fun s p => s + f p) 0 + (List.range np).foldl (fun s p => s + g p) 0 := by
    intro f g np
    induction np with
    | zero => rfl
    | succ np ih => simp only [List.range_succ, List.foldl_append, List.foldl_cons, List.foldl_nil, ih]; omega
  induction y with
  | zero => simp only [qX, qI]; rw [h0]
  | succ y ih =>
    simp only [qX, qI]
    rw [hadd, ih]
    congr 1
    by_cases hyc : y = c
    · subst hyc
      rw [if_pos rfl]
      have : (fun (s p : Nat) => s + if bW B y = 0 then (if rB B p y < rB B p y then bQ B p else 0) else 0) = fun s _ => s + 0 := by
        funext s p
        simp
      rw [this, h0]
    · rw [if_neg hyc]
      by_cases hw : bW B y = 0
      · have hw' : bW (B.1, np, B.2.2) y = 0 := hw
        rw [if_pos hw']
        simp only [if_pos hw]
        exact hs y np
      · have hw' : ¬ bW (B.1, np, B.2.2) y = 0 := hw
        rw [if_neg hw']
        simp only [if_neg hw]
        exact (h0 np).symm
theorem qM_eq (B : bT) (c : Nat) : qX B c (bN B) = qM B c (bP B) := by
  have h := q_eq B c 0 0 (bP B) (bN B)
  have hM : ∀ np, qM B c np = (List.range np).foldl (fun s p => s + qI B c p (bN B)) 0 := by
    intro np
    induction np with
    | zero => rfl
    | succ np ih => rw [List.range_succ, List.foldl_append, ← ih]; rfl
  rw [hM]
  exact h
theorem po_X {B : bT} {S : sc_M} (hB : bOK B) (hX : bX B S) {c : Nat} (hc : c < bN B) : ∀ (d x f : Nat), x + d = bN B → d < f → fn_X0_pointsOf_4 f S (nI c) (nI (qX B c x)) (nI x) = some (nI (qX B c (bN B)), S) := by
  have hn12 := hB.1.2.1
  intro d
  induction d with
  | zero =>
    intro x f hx hf
    obtain ⟨g, rfl⟩ : ∃ g, f = g + 1 := ⟨f - 1, by omega⟩
    obtain rfl : x = bN B := by omega
    rw [fn_X0_pointsOf_4, hX.1, if_pos (nI_le (by omega) (by omega))]
  | succ d ih =>
    intro x f hx hf
    obtain ⟨g, rfl⟩ : ∃ g, f = g + 1 := ⟨f - 1, by omega⟩
    have ihk := ih (x + 1) g (by omega) (by omega)
    rw [fn_X0_pointsOf_4, hX.1, if_neg (nI_ge (by omega) (by omega)), sa_ck _ (by omega) (by omega), sa_cl9 (by omega), hX.2.2.1 x (by omega), pf_Xr hB hX (by omega) (by omega), sa_cl, sa_sq, nI_add, nI_1]
    rw [qX] at ihk
    by_cases h : x = c
    · rw [if_pos (by rw [h])]; rw [if_pos h] at ihk; exact ihk
    · rw [if_neg (by rw [nI_eq (by omega) (by omega)]; exact h)]
      rw [if_neg h] at ihk
      by_cases hw : bW B x = 0
      · rw [if_pos hw]; rw [if_pos hw] at ihk; exact ihk
      · rw [if_neg hw]; rw [if_neg hw] at ihk; exact ihk
theorem po_Mi {B : bT} {S : sc_M} (hB : bOK B) (hM : bM B S) {c p : Nat} (hc : c < bN B) (hp : p < bP B) (k14 : sc_M → Int32 → Int32 → Int32 → Option (Int32 × sc_M)) (s : Nat) : ∀ (d x f : Nat), x + d = bN B → d < f → fn_X5_points_25 k14 f S (nI c) (nI (s + qI B c p x)) (nI p) (nI x) = k14 S (nI c) (nI (s + qI B c p (bN B))) (nI (p + 1)) := by
  have hn12 := hB.1.2.1
  have hp80 := hB.1.2.2
  intro d
  induction d with
  | zero =>
    intro x f hx hf
    obtain ⟨g, rfl⟩ : ∃ g, f = g + 1 := ⟨f - 1, by omega⟩
    obtain rfl : x = bN B := by omega
    rw [fn_X5_points_25, hM.1, if_pos (nI_le (by omega) (by omega)), nI_1]
  | succ d ih =>
    intro x f hx hf
    obtain ⟨g, rfl⟩ : ∃ g, f = g + 1 := ⟨f - 1, by omega⟩
    have ihk := ih (x + 1) g (by omega) (by omega)
    have r1 := rB_le hB hp c
    have r2 := rB_le hB hp x
    rw [fn_X5_points_25, hM.1, if_neg (nI_ge (by omega) (by omega)), sa_ck _ (by omega) (by omega), sa_cl9 (show x < 100000 by omega), hM.2.2.1 x (by omega), rk_Mr hB hM hp (by omega), sa_cl, rk_Mr hB hM hp (by omega), sa_cl, sa_sq, sa_sq, sa_ck _ (by omega) (by omega), sa_cl9 (show p < 100000 by omega), (hM.2.2.2.2 p hp).1, nI_add, nI_1, sa_l0, nI_add]
    rw [qI] at ihk
    by_cases hw : bW B x = 0
    · rw [if_pos (show bW B x = nI 0 from hw)]
      rw [if_pos hw] at ihk
      by_cases h : rB B p c < rB B p x
      · rw [if_neg (nI_ge h (by omega))]; rw [if_pos h, ← Nat.add_assoc] at ihk; exact ihk
      · rw [if_pos (nI_le (by omega) (by omega))]; rw [if_neg h] at ihk; exact ihk
    · rw [if_neg (show ¬ bW B x = nI 0 from hw)]; rw [if_neg hw] at ihk; exact ihk
theorem po_M {B : bT} {S : sc_M} (hB : bOK B) (hM : bM B S) {c : Nat} (hc : c < bN B) : ∀ (d p f : Nat), p + d = bP B → d < f → fn_X5_points_14 f S (nI c) (nI (qM B c p)) (nI p) = some (nI (qM B c (bP B)), S) := by
  have hn12 := hB.1.2.1
  have hp80 := hB.1.2.2
  intro d
  induction d with
  | zero =>
    intro p f hp hf
    obtain ⟨g, rfl⟩ : ∃ g, f = g + 1 := ⟨f - 1, by omega⟩
    obtain rfl : p = bP B := by omega
    rw [fn_X5_points_14, hM.2.1, if_pos (nI_le (by omega) (by omega))]
  | succ d ih =>
    intro p f hp hf
    obtain ⟨g, rfl⟩ : ∃ g, f = g + 1 := ⟨f - 1, by omega⟩
    have ihk := ih (p + 1) g (by omega) (by omega)
    rw [fn_X5_points_14, hM.2.1, if_neg (nI_ge (by omega) (by omega))]
    have := po_Mi hB hM hc (show p < bP B by omega) (fn_X5_points_14 g) (qM B c p) (bN B) 0 sc_FU (by omega) (by rw [sa_FU]; omega)
    exact this.trans ihk
theorem so_points : sm_points sRel := by
  intro SX SM a hr
  obtain ⟨B, hB, hX, hM, hj⟩ := id hr
  have hn12 := hB.1.2.1
  have hp80 := hB.1.2.2
  have hn : bN B < 100000 := by omega
  rcases sa_rg a hn with ha | ⟨c, hc, rfl⟩
  · refine ⟨-1, SX, SM, ?_, ?_, hr⟩
    · rw [fn_X4_points, xc_out hX.1 ha]; rfl
    · rw [fn_X5_points, pn_out hn hM.1 ha]; rfl
  · refine ⟨nI (qM B c (bP B)), SX, SM, ?_, ?_, hr⟩
    · have h := po_X hB hX hc (bN B) 0 sc_FU (by omega) (by rw [sa_FU]; omega)
      rw [qM_eq] at h
      rw [fn_X4_points, xc_in hn hX.1 hc, sa_cl, if_neg (by decide), fn_X0_pointsOf]
      exact (congrArg (fun z => sc_cl z _) h).trans rfl
    · have h := po_M hB hM hc (bP B) 0 sc_FU (by omega) (by rw [sa_FU]; omega)
      rw [fn_X5_points, pn_in hn hM.1 hc, sa_cl, if_pos rfl]
      exact h
