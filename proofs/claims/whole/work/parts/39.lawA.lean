/-! THE CLAIM OUT OF ONE WALK OF THE LAW'S BODY. Your part is whole_start (and what it stands on); all else here is the same for every law, but numbers. -/
def R_law : String := "SeatCountsLaw"
def lw_P (b : Addr) (xs : List Int32) (args : Array Value) (s : State) : Prop := args = #[.ref b] ∧ s.IntsAt b xs ∧ xs.length ≤ 2560 ∧ (Jvm.Cond.and given_1 narrow_1).before args s = true
def lw_Q (_ : Array Value) (s : State) (o : Outcome) (t : State) : Prop := o = .returned (some (.int 1)) ∧ Framed s o t [] 54 29131
def lw_Z (below : List Frame) (a : Array Value) (s : State) : State → Prop := fun t => ∃ o, t.status = .running ∧ Ended t below o ∧ lw_Q a s o t
/-- the law's own end, with 1 on the stack, nothing written that was there before, its room as the claim has it -/
theorem lw_ret {p : Program} {l : Launch} {e : Env} {s : State} {m : MethodId} {below : List Frame} {meth : Method} {c : Code} {b : Nat} (hx : p.tables.exec = Jvm.exec) (hb : c.code = code) (hr : meth.sig.returnType = ret) (hlocks : meth.locks = false) {pc : Nat} {H : Heap} {ls : Array Slot} (hdg : decode code pc = .ok (.ireturn, 1)) : W p l e room_1 s m #[Value.ref b] below meth c H [] 54 29131 (lw_Z below #[Value.ref b] s) (F0 m pc ls [.int 1]) := by
  intro T hT X
  obtain ⟨fs, hret, hrun, hended, hW, hframe⟩ := X.leave (v := some (.int 1)) (hlocks := hlocks) (fun h => by rw [hr] at h; cases h)
  have hmeth' : T.vm.method? m = some meth := X.method'
  refine ⟨T.setFrames fs, ?_, .returned (some (.int 1)), hrun, hended, rfl, ⟨_, rfl⟩, hW, hframe⟩
  jvm_step X.here [X.here.top, hx, hb, hdg, hmeth', hr, ret, narrow_b1]
  (try refine ⟨rfl, ?_⟩); (try refine ⟨rfl, ?_⟩)
  first | (intro acts; rw [hret _ acts rfl rfl rfl]) | rw [hret _ _ rfl rfl rfl]
  exact Steps.refl _
/-- what holds at the law's entry: the machine, the code, the tables' words (any of lw_tbl by 'hts w (by decide +kernel)'), the script of L ints xs at the cell b, what the Statement gives of the start (any of its parts by flat_of_before) -/
def lw_At (p : Program) (s : State) (m : MethodId) (meth : Method) (c : Code) (b L : Nat) (xs : Nat → Int32) : Prop :=
  p.tables.exec = Jvm.exec ∧ c.code = code ∧ meth.sig.returnType = ret ∧ c.maxLocals = 4 ∧ s.vm.findClass R_law = some m.cls ∧ (∀ w ∈ lw_tbl, w.before #[Value.ref b] s = true) ∧ va_X b L xs s s.heap ∧ b < s.heap.size ∧ meth.locks = false ∧ (Jvm.Cond.and given_1 narrow_1).before #[Value.ref b] s = true
theorem sc_topiL {p : Program} {l : Launch} {e : Env} {R : Room} {s : State} {m : MethodId} {args : Array Value} {below : List Frame} {meth : Method} {c : Code} {H : Heap} {locs : List Loc} {cells slots : Nat} {Q : State → Prop} {pc : Nat} {ls : Array Slot} {rest : List Value} {v : Int32} (k : ∀ x : Int32, x = v → W p l e R s m args below meth c H locs cells slots Q (F0 m pc ls (.int x :: rest))) : W p l e R s m args below meth c H locs cells slots Q (F0 m pc ls (.int v :: rest)) := k v rfl
def sm_candidates (Rel : sc_M → sc_M → Prop) : Prop := ∀ (SX SM : sc_M) (a0 : Int32), Rel SX SM → ∃ (r : Int32) (SX' SM' : sc_M), fn_X4_candidates SX a0 = some (r, SX') ∧ fn_X5_candidates SM a0 = some (r, SM') ∧ Rel SX' SM'
def sm_withdraw (Rel : sc_M → sc_M → Prop) : Prop := ∀ (SX SM : sc_M) (a0 : Int32) (a1 : Int32), Rel SX SM → (a1 = 0 ∨ a1 = 1) → ∃ (r : Int32) (SX' SM' : sc_M), fn_X4_withdraw SX a0 a1 = some (r, SX') ∧ fn_X5_withdraw SM a0 a1 = some (r, SM') ∧ Rel SX' SM'
def sm_lot (Rel : sc_M → sc_M → Prop) : Prop := ∀ (SX SM : sc_M) (a0 : Int32) (a1 : Int32), Rel SX SM → ∃ (r : Int32) (SX' SM' : sc_M), fn_X4_lot SX a0 a1 = some (r, SX') ∧ fn_X5_lot SM a0 a1 = some (r, SM') ∧ Rel SX' SM'
def sm_pile (Rel : sc_M → sc_M → Prop) : Prop := ∀ (SX SM : sc_M) (a0 : Int64) (a1 : Int32), Rel SX SM → ∃ (r : Int32) (SX' SM' : sc_M), fn_X4_pile SX a0 a1 = some (r, SX') ∧ fn_X5_pile SM a0 a1 = some (r, SM') ∧ Rel SX' SM'
def sm_change (Rel : sc_M → sc_M → Prop) : Prop := ∀ (SX SM : sc_M) (a0 : Int32) (a1 : Int32), Rel SX SM → ∃ (r : Int32) (SX' SM' : sc_M), fn_X4_change SX a0 a1 = some (r, SX') ∧ fn_X5_change SM a0 a1 = some (r, SM') ∧ Rel SX' SM'
def sm_about (Rel : sc_M → sc_M → Prop) : Prop := ∀ (SX SM : sc_M) (a0 : Int32) (a1 : Int32), Rel SX SM → ∃ (r : Int32) (SX' SM' : sc_M), fn_X4_about SX a0 a1 = some (r, SX') ∧ fn_X5_about SM a0 a1 = some (r, SM') ∧ Rel SX' SM'
def sm_count (Rel : sc_M → sc_M → Prop) : Prop := ∀ (SX SM : sc_M) (a0 : Int32) (a1 : Int32), Rel SX SM → ∃ (r : Int32) (SX' SM' : sc_M), fn_X4_count SX a0 a1 = some (r, SX') ∧ fn_X5_count SM a0 a1 = some (r, SM') ∧ Rel SX' SM'
def sm_stage (Rel : sc_M → sc_M → Prop) : Prop := ∀ (SX SM : sc_M) (a0 : Int32) (a1 : Int32), Rel SX SM → ∃ (r : Int64) (SX' SM' : sc_M), fn_X4_stage SX a0 a1 = some (r, SX') ∧ fn_X5_stage SM a0 a1 = some (r, SM') ∧ Rel SX' SM'
def sm_votes (Rel : sc_M → sc_M → Prop) : Prop := ∀ (SX SM : sc_M) (a0 : Int32) (a1 : Int32), Rel SX SM → ∃ (r : Int64) (SX' SM' : sc_M), fn_X4_votes SX a0 a1 = some (r, SX') ∧ fn_X5_votes SM a0 a1 = some (r, SM') ∧ Rel SX' SM'
def sm_status (Rel : sc_M → sc_M → Prop) : Prop := ∀ (SX SM : sc_M) (a0 : Int32) (a1 : Int32), Rel SX SM → ∃ (r : Int32) (SX' SM' : sc_M), fn_X4_status SX a0 a1 = some (r, SX') ∧ fn_X5_status SM a0 a1 = some (r, SM') ∧ Rel SX' SM'
def sm_elected (Rel : sc_M → sc_M → Prop) : Prop := ∀ (SX SM : sc_M) (a0 : Int32), Rel SX SM → ∃ (r : Int32) (SX' SM' : sc_M), fn_X4_elected SX a0 = some (r, SX') ∧ fn_X5_elected SM a0 = some (r, SM') ∧ Rel SX' SM'
def sm_keep (Rel : sc_M → sc_M → Prop) : Prop := ∀ (SX SM : sc_M) (a0 : Int32) (a1 : Int32), Rel SX SM → ∃ (r : Int32) (SX' SM' : sc_M), fn_X4_keep SX a0 a1 = some (r, SX') ∧ fn_X5_keep SM a0 a1 = some (r, SM') ∧ Rel SX' SM'
def sm_lies (Rel : sc_M → sc_M → Prop) : Prop := ∀ (SX SM : sc_M) (a0 : Int32) (a1 : Int32) (a2 : Int32), Rel SX SM → ∃ (r : Int32) (SX' SM' : sc_M), fn_X4_lies SX a0 a1 a2 = some (r, SX') ∧ fn_X5_lies SM a0 a1 a2 = some (r, SM') ∧ Rel SX' SM'
def sm_sheet (Rel : sc_M → sc_M → Prop) : Prop := ∀ (SX SM : sc_M) (a0 : Int32) (a1 : Int32), Rel SX SM → ∃ (r : Int64) (SX' SM' : sc_M), fn_X4_sheet SX a0 a1 = some (r, SX') ∧ fn_X5_sheet SM a0 a1 = some (r, SM') ∧ Rel SX' SM'
def sm_forge (Rel : sc_M → sc_M → Prop) : Prop := ∀ (SX SM : sc_M) (a0 : Int32) (a1 : Int32) (a2 : Int64), Rel SX SM → ∃ (r : Int64) (SX' SM' : sc_M), fn_X4_forge SX a0 a1 a2 = some (r, SX') ∧ fn_X5_forge SM a0 a1 a2 = some (r, SM') ∧ Rel SX' SM'
def sm_check (Rel : sc_M → sc_M → Prop) : Prop := ∀ (SX SM : sc_M), Rel SX SM → ∃ (r : Int32) (SX' SM' : sc_M), fn_X4_check SX = some (r, SX') ∧ fn_X5_check SM = some (r, SM') ∧ Rel SX' SM'
def sm_prefer (Rel : sc_M → sc_M → Prop) : Prop := ∀ (SX SM : sc_M) (a0 : Int32) (a1 : Int32), Rel SX SM → ∃ (r : Int32) (SX' SM' : sc_M), fn_X4_prefer SX a0 a1 = some (r, SX') ∧ fn_X5_prefer SM a0 a1 = some (r, SM') ∧ Rel SX' SM'
def sm_winner (Rel : sc_M → sc_M → Prop) : Prop := ∀ (SX SM : sc_M), Rel SX SM → ∃ (r : Int32) (SX' SM' : sc_M), fn_X4_winner SX = some (r, SX') ∧ fn_X5_winner SM = some (r, SM') ∧ Rel SX' SM'
def sm_leads (Rel : sc_M → sc_M → Prop) : Prop := ∀ (SX SM : sc_M) (a0 : Int32), Rel SX SM → ∃ (r : Int32) (SX' SM' : sc_M), fn_X4_leads SX a0 = some (r, SX') ∧ fn_X5_leads SM a0 = some (r, SM') ∧ Rel SX' SM'
def sm_points (Rel : sc_M → sc_M → Prop) : Prop := ∀ (SX SM : sc_M) (a0 : Int32), Rel SX SM → ∃ (r : Int32) (SX' SM' : sc_M), fn_X4_points SX a0 = some (r, SX') ∧ fn_X5_points SM a0 = some (r, SM') ∧ Rel SX' SM'
def sm_told (Rel : sc_M → sc_M → Prop) : Prop := ∀ (SX SM : sc_M) (a0 : Int32), Rel SX SM → ∃ (r : Int32) (SX' SM' : sc_M), fn_X4_told SX a0 = some (r, SX') ∧ fn_X5_told SM a0 = some (r, SM') ∧ Rel SX' SM'
def sm_all (Rel : sc_M → sc_M → Prop) : Prop := sm_candidates Rel ∧ sm_withdraw Rel ∧ sm_lot Rel ∧ sm_pile Rel ∧ sm_change Rel ∧ sm_about Rel ∧ sm_count Rel ∧ sm_stage Rel ∧ sm_votes Rel ∧ sm_status Rel ∧ sm_elected Rel ∧ sm_keep Rel ∧ sm_lies Rel ∧ sm_sheet Rel ∧ sm_forge Rel ∧ sm_check Rel ∧ sm_prefer Rel ∧ sm_winner Rel ∧ sm_leads Rel ∧ sm_points Rel ∧ sm_told Rel
theorem lw_step {L i : Nat} (hL : L ≤ 2560) (hi : i ≤ 2565) (h : ¬ nI L - 5 < nI i) : i + 5 ≤ L := by
  have e : (nI L - nI 5).toInt = (L : Int) - 5 := pk_sub_toInt (by omega) (by omega)
  have e5 : (5 : Int32) = nI 5 := rfl
  rw [e5, Int32.lt_iff_toInt_lt, e, nI_toInt (by omega)] at h
  omega
theorem lw_in {L i k : Nat} {x : Int32} (hL : L ≤ 2560) (h : i + k < L) (hx : x = nI k) : vp_in (nI i + x) L := by
  rw [hx, nI_add]
  exact vp_in_nI h (by omega)
theorem sc_keepM {dC : Nat → ClassId} {dI : Nat → Nat → Nat} {h h' : Nat → Nat} {cy : Nat → ClassId} {S : sc_M} {H H1 : Heap} (hP : va_P (dC, dI) vwCl (sc_wM h cy S) H) (hd : ∀ i j, i < 28 → j < 26 → h i ≠ h' j) (hk : ∀ q, q < H.size → ¬ sc_AX h' H.size q → H1[q]? = H[q]?) : va_P (dC, dI) vwCl (sc_wM h cy S) H1 := by
  refine hP.kept (fun k q hq => ?_)
  have hlt : q.1 < H.size := (hP k q hq).lt
  refine hk q.1 hlt ?_
  rintro (⟨j, hj, e⟩ | hge)
  · obtain ⟨hkk, ek⟩ := sc_wM_at h cy S k q hq
    exact hd k j hkk hj (ek.symm.trans e)
  · omega
theorem sc_keepX {dC : Nat → ClassId} {dI : Nat → Nat → Nat} {h h' : Nat → Nat} {cy : Nat → ClassId} {S : sc_M} {H H1 : Heap} (hP : va_P (dC, dI) vwCl (sc_wX h cy S) H) (hd : ∀ i j, i < 26 → j < 28 → h i ≠ h' j) (hk : ∀ q, q < H.size → ¬ sc_AM h' H.size q → H1[q]? = H[q]?) : va_P (dC, dI) vwCl (sc_wX h cy S) H1 := by
  refine hP.kept (fun k q hq => ?_)
  have hlt : q.1 < H.size := (hP k q hq).lt
  refine hk q.1 hlt ?_
  rintro (⟨j, hj, e⟩ | hge)
  · obtain ⟨hkk, ek⟩ := sc_wX_at h cy S k q hq
    exact hd k j hkk hj (ek.symm.trans e)
  · omega
abbrev lw_A (s : State) : Nat → Prop := fun q => s.heap.size ≤ q
def lw_W (dC : Nat → ClassId) (dI : Nat → Nat → Nat) (s : State) (hX : Nat → Nat) (cX : Nat → ClassId) (hM : Nat → Nat) (cM : Nat → ClassId) (H : Heap) (locs : List Loc) (SX SM : sc_M) : Prop := va_P (dC, dI) vwCl (sc_wX hX cX SX) H ∧ va_D (lw_A s) (sc_wX hX cX SX) ∧ va_P (dC, dI) vwCl (sc_wM hM cM SM) H ∧ va_D (lw_A s) (sc_wM hM cM SM) ∧ va_S (lw_A s) s.heap H locs
def lw_F (dC : Nat → ClassId) (dI : Nat → Nat → Nat) (s : State) (hX : Nat → Nat) (cX : Nat → ClassId) (hM : Nat → Nat) (cM : Nat → ClassId) : Prop := va_K (dC, dI) vwCl (sc_tyX cX) s ∧ va_K (dC, dI) vwCl (sc_tyM cM) s ∧ sc_KX s ∧ (∀ i j, i < 28 → j < 26 → hM i ≠ hX j) ∧ (∀ i j, i < 26 → j < 28 → hX i ≠ hM j)
theorem lk_L_28 : Cond.constantLong RL 28 (4294967295) ∈ wsL_law := by decide +kernel
