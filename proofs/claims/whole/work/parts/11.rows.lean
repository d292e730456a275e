/-! the judgement, and each instruction over places -/
def ev_tys (K3 : ev_3) : List (ClassId × FieldType) := [(K3.1, .int), (K3.2.1, .boolean), (K3.2.2, .long)]
def ev_WS (p : Program) (l : Launch) (e : Env) (R : Room) (s : State) (m : MethodId) (args : Array Value) (below : List Frame) (meth : Method) (c : Code) (Q : State → Prop) (nL : Nat) (D : va_G) (cl : List vw_C) (LY : List ev_D) (K3 : ev_3) (ad : Nat → Nat) (A : Nat → Prop) (b0 b1 : Nat) : ev_K := fun pc lv st σ τ n =>
  ∀ (H : Heap) (locs : List Loc) (ls : Array Slot), va_P D cl (ev_lay LY K3 ad σ τ) H → va_S A s.heap H locs → ev_h ad ls nL lv → W p l e R s m args below meth c H locs (b0 + n) (b1 + 6 * n) Q (F0 m pc ls (st.map (ev_v ad)))
/-- a method's walk, seen from inside: the launch, the room, the cells, the words, its code, its locals, its class -/
def ev_X (l : Launch) (R : Room) (LY : List ev_D) (cl : List vw_C) (Ts : List Cond) (cc : ByteArray) (nL : Nat) (own : String) (J : ev_K) : Prop :=
  ∃ (p : Program) (e : Env) (s : State) (m : MethodId) (args : Array Value) (below : List Frame) (meth : Method) (c : Code) (Q : State → Prop) (D : va_G) (K3 : ev_3) (ad : Nat → Nat) (A : Nat → Prop) (b0 b1 : Nat),
    J = ev_WS p l e R s m args below meth c Q nL D cl LY K3 ad A b0 b1 ∧ p.tables.exec = Jvm.exec ∧ c.code = cc ∧ c.maxLocals = nL ∧ s.vm.findClass own = some m.cls ∧ (∀ w ∈ Ts, w.before args s = true) ∧ va_K D cl (ev_tys K3) s ∧ (∀ (σ : ev_M) (τ : ev_L), va_D A (ev_lay LY K3 ad σ τ)) ∧ (∀ q, s.heap.size ≤ q → A q) ∧ b0 ≤ R.cells ∧ b1 ≤ R.slots
def ev_ok (J : ev_K) (pc : Nat) (t : ev_T) : Prop := ∀ (lv st : List Value) (σ : ev_M) (τ : ev_L) (n : Nat) (K : ev_K), t lv st σ τ n K → (∀ (pc' : Nat) (lv' st' : List Value) (σ' : ev_M) (τ' : ev_L) (n' : Nat), K pc' lv' st' σ' τ' n' → J pc' lv' st' σ' τ' n') → J pc lv st σ τ n
def ev_oks (J : ev_K) : List (Nat × ev_T) → Prop
  | [] => True
  | (pc, t) :: r => ev_ok J pc t ∧ ev_oks J r
def ev_at : List (Nat × ev_T) → Nat → (ev_T → Prop) → Prop
  | [], _, _ => False
  | (a, t) :: r, pc, k => cond (Nat.beq a pc) (k t) (ev_at r pc k)
def ev_cut : List Nat → Nat → Prop → Prop → Prop
  | [], _, _, q => q
  | a :: r, pc, x, q => cond (Nat.beq a pc) x (ev_cut r pc x q)
def ev_wp (I : List (Nat × ev_T)) (cut : List Nat) : Nat → Nat → List Value → List Value → ev_M → ev_L → Nat → ev_K → Prop
  | 0, _, _, _, _, _, _, _ => False
  | f + 1, pc, lv, st, σ, τ, n, K => ev_at I pc (fun t => t lv st σ τ n (fun pc' lv' st' σ' τ' n' => ev_cut cut pc' (K pc' lv' st' σ' τ' n') (ev_wp I cut f pc' lv' st' σ' τ' n' K)))
theorem ev_at_ok {J : ev_K} : ∀ {I : List (Nat × ev_T)} {pc : Nat} {k : ev_T → Prop}, ev_oks J I → ev_at I pc k → ∃ t, ev_ok J pc t ∧ k t
  | [], _, _, _, h => h.elim
  | (a, t) :: r, pc, k, ho, h => by
    unfold ev_at at h
    cases hb : Nat.beq a pc with
    | true =>
      rw [hb] at h
      have : a = pc := Nat.eq_of_beq_eq_true hb
      subst this
      exact ⟨t, ho.1, h⟩
    | false =>
      rw [hb] at h
      exact ev_at_ok ho.2 h
theorem ev_cut_or : ∀ {cut : List Nat} {pc : Nat} {x q : Prop}, ev_cut cut pc x q → x ∨ q
  | [], _, _, _, h => Or.inr h
  | a :: r, pc, x, q, h => by
    unfold ev_cut at h
    cases hb : Nat.beq a pc with
    | true => rw [hb] at h; exact Or.inl h
    | false => rw [hb] at h; exact ev_cut_or h
theorem ev_sound {J : ev_K} {I : List (Nat × ev_T)} {cut : List Nat} (ho : ev_oks J I) {K : ev_K} (hK : ∀ (pc' : Nat) (lv' st' : List Value) (σ' : ev_M) (τ' : ev_L) (n' : Nat), K pc' lv' st' σ' τ' n' → J pc' lv' st' σ' τ' n') : ∀ {f pc : Nat} {lv st : List Value} {σ : ev_M} {τ : ev_L} {n : Nat}, ev_wp I cut f pc lv st σ τ n K → J pc lv st σ τ n
  | 0, _, _, _, _, _, _, h => h.elim
  | f + 1, pc, lv, st, σ, τ, n, h => by
    unfold ev_wp at h
    obtain ⟨t, h1, h2⟩ := ev_at_ok ho h
    refine h1 lv st σ τ n _ h2 (fun pc' lv' st' σ' τ' n' h3 => ?_)
    rcases ev_cut_or h3 with h4 | h4
    · exact hK _ _ _ _ _ _ h4
    · exact ev_sound ho hK h4
/-- loops: an invariant at the cut points, and a measure that falls -/
theorem ev_loop {J : ev_K} {I : List (Nat × ev_T)} {cut : List Nat} (ho : ev_oks J I) (f : Nat) (Inv : Nat → ev_K)
    (hs : ∀ (μ pc : Nat) (lv st : List Value) (σ : ev_M) (τ : ev_L) (n : Nat), Inv μ pc lv st σ τ n → ev_wp I cut f pc lv st σ τ n (fun pc' lv' st' σ' τ' n' => ∃ μ', μ' < μ ∧ Inv μ' pc' lv' st' σ' τ' n')) : ∀ (μ pc : Nat) (lv st : List Value) (σ : ev_M) (τ : ev_L) (n : Nat), Inv μ pc lv st σ τ n → J pc lv st σ τ n := by
  intro μ
  induction μ using Nat.strongRecOn with
  | ind μ ih =>
    intro pc lv st σ τ n h
    exact ev_sound ho (fun pc' lv' st' σ' τ' n' ⟨μ', h1, h2⟩ => ih μ' h1 pc' lv' st' σ' τ' n' h2) (hs μ pc lv st σ τ n h)
section EV
variable {l : Launch} {R : Room} {LY : List ev_D} {cl : List vw_C} {Ts : List Cond} {cc : ByteArray} {nL : Nat} {own : String} {J : ev_K} {pc : Nat}

def tt_k (x : Int32) (nx : Nat) : ev_T := fun lv st σ τ n K => K nx lv (.int x :: st) σ τ n
theorem qq_ic (X : ev_X l R LY cl Ts cc nL own J) {z : Int} (x : Int32) (hx9 : Int32.ofInt z = x) (d : decode cc pc = .ok (.iconst z, 1)) : ev_ok J pc (tt_k x (pc + 1)) := by
  obtain ⟨p, e, s, m, args, below, meth, c, Q, D, K3, ad, A, b0, b1, rfl, hx, hb, hml, hown, hts, hK, hD, hA, hc0, hc1⟩ := X
  intro lv st σ τ n K h hK2 H locs ls hP hS hL
  refine lv_iconst hx hb d hx9 ?_
  exact hK2 _ _ _ _ _ _ h H locs ls hP hS hL
theorem qq_bp (X : ev_X l R LY cl Ts cc nL own J) {z : Int} (x : Int32) (hx9 : (Int8.ofInt z).toInt32 = x) (d : decode cc pc = .ok (.bipush z, 2)) : ev_ok J pc (tt_k x (pc + 2)) := by
  obtain ⟨p, e, s, m, args, below, meth, c, Q, D, K3, ad, A, b0, b1, rfl, hx, hb, hml, hown, hts, hK, hD, hA, hc0, hc1⟩ := X
  intro lv st σ τ n K h hK2 H locs ls hP hS hL
  refine lv_bipush hx hb d hx9 ?_
  exact hK2 _ _ _ _ _ _ h H locs ls hP hS hL
theorem qq_sp (X : ev_X l R LY cl Ts cc nL own J) {z : Int} (x : Int32) (hx9 : (Int16.ofInt z).toInt32 = x) (d : decode cc pc = .ok (.sipush z, 3)) : ev_ok J pc (tt_k x (pc + 3)) := by
  obtain ⟨p, e, s, m, args, below, meth, c, Q, D, K3, ad, A, b0, b1, rfl, hx, hb, hml, hown, hts, hK, hD, hA, hc0, hc1⟩ := X
  intro lv st σ τ n K h hK2 H locs ls hP hS hL
  refine lv_sipush hx hb d hx9 ?_
  exact hK2 _ _ _ _ _ _ h H locs ls hP hS hL
def tt_lk (x : Int64) (nx : Nat) : ev_T := fun lv st σ τ n K => K nx lv (.long x :: st) σ τ n
theorem qq_lc (X : ev_X l R LY cl Ts cc nL own J) {z : Fin 2} (x : Int64) (hx9 : Int64.ofNat (z : Nat) = x) (d : decode cc pc = .ok (.lconst z, 1)) : ev_ok J pc (tt_lk x (pc + 1)) := by
  obtain ⟨p, e, s, m, args, below, meth, c, Q, D, K3, ad, A, b0, b1, rfl, hx, hb, hml, hown, hts, hK, hD, hA, hc0, hc1⟩ := X
  intro lv st σ τ n K h hK2 H locs ls hP hS hL
  refine lv_lconst hx hb d hx9 ?_
  exact hK2 _ _ _ _ _ _ h H locs ls hP hS hL
def tt_il (i nx : Nat) : ev_T := fun lv st σ τ n K => match ev_nth lv i with
  | .int x => K nx lv (.int x :: st) σ τ n
  | _ => False
theorem qq_iln (X : ev_X l R LY cl Ts cc nL own J) {k : Fin 4} (i : Nat) (hi : (k : Nat) = i) (d : decode cc pc = .ok (.iload_n k, 1)) : ev_ok J pc (tt_il i (pc + 1)) := by
  obtain ⟨p, e, s, m, args, below, meth, c, Q, D, K3, ad, A, b0, b1, rfl, hx, hb, hml, hown, hts, hK, hD, hA, hc0, hc1⟩ := X
  intro lv st σ τ n K h hK2 H locs ls hP hS hL
  unfold tt_il at h
  split at h
  · rename_i x hv
    refine lv_iload_n hx hb d hi (ev_h_at hL hv (by intro q; cases q)) ?_
    exact hK2 _ _ _ _ _ _ h H locs ls hP hS hL
  · exact h.elim
theorem qq_il (X : ev_X l R LY cl Ts cc nL own J) (i : Nat) (d : decode cc pc = .ok (.iload i, 2)) : ev_ok J pc (tt_il i (pc + 2)) := by
  obtain ⟨p, e, s, m, args, below, meth, c, Q, D, K3, ad, A, b0, b1, rfl, hx, hb, hml, hown, hts, hK, hD, hA, hc0, hc1⟩ := X
  intro lv st σ τ n K h hK2 H locs ls hP hS hL
  unfold tt_il at h
  split at h
  · rename_i x hv
    refine lv_iload hx hb d (ev_h_at hL hv (by intro q; cases q)) ?_
    exact hK2 _ _ _ _ _ _ h H locs ls hP hS hL
  · exact h.elim
def tt_al (i nx : Nat) : ev_T := fun lv st σ τ n K => match ev_nth lv i with
  | .ref x => K nx lv (.ref x :: st) σ τ n
  | _ => False
theorem qq_aln (X : ev_X l R LY cl Ts cc nL own J) {k : Fin 4} (i : Nat) (hi : (k : Nat) = i) (d : decode cc pc = .ok (.aload_n k, 1)) : ev_ok J pc (tt_al i (pc + 1)) := by
  obtain ⟨p, e, s, m, args, below, meth, c, Q, D, K3, ad, A, b0, b1, rfl, hx, hb, hml, hown, hts, hK, hD, hA, hc0, hc1⟩ := X
  intro lv st σ τ n K h hK2 H locs ls hP hS hL
  unfold tt_al at h
  split at h
  · rename_i x hv
    refine lv_aload_n hx hb d hi (ev_h_at hL hv (by intro q; cases q)) ?_
    exact hK2 _ _ _ _ _ _ h H locs ls hP hS hL
  · exact h.elim
theorem qq_al (X : ev_X l R LY cl Ts cc nL own J) (i : Nat) (d : decode cc pc = .ok (.aload i, 2)) : ev_ok J pc (tt_al i (pc + 2)) := by
  obtain ⟨p, e, s, m, args, below, meth, c, Q, D, K3, ad, A, b0, b1, rfl, hx, hb, hml, hown, hts, hK, hD, hA, hc0, hc1⟩ := X
  intro lv st σ τ n K h hK2 H locs ls hP hS hL
  unfold tt_al at h
  split at h
  · rename_i x hv
    refine lv_aload hx hb d (ev_h_at hL hv (by intro q; cases q)) ?_
    exact hK2 _ _ _ _ _ _ h H locs ls hP hS hL
  · exact h.elim
def tt_ll (i nx : Nat) : ev_T := fun lv st σ τ n K => match ev_nth lv i with
  | .long x => K nx lv (.long x :: st) σ τ n
  | _ => False
theorem qq_lln (X : ev_X l R LY cl Ts cc nL own J) {k : Fin 4} (i : Nat) (hi : (k : Nat) = i) (d : decode cc pc = .ok (.lload_n k, 1)) : ev_ok J pc (tt_ll i (pc + 1)) := by
  obtain ⟨p, e, s, m, args, below, meth, c, Q, D, K3, ad, A, b0, b1, rfl, hx, hb, hml, hown, hts, hK, hD, hA, hc0, hc1⟩ := X
  intro lv st σ τ n K h hK2 H locs ls hP hS hL
  unfold tt_ll at h
  split at h
  · rename_i x hv
    refine lv_lload_n hx hb d hi (ev_h_at hL hv (by intro q; cases q)) ?_
    exact hK2 _ _ _ _ _ _ h H locs ls hP hS hL
  · exact h.elim
theorem qq_ll (X : ev_X l R LY cl Ts cc nL own J) (i : Nat) (d : decode cc pc = .ok (.lload i, 2)) : ev_ok J pc (tt_ll i (pc + 2)) := by
  obtain ⟨p, e, s, m, args, below, meth, c, Q, D, K3, ad, A, b0, b1, rfl, hx, hb, hml, hown, hts, hK, hD, hA, hc0, hc1⟩ := X
  intro lv st σ τ n K h hK2 H locs ls hP hS hL
  unfold tt_ll at h
  split at h
  · rename_i x hv
    refine lv_lload hx hb d (ev_h_at hL hv (by intro q; cases q)) ?_
    exact hK2 _ _ _ _ _ _ h H locs ls hP hS hL
  · exact h.elim
def tt_is (i nx : Nat) : ev_T := fun lv st σ τ n K => match st with
  | .int x :: r => ev_st lv i (ev_setK lv i (.int x) (fun lv' => K nx lv' r σ τ n))
  | _ => False
theorem qq_isn (X : ev_X l R LY cl Ts cc nL own J) {k : Fin 4} (i : Nat) (hi : (k : Nat) = i) (hn : i < nL) (d : decode cc pc = .ok (.istore_n k, 1)) : ev_ok J pc (tt_is i (pc + 1)) := by
  obtain ⟨p, e, s, m, args, below, meth, c, Q, D, K3, ad, A, b0, b1, rfl, hx, hb, hml, hown, hts, hK, hD, hA, hc0, hc1⟩ := X
  intro lv st σ τ n K h hK2 H locs ls hP hS hL
  unfold tt_is at h
  split at h
  · rename_i x r
    obtain ⟨h, hst⟩ := ev_st_k h
    rw [ev_setK_eq] at h
    refine lv_istore_n hx hb d hi hL hn rfl (fun ls' hL' => ?_)
    exact hK2 _ _ _ _ _ _ h H locs ls' hP hS (ev_h_set1 (v := .int x) hst hL')
  · exact h.elim
theorem qq_is (X : ev_X l R LY cl Ts cc nL own J) (i : Nat) (hn : i < nL) (d : decode cc pc = .ok (.istore i, 2)) : ev_ok J pc (tt_is i (pc + 2)) := by
  obtain ⟨p, e, s, m, args, below, meth, c, Q, D, K3, ad, A, b0, b1, rfl, hx, hb, hml, hown, hts, hK, hD, hA, hc0, hc1⟩ := X
  intro lv st σ τ n K h hK2 H locs ls hP hS hL
  unfold tt_is at h
  split at h
  · rename_i x r
    obtain ⟨h, hst⟩ := ev_st_k h
    rw [ev_setK_eq] at h
    refine lv_istore hx hb d hL hn rfl (fun ls' hL' => ?_)
    exact hK2 _ _ _ _ _ _ h H locs ls' hP hS (ev_h_set1 (v := .int x) hst hL')
  · exact h.elim
def tt_as (i nx : Nat) : ev_T := fun lv st σ τ n K => match st with
  | .ref x :: r => ev_st lv i (ev_setK lv i (.ref x) (fun lv' => K nx lv' r σ τ n))
  | _ => False
theorem qq_asn (X : ev_X l R LY cl Ts cc nL own J) {k : Fin 4} (i : Nat) (hi : (k : Nat) = i) (hn : i < nL) (d : decode cc pc = .ok (.astore_n k, 1)) : ev_ok J pc (tt_as i (pc + 1)) := by
  obtain ⟨p, e, s, m, args, below, meth, c, Q, D, K3, ad, A, b0, b1, rfl, hx, hb, hml, hown, hts, hK, hD, hA, hc0, hc1⟩ := X
  intro lv st σ τ n K h hK2 H locs ls hP hS hL
  unfold tt_as at h
  split at h
  · rename_i x r
    obtain ⟨h, hst⟩ := ev_st_k h
    rw [ev_setK_eq] at h
    refine lv_astore_n hx hb d hi hL hn rfl (fun ls' hL' => ?_)
    exact hK2 _ _ _ _ _ _ h H locs ls' hP hS (ev_h_set1 (v := .ref x) hst hL')
  · exact h.elim
theorem qq_as (X : ev_X l R LY cl Ts cc nL own J) (i : Nat) (hn : i < nL) (d : decode cc pc = .ok (.astore i, 2)) : ev_ok J pc (tt_as i (pc + 2)) := by
  obtain ⟨p, e, s, m, args, below, meth, c, Q, D, K3, ad, A, b0, b1, rfl, hx, hb, hml, hown, hts, hK, hD, hA, hc0, hc1⟩ := X
  intro lv st σ τ n K h hK2 H locs ls hP hS hL
  unfold tt_as at h
  split at h
  · rename_i x r
    obtain ⟨h, hst⟩ := ev_st_k h
    rw [ev_setK_eq] at h
    refine lv_astore hx hb d hL hn rfl (fun ls' hL' => ?_)
    exact hK2 _ _ _ _ _ _ h H locs ls' hP hS (ev_h_set1 (v := .ref x) hst hL')
  · exact h.elim
def tt_ls (i nx : Nat) : ev_T := fun lv st σ τ n K => match st with
  | .long x :: r => ev_st lv i (ev_setK lv i (.long x) (fun lv' => ev_setK lv' (i + 1) .null (fun lv'' => K nx lv'' r σ τ n)))
  | _ => False
theorem qq_lsn (X : ev_X l R LY cl Ts cc nL own J) {k : Fin 4} (i : Nat) (hi : (k : Nat) = i) (hn : i + 1 < nL) (d : decode cc pc = .ok (.lstore_n k, 1)) : ev_ok J pc (tt_ls i (pc + 1)) := by
  obtain ⟨p, e, s, m, args, below, meth, c, Q, D, K3, ad, A, b0, b1, rfl, hx, hb, hml, hown, hts, hK, hD, hA, hc0, hc1⟩ := X
  intro lv st σ τ n K h hK2 H locs ls hP hS hL
  unfold tt_ls at h
  split at h
  · rename_i x r
    obtain ⟨h, hst⟩ := ev_st_k h
    rw [ev_setK_eq, ev_setK_eq] at h
    refine lv_lstore_n hx hb d hi hL hn rfl (fun ls' hL' => ?_)
    exact hK2 _ _ _ _ _ _ h H locs ls' hP hS (ev_h_set2 (v := .long x) hst hL')
  · exact h.elim
theorem qq_ls (X : ev_X l R LY cl Ts cc nL own J) (i : Nat) (hn : i + 1 < nL) (d : decode cc pc = .ok (.lstore i, 2)) : ev_ok J pc (tt_ls i (pc + 2)) := by
  obtain ⟨p, e, s, m, args, below, meth, c, Q, D, K3, ad, A, b0, b1, rfl, hx, hb, hml, hown, hts, hK, hD, hA, hc0, hc1⟩ := X
  intro lv st σ τ n K h hK2 H locs ls hP hS hL
  unfold tt_ls at h
  split at h
  · rename_i x r
    obtain ⟨h, hst⟩ := ev_st_k h
    rw [ev_setK_eq, ev_setK_eq] at h
    refine lv_lstore hx hb d hL hn rfl (fun ls' hL' => ?_)
    exact hK2 _ _ _ _ _ _ h H locs ls' hP hS (ev_h_set2 (v := .long x) hst hL')
  · exact h.elim
def tt_ii (i : Nat) (z : Int32) (nx : Nat) : ev_T := fun lv st σ τ n K => match ev_nth lv i with
  | .int x => ev_st lv i (ev_setK lv i (.int (x + z)) (fun lv' => K nx lv' st σ τ n))
  | _ => False
theorem qq_ii (X : ev_X l R LY cl Ts cc nL own J) (i : Nat) {y : Int} (z : Int32) (hz : Int32.ofInt y = z) (hn : i < nL) (d : decode cc pc = .ok (.iinc i y, 3)) : ev_ok J pc (tt_ii i z (pc + 3)) := by
  obtain ⟨p, e, s, m, args, below, meth, c, Q, D, K3, ad, A, b0, b1, rfl, hx, hb, hml, hown, hts, hK, hD, hA, hc0, hc1⟩ := X
  intro lv st σ τ n K h hK2 H locs ls hP hS hL
  unfold tt_ii at h
  split at h
  · rename_i x hv
    obtain ⟨h, hst⟩ := ev_st_k h
    rw [ev_setK_eq] at h
    have hm : (i, Value.int x) ∈ ev_ps ad lv := ev_ps_mem.mpr ⟨.int x, ev_nth_get hv (by intro q; cases q), (by intro q; cases q), rfl⟩
    obtain ⟨k, hk⟩ := List.getElem?_of_mem hm
    refine lv_iinc hx hb d hL hk (by rw [hz]) hn rfl (fun ls' hL' => ?_)
    exact hK2 _ _ _ _ _ _ h H locs ls' hP hS (ev_h_set1 (v := .int (x + z)) hst hL')
  · exact h.elim
def tt_iadd (nx : Nat) : ev_T := fun lv st σ τ n K => match st with
  | .int y :: .int x :: r => K nx lv (.int (x + y) :: r) σ τ n
  | _ => False
theorem qq_iadd (X : ev_X l R LY cl Ts cc nL own J) (d : decode cc pc = .ok (.iadd, 1)) : ev_ok J pc (tt_iadd (pc + 1)) := by
  obtain ⟨p, e, s, m, args, below, meth, c, Q, D, K3, ad, A, b0, b1, rfl, hx, hb, hml, hown, hts, hK, hD, hA, hc0, hc1⟩ := X
  intro lv st σ τ n K h hK2 H locs ls hP hS hL
  unfold tt_iadd at h
  split at h
  · refine lv_iadd hx hb d ?_
    exact hK2 _ _ _ _ _ _ h H locs ls hP hS hL
  · exact h.elim
def tt_isub (nx : Nat) : ev_T := fun lv st σ τ n K => match st with
  | .int y :: .int x :: r => K nx lv (.int (x - y) :: r) σ τ n
  | _ => False
theorem qq_isub (X : ev_X l R LY cl Ts cc nL own J) (d : decode cc pc = .ok (.isub, 1)) : ev_ok J pc (tt_isub (pc + 1)) := by
  obtain ⟨p, e, s, m, args, below, meth, c, Q, D, K3, ad, A, b0, b1, rfl, hx, hb, hml, hown, hts, hK, hD, hA, hc0, hc1⟩ := X
  intro lv st σ τ n K h hK2 H locs ls hP hS hL
  unfold tt_isub at h
  split at h
  · refine lv_isub hx hb d ?_
    exact hK2 _ _ _ _ _ _ h H locs ls hP hS hL
  · exact h.elim
def tt_imul (nx : Nat) : ev_T := fun lv st σ τ n K => match st with
  | .int y :: .int x :: r => K nx lv (.int (x * y) :: r) σ τ n
  | _ => False
theorem qq_imul (X : ev_X l R LY cl Ts cc nL own J) (d : decode cc pc = .ok (.imul, 1)) : ev_ok J pc (tt_imul (pc + 1)) := by
  obtain ⟨p, e, s, m, args, below, meth, c, Q, D, K3, ad, A, b0, b1, rfl, hx, hb, hml, hown, hts, hK, hD, hA, hc0, hc1⟩ := X
  intro lv st σ τ n K h hK2 H locs ls hP hS hL
  unfold tt_imul at h
  split at h
  · refine lv_imul hx hb d ?_
    exact hK2 _ _ _ _ _ _ h H locs ls hP hS hL
  · exact h.elim
def tt_iand (nx : Nat) : ev_T := fun lv st σ τ n K => match st with
  | .int y :: .int x :: r => K nx lv (.int (x &&& y) :: r) σ τ n
  | _ => False
theorem qq_iand (X : ev_X l R LY cl Ts cc nL own J) (d : decode cc pc = .ok (.iand, 1)) : ev_ok J pc (tt_iand (pc + 1)) := by
  obtain ⟨p, e, s, m, args, below, meth, c, Q, D, K3, ad, A, b0, b1, rfl, hx, hb, hml, hown, hts, hK, hD, hA, hc0, hc1⟩ := X
  intro lv st σ τ n K h hK2 H locs ls hP hS hL
  unfold tt_iand at h
  split at h
  · refine lv_iand hx hb d ?_
    exact hK2 _ _ _ _ _ _ h H locs ls hP hS hL
  · exact h.elim
def tt_ior (nx : Nat) : ev_T := fun lv st σ τ n K => match st with
  | .int y :: .int x :: r => K nx lv (.int (x ||| y) :: r) σ τ n
  | _ => False
theorem qq_ior (X : ev_X l R LY cl Ts cc nL own J) (d : decode cc pc = .ok (.ior, 1)) : ev_ok J pc (tt_ior (pc + 1)) := by
  obtain ⟨p, e, s, m, args, below, meth, c, Q, D, K3, ad, A, b0, b1, rfl, hx, hb, hml, hown, hts, hK, hD, hA, hc0, hc1⟩ := X
  intro lv st σ τ n K h hK2 H locs ls hP hS hL
  unfold tt_ior at h
  split at h
  · refine lv_ior hx hb d ?_
    exact hK2 _ _ _ _ _ _ h H locs ls hP hS hL
  · exact h.elim
def tt_ishr (nx : Nat) : ev_T := fun lv st σ τ n K => match st with
  | .int y :: .int x :: r => K nx lv (.int (x >>> (y &&& 31)) :: r) σ τ n
  | _ => False
theorem qq_ishr (X : ev_X l R LY cl Ts cc nL own J) (d : decode cc pc = .ok (.ishr, 1)) : ev_ok J pc (tt_ishr (pc + 1)) := by
  obtain ⟨p, e, s, m, args, below, meth, c, Q, D, K3, ad, A, b0, b1, rfl, hx, hb, hml, hown, hts, hK, hD, hA, hc0, hc1⟩ := X
  intro lv st σ τ n K h hK2 H locs ls hP hS hL
  unfold tt_ishr at h
  split at h
  · refine lv_ishr hx hb d ?_
    exact hK2 _ _ _ _ _ _ h H locs ls hP hS hL
  · exact h.elim
def tt_ishl (nx : Nat) : ev_T := fun lv st σ τ n K => match st with
  | .int y :: .int x :: r => K nx lv (.int (x <<< (y &&& 31)) :: r) σ τ n
  | _ => False
theorem qq_ishl (X : ev_X l R LY cl Ts cc nL own J) (d : decode cc pc = .ok (.ishl, 1)) : ev_ok J pc (tt_ishl (pc + 1)) := by
  obtain ⟨p, e, s, m, args, below, meth, c, Q, D, K3, ad, A, b0, b1, rfl, hx, hb, hml, hown, hts, hK, hD, hA, hc0, hc1⟩ := X
  intro lv st σ τ n K h hK2 H locs ls hP hS hL
  unfold tt_ishl at h
  split at h
  · refine lv_ishl hx hb d ?_
    exact hK2 _ _ _ _ _ _ h H locs ls hP hS hL
  · exact h.elim
def tt_irem (nx : Nat) : ev_T := fun lv st σ τ n K => match st with
  | .int y :: .int x :: r => (¬ y = 0) ∧ K nx lv (.int (x - x / y * y) :: r) σ τ n
  | _ => False
def tt_ladd (nx : Nat) : ev_T := fun lv st σ τ n K => match st with
  | .long y :: .long x :: r => K nx lv (.long (x + y) :: r) σ τ n
  | _ => False
theorem qq_ladd (X : ev_X l R LY cl Ts cc nL own J) (d : decode cc pc = .ok (.ladd, 1)) : ev_ok J pc (tt_ladd (pc + 1)) := by
  obtain ⟨p, e, s, m, args, below, meth, c, Q, D, K3, ad, A, b0, b1, rfl, hx, hb, hml, hown, hts, hK, hD, hA, hc0, hc1⟩ := X
  intro lv st σ τ n K h hK2 H locs ls hP hS hL
  unfold tt_ladd at h
  split at h
  · refine lv_ladd hx hb d ?_
    exact hK2 _ _ _ _ _ _ h H locs ls hP hS hL
  · exact h.elim
def tt_i2b (nx : Nat) : ev_T := fun lv st σ τ n K => match st with
  | .int x :: r => K nx lv (.int (x.toInt8.toInt32) :: r) σ τ n
  | _ => False
theorem qq_i2b (X : ev_X l R LY cl Ts cc nL own J) (d : decode cc pc = .ok (.i2b, 1)) : ev_ok J pc (tt_i2b (pc + 1)) := by
  obtain ⟨p, e, s, m, args, below, meth, c, Q, D, K3, ad, A, b0, b1, rfl, hx, hb, hml, hown, hts, hK, hD, hA, hc0, hc1⟩ := X
  intro lv st σ τ n K h hK2 H locs ls hP hS hL
  unfold tt_i2b at h
  split at h
  · refine lv_i2b hx hb d rfl ?_
    exact hK2 _ _ _ _ _ _ h H locs ls hP hS hL
  · exact h.elim
def tt_i2l (nx : Nat) : ev_T := fun lv st σ τ n K => match st with
  | .int x :: r => K nx lv (.long (x.toInt64) :: r) σ τ n
  | _ => False
theorem qq_i2l (X : ev_X l R LY cl Ts cc nL own J) (d : decode cc pc = .ok (.i2l, 1)) : ev_ok J pc (tt_i2l (pc + 1)) := by
  obtain ⟨p, e, s, m, args, below, meth, c, Q, D, K3, ad, A, b0, b1, rfl, hx, hb, hml, hown, hts, hK, hD, hA, hc0, hc1⟩ := X
  intro lv st σ τ n K h hK2 H locs ls hP hS hL
  unfold tt_i2l at h
  split at h
  · refine lv_i2l hx hb d rfl ?_
    exact hK2 _ _ _ _ _ _ h H locs ls hP hS hL
  · exact h.elim
def tt_dup (nx : Nat) : ev_T := fun lv st σ τ n K => match st with
  | .int x :: r => K nx lv (.int x :: .int x :: r) σ τ n
  | .ref x :: r => K nx lv (.ref x :: .ref x :: r) σ τ n
  | _ => False
theorem qq_dup (X : ev_X l R LY cl Ts cc nL own J) (d : decode cc pc = .ok (.dup, 1)) : ev_ok J pc (tt_dup (pc + 1)) := by
  obtain ⟨p, e, s, m, args, below, meth, c, Q, D, K3, ad, A, b0, b1, rfl, hx, hb, hml, hown, hts, hK, hD, hA, hc0, hc1⟩ := X
  intro lv st σ τ n K h hK2 H locs ls hP hS hL
  unfold tt_dup at h
  split at h
  · refine lv_dup hx hb d rfl ?_
    exact hK2 _ _ _ _ _ _ h H locs ls hP hS hL
  · refine lv_dup hx hb d rfl ?_
    exact hK2 _ _ _ _ _ _ h H locs ls hP hS hL
  · exact h.elim
def tt_pop (nx : Nat) : ev_T := fun lv st σ τ n K => match st with
  | .int _ :: r => K nx lv r σ τ n
  | .ref _ :: r => K nx lv r σ τ n
  | _ => False
theorem qq_pop (X : ev_X l R LY cl Ts cc nL own J) (d : decode cc pc = .ok (.pop, 1)) : ev_ok J pc (tt_pop (pc + 1)) := by
  obtain ⟨p, e, s, m, args, below, meth, c, Q, D, K3, ad, A, b0, b1, rfl, hx, hb, hml, hown, hts, hK, hD, hA, hc0, hc1⟩ := X
  intro lv st σ τ n K h hK2 H locs ls hP hS hL
  unfold tt_pop at h
  split at h
  · refine lv_pop hx hb d rfl ?_
    exact hK2 _ _ _ _ _ _ h H locs ls hP hS hL
  · refine lv_pop hx hb d rfl ?_
    exact hK2 _ _ _ _ _ _ h H locs ls hP hS hL
  · exact h.elim
def tt_dup2 (nx : Nat) : ev_T := fun lv st σ τ n K => match st with
  | .int x :: .ref y :: r => K nx lv (.int x :: .ref y :: .int x :: .ref y :: r) σ τ n
  | .int x :: .int y :: r => K nx lv (.int x :: .int y :: .int x :: .int y :: r) σ τ n
  | _ => False
theorem qq_dup2 (X : ev_X l R LY cl Ts cc nL own J) (d : decode cc pc = .ok (.dup2, 1)) : ev_ok J pc (tt_dup2 (pc + 1)) := by
  obtain ⟨p, e, s, m, args, below, meth, c, Q, D, K3, ad, A, b0, b1, rfl, hx, hb, hml, hown, hts, hK, hD, hA, hc0, hc1⟩ := X
  intro lv st σ τ n K h hK2 H locs ls hP hS hL
  unfold tt_dup2 at h
  split at h
  · refine lv_dup2_11 hx hb d rfl rfl ?_
    exact hK2 _ _ _ _ _ _ h H locs ls hP hS hL
  · refine lv_dup2_11 hx hb d rfl rfl ?_
    exact hK2 _ _ _ _ _ _ h H locs ls hP hS hL
  · exact h.elim
def tt_ifeq (tgt nx : Nat) : ev_T := fun lv st σ τ n K => match st with
  | .int x :: r => (x = 0 → K tgt lv r σ τ n) ∧ (¬ x = 0 → K nx lv r σ τ n)
  | _ => False
theorem qq_ifeq (X : ev_X l R LY cl Ts cc nL own J) {off : Int} (tgt : Nat) (ht : (pc : Int) + off = (tgt : Int)) (d : decode cc pc = .ok (.ifCond .eq off, 3)) : ev_ok J pc (tt_ifeq tgt (pc + 3)) := by
  obtain ⟨p, e, s, m, args, below, meth, c, Q, D, K3, ad, A, b0, b1, rfl, hx, hb, hml, hown, hts, hK, hD, hA, hc0, hc1⟩ := X
  intro lv st σ τ n K h hK2 H locs ls hP hS hL
  unfold tt_ifeq at h
  split at h
  · exact lv_if_eq hx hb d ht (fun q => hK2 _ _ _ _ _ _ (h.1 q) H locs ls hP hS hL) (fun q => hK2 _ _ _ _ _ _ (h.2 q) H locs ls hP hS hL)
  · exact h.elim
def tt_iceq (tgt nx : Nat) : ev_T := fun lv st σ τ n K => match st with
  | .int y :: .int x :: r => (x = y → K tgt lv r σ τ n) ∧ (¬ x = y → K nx lv r σ τ n)
  | _ => False
theorem qq_iceq (X : ev_X l R LY cl Ts cc nL own J) {off : Int} (tgt : Nat) (ht : (pc : Int) + off = (tgt : Int)) (d : decode cc pc = .ok (.if_icmp .eq off, 3)) : ev_ok J pc (tt_iceq tgt (pc + 3)) := by
  obtain ⟨p, e, s, m, args, below, meth, c, Q, D, K3, ad, A, b0, b1, rfl, hx, hb, hml, hown, hts, hK, hD, hA, hc0, hc1⟩ := X
  intro lv st σ τ n K h hK2 H locs ls hP hS hL
  unfold tt_iceq at h
  split at h
  · exact lv_icmp_eq hx hb d ht (fun q => hK2 _ _ _ _ _ _ (h.1 q) H locs ls hP hS hL) (fun q => hK2 _ _ _ _ _ _ (h.2 q) H locs ls hP hS hL)
  · exact h.elim
def tt_ifne (tgt nx : Nat) : ev_T := fun lv st σ τ n K => match st with
  | .int x :: r => (¬ x = 0 → K tgt lv r σ τ n) ∧ (x = 0 → K nx lv r σ τ n)
  | _ => False
theorem qq_ifne (X : ev_X l R LY cl Ts cc nL own J) {off : Int} (tgt : Nat) (ht : (pc : Int) + off = (tgt : Int)) (d : decode cc pc = .ok (.ifCond .ne off, 3)) : ev_ok J pc (tt_ifne tgt (pc + 3)) := by
  obtain ⟨p, e, s, m, args, below, meth, c, Q, D, K3, ad, A, b0, b1, rfl, hx, hb, hml, hown, hts, hK, hD, hA, hc0, hc1⟩ := X
  intro lv st σ τ n K h hK2 H locs ls hP hS hL
  unfold tt_ifne at h
  split at h
  · exact lv_if_ne hx hb d ht (fun q => hK2 _ _ _ _ _ _ (h.1 q) H locs ls hP hS hL) (fun q => hK2 _ _ _ _ _ _ (h.2 q) H locs ls hP hS hL)
  · exact h.elim
def tt_icne (tgt nx : Nat) : ev_T := fun lv st σ τ n K => match st with
  | .int y :: .int x :: r => (¬ x = y → K tgt lv r σ τ n) ∧ (x = y → K nx lv r σ τ n)
  | _ => False
theorem qq_icne (X : ev_X l R LY cl Ts cc nL own J) {off : Int} (tgt : Nat) (ht : (pc : Int) + off = (tgt : Int)) (d : decode cc pc = .ok (.if_icmp .ne off, 3)) : ev_ok J pc (tt_icne tgt (pc + 3)) := by
  obtain ⟨p, e, s, m, args, below, meth, c, Q, D, K3, ad, A, b0, b1, rfl, hx, hb, hml, hown, hts, hK, hD, hA, hc0, hc1⟩ := X
  intro lv st σ τ n K h hK2 H locs ls hP hS hL
  unfold tt_icne at h
  split at h
  · exact lv_icmp_ne hx hb d ht (fun q => hK2 _ _ _ _ _ _ (h.1 q) H locs ls hP hS hL) (fun q => hK2 _ _ _ _ _ _ (h.2 q) H locs ls hP hS hL)
  · exact h.elim
def tt_iflt (tgt nx : Nat) : ev_T := fun lv st σ τ n K => match st with
  | .int x :: r => (x < 0 → K tgt lv r σ τ n) ∧ (¬ x < 0 → K nx lv r σ τ n)
  | _ => False
theorem qq_iflt (X : ev_X l R LY cl Ts cc nL own J) {off : Int} (tgt : Nat) (ht : (pc : Int) + off = (tgt : Int)) (d : decode cc pc = .ok (.ifCond .lt off, 3)) : ev_ok J pc (tt_iflt tgt (pc + 3)) := by
  obtain ⟨p, e, s, m, args, below, meth, c, Q, D, K3, ad, A, b0, b1, rfl, hx, hb, hml, hown, hts, hK, hD, hA, hc0, hc1⟩ := X
  intro lv st σ τ n K h hK2 H locs ls hP hS hL
  unfold tt_iflt at h
  split at h
  · exact lv_if_lt hx hb d ht (fun q => hK2 _ _ _ _ _ _ (h.1 q) H locs ls hP hS hL) (fun q => hK2 _ _ _ _ _ _ (h.2 q) H locs ls hP hS hL)
  · exact h.elim
def tt_iclt (tgt nx : Nat) : ev_T := fun lv st σ τ n K => match st with
  | .int y :: .int x :: r => (x < y → K tgt lv r σ τ n) ∧ (¬ x < y → K nx lv r σ τ n)
  | _ => False
theorem qq_iclt (X : ev_X l R LY cl Ts cc nL own J) {off : Int} (tgt : Nat) (ht : (pc : Int) + off = (tgt : Int)) (d : decode cc pc = .ok (.if_icmp .lt off, 3)) : ev_ok J pc (tt_iclt tgt (pc + 3)) := by
  obtain ⟨p, e, s, m, args, below, meth, c, Q, D, K3, ad, A, b0, b1, rfl, hx, hb, hml, hown, hts, hK, hD, hA, hc0, hc1⟩ := X
  intro lv st σ τ n K h hK2 H locs ls hP hS hL
  unfold tt_iclt at h
  split at h
  · exact lv_icmp_lt hx hb d ht (fun q => hK2 _ _ _ _ _ _ (h.1 q) H locs ls hP hS hL) (fun q => hK2 _ _ _ _ _ _ (h.2 q) H locs ls hP hS hL)
  · exact h.elim
def tt_ifge (tgt nx : Nat) : ev_T := fun lv st σ τ n K => match st with
  | .int x :: r => (0 ≤ x → K tgt lv r σ τ n) ∧ (¬ 0 ≤ x → K nx lv r σ τ n)
  | _ => False
theorem qq_ifge (X : ev_X l R LY cl Ts cc nL own J) {off : Int} (tgt : Nat) (ht : (pc : Int) + off = (tgt : Int)) (d : decode cc pc = .ok (.ifCond .ge off, 3)) : ev_ok J pc (tt_ifge tgt (pc + 3)) := by
  obtain ⟨p, e, s, m, args, below, meth, c, Q, D, K3, ad, A, b0, b1, rfl, hx, hb, hml, hown, hts, hK, hD, hA, hc0, hc1⟩ := X
  intro lv st σ τ n K h hK2 H locs ls hP hS hL
  unfold tt_ifge at h
  split at h
  · exact lv_if_ge hx hb d ht (fun q => hK2 _ _ _ _ _ _ (h.1 q) H locs ls hP hS hL) (fun q => hK2 _ _ _ _ _ _ (h.2 q) H locs ls hP hS hL)
  · exact h.elim
def tt_icge (tgt nx : Nat) : ev_T := fun lv st σ τ n K => match st with
  | .int y :: .int x :: r => (y ≤ x → K tgt lv r σ τ n) ∧ (¬ y ≤ x → K nx lv r σ τ n)
  | _ => False
theorem qq_icge (X : ev_X l R LY cl Ts cc nL own J) {off : Int} (tgt : Nat) (ht : (pc : Int) + off = (tgt : Int)) (d : decode cc pc = .ok (.if_icmp .ge off, 3)) : ev_ok J pc (tt_icge tgt (pc + 3)) := by
  obtain ⟨p, e, s, m, args, below, meth, c, Q, D, K3, ad, A, b0, b1, rfl, hx, hb, hml, hown, hts, hK, hD, hA, hc0, hc1⟩ := X
  intro lv st σ τ n K h hK2 H locs ls hP hS hL
  unfold tt_icge at h
  split at h
  · exact lv_icmp_ge hx hb d ht (fun q => hK2 _ _ _ _ _ _ (h.1 q) H locs ls hP hS hL) (fun q => hK2 _ _ _ _ _ _ (h.2 q) H locs ls hP hS hL)
  · exact h.elim
def tt_ifgt (tgt nx : Nat) : ev_T := fun lv st σ τ n K => match st with
  | .int x :: r => (0 < x → K tgt lv r σ τ n) ∧ (¬ 0 < x → K nx lv r σ τ n)
  | _ => False
theorem qq_ifgt (X : ev_X l R LY cl Ts cc nL own J) {off : Int} (tgt : Nat) (ht : (pc : Int) + off = (tgt : Int)) (d : decode cc pc = .ok (.ifCond .gt off, 3)) : ev_ok J pc (tt_ifgt tgt (pc + 3)) := by
  obtain ⟨p, e, s, m, args, below, meth, c, Q, D, K3, ad, A, b0, b1, rfl, hx, hb, hml, hown, hts, hK, hD, hA, hc0, hc1⟩ := X
  intro lv st σ τ n K h hK2 H locs ls hP hS hL
  unfold tt_ifgt at h
  split at h
  · exact lv_if_gt hx hb d ht (fun q => hK2 _ _ _ _ _ _ (h.1 q) H locs ls hP hS hL) (fun q => hK2 _ _ _ _ _ _ (h.2 q) H locs ls hP hS hL)
  · exact h.elim
def tt_icgt (tgt nx : Nat) : ev_T := fun lv st σ τ n K => match st with
  | .int y :: .int x :: r => (y < x → K tgt lv r σ τ n) ∧ (¬ y < x → K nx lv r σ τ n)
  | _ => False
theorem qq_icgt (X : ev_X l R LY cl Ts cc nL own J) {off : Int} (tgt : Nat) (ht : (pc : Int) + off = (tgt : Int)) (d : decode cc pc = .ok (.if_icmp .gt off, 3)) : ev_ok J pc (tt_icgt tgt (pc + 3)) := by
  obtain ⟨p, e, s, m, args, below, meth, c, Q, D, K3, ad, A, b0, b1, rfl, hx, hb, hml, hown, hts, hK, hD, hA, hc0, hc1⟩ := X
  intro lv st σ τ n K h hK2 H locs ls hP hS hL
  unfold tt_icgt at h
  split at h
  · exact lv_icmp_gt hx hb d ht (fun q => hK2 _ _ _ _ _ _ (h.1 q) H locs ls hP hS hL) (fun q => hK2 _ _ _ _ _ _ (h.2 q) H locs ls hP hS hL)
  · exact h.elim
def tt_ifle (tgt nx : Nat) : ev_T := fun lv st σ τ n K => match st with
  | .int x :: r => (x ≤ 0 → K tgt lv r σ τ n) ∧ (¬ x ≤ 0 → K nx lv r σ τ n)
  | _ => False
theorem qq_ifle (X : ev_X l R LY cl Ts cc nL own J) {off : Int} (tgt : Nat) (ht : (pc : Int) + off = (tgt : Int)) (d : decode cc pc = .ok (.ifCond .le off, 3)) : ev_ok J pc (tt_ifle tgt (pc + 3)) := by
  obtain ⟨p, e, s, m, args, below, meth, c, Q, D, K3, ad, A, b0, b1, rfl, hx, hb, hml, hown, hts, hK, hD, hA, hc0, hc1⟩ := X
  intro lv st σ τ n K h hK2 H locs ls hP hS hL
  unfold tt_ifle at h
  split at h
  · exact lv_if_le hx hb d ht (fun q => hK2 _ _ _ _ _ _ (h.1 q) H locs ls hP hS hL) (fun q => hK2 _ _ _ _ _ _ (h.2 q) H locs ls hP hS hL)
  · exact h.elim
def tt_icle (tgt nx : Nat) : ev_T := fun lv st σ τ n K => match st with
  | .int y :: .int x :: r => (x ≤ y → K tgt lv r σ τ n) ∧ (¬ x ≤ y → K nx lv r σ τ n)
  | _ => False
theorem qq_icle (X : ev_X l R LY cl Ts cc nL own J) {off : Int} (tgt : Nat) (ht : (pc : Int) + off = (tgt : Int)) (d : decode cc pc = .ok (.if_icmp .le off, 3)) : ev_ok J pc (tt_icle tgt (pc + 3)) := by
  obtain ⟨p, e, s, m, args, below, meth, c, Q, D, K3, ad, A, b0, b1, rfl, hx, hb, hml, hown, hts, hK, hD, hA, hc0, hc1⟩ := X
  intro lv st σ τ n K h hK2 H locs ls hP hS hL
  unfold tt_icle at h
  split at h
  · exact lv_icmp_le hx hb d ht (fun q => hK2 _ _ _ _ _ _ (h.1 q) H locs ls hP hS hL) (fun q => hK2 _ _ _ _ _ _ (h.2 q) H locs ls hP hS hL)
  · exact h.elim
def tt_go (tgt : Nat) : ev_T := fun lv st σ τ n K => K tgt lv st σ τ n
theorem qq_go (X : ev_X l R LY cl Ts cc nL own J) {off : Int} (tgt : Nat) (ht : (pc : Int) + off = (tgt : Int)) (d : decode cc pc = .ok (.goto off, 3)) : ev_ok J pc (tt_go tgt) := by
  obtain ⟨p, e, s, m, args, below, meth, c, Q, D, K3, ad, A, b0, b1, rfl, hx, hb, hml, hown, hts, hK, hD, hA, hc0, hc1⟩ := X
  intro lv st σ τ n K h hK2 H locs ls hP hS hL
  refine lv_goto hx hb d ht ?_
  exact hK2 _ _ _ _ _ _ h H locs ls hP hS hL
/-- a switch: keys and targets, else the default -/
def ev_sw (x : Int32) (g : Nat → Prop) (df : Nat) : List (Int32 × Nat) → Prop
  | [] => g df
  | (k, t) :: r => (x = k → g t) ∧ (¬ x = k → ev_sw x g df r)
def tt_sw (cs : List (Int32 × Nat)) (df : Nat) : ev_T := fun lv st σ τ n K => match st with
  | .int x :: r => ev_sw x (fun t => K t lv r σ τ n) df cs
  | _ => False
def ev_swOk (pc : Nat) (dflt : Int) (df : Nat) : List (Int × Int) → List (Int32 × Nat) → Prop
  | [], [] => (pc : Int) + dflt = (df : Int)
  | (a, o) :: r, (k, t) :: q => k.toInt = a ∧ (pc : Int) + o = (t : Int) ∧ ev_swOk pc dflt df r q
  | _, _ => False
theorem ev_sw_look {pc : Nat} {dflt : Int} {df : Nat} {x : Int32} {g : Nat → Prop} : ∀ {ps : List (Int × Int)} {cs : List (Int32 × Nat)}, ev_swOk pc dflt df ps cs → ev_sw x g df cs → ∃ t : Nat, (pc : Int) + Op.lookupswitch.offset ps dflt x.toInt = (t : Int) ∧ g t
  | [], [], h, hg => ⟨df, by rw [show Op.lookupswitch.offset [] dflt x.toInt = dflt from rfl]; exact h, hg⟩
  | (a, o) :: r, (k, t) :: q, h, hg => by
    by_cases hk : x = k
    · refine ⟨t, ?_, hg.1 hk⟩
      rw [Op.lookupswitch.offset_cons, if_pos (by rw [hk]; exact h.1.symm)]
      exact h.2.1
    · rw [lv_osw hk h.1]
      exact ev_sw_look h.2.2 (hg.2 hk)
  | [], _ :: _, h, _ => h.elim
  | _ :: _, [], h, _ => h.elim
theorem qq_lsw (X : ev_X l R LY cl Ts cc nL own J) {dflt : Int} {ps : Array (Int × Int)} {len : Nat} (cs : List (Int32 × Nat)) (df : Nat) (hp : (ps.toList.zip (ps.toList.drop 1)).all (fun (a, next) => a.1 < next.1) = true) (hk : ev_swOk pc dflt df ps.toList cs) (d : decode cc pc = .ok (.lookupswitch dflt ps, len)) : ev_ok J pc (tt_sw cs df) := by
  obtain ⟨p, e, s, m, args, below, meth, c, Q, D, K3, ad, A, b0, b1, rfl, hx, hb, hml, hown, hts, hK, hD, hA, hc0, hc1⟩ := X
  intro lv st σ τ n K h hK2 H locs ls hP hS hL
  unfold tt_sw at h
  split at h
  · obtain ⟨t, h1, h2⟩ := ev_sw_look hk h
    refine lv_lookup hx hb d hp rfl h1 ?_
    exact hK2 _ _ _ _ _ _ h2 H locs ls hP hS hL
  · exact h.elim
def ev_tOk (pc : Nat) (dflt : Int) (df : Nat) : Int → List Int → List (Int32 × Nat) → Prop
  | _, [], [] => (pc : Int) + dflt = (df : Int)
  | a, o :: r, (k, t) :: q => k.toInt = a ∧ (pc : Int) + o = (t : Int) ∧ ev_tOk pc dflt df (a + 1) r q
  | _, _, _ => False
theorem ev_sw_tab {pc : Nat} {dflt : Int} {df : Nat} {x : Int32} {g : Nat → Prop} : ∀ {a : Int} {os : List Int} {cs : List (Int32 × Nat)}, ev_tOk pc dflt df a os cs → ev_sw x g df cs → (∃ (o : Int) (t : Nat), a ≤ x.toInt ∧ os[(x.toInt - a).toNat]? = some o ∧ (pc : Int) + o = (t : Int) ∧ g t) ∨ ((x.toInt < a ∨ a + os.length - 1 < x.toInt) ∧ (pc : Int) + dflt = (df : Int) ∧ g df)
  | a, [], [], h, hg => Or.inr ⟨by simp; omega, h, hg⟩
  | a, o :: r, (k, t) :: q, h, hg => by
    by_cases hk : x = k
    · refine Or.inl ⟨o, t, ?_, ?_, h.2.1, hg.1 hk⟩
      · rw [hk, h.1]; exact Int.le_refl _
      · rw [hk, h.1]; simp
    · have hne : ¬ x.toInt = a := lv_neT hk h.1
      rcases ev_sw_tab h.2.2 (hg.2 hk) with ⟨o2, t2, h1, h2, h3, h4⟩ | ⟨h1, h2, h3⟩
      · refine Or.inl ⟨o2, t2, by omega, ?_, h3, h4⟩
        have e1 : (x.toInt - a).toNat = (x.toInt - (a + 1)).toNat + 1 := by omega
        rw [e1, List.getElem?_cons_succ]
        exact h2
      · refine Or.inr ⟨?_, h2, h3⟩
        simp only [List.length_cons]
        rcases h1 with h1 | h1
        · exact Or.inl (by omega)
        · exact Or.inr (by omega)
  | _, [], _ :: _, h, _ => h.elim
  | _, _ :: _, [], h, _ => h.elim
theorem qq_tsw (X : ev_X l R LY cl Ts cc nL own J) {dflt lo hi : Int} {offs : Array Int} {len : Nat} (cs : List (Int32 × Nat)) (df : Nat) (hh : hi = lo + offs.toList.length - 1) (hk : ev_tOk pc dflt df lo offs.toList cs) (d : decode cc pc = .ok (.tableswitch dflt lo hi offs, len)) : ev_ok J pc (tt_sw cs df) := by
  obtain ⟨p, e, s, m, args, below, meth, c, Q, D, K3, ad, A, b0, b1, rfl, hx, hb, hml, hown, hts, hK, hD, hA, hc0, hc1⟩ := X
  intro lv st σ τ n K h hK2 H locs ls hP hS hL
  unfold tt_sw at h
  split at h
  · rename_i x r
    rcases ev_sw_tab hk h with ⟨o, t, h1, h2, h3, h4⟩ | ⟨h1, h2, h3⟩
    · have hlt := (List.getElem?_eq_some_iff.mp h2).1
      refine lv_tableIn hx hb d (x := x) (by omega) (by omega) (off := o) (by rw [← Array.getElem?_toList]; exact h2) h3 ?_
      exact hK2 _ _ _ _ _ _ h4 H locs ls hP hS hL
    · refine lv_tableOut hx hb d (x := x) (by omega) h2 ?_
      exact hK2 _ _ _ _ _ _ h3 H locs ls hP hS hL
  · exact h.elim
/-- places: what kind of cell -/
def ev_ly : List ev_D → Nat → (ev_D → Prop) → Prop
  | [], _, _ => False
  | d :: _, 0, k => k d
  | _ :: r, i + 1, k => ev_ly r i k
theorem ev_ly_k : ∀ {LY : List ev_D} {i : Nat} {k : ev_D → Prop}, ev_ly LY i k → ∃ d, LY[i]? = some d ∧ k d
  | [], _, _, h => h.elim
  | d :: _, 0, _, h => ⟨d, rfl, h⟩
  | _ :: r, i + 1, k, h => by
    obtain ⟨d, h1, h2⟩ := ev_ly_k (LY := r) (i := i) h
    exact ⟨d, by simpa using h1, h2⟩
def ev_fo : List (Option Nat) → Nat → (Option Nat → Prop) → Prop
  | [], _, _ => False
  | d :: _, 0, k => k d
  | _ :: r, i + 1, k => ev_fo r i k
theorem ev_fo_k : ∀ {fs : List (Option Nat)} {i : Nat} {k : Option Nat → Prop}, ev_fo fs i k → ∃ d, fs[i]? = some d ∧ k d
  | [], _, _, h => h.elim
  | d :: _, 0, _, h => ⟨d, rfl, h⟩
  | _ :: r, i + 1, k, h => by
    obtain ⟨d, h1, h2⟩ := ev_fo_k (fs := r) (i := i) h
    exact ⟨d, by simpa using h1, h2⟩
/-- an object of class ci at place k -/
def ev_ob (LY : List ev_D) (ci k : Nat) (g : List (Option Nat) → Prop) : Prop := ev_ly LY k (fun d => match d with
  | (3, c, fs) => cond (Nat.beq c ci) (g fs) False
  | _ => False)
theorem ev_ob_k {LY : List ev_D} {ci k : Nat} {g : List (Option Nat) → Prop} (h : ev_ob LY ci k g) : ∃ fs, LY[k]? = some (3, ci, fs) ∧ g fs := by
  obtain ⟨d, h1, h2⟩ := ev_ly_k h
  split at h2
  · rename_i c fs
    cases hb : Nat.beq c ci with
    | true =>
      rw [hb] at h2
      have : c = ci := Nat.eq_of_beq_eq_true hb
      subst this
      exact ⟨fs, h1, h2⟩
    | false => rw [hb] at h2; exact h2.elim
  · exact h2.elim
def tt_gf (LY : List ev_D) (ci j nx : Nat) : ev_T := fun lv st σ τ n K => match st with
  | .ref k :: r => ev_ob LY ci k (fun fs => ev_fo fs j (fun o => match o with
    | none => K nx lv (.int (σ k j) :: r) σ τ n
    | some q => K nx lv (.ref q :: r) σ τ n))
  | _ => False
theorem ev_gf {lv : List Value} {k j nx : Nat} {σ : ev_M} {τ : ev_L} {n : Nat} {K : ev_K} {r : List Value} {o : Option Nat} (ad : Nat → Nat) (h : match o with
    | none => K nx lv (.int (σ k j) :: r) σ τ n
    | some q => K nx lv (.ref q :: r) σ τ n) : ∃ v, ev_v ad v = ev_o ad (σ k j) o ∧ K nx lv (v :: r) σ τ n := by
  cases o with
  | none => exact ⟨_, rfl, h⟩
  | some q => exact ⟨_, rfl, h⟩
theorem qq_gf (X : ev_X l R LY cl Ts cc nL own J) {C : String} {T : u_T} {N index : Nat} (ci j : Nat) (hc : cl[ci]? = some (C, T, N)) (hin : ∀ w ∈ u_ws C T N, w ∈ Ts) (hj : j < N) (hl : (Cond.fieldLink own index (T j).1 (T j).2.1 (T j).2.2.1) ∈ Ts) (d : decode cc pc = .ok (.getfield index, 3)) : ev_ok J pc (tt_gf LY ci j (pc + 3)) := by
  obtain ⟨p, e, s, m, args, below, meth, c, Q, D, K3, ad, A, b0, b1, rfl, hx, hb, hml, hown, hts, hK, hD, hA, hc0, hc1⟩ := X
  intro lv st σ τ n K h hK2 H locs ls hP hS hL
  unfold tt_gf at h
  split at h
  · rename_i k r
    obtain ⟨fs, h1, h2⟩ := ev_ob_k h
    obtain ⟨o, h3, h4⟩ := ev_fo_k h2
    obtain ⟨v, h5, h6⟩ := ev_gf ad h4
    refine va_get hx hb hts hin hown hK hP k (ci := ci) (fs := ev_f ad (σ k) 0 fs) (by rw [ev_lay_get, h1]; rfl) hc j hj (hts _ hl) (fun _ q => q) (v := ev_v ad v) (by rw [ev_f_at, h3, h5, Nat.zero_add]; rfl) d ?_
    exact hK2 _ _ _ _ _ _ h6 H locs ls hP hS hL
  · exact h.elim
theorem qq_gfN (X : ev_X l R LY cl Ts cc nL own J) {C : String} {T : u_T} {N index : Nat} {host : String} (ci j : Nat) (hc : cl[ci]? = some (C, T, N)) (hin : ∀ w ∈ u_ws C T N, w ∈ Ts) (hj : j < N) (hl : (Cond.fieldLinkNest own index (T j).1 (T j).2.1 (T j).2.2.1 host) ∈ Ts) (d : decode cc pc = .ok (.getfield index, 3)) : ev_ok J pc (tt_gf LY ci j (pc + 3)) := by
  obtain ⟨p, e, s, m, args, below, meth, c, Q, D, K3, ad, A, b0, b1, rfl, hx, hb, hml, hown, hts, hK, hD, hA, hc0, hc1⟩ := X
  intro lv st σ τ n K h hK2 H locs ls hP hS hL
  unfold tt_gf at h
  split at h
  · rename_i k r
    obtain ⟨fs, h1, h2⟩ := ev_ob_k h
    obtain ⟨o, h3, h4⟩ := ev_fo_k h2
    obtain ⟨v, h5, h6⟩ := ev_gf ad h4
    refine va_getN hx hb hts hin hown hK hP k (ci := ci) (fs := ev_f ad (σ k) 0 fs) (by rw [ev_lay_get, h1]; rfl) hc j hj (hts _ hl) (fun _ q => q) (v := ev_v ad v) (by rw [ev_f_at, h3, h5, Nat.zero_add]; rfl) d ?_
    exact hK2 _ _ _ _ _ _ h6 H locs ls hP hS hL
  · exact h.elim
def tt_pf (LY : List ev_D) (ci j nx : Nat) : ev_T := fun lv st σ τ n K => match st with
  | .int x :: .ref k :: r => ev_ob LY ci k (fun fs => ev_fo fs j (fun o => match o with
    | none => K nx lv r (ev_u σ k j x) τ n
    | some _ => False))
  | _ => False
def tt_pz (LY : List ev_D) (ci j nx : Nat) : ev_T := fun lv st σ τ n K => match st with
  | .int x :: .ref k :: r => ev_ob LY ci k (fun fs => ev_fo fs j (fun o => match o with
    | none => (x = 0 ∨ x = 1) ∧ K nx lv r (ev_u σ k j x) τ n
    | some _ => False))
  | _ => False
theorem qq_pf (X : ev_X l R LY cl Ts cc nL own J) {C : String} {T : u_T} {N index : Nat} (ci j : Nat) (hc : cl[ci]? = some (C, T, N)) (hin : ∀ w ∈ u_ws C T N, w ∈ Ts) (hj : j < N) (ty0 : Nat → FieldType) (hty : ∀ k, k < N → parseFieldDescriptor (T k).2.2.1 = some (ty0 k)) (hnm : ∀ a, a < N → ∀ b, b < N → a ≠ b → (T a).2.1 ≠ (T b).2.1) (hfin : (T j).2.2.2 = false) (hd : parseFieldDescriptor (T j).2.2.1 = some .int) (hl : (Cond.fieldLink own index (T j).1 (T j).2.1 (T j).2.2.1) ∈ Ts) (d : decode cc pc = .ok (.putfield index, 3)) : ev_ok J pc (tt_pf LY ci j (pc + 3)) := by
  obtain ⟨p, e, s, m, args, below, meth, c, Q, D, K3, ad, A, b0, b1, rfl, hx, hb, hml, hown, hts, hK, hD, hA, hc0, hc1⟩ := X
  intro lv st σ τ n K h hK2 H locs ls hP hS hL
  unfold tt_pf at h
  split at h
  · rename_i x k r
    obtain ⟨fs, h1, h2⟩ := ev_ob_k h
    obtain ⟨o, h3, h4⟩ := ev_fo_k h2
    cases o with
    | some q => exact h4.elim
    | none =>
      have hlen : j < (ev_f ad (σ k) 0 fs).length := by rw [ev_f_len]; exact (List.getElem?_eq_some_iff.mp h3).1
      refine va_put hx hb hts hin ty0 hty hnm hown hK hP (hD σ τ) hS k (ci := ci) (fs := ev_f ad (σ k) 0 fs) (by rw [ev_lay_get, h1]; rfl) hc j hj (hts _ hl) (fun _ q => q) hfin (ty := .int) (v := .int x) hd rfl rfl hlen d (fun H1 locs1 hP1 _ hS1 => ?_)
      have he : (ev_lay LY K3 ad σ τ).set k (ad k, .inr (ci, (ev_f ad (σ k) 0 fs).set j (.int x))) = ev_lay LY K3 ad (ev_u σ k j x) τ := by
        rw [ev_f_set ad (σ k) fs j x h3]
        exact ev_lay_setI (d := (3, ci, fs)) j x h1
      rw [he] at hP1
      exact hK2 _ _ _ _ _ _ h4 H1 locs1 ls hP1 hS1 hL
  · exact h.elim
theorem qq_pfN (X : ev_X l R LY cl Ts cc nL own J) {C : String} {T : u_T} {N index : Nat} {host : String} (ci j : Nat) (hc : cl[ci]? = some (C, T, N)) (hin : ∀ w ∈ u_ws C T N, w ∈ Ts) (hj : j < N) (ty0 : Nat → FieldType) (hty : ∀ k, k < N → parseFieldDescriptor (T k).2.2.1 = some (ty0 k)) (hnm : ∀ a, a < N → ∀ b, b < N → a ≠ b → (T a).2.1 ≠ (T b).2.1) (hfin : (T j).2.2.2 = false) (hd : parseFieldDescriptor (T j).2.2.1 = some .int) (hl : (Cond.fieldLinkNest own index (T j).1 (T j).2.1 (T j).2.2.1 host) ∈ Ts) (d : decode cc pc = .ok (.putfield index, 3)) : ev_ok J pc (tt_pf LY ci j (pc + 3)) := by
  obtain ⟨p, e, s, m, args, below, meth, c, Q, D, K3, ad, A, b0, b1, rfl, hx, hb, hml, hown, hts, hK, hD, hA, hc0, hc1⟩ := X
  intro lv st σ τ n K h hK2 H locs ls hP hS hL
  unfold tt_pf at h
  split at h
  · rename_i x k r
    obtain ⟨fs, h1, h2⟩ := ev_ob_k h
    obtain ⟨o, h3, h4⟩ := ev_fo_k h2
    cases o with
    | some q => exact h4.elim
    | none =>
      have hlen : j < (ev_f ad (σ k) 0 fs).length := by rw [ev_f_len]; exact (List.getElem?_eq_some_iff.mp h3).1
      refine va_putN hx hb hts hin ty0 hty hnm hown hK hP (hD σ τ) hS k (ci := ci) (fs := ev_f ad (σ k) 0 fs) (by rw [ev_lay_get, h1]; rfl) hc j hj (hts _ hl) (fun _ q => q) hfin (ty := .int) (v := .int x) hd rfl rfl hlen d (fun H1 locs1 hP1 _ hS1 => ?_)
      have he : (ev_lay LY K3 ad σ τ).set k (ad k, .inr (ci, (ev_f ad (σ k) 0 fs).set j (.int x))) = ev_lay LY K3 ad (ev_u σ k j x) τ := by
        rw [ev_f_set ad (σ k) fs j x h3]
        exact ev_lay_setI (d := (3, ci, fs)) j x h1
      rw [he] at hP1
      exact hK2 _ _ _ _ _ _ h4 H1 locs1 ls hP1 hS1 hL
  · exact h.elim
theorem qq_pz (X : ev_X l R LY cl Ts cc nL own J) {C : String} {T : u_T} {N index : Nat} (ci j : Nat) (hc : cl[ci]? = some (C, T, N)) (hin : ∀ w ∈ u_ws C T N, w ∈ Ts) (hj : j < N) (ty0 : Nat → FieldType) (hty : ∀ k, k < N → parseFieldDescriptor (T k).2.2.1 = some (ty0 k)) (hnm : ∀ a, a < N → ∀ b, b < N → a ≠ b → (T a).2.1 ≠ (T b).2.1) (hfin : (T j).2.2.2 = false) (hd : parseFieldDescriptor (T j).2.2.1 = some .boolean) (hl : (Cond.fieldLink own index (T j).1 (T j).2.1 (T j).2.2.1) ∈ Ts) (d : decode cc pc = .ok (.putfield index, 3)) : ev_ok J pc (tt_pz LY ci j (pc + 3)) := by
  obtain ⟨p, e, s, m, args, below, meth, c, Q, D, K3, ad, A, b0, b1, rfl, hx, hb, hml, hown, hts, hK, hD, hA, hc0, hc1⟩ := X
  intro lv st σ τ n K h hK2 H locs ls hP hS hL
  unfold tt_pz at h
  split at h
  · rename_i x k r
    obtain ⟨fs, h1, h2⟩ := ev_ob_k h
    obtain ⟨o, h3, h4⟩ := ev_fo_k h2
    cases o with
    | some q => exact h4.elim
    | none =>
      have hlen : j < (ev_f ad (σ k) 0 fs).length := by rw [ev_f_len]; exact (List.getElem?_eq_some_iff.mp h3).1
      refine va_put hx hb hts hin ty0 hty hnm hown hK hP (hD σ τ) hS k (ci := ci) (fs := ev_f ad (σ k) 0 fs) (by rw [ev_lay_get, h1]; rfl) hc j hj (hts _ hl) (fun _ q => q) hfin (ty := .boolean) (v := .int x) hd (by rcases h4.1 with rfl | rfl <;> rfl) (by rcases h4.1 with rfl | rfl <;> rfl) hlen d (fun H1 locs1 hP1 _ hS1 => ?_)
      have he : (ev_lay LY K3 ad σ τ).set k (ad k, .inr (ci, (ev_f ad (σ k) 0 fs).set j (.int x))) = ev_lay LY K3 ad (ev_u σ k j x) τ := by
        rw [ev_f_set ad (σ k) fs j x h3]
        exact ev_lay_setI (d := (3, ci, fs)) j x h1
      rw [he] at hP1
      exact hK2 _ _ _ _ _ _ h4.2 H1 locs1 ls hP1 hS1 hL
  · exact h.elim
theorem qq_pzN (X : ev_X l R LY cl Ts cc nL own J) {C : String} {T : u_T} {N index : Nat} {host : String} (ci j : Nat) (hc : cl[ci]? = some (C, T, N)) (hin : ∀ w ∈ u_ws C T N, w ∈ Ts) (hj : j < N) (ty0 : Nat → FieldType) (hty : ∀ k, k < N → parseFieldDescriptor (T k).2.2.1 = some (ty0 k)) (hnm : ∀ a, a < N → ∀ b, b < N → a ≠ b → (T a).2.1 ≠ (T b).2.1) (hfin : (T j).2.2.2 = false) (hd : parseFieldDescriptor (T j).2.2.1 = some .boolean) (hl : (Cond.fieldLinkNest own index (T j).1 (T j).2.1 (T j).2.2.1 host) ∈ Ts) (d : decode cc pc = .ok (.putfield index, 3)) : ev_ok J pc (tt_pz LY ci j (pc + 3)) := by
  obtain ⟨p, e, s, m, args, below, meth, c, Q, D, K3, ad, A, b0, b1, rfl, hx, hb, hml, hown, hts, hK, hD, hA, hc0, hc1⟩ := X
  intro lv st σ τ n K h hK2 H locs ls hP hS hL
  unfold tt_pz at h
  split at h
  · rename_i x k r
    obtain ⟨fs, h1, h2⟩ := ev_ob_k h
    obtain ⟨o, h3, h4⟩ := ev_fo_k h2
    cases o with
    | some q => exact h4.elim
    | none =>
      have hlen : j < (ev_f ad (σ k) 0 fs).length := by rw [ev_f_len]; exact (List.getElem?_eq_some_iff.mp h3).1
      refine va_putN hx hb hts hin ty0 hty hnm hown hK hP (hD σ τ) hS k (ci := ci) (fs := ev_f ad (σ k) 0 fs) (by rw [ev_lay_get, h1]; rfl) hc j hj (hts _ hl) (fun _ q => q) hfin (ty := .boolean) (v := .int x) hd (by rcases h4.1 with rfl | rfl <;> rfl) (by rcases h4.1 with rfl | rfl <;> rfl) hlen d (fun H1 locs1 hP1 _ hS1 => ?_)
      have he : (ev_lay LY K3 ad σ τ).set k (ad k, .inr (ci, (ev_f ad (σ k) 0 fs).set j (.int x))) = ev_lay LY K3 ad (ev_u σ k j x) τ := by
        rw [ev_f_set ad (σ k) fs j x h3]
        exact ev_lay_setI (d := (3, ci, fs)) j x h1
      rw [he] at hP1
      exact hK2 _ _ _ _ _ _ h4.2 H1 locs1 ls hP1 hS1 hL
  · exact h.elim
def tt_ia (LY : List ev_D) (nx : Nat) : ev_T := fun lv st σ τ n K => match st with
  | .int i :: .ref k :: r => ev_ly LY k (fun d => match d with
    | (0, z, _) => vp_in i z ∧ K nx lv (.int (σ k i.toNatClampNeg) :: r) σ τ n
    | _ => False)
  | _ => False
theorem qq_ia (X : ev_X l R LY cl Ts cc nL own J) (d : decode cc pc = .ok (.iaload, 1)) : ev_ok J pc (tt_ia LY (pc + 1)) := by
  obtain ⟨p, e, s, m, args, below, meth, c, Q, D, K3, ad, A, b0, b1, rfl, hx, hb, hml, hown, hts, hK, hD, hA, hc0, hc1⟩ := X
  intro lv st σ τ n K h hK2 H locs ls hP hS hL
  unfold tt_ia at h
  split at h
  · rename_i i k r
    obtain ⟨dd, h1, h2⟩ := ev_ly_k h
    split at h2
    · rename_i z zz
      refine va_iald hx hb hK hP k 0 (by rw [ev_lay_get, h1]; rfl) rfl h2.1 d ?_
      exact hK2 _ _ _ _ _ _ h2.2 H locs ls hP hS hL
    · exact h2.elim
  · exact h.elim
def tt_za (LY : List ev_D) (nx : Nat) : ev_T := fun lv st σ τ n K => match st with
  | .int i :: .ref k :: r => ev_ly LY k (fun d => match d with
    | (1, z, _) => vp_in i z ∧ K nx lv (.int (σ k i.toNatClampNeg) :: r) σ τ n
    | _ => False)
  | _ => False
theorem qq_za (X : ev_X l R LY cl Ts cc nL own J) (d : decode cc pc = .ok (.baload, 1)) : ev_ok J pc (tt_za LY (pc + 1)) := by
  obtain ⟨p, e, s, m, args, below, meth, c, Q, D, K3, ad, A, b0, b1, rfl, hx, hb, hml, hown, hts, hK, hD, hA, hc0, hc1⟩ := X
  intro lv st σ τ n K h hK2 H locs ls hP hS hL
  unfold tt_za at h
  split at h
  · rename_i i k r
    obtain ⟨dd, h1, h2⟩ := ev_ly_k h
    split at h2
    · rename_i z zz
      refine va_zald hx hb hK hP k 1 (by rw [ev_lay_get, h1]; rfl) rfl h2.1 d ?_
      exact hK2 _ _ _ _ _ _ h2.2 H locs ls hP hS hL
    · exact h2.elim
  · exact h.elim
def tt_la (LY : List ev_D) (nx : Nat) : ev_T := fun lv st σ τ n K => match st with
  | .int i :: .ref k :: r => ev_ly LY k (fun d => match d with
    | (2, z, _) => vp_in i z ∧ K nx lv (.long (τ k i.toNatClampNeg) :: r) σ τ n
    | _ => False)
  | _ => False
theorem qq_la (X : ev_X l R LY cl Ts cc nL own J) (d : decode cc pc = .ok (.laload, 1)) : ev_ok J pc (tt_la LY (pc + 1)) := by
  obtain ⟨p, e, s, m, args, below, meth, c, Q, D, K3, ad, A, b0, b1, rfl, hx, hb, hml, hown, hts, hK, hD, hA, hc0, hc1⟩ := X
  intro lv st σ τ n K h hK2 H locs ls hP hS hL
  unfold tt_la at h
  split at h
  · rename_i i k r
    obtain ⟨dd, h1, h2⟩ := ev_ly_k h
    split at h2
    · rename_i z zz
      refine va_lald hx hb hK hP k 2 (by rw [ev_lay_get, h1]; rfl) rfl h2.1 d ?_
      exact hK2 _ _ _ _ _ _ h2.2 H locs ls hP hS hL
    · exact h2.elim
  · exact h.elim
def tt_ias (LY : List ev_D) (nx : Nat) : ev_T := fun lv st σ τ n K => match st with
  | .int x :: .int i :: .ref k :: r => ev_ly LY k (fun d => match d with
    | (0, z, _) => vp_in i z ∧ K nx lv r (ev_u σ k i.toNatClampNeg x) τ n
    | _ => False)
  | _ => False
theorem qq_ias (X : ev_X l R LY cl Ts cc nL own J) (d : decode cc pc = .ok (.iastore, 1)) : ev_ok J pc (tt_ias LY (pc + 1)) := by
  obtain ⟨p, e, s, m, args, below, meth, c, Q, D, K3, ad, A, b0, b1, rfl, hx, hb, hml, hown, hts, hK, hD, hA, hc0, hc1⟩ := X
  intro lv st σ τ n K h hK2 H locs ls hP hS hL
  unfold tt_ias at h
  split at h
  · rename_i x i k r
    obtain ⟨dd, h1, h2⟩ := ev_ly_k h
    split at h2
    · rename_i z zz
      refine va_iast hx hb hK hP (hD σ τ) hS k 0 (by rw [ev_lay_get, h1]; rfl) rfl h2.1 d (fun H1 locs1 hP1 _ hS1 => ?_)
      have hP2 : va_P D cl (ev_lay LY K3 ad (ev_u σ k i.toNatClampNeg x) τ) H1 := by
        rw [← ev_lay_setI (d := (0, z, zz)) _ _ h1]
        exact hP1
      exact hK2 _ _ _ _ _ _ h2.2 H1 locs1 ls hP2 hS1 hL
    · exact h2.elim
  · exact h.elim
def tt_zas (LY : List ev_D) (nx : Nat) : ev_T := fun lv st σ τ n K => match st with
  | .int x :: .int i :: .ref k :: r => ev_ly LY k (fun d => match d with
    | (1, z, _) => vp_in i z ∧ K nx lv r (ev_u σ k i.toNatClampNeg (vp_nar .boolean x)) τ n
    | _ => False)
  | _ => False
theorem qq_zas (X : ev_X l R LY cl Ts cc nL own J) (d : decode cc pc = .ok (.bastore, 1)) : ev_ok J pc (tt_zas LY (pc + 1)) := by
  obtain ⟨p, e, s, m, args, below, meth, c, Q, D, K3, ad, A, b0, b1, rfl, hx, hb, hml, hown, hts, hK, hD, hA, hc0, hc1⟩ := X
  intro lv st σ τ n K h hK2 H locs ls hP hS hL
  unfold tt_zas at h
  split at h
  · rename_i x i k r
    obtain ⟨dd, h1, h2⟩ := ev_ly_k h
    split at h2
    · rename_i z zz
      refine va_zast hx hb hK hP (hD σ τ) hS k 1 (by rw [ev_lay_get, h1]; rfl) rfl h2.1 d (fun H1 locs1 hP1 _ hS1 => ?_)
      have hP2 : va_P D cl (ev_lay LY K3 ad (ev_u σ k i.toNatClampNeg (vp_nar .boolean x)) τ) H1 := by
        rw [← ev_lay_setI (d := (1, z, zz)) _ _ h1]
        exact hP1
      exact hK2 _ _ _ _ _ _ h2.2 H1 locs1 ls hP2 hS1 hL
    · exact h2.elim
  · exact h.elim
def tt_las (LY : List ev_D) (nx : Nat) : ev_T := fun lv st σ τ n K => match st with
  | .long x :: .int i :: .ref k :: r => ev_ly LY k (fun d => match d with
    | (2, z, _) => vp_in i z ∧ K nx lv r σ (ev_w τ k i.toNatClampNeg x) n
    | _ => False)
  | _ => False
theorem qq_las (X : ev_X l R LY cl Ts cc nL own J) (d : decode cc pc = .ok (.lastore, 1)) : ev_ok J pc (tt_las LY (pc + 1)) := by
  obtain ⟨p, e, s, m, args, below, meth, c, Q, D, K3, ad, A, b0, b1, rfl, hx, hb, hml, hown, hts, hK, hD, hA, hc0, hc1⟩ := X
  intro lv st σ τ n K h hK2 H locs ls hP hS hL
  unfold tt_las at h
  split at h
  · rename_i x i k r
    obtain ⟨dd, h1, h2⟩ := ev_ly_k h
    split at h2
    · rename_i z zz
      refine va_last hx hb hK hP (hD σ τ) hS k 2 (by rw [ev_lay_get, h1]; rfl) rfl h2.1 d (fun H1 locs1 hP1 _ hS1 => ?_)
      have hP2 : va_P D cl (ev_lay LY K3 ad σ (ev_w τ k i.toNatClampNeg x)) H1 := by
        rw [← ev_lay_setL (d := (2, z, zz)) _ _ h1]
        exact hP1
      exact hK2 _ _ _ _ _ _ h2.2 H1 locs1 ls hP2 hS1 hL
    · exact h2.elim
  · exact h.elim
theorem qq_irem (X : ev_X l R LY cl Ts cc nL own J) (d : decode cc pc = .ok (.irem, 1)) : ev_ok J pc (tt_irem (pc + 1)) := by
  obtain ⟨p, e, s, m, args, below, meth, c, Q, D, K3, ad, A, b0, b1, rfl, hx, hb, hml, hown, hts, hK, hD, hA, hc0, hc1⟩ := X
  intro lv st σ τ n K h hK2 H locs ls hP hS hL
  unfold tt_irem at h
  split at h
  · refine lv_irem hx hb d h.1 ?_
    exact hK2 _ _ _ _ _ _ h.2 H locs ls hP hS hL
  · exact h.elim
def tt_lcmp (nx : Nat) : ev_T := fun lv st σ τ n K => match st with
  | .long y :: .long x :: r => K nx lv (.int (lg_cmp x y) :: r) σ τ n
  | _ => False
theorem qq_lcmp (X : ev_X l R LY cl Ts cc nL own J) (d : decode cc pc = .ok (.lcmp, 1)) : ev_ok J pc (tt_lcmp (pc + 1)) := by
  obtain ⟨p, e, s, m, args, below, meth, c, Q, D, K3, ad, A, b0, b1, rfl, hx, hb, hml, hown, hts, hK, hD, hA, hc0, hc1⟩ := X
  intro lv st σ τ n K h hK2 H locs ls hP hS hL
  unfold tt_lcmp at h
  split at h
  · refine W.lcmp hx hb d ?_
    exact hK2 _ _ _ _ _ _ h H locs ls hP hS hL
  · exact h.elim
end EV
