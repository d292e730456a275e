/-! A store of places, and an evaluator of instructions over it. A place is a number: the k-th of a fixed list LY of cells, at the address 'ad k'. A cell holds the ints 'σ k' or the longs 'τ k'; the references in its fields are fixed. An instruction is a predicate transformer over (locals, stack, σ, τ, n); 'ev_ok' says that it is right for the machine; 'ev_wp' strings them together, up to cut points. -/
abbrev ev_M : Type := Nat → Nat → Int32
abbrev ev_L : Type := Nat → Nat → Int64
abbrev ev_D : Type := Nat × Nat × List (Option Nat)
abbrev ev_K : Type := Nat → List Value → List Value → ev_M → ev_L → Nat → Prop
abbrev ev_T : Type := List Value → List Value → ev_M → ev_L → Nat → ev_K → Prop
abbrev ev_3 : Type := ClassId × ClassId × ClassId
/-- a value over places, over addresses -/
def ev_v (ad : Nat → Nat) : Value → Value
  | .ref q => .ref (ad q)
  | v => v
theorem ev_v_cat (ad : Nat → Nat) (v : Value) : (ev_v ad v).category = v.category := by cases v <;> rfl
theorem ev_cats (ad : Nat → Nat) (r : List Value) : ((r.map (ev_v ad)).map fun v => v.category) = r.map fun v => v.category := by
  rw [List.map_map]
  exact List.map_congr_left (fun v _ => ev_v_cat ad v)
/-- an object's fields -/
def ev_f (ad : Nat → Nat) (f : Nat → Int32) : Nat → List (Option Nat) → List Value
  | _, [] => []
  | j, none :: r => .int (f j) :: ev_f ad f (j + 1) r
  | j, some q :: r => .ref (ad q) :: ev_f ad f (j + 1) r
def ev_o (ad : Nat → Nat) (x : Int32) : Option Nat → Value
  | none => .int x
  | some q => .ref (ad q)
theorem ev_f_at (ad : Nat → Nat) (f : Nat → Int32) : ∀ (r : List (Option Nat)) (b j : Nat), (ev_f ad f b r)[j]? = (r[j]?).map (ev_o ad (f (b + j)))
  | [], b, j => by simp [ev_f]
  | none :: r, b, 0 => by simp [ev_f, ev_o]
  | some q :: r, b, 0 => by simp [ev_f, ev_o]
  | none :: r, b, j + 1 => by
    have h := ev_f_at ad f r (b + 1) j
    rw [show b + 1 + j = b + (j + 1) by omega] at h
    simpa [ev_f] using h
  | some q :: r, b, j + 1 => by
    have h := ev_f_at ad f r (b + 1) j
    rw [show b + 1 + j = b + (j + 1) by omega] at h
    simpa [ev_f] using h
theorem ev_f_set (ad : Nat → Nat) (f : Nat → Int32) (r : List (Option Nat)) (j : Nat) (x : Int32) (h : r[j]? = some none) : (ev_f ad f 0 r).set j (.int x) = ev_f ad (upd f j x) 0 r := by
  apply List.ext_getElem?
  intro i
  have h1 := ev_f_at ad f r 0 j
  rw [h] at h1
  have hl : j < (ev_f ad f 0 r).length := (List.getElem?_eq_some_iff.mp h1).1
  by_cases hij : j = i
  · subst hij
    rw [List.getElem?_set_self hl, ev_f_at, h]
    simp [upd, ev_o]
  · rw [List.getElem?_set_ne hij, ev_f_at, ev_f_at]
    have hne : ¬ (0 + i = j) := by omega
    simp only [upd, if_neg hne]
theorem ev_f_len (ad : Nat → Nat) (f : Nat → Int32) : ∀ (r : List (Option Nat)) (b : Nat), (ev_f ad f b r).length = r.length
  | [], b => rfl
  | none :: r, b => by simp [ev_f, ev_f_len ad f r (b + 1)]
  | some q :: r, b => by simp [ev_f, ev_f_len ad f r (b + 1)]
/-- a cell: 0 ints, 1 booleans, 2 longs, else an object -/
def ev_e (K3 : ev_3) (ad : Nat → Nat) (d : ev_D) (f : Nat → Int32) (g : Nat → Int64) : va_E := match d with
  | (0, n, _) => .inl (K3.1, n, .inl f)
  | (1, n, _) => .inl (K3.2.1, n, .inl f)
  | (2, n, _) => .inl (K3.2.2, n, .inr (.inl g))
  | (_, c, fs) => .inr (c, ev_f ad f 0 fs)
def ev_lay (LY : List ev_D) (K3 : ev_3) (ad : Nat → Nat) (σ : ev_M) (τ : ev_L) : va_W := LY.zipIdx.map (fun q => (ad q.2, ev_e K3 ad q.1 (σ q.2) (τ q.2)))
theorem ev_lay_get (LY : List ev_D) (K3 : ev_3) (ad : Nat → Nat) (σ : ev_M) (τ : ev_L) (k : Nat) : (ev_lay LY K3 ad σ τ)[k]? = (LY[k]?).map (fun d => (ad k, ev_e K3 ad d (σ k) (τ k))) := by
  unfold ev_lay
  rw [List.getElem?_map, List.getElem?_zipIdx]
  cases LY[k]? <;> simp
def ev_p {α : Type} (σ : Nat → Nat → α) (k : Nat) (f : Nat → α) : Nat → Nat → α := fun q => if q = k then f else σ q
def ev_u (σ : ev_M) (k j : Nat) (x : Int32) : ev_M := ev_p σ k (upd (σ k) j x)
def ev_w (τ : ev_L) (k j : Nat) (x : Int64) : ev_L := ev_p τ k (vp_updL (τ k) j x)
theorem ev_p_same {α : Type} (σ : Nat → Nat → α) (k : Nat) : ev_p σ k (σ k) = σ := by
  funext q
  unfold ev_p
  by_cases h : q = k
  · rw [if_pos h, h]
  · rw [if_neg h]
theorem ev_lay_set {LY : List ev_D} {K3 : ev_3} {ad : Nat → Nat} {σ : ev_M} {τ : ev_L} {k : Nat} {d : ev_D} (f : Nat → Int32) (g : Nat → Int64) (h : LY[k]? = some d) : (ev_lay LY K3 ad σ τ).set k (ad k, ev_e K3 ad d f g) = ev_lay LY K3 ad (ev_p σ k f) (ev_p τ k g) := by
  apply List.ext_getElem?
  intro i
  have h1 := ev_lay_get LY K3 ad σ τ k
  rw [h] at h1
  have hl : k < (ev_lay LY K3 ad σ τ).length := (List.getElem?_eq_some_iff.mp h1).1
  by_cases hi : k = i
  · subst hi
    rw [List.getElem?_set_self hl, ev_lay_get, h]
    simp [ev_p]
  · rw [List.getElem?_set_ne hi, ev_lay_get, ev_lay_get]
    simp only [ev_p, if_neg (fun q => hi q.symm : ¬ i = k)]
theorem ev_lay_setI {LY : List ev_D} {K3 : ev_3} {ad : Nat → Nat} {σ : ev_M} {τ : ev_L} {k : Nat} {d : ev_D} (j : Nat) (x : Int32) (h : LY[k]? = some d) : (ev_lay LY K3 ad σ τ).set k (ad k, ev_e K3 ad d (upd (σ k) j x) (τ k)) = ev_lay LY K3 ad (ev_u σ k j x) τ := by
  rw [ev_lay_set _ _ h, ev_p_same]; rfl
theorem ev_lay_setL {LY : List ev_D} {K3 : ev_3} {ad : Nat → Nat} {σ : ev_M} {τ : ev_L} {k : Nat} {d : ev_D} (j : Nat) (x : Int64) (h : LY[k]? = some d) : (ev_lay LY K3 ad σ τ).set k (ad k, ev_e K3 ad d (σ k) (vp_updL (τ k) j x)) = ev_lay LY K3 ad σ (ev_w τ k j x) := by
  rw [ev_lay_set _ _ h, ev_p_same]; rfl
theorem ev_D_any {A : Nat → Prop} {LY : List ev_D} {K3 : ev_3} {ad : Nat → Nat} {σ σ' : ev_M} {τ τ' : ev_L} (h : va_D A (ev_lay LY K3 ad σ τ)) : va_D A (ev_lay LY K3 ad σ' τ') := by
  have key : ∀ (k : Nat) (q : Nat × va_E), (ev_lay LY K3 ad σ' τ')[k]? = some q → ∃ q0, (ev_lay LY K3 ad σ τ)[k]? = some q0 ∧ q0.1 = q.1 := by
    intro k q hq
    rw [ev_lay_get] at hq
    cases hd : LY[k]? with
    | none => rw [hd] at hq; cases hq
    | some d =>
      rw [hd] at hq
      cases hq
      exact ⟨(ad k, ev_e K3 ad d (σ k) (τ k)), by rw [ev_lay_get, hd]; rfl, rfl⟩
  refine ⟨fun i j x y hx hy hxy => ?_, fun k q hq => ?_⟩
  · obtain ⟨x0, h1, h2⟩ := key i x hx
    obtain ⟨y0, h3, h4⟩ := key j y hy
    exact h.1 i j x0 y0 h1 h3 (by rw [h2, h4]; exact hxy)
  · obtain ⟨q0, h1, h2⟩ := key k q hq
    rw [← h2]
    exact h.2 k q0 h1
theorem ev_A_any {LY : List ev_D} {K3 : ev_3} {ad : Nat → Nat} {σ σ' : ev_M} {τ τ' : ev_L} {sz : Nat} {q : Nat} (h : va_A (ev_lay LY K3 ad σ τ) sz q) : va_A (ev_lay LY K3 ad σ' τ') sz q := by
  rcases h with ⟨k, x, h⟩ | h
  · rw [ev_lay_get] at h
    cases hd : LY[k]? with
    | none => rw [hd] at h; cases h
    | some d =>
      rw [hd] at h
      cases h
      exact Or.inl ⟨k, _, by rw [ev_lay_get, hd]; rfl⟩
  · exact Or.inr h
/-! locals: a list of values over places; null: nothing is known -/
def ev_ps (ad : Nat → Nat) (lv : List Value) : List (Nat × Value) := lv.zipIdx.filterMap (fun q => if q.1 = .null then none else some (q.2, ev_v ad q.1))
theorem ev_ps_mem {ad : Nat → Nat} {lv : List Value} {q : Nat × Value} : q ∈ ev_ps ad lv ↔ ∃ v, lv[q.1]? = some v ∧ v ≠ .null ∧ q.2 = ev_v ad v := by
  unfold ev_ps
  rw [List.mem_filterMap]
  constructor
  · rintro ⟨⟨v, i⟩, hm, hq⟩
    have hv := List.mem_zipIdx_iff_getElem?.mp hm
    by_cases hn : v = .null
    · rw [if_pos hn] at hq; cases hq
    · rw [if_neg hn] at hq
      cases hq
      exact ⟨v, hv, hn, rfl⟩
  · rintro ⟨v, hv, hn, hq⟩
    refine ⟨(v, q.1), List.mem_zipIdx_iff_getElem?.mpr hv, ?_⟩
    rw [if_neg hn, ← hq]
def ev_h (ad : Nat → Nat) (ls : Array Slot) (nL : Nat) (lv : List Value) : Prop := lv_has ls nL (ev_ps ad lv)
def ev_nth : List Value → Nat → Value
  | [], _ => .null
  | v :: _, 0 => v
  | _ :: r, k + 1 => ev_nth r k
theorem ev_nth_get : ∀ {lv : List Value} {i : Nat} {v : Value}, ev_nth lv i = v → v ≠ .null → lv[i]? = some v
  | [], i, v, h, hn => absurd h.symm hn
  | w :: r, 0, v, h, _ => by simpa [ev_nth] using h
  | w :: r, i + 1, v, h, hn => by
    have := ev_nth_get (lv := r) (i := i) h hn
    simpa using this
theorem ev_h_at {ad : Nat → Nat} {ls : Array Slot} {nL : Nat} {lv : List Value} {i : Nat} {v : Value} (h : ev_h ad ls nL lv) (hv : ev_nth lv i = v) (hn : v ≠ .null) : ls[i]? = some (.val (ev_v ad v)) := h.2.2 (i, ev_v ad v) (ev_ps_mem.mpr ⟨v, ev_nth_get hv hn, hn, rfl⟩)
def ev_setK : List Value → Nat → Value → (List Value → Prop) → Prop
  | [], _, _, k => k []
  | _ :: r, 0, v, k => k (v :: r)
  | x :: r, i + 1, v, k => ev_setK r i v (fun r' => k (x :: r'))
theorem ev_setK_eq : ∀ (lv : List Value) (i : Nat) (v : Value) (k : List Value → Prop), ev_setK lv i v k = k (lv.set i v)
  | [], i, v, k => by simp [ev_setK]
  | x :: r, 0, v, k => by simp [ev_setK]
  | x :: r, i + 1, v, k => by simp [ev_setK, ev_setK_eq r i v]
/-- no long stands just ahead of the place -/
def ev_st : List Value → Nat → Prop → Prop
  | .long _ :: _, 1, _ => False
  | .double _ :: _, 1, _ => False
  | _ :: r, i + 2, k => ev_st r (i + 1) k
  | _, _, k => k
theorem ev_st_k : ∀ {lv : List Value} {i : Nat} {k : Prop}, ev_st lv i k → k ∧ ∀ (j : Nat) (v : Value), j + 1 = i → lv[j]? = some v → ¬ v.category = 2
  | [], i, k, h => by
    refine ⟨?_, fun j v _ hv => by simp at hv⟩
    unfold ev_st at h; exact h
  | x :: r, 0, k, h => by
    refine ⟨?_, fun j v hj _ => by omega⟩
    cases x <;> exact h
  | x :: r, 1, k, h => by
    cases x with
    | long z => exact h.elim
    | double z => exact h.elim
    | _ =>
      refine ⟨h, fun j v hj hv => ?_⟩
      have : j = 0 := by omega
      subst this
      cases hv
      simp [Value.category]
  | x :: r, i + 2, k, h => by
    have h1 : ev_st r (i + 1) k := by cases x <;> exact h
    obtain ⟨h2, h3⟩ := ev_st_k h1
    refine ⟨h2, fun j v hj hv => ?_⟩
    cases j with
    | zero => omega
    | succ j => exact h3 j v (by omega) (by simpa using hv)
theorem ev_h_set1 {ad : Nat → Nat} {ls' : Array Slot} {nL : Nat} {lv : List Value} {i : Nat} {v : Value} (hst : ∀ (j : Nat) (w : Value), j + 1 = i → lv[j]? = some w → ¬ w.category = 2)
    (h : lv_has ls' nL ((i, ev_v ad v) :: (ev_ps ad lv).filter (fun q => !(q.1 == i) && !(q.1 + 1 == i && q.2.category == 2)))) : ev_h ad ls' nL (lv.set i v) := by
  refine ⟨h.1, h.2.1, fun q hq => h.2.2 q ?_⟩
  obtain ⟨w, hw, hn, he⟩ := ev_ps_mem.mp hq
  by_cases hi : i = q.1
  · rw [← hi] at hw
    have hl : i < lv.length := by
      have := (List.getElem?_eq_some_iff.mp hw).1
      simpa using this
    rw [List.getElem?_set_self hl] at hw
    cases hw
    have : q = (i, ev_v ad v) := by rw [← he, hi]
    rw [this]; exact List.mem_cons_self
  · rw [List.getElem?_set_ne hi] at hw
    refine List.mem_cons_of_mem _ (List.mem_filter.mpr ⟨ev_ps_mem.mpr ⟨w, hw, hn, he⟩, ?_⟩)
    have h1 : (q.1 == i) = false := by simpa using fun h => hi h.symm
    have h2 : (q.1 + 1 == i && q.2.category == 2) = false := by
      by_cases hj : q.1 + 1 = i
      · have := hst q.1 w hj hw
        rw [he, ev_v_cat]
        simp [this]
      · simp [hj]
    rw [h1, h2]; rfl
theorem ev_h_set2 {ad : Nat → Nat} {ls' : Array Slot} {nL : Nat} {lv : List Value} {i : Nat} {v : Value} (hst : ∀ (j : Nat) (w : Value), j + 1 = i → lv[j]? = some w → ¬ w.category = 2)
    (h : lv_has ls' nL ((i, ev_v ad v) :: (ev_ps ad lv).filter (fun q => !(q.1 == i) && (!(q.1 == i + 1) && !(q.1 + 1 == i && q.2.category == 2))))) : ev_h ad ls' nL ((lv.set i v).set (i + 1) .null) := by
  refine ⟨h.1, h.2.1, fun q hq => h.2.2 q ?_⟩
  obtain ⟨w, hw, hn, he⟩ := ev_ps_mem.mp hq
  by_cases h2 : i + 1 = q.1
  · rw [← h2] at hw
    have hl : i + 1 < (lv.set i v).length := by
      have := (List.getElem?_eq_some_iff.mp hw).1
      simpa using this
    rw [List.getElem?_set_self hl] at hw
    cases hw
    exact absurd rfl hn
  rw [List.getElem?_set_ne h2] at hw
  by_cases hi : i = q.1
  · rw [← hi] at hw
    have hl : i < lv.length := by
      have := (List.getElem?_eq_some_iff.mp hw).1
      simpa using this
    rw [List.getElem?_set_self hl] at hw
    cases hw
    have : q = (i, ev_v ad v) := by rw [← he, hi]
    rw [this]; exact List.mem_cons_self
  · rw [List.getElem?_set_ne hi] at hw
    refine List.mem_cons_of_mem _ (List.mem_filter.mpr ⟨ev_ps_mem.mpr ⟨w, hw, hn, he⟩, ?_⟩)
    have h1 : (q.1 == i) = false := by simpa using fun h => hi h.symm
    have h3 : (q.1 == i + 1) = false := by simpa using fun h => h2 h.symm
    have h4 : (q.1 + 1 == i && q.2.category == 2) = false := by
      by_cases hj : q.1 + 1 = i
      · have := hst q.1 w hj hw
        rw [he, ev_v_cat]
        simp [this]
      · simp [hj]
    rw [h1, h3, h4]; rfl
/-- the locals at a method's entry -/
def ev_in : Nat → List Value → List Value
  | 0, _ => []
  | n + 1, .long x :: r => .long x :: (match n with | 0 => [] | k + 1 => .null :: ev_in k r)
  | n + 1, .double x :: r => .double x :: (match n with | 0 => [] | k + 1 => .null :: ev_in k r)
  | n + 1, v :: r => v :: ev_in n r
  | n + 1, [] => .null :: ev_in n []
theorem ev_in_nil : ∀ (n i : Nat) (v : Value), (ev_in n [])[i]? = some v → v = .null
  | 0, i, v, h => by simp [ev_in] at h
  | n + 1, 0, v, h => by simp [ev_in] at h; exact h.symm
  | n + 1, i + 1, v, h => by
    simp [ev_in] at h
    exact ev_in_nil n i v h
theorem ev_in_at : ∀ (n : Nat) (as : List Value) (b i : Nat) (v : Value) (ad : Nat → Nat), (ev_in n as)[i]? = some v → v ≠ .null → (b + i, ev_v ad v) ∈ lv_args b (as.map (ev_v ad)) := by
  intro n
  induction n using Nat.strongRecOn with
  | ind n ih =>
    intro as b i v ad h hn
    cases n with
    | zero => simp [ev_in] at h
    | succ n =>
      cases as with
      | nil => exact absurd (ev_in_nil _ _ _ h) hn
      | cons w r =>
        have one : ¬ w.category = 2 → ev_in (n + 1) (w :: r) = w :: ev_in n r → (b + i, ev_v ad v) ∈ lv_args b ((w :: r).map (ev_v ad)) := by
          intro hc he
          rw [he] at h
          rw [List.map_cons]
          unfold lv_args
          cases i with
          | zero =>
            simp at h
            subst h
            exact List.mem_cons_self
          | succ i =>
            have h' : (ev_in n r)[i]? = some v := by simpa using h
            have := ih n (by omega) r (b + 1) i v ad h' hn
            refine List.mem_cons_of_mem _ ?_
            rw [if_neg (by rw [ev_v_cat]; exact hc)]
            rw [show b + (i + 1) = b + 1 + i by omega]
            exact this
        have two : w.category = 2 → (ev_in (n + 1) (w :: r))[0]? = some w → (∀ j, (ev_in (n + 1) (w :: r))[j + 1]? = some v → ∃ k i2, n = k + 1 ∧ j = i2 + 1 ∧ (ev_in k r)[i2]? = some v) → (b + i, ev_v ad v) ∈ lv_args b ((w :: r).map (ev_v ad)) := by
          intro hc h0 h1
          rw [List.map_cons]
          unfold lv_args
          cases i with
          | zero =>
            rw [h0] at h
            cases h
            exact List.mem_cons_self
          | succ i =>
            obtain ⟨k, i2, rfl, rfl, h'⟩ := h1 i h
            have := ih k (by omega) r (b + 2) i2 v ad h' hn
            refine List.mem_cons_of_mem _ ?_
            rw [if_pos (by rw [ev_v_cat]; exact hc)]
            rw [show b + (i2 + 1 + 1) = b + 2 + i2 by omega]
            exact this
        cases w with
        | long x =>
          refine two rfl (by cases n <;> simp [ev_in]) (fun j hj => ?_)
          cases n with
          | zero => simp [ev_in] at hj
          | succ k =>
            cases j with
            | zero => simp [ev_in] at hj; exact absurd hj.symm hn
            | succ i2 => exact ⟨k, i2, rfl, rfl, by simpa [ev_in] using hj⟩
        | double x =>
          refine two rfl (by cases n <;> simp [ev_in]) (fun j hj => ?_)
          cases n with
          | zero => simp [ev_in] at hj
          | succ k =>
            cases j with
            | zero => simp [ev_in] at hj; exact absurd hj.symm hn
            | succ i2 => exact ⟨k, i2, rfl, rfl, by simpa [ev_in] using hj⟩
        | _ => exact one (by simp [Value.category]) (by simp [ev_in])
