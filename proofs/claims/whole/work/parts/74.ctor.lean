/-! constructors: a world that grows cell by cell, all zero; a place is the number of the cell -/
abbrev cn_D : Type := Nat × Nat × List Value
def cn_e (K3 : ev_3) (ad : Nat → Nat) (d : cn_D) : va_E := match d with
  | (0, n, _) => .inl (K3.1, n, .inl (fun _ => 0))
  | (1, n, _) => .inl (K3.2.1, n, .inl (fun _ => 0))
  | (2, n, _) => .inl (K3.2.2, n, .inr (.inl (fun _ => 0)))
  | (_, c, fs) => .inr (c, fs.map (ev_v ad))
def cn_lay (K3 : ev_3) (ad : Nat → Nat) (L : List cn_D) : va_W := L.zipIdx.map (fun q => (ad q.2, cn_e K3 ad q.1))
theorem cn_lay_get (K3 : ev_3) (ad : Nat → Nat) (L : List cn_D) (k : Nat) : (cn_lay K3 ad L)[k]? = (L[k]?).map (fun d => (ad k, cn_e K3 ad d)) := by
  unfold cn_lay
  rw [List.getElem?_map, List.getElem?_zipIdx]
  cases L[k]? <;> simp
theorem cn_lay_len (K3 : ev_3) (ad : Nat → Nat) (L : List cn_D) : (cn_lay K3 ad L).length = L.length := by
  unfold cn_lay
  rw [List.length_map, List.length_zipIdx]
/-- how many slots -/
def cn_z (d : cn_D) : Nat := match d with
  | (0, n, _) => n
  | (1, n, _) => n
  | (2, n, _) => n
  | (_, _, fs) => fs.length
def cn_s (L : List cn_D) : Nat := (L.map cn_z).sum
theorem cn_s_app (L M : List cn_D) : cn_s (L ++ M) = cn_s L + cn_s M := by
  unfold cn_s
  rw [List.map_append, List.sum_append]
/-- a window of m new places behind n -/
def adj (n m : Nat) (ad ad2 : Nat → Nat) : Nat → Nat := fun k => if n ≤ k ∧ k < n + m then ad2 (k - n) else ad k
def cn_w (n m : Nat) (v : Value) : Bool := match v with
  | .ref k => decide (k < n ∨ n + m ≤ k)
  | _ => true
def cn_sv (n : Nat) (v : Value) : Value := match v with
  | .ref k => .ref (n + k)
  | v => v
def cn_sh (n : Nat) (d : cn_D) : cn_D := (d.1, d.2.1, d.2.2.map (cn_sv n))
def cn_lo (m : Nat) (v : Value) : Bool := match v with
  | .ref k => decide (k < m)
  | _ => true
theorem adj_k {n m : Nat} {ad ad2 : Nat → Nat} (k : Nat) (h : k < n ∨ n + m ≤ k) : adj n m ad ad2 k = ad k := if_neg (by omega)
theorem adj_i {n m : Nat} {ad ad2 : Nat → Nat} (k : Nat) (h : k < m) : adj n m ad ad2 (n + k) = ad2 k := by
  unfold adj
  rw [if_pos (by omega), Nat.add_sub_cancel_left]
theorem adj_out {n m : Nat} {ad ad2 : Nat → Nat} {v : Value} (h : cn_w n m v = true) : ev_v (adj n m ad ad2) v = ev_v ad v := by
  cases v with
  | ref k => exact congrArg Value.ref (adj_k k (of_decide_eq_true h))
  | _ => rfl
theorem adj_outs {n m : Nat} {ad ad2 : Nat → Nat} {vs : List Value} (h : vs.all (cn_w n m) = true) : vs.map (ev_v (adj n m ad ad2)) = vs.map (ev_v ad) := List.map_congr_left (fun v hv => adj_out (List.all_eq_true.mp h v hv))
theorem adj_in {n m : Nat} {ad ad2 : Nat → Nat} {v : Value} (h : cn_lo m v = true) : ev_v (adj n m ad ad2) (cn_sv n v) = ev_v ad2 v := by
  cases v with
  | ref k => exact congrArg Value.ref (adj_i k (of_decide_eq_true h))
  | _ => rfl
theorem cn_e_eq (K3 : ev_3) {ad ad' : Nat → Nat} {k c : Nat} {fs gs : List Value} (h : fs.map (ev_v ad) = gs.map (ev_v ad')) : cn_e K3 ad (k, c, fs) = cn_e K3 ad' (k, c, gs) := by
  match k with
  | 0 => rfl
  | 1 => rfl
  | 2 => rfl
  | k + 3 =>
    show (Sum.inr (c, fs.map (ev_v ad)) : va_E) = Sum.inr (c, gs.map (ev_v ad'))
    rw [h]
theorem cn_join (K3 : ev_3) (ad ad2 : Nat → Nat) {L M : List cn_D} (hL : L.all (fun d => d.2.2.all (cn_w L.length M.length)) = true) (hM : M.all (fun d => d.2.2.all (cn_lo M.length)) = true) : cn_lay K3 (adj L.length M.length ad ad2) (L ++ M.map (cn_sh L.length)) = cn_lay K3 ad L ++ cn_lay K3 ad2 M := by
  apply List.ext_getElem?
  intro i
  rw [cn_lay_get]
  by_cases hi : i < L.length
  · rw [List.getElem?_append_left hi, List.getElem?_append_left (by rw [cn_lay_len]; exact hi), cn_lay_get, List.getElem?_eq_getElem hi]
    have h1 := List.all_eq_true.mp hL L[i] (List.getElem_mem hi)
    have e1 : adj L.length M.length ad ad2 i = ad i := if_neg (by omega)
    show some _ = some _
    rw [e1]
    have : cn_e K3 (adj L.length M.length ad ad2) L[i] = cn_e K3 ad L[i] := cn_e_eq K3 (adj_outs h1)
    exact congrArg (fun z => some (ad i, z)) this
  · rw [List.getElem?_append_right (by omega), List.getElem?_append_right (by rw [cn_lay_len]; omega), cn_lay_len, cn_lay_get, List.getElem?_map]
    cases hm : M[i - L.length]? with
    | none => rfl
    | some d =>
      obtain ⟨hlt, hd⟩ := List.getElem?_eq_some_iff.mp hm
      have h1 := List.all_eq_true.mp hM d (List.mem_of_getElem? hm)
      have e1 : adj L.length M.length ad ad2 i = ad2 (i - L.length) := if_pos (by omega)
      show some _ = some _
      rw [e1]
      have : cn_e K3 (adj L.length M.length ad ad2) (cn_sh L.length d) = cn_e K3 ad2 d := by
        refine cn_e_eq K3 ?_
        rw [List.map_map]
        exact List.map_congr_left (fun v hv => adj_in (List.all_eq_true.mp h1 v hv))
      exact congrArg (fun z => some (ad2 (i - L.length), z)) this
theorem ev_h_adj {n m nL : Nat} {ad ad2 : Nat → Nat} {ls : Array Slot} {lv : List Value} (h : ev_h ad ls nL lv) (hw : lv.all (cn_w n m) = true) : ev_h (adj n m ad ad2) ls nL lv := by
  refine ⟨h.1, h.2.1, fun q hq => h.2.2 q ?_⟩
  obtain ⟨v, h1, h2, h3⟩ := ev_ps_mem.mp hq
  exact ev_ps_mem.mpr ⟨v, h1, h2, by rw [h3]; exact adj_out (List.all_eq_true.mp hw v (List.mem_of_getElem? h1))⟩
theorem cn_lay_set (K3 : ev_3) (ad : Nat → Nat) {L : List cn_D} {i ci j k : Nat} {fs : List Value} (h : L[i]? = some (3, ci, fs)) : (cn_lay K3 ad L).set i (ad i, .inr (ci, (fs.map (ev_v ad)).set j (.ref (ad k)))) = cn_lay K3 ad (L.set i (3, ci, fs.set j (.ref k))) := by
  have hl := (List.getElem?_eq_some_iff.mp h).1
  apply List.ext_getElem?
  intro x
  rw [cn_lay_get]
  by_cases hx : i = x
  · subst hx
    rw [List.getElem?_set_self (by rw [cn_lay_len]; exact hl), List.getElem?_set_self hl]
    show some _ = some (ad i, (Sum.inr (ci, (fs.set j (.ref k)).map (ev_v ad)) : va_E))
    rw [List.map_set]
    rfl
  · rw [List.getElem?_set_ne hx, List.getElem?_set_ne hx, cn_lay_get]
/-- the classes of the arrays, by their names -/
def cnK (K3 : ev_3) (U : State) : Prop := U.vm.findClass ("[" ++ (newarray.typeOf .int).toString) = some K3.1 ∧ U.vm.findClass ("[" ++ (newarray.typeOf .boolean).toString) = some K3.2.1 ∧ U.vm.findClass ("[" ++ (newarray.typeOf .long).toString) = some K3.2.2
theorem cnK_moved {K3 : ev_3} {u U : State} (h : u.vm.Alike U.vm) (hK : cnK K3 u) : cnK K3 U := by
  unfold cnK
  rw [h.findClass, h.findClass, h.findClass]
  exact hK
def cnW : List Cond := [(Jvm.Cond.methodLinkNest "BlockCounter$Analysis" (11 : Nat) ({ cls := "BlockCounter$Instruction", name := "<init>", desc := "()V" } : Jvm.MethodName) "BlockCounter"),
  (Jvm.Cond.methodLinkNest "BlockCounter$Machine" (11 : Nat) ({ cls := "BlockCounter$Instruction", name := "<init>", desc := "()V" } : Jvm.MethodName) "BlockCounter"),
  (Jvm.Cond.methodLinkNest "BlockCounter$Rewriting" (11 : Nat) ({ cls := "BlockCounter$Instruction", name := "<init>", desc := "()V" } : Jvm.MethodName) "BlockCounter")]
theorem cnW_t : ∀ w ∈ cnW, w.onTables = true := by decide +kernel
theorem cnW_warm {s U : State} (hW : s.WarmedH U.vm) : ∀ w ∈ cnW, va_Nw w s → va_Nw w U := by
  intro w hw
  simp only [cnW, List.mem_cons, List.not_mem_nil, or_false] at hw
  rcases hw with rfl | rfl | rfl <;> exact va_Nw.warmM hW
def cnN (U : State) : Prop := ∀ w ∈ cnW, va_Nw w U
def cn_ty (kd : Nat) : ArrayType := match kd with
  | 0 => .int
  | 1 => .boolean
  | _ => .long
def cn_Pc (ci : Nat) (df : List Value) (D : va_G) (K3 : ev_3) (b sz : Nat) : Array Value → State → Prop := va_Pc [.ref b] (fun U => U.heap.size = sz ∧ va_P D evCl [(b, .inr (ci, df))] U.heap ∧ va_K D evCl (ev_tys K3) U ∧ cnK K3 U ∧ cnN U)
def cn_A (b sz : Nat) : Nat → Prop := fun q => q = b ∨ sz ≤ q
def cn_Q (M : List cn_D) (D : va_G) (K3 : ev_3) (b sz : Nat) : Array Value → State → Outcome → State → Prop := fun _ st oc t => (∃ ad : Nat → Nat, oc = .returned none ∧ ad 0 = b ∧ va_P D evCl (cn_lay K3 ad M) t.heap ∧ va_D (cn_A b sz) (cn_lay K3 ad M)) ∧ va_F (cn_A b sz) st t
def cn_C (l : Launch) (y : MethodName) (ws : List Cond) (rm : Room) (ci : Nat) (df : List Value) (M : List cn_D) (mc ms : Nat) : Prop := ∀ (D : va_G) (K3 : ev_3) (b sz : Nat), Met l y ws rm (cn_Pc ci df D K3 b sz) (cn_Q M D K3 b sz) mc ms (cn_A b sz)
def cn_WS (p : Program) (l : Launch) (e : Env) (R : Room) (s : State) (m : MethodId) (args : Array Value) (below : List Frame) (meth : Method) (c : Code) (Q : State → Prop) (nL : Nat) (D : va_G) (K3 : ev_3) (A : Nat → Prop) (p0 b z0 s0 pc : Nat) (lv st : List Value) (L : List cn_D) : Prop :=
  ∀ (H : Heap) (locs : List Loc) (ls : Array Slot) (ad : Nat → Nat), ad p0 = b → va_P D evCl (cn_lay K3 ad L) H → va_D A (cn_lay K3 ad L) → va_S A s.heap H locs → ev_h ad ls nL lv → W p l e R s m args below meth c H locs (L.length - z0) (cn_s L - s0) Q (F0 m pc ls (st.map (ev_v ad)))
section CN
variable {p : Program} {l : Launch} {e : Env} {R : Room} {s : State} {m : MethodId} {args : Array Value} {below : List Frame} {meth : Method} {c : Code} {Q : State → Prop} {nL : Nat} {D : va_G} {K3 : ev_3} {A : Nat → Prop} {p0 b z0 s0 pc : Nat} {lv st : List Value} {L : List cn_D} {cc : ByteArray}
theorem cn_al (hx : p.tables.exec = Jvm.exec) (hb : c.code = cc) {k : Fin 4} (i q : Nat) (hi : (k : Nat) = i) (hv : ev_nth lv i = .ref q) (d : decode cc pc = .ok (.aload_n k, 1)) (kk : cn_WS p l e R s m args below meth c Q nL D K3 A p0 b z0 s0 (pc + 1) lv (.ref q :: st) L) : cn_WS p l e R s m args below meth c Q nL D K3 A p0 b z0 s0 pc lv st L := by
  intro H locs ls ad h0 hP hD hS hL
  exact lv_aload_n hx hb d hi (ev_h_at hL hv (by intro q; cases q)) (kk H locs ls ad h0 hP hD hS hL)
theorem cn_ic (hx : p.tables.exec = Jvm.exec) (hb : c.code = cc) {z : Int} (x : Int32) (hx9 : Int32.ofInt z = x) (d : decode cc pc = .ok (.iconst z, 1)) (kk : cn_WS p l e R s m args below meth c Q nL D K3 A p0 b z0 s0 (pc + 1) lv (.int x :: st) L) : cn_WS p l e R s m args below meth c Q nL D K3 A p0 b z0 s0 pc lv st L := by
  intro H locs ls ad h0 hP hD hS hL
  exact lv_iconst hx hb d hx9 (kk H locs ls ad h0 hP hD hS hL)
theorem cn_bp (hx : p.tables.exec = Jvm.exec) (hb : c.code = cc) {z : Int} (x : Int32) (hx9 : (Int8.ofInt z).toInt32 = x) (d : decode cc pc = .ok (.bipush z, 2)) (kk : cn_WS p l e R s m args below meth c Q nL D K3 A p0 b z0 s0 (pc + 2) lv (.int x :: st) L) : cn_WS p l e R s m args below meth c Q nL D K3 A p0 b z0 s0 pc lv st L := by
  intro H locs ls ad h0 hP hD hS hL
  exact lv_bipush hx hb d hx9 (kk H locs ls ad h0 hP hD hS hL)
theorem cn_sp (hx : p.tables.exec = Jvm.exec) (hb : c.code = cc) {z : Int} (x : Int32) (hx9 : (Int16.ofInt z).toInt32 = x) (d : decode cc pc = .ok (.sipush z, 3)) (kk : cn_WS p l e R s m args below meth c Q nL D K3 A p0 b z0 s0 (pc + 3) lv (.int x :: st) L) : cn_WS p l e R s m args below meth c Q nL D K3 A p0 b z0 s0 pc lv st L := by
  intro H locs ls ad h0 hP hD hS hL
  exact lv_sipush hx hb d hx9 (kk H locs ls ad h0 hP hD hS hL)
theorem cn_as (hx : p.tables.exec = Jvm.exec) (hb : c.code = cc) {k : Fin 4} (i q : Nat) (hi : (k : Nat) = i) (hn : i < nL) (hst : ∀ (j : Nat) (w : Value), j + 1 = i → lv[j]? = some w → ¬ w.category = 2) (d : decode cc pc = .ok (.astore_n k, 1)) (kk : cn_WS p l e R s m args below meth c Q nL D K3 A p0 b z0 s0 (pc + 1) (lv.set i (.ref q)) st L) : cn_WS p l e R s m args below meth c Q nL D K3 A p0 b z0 s0 pc lv (.ref q :: st) L := by
  intro H locs ls ad h0 hP hD hS hL
  refine lv_astore_n hx hb d hi hL hn rfl (fun ls' hL' => ?_)
  exact kk H locs ls' ad h0 hP hD hS (ev_h_set1 (v := .ref q) hst hL')
/-- Object's own -/
theorem cn_ob (hx : p.tables.exec = Jvm.exec) (hb : c.code = cc) (hml : c.maxLocals = nL) {own : String} (hown : s.vm.findClass own = some m.cls) {idx q : Nat} (hlink : (Cond.methodLink own idx Lib.objectInit).before args s = true) (hinst : (Cond.instanceMethod Lib.objectInit).before args s = true) (hcode : (Cond.code Lib.objectInit ⟨#[0xb1]⟩ 1 none).before args s = true) (hf : 1 ≤ R.frames) (hl : 20 ≤ R.locals) (hr : (st.map fun v => v.category).sum ≤ 8) (d : decode cc pc = .ok (.invokespecial idx, 3)) (kk : cn_WS p l e R s m args below meth c Q nL D K3 A p0 b z0 s0 (pc + 3) lv st L) : cn_WS p l e R s m args below meth c Q nL D K3 A p0 b z0 s0 pc lv (.ref q :: st) L := by
  intro H locs ls ad h0 hP hD hS hL
  refine W.objInit hx hb hown hlink hinst hcode (g := F0 m pc ls ((Value.ref q :: st).map (ev_v ad))) rfl (hL.1.trans hml.symm) (a := ad q) (rest := st.map (ev_v ad)) rfl d hf ?_ (kk H locs ls ad h0 hP hD hS hL)
  have := lv_room (m := m) (pc := pc) (ls := ls) (rest := (Value.ref q :: st).map (ev_v ad)) (st := st.map (ev_v ad)) (by rw [ev_cats]; exact hr)
  omega
/-- an array of zeros -/
theorem cn_na (hx : p.tables.exec = Jvm.exec) (hb : c.code = cc) (hA : ∀ q, s.heap.size ≤ q → A q) (hK3 : cnK K3 s) {x : Int32} (kd N : Nat) (hkd : kd < 3) (harr : (Cond.arrayClass (newarray.typeOf (cn_ty kd))).before args s = true) (hx0 : ¬ x < 0) (hN : x.toNatClampNeg = N) (hby : N ≤ 1000) (hz : z0 ≤ L.length ∧ s0 ≤ cn_s L) (hc : L.length - z0 + 1 ≤ R.cells ∧ cn_s L - s0 + N ≤ R.slots) (hp : p0 < L.length ∨ L.length + 1 ≤ p0) (hw : L.all (fun d => d.2.2.all (cn_w L.length 1)) = true) (hlv : lv.all (cn_w L.length 1) = true) (hst : st.all (cn_w L.length 1) = true) (d : decode cc pc = .ok (.newarray (cn_ty kd), 2)) (kk : cn_WS p l e R s m args below meth c Q nL D K3 A p0 b z0 s0 (pc + 2) lv (.ref L.length :: st) (L ++ [(kd, N, [])])) : cn_WS p l e R s m args below meth c Q nL D K3 A p0 b z0 s0 pc lv (.int x :: st) L := by
  intro H locs ls ad h0 hP hD hS hL
  have hcell : ∀ cA : ClassId, s.vm.findClass ("[" ++ (newarray.typeOf (cn_ty kd)).toString) = some cA → ∃ a0 : vp_A, (∀ ad : Nat → Nat, cn_e K3 ad (kd, N, []) = .inl (cA, a0)) ∧ vp_cell cA a0 = arrV cA N (fun _ => defaultValue (newarray.typeOf (cn_ty kd))) := by
    intro cA hcA
    match kd, hkd with
    | 0, _ =>
      have := Option.some.inj (hK3.1.symm.trans hcA)
      exact ⟨(N, .inl (fun _ => 0)), fun _ => by rw [← this]; rfl, rfl⟩
    | 1, _ =>
      have := Option.some.inj (hK3.2.1.symm.trans hcA)
      exact ⟨(N, .inl (fun _ => 0)), fun _ => by rw [← this]; rfl, rfl⟩
    | 2, _ =>
      have := Option.some.inj (hK3.2.2.symm.trans hcA)
      exact ⟨(N, .inr (.inl (fun _ => 0))), fun _ => by rw [← this]; rfl, rfl⟩
  have hz9 : cn_z (kd, N, []) = N := by
    match kd, hkd with
    | 0, _ => rfl
    | 1, _ => rfl
    | 2, _ => rfl
  have hb9 : N * componentBytes (newarray.typeOf (cn_ty kd)) ≤ 536870912 := by
    have : componentBytes (newarray.typeOf (cn_ty kd)) ≤ 8 := by
      match kd, hkd with
      | 0, _ => decide
      | 1, _ => decide
      | 2, _ => decide
    have := Nat.mul_le_mul hby this
    omega
  refine va_newaK hx hb harr rfl d rfl hx0 hN hb9 hc.1 hc.2 rfl (fun H1 cA e1 z1 o1 hAr hNm => ?_)
  obtain ⟨a0, ha, hcl⟩ := hcell cA hNm
  have hj := cn_join K3 ad (fun _ => H.size) (L := L) (M := [(kd, N, [])]) hw rfl
  have hj2 : cn_lay K3 (adj L.length 1 ad (fun _ => H.size)) (L ++ [(kd, N, [])]) = cn_lay K3 ad L ++ [(H.size, .inl (cA, a0))] := by
    have e9 : cn_lay K3 (fun _ => H.size) [(kd, N, [])] = [(H.size, .inl (cA, a0))] := by
      show [(H.size, cn_e K3 (fun _ => H.size) (kd, N, []))] = _
      rw [ha]
    rw [← e9]
    exact hj
  have hk : ∀ (k : Nat) (q : Nat × va_E), (cn_lay K3 ad L)[k]? = some q → H1[q.1]? = H[q.1]? := fun k q hq => o1 q.1 ((hP k q hq).lt)
  have hP1 : va_P D evCl (cn_lay K3 (adj L.length 1 ad (fun _ => H.size)) (L ++ [(kd, N, [])])) H1 := by
    rw [hj2]
    refine (hP.kept hk).app (fun k q hq => ?_)
    have hk0 : k < 1 := (List.getElem?_eq_some_iff.mp hq).1
    rw [show k = 0 by omega] at hq
    cases hq
    show H1[H.size]? = some (vp_cell _ _)
    rw [hcl]
    exact e1
  have hD1 : va_D A (cn_lay K3 (adj L.length 1 ad (fun _ => H.size)) (L ++ [(kd, N, [])])) := by
    rw [hj2]
    exact hD.push hP rfl (hA _ hS.1)
  have h01 : adj L.length 1 ad (fun _ => H.size) p0 = b := by
    unfold adj
    rw [if_neg (by omega)]
    exact h0
  have hS1 : va_S A s.heap H1 locs := ⟨Nat.le_trans hS.1 (by omega), fun q h1 h2 => (o1 q (Nat.lt_of_lt_of_le h1 hS.1)).trans (hS.2.1 q h1 h2), hS.2.2⟩
  have key := kk H1 locs ls _ h01 hP1 hD1 hS1 (ev_h_adj hL hlv)
  have e2 : (Value.ref L.length :: st).map (ev_v (adj L.length 1 ad (fun _ => H.size))) = .ref H.size :: st.map (ev_v ad) := by
    rw [List.map_cons, adj_outs hst]
    show Value.ref (if L.length ≤ L.length ∧ L.length < L.length + 1 then H.size else ad L.length) :: _ = _
    rw [if_pos (by omega)]
  have e3 : (L ++ [(kd, N, [])]).length - z0 = L.length - z0 + 1 := by
    rw [List.length_append]
    show L.length + 1 - z0 = _
    omega
  have e4 : cn_s (L ++ [(kd, N, [])]) - s0 = cn_s L - s0 + N := by
    rw [cn_s_app]
    have : cn_s [(kd, N, [])] = N := by
      show cn_z (kd, N, []) + 0 = N
      rw [hz9]; rfl
    omega
  rw [e2, e3, e4] at key
  exact key
/-- a final field of the object at place i -/
theorem cn_pf (hx : p.tables.exec = Jvm.exec) (hb : c.code = cc) {own C : String} {T : u_T} {N9 index : Nat} {Ts : List Cond} (ci j : Nat) (hc : evCl[ci]? = some (C, T, N9)) (hts : ∀ w ∈ Ts, w.before args s = true) (hin : ∀ w ∈ u_ws C T N9, w ∈ Ts) (ty0 : Nat → FieldType) (hty : ∀ k, k < N9 → parseFieldDescriptor (T k).2.2.1 = some (ty0 k)) (hnm : ∀ a, a < N9 → ∀ b, b < N9 → a ≠ b → (T a).2.1 ≠ (T b).2.1) (hown : s.vm.findClass own = some m.cls) (hK : va_K D evCl (ev_tys K3) s) {fs : List Value} {q : Nat} (hL0 : L[0]? = some (3, ci, fs)) (hj : j < N9) (hl : Cond.fieldLink own index (T j).1 (T j).2.1 (T j).2.2.1 ∈ Ts) (hfin : (T j).2.2.2 = true) (hnm2 : meth.name = "<init>") (hdecl : (T j).1 = own) {ty : FieldType} (hd : parseFieldDescriptor (T j).2.2.1 = some ty) (hn : ∀ x : Nat, narrow ty (.ref x) = .ref x) (hfit : ∀ x : Nat, fits ty (.ref x) = true) (hlen : j < fs.length) (d : decode cc pc = .ok (.putfield index, 3)) (kk : cn_WS p l e R s m args below meth c Q nL D K3 A p0 b z0 s0 (pc + 3) lv st (L.set 0 (3, ci, fs.set j (.ref q)))) : cn_WS p l e R s m args below meth c Q nL D K3 A p0 b z0 s0 pc lv (.ref q :: .ref 0 :: st) L := by
  intro H locs ls ad h0 hP hD hS hL
  have he : (cn_lay K3 ad L)[0]? = some (ad 0, .inr (ci, fs.map (ev_v ad))) := by rw [cn_lay_get, hL0]; rfl
  refine va_putF hx hb hts hin ty0 hty hnm hown hK hP hD hS 0 he hc j hj (hts _ hl) (fun _ z => z) hfin hnm2 hdecl hd (v := .ref (ad q)) (hn _) (hfit _) (by rw [List.length_map]; exact hlen) d (fun H1 locs1 hP1 hD1 hS1 => ?_)
  rw [cn_lay_set K3 ad hL0] at hP1 hD1
  have key := kk H1 locs1 ls ad h0 hP1 hD1 hS1 hL
  have e3 : (L.set 0 (3, ci, fs.set j (.ref q))).length = L.length := List.length_set
  have e4 : cn_s (L.set 0 (3, ci, fs.set j (.ref q))) = cn_s L := by
    cases L with
    | nil => rfl
    | cons d0 r =>
      cases hL0
      show (fs.set j (.ref q)).length + _ = fs.length + _
      rw [List.length_set]
  rw [e3, e4] at key
  exact key
theorem cn_callq {M : List cn_D} {mc ms q0 sz : Nat} {H : Heap} {locs : List Loc} {cells slots : Nat} {ls : Array Slot} {st0 rest : List Value} {a : Array Value} {H0 : Heap} (hr : va_Run p l e R s m args below meth c H locs cells slots mc ms (F0 m pc ls st0) rest (cn_Q M D K3 q0 sz a) (cn_A q0 sz)) (hS : va_S A H0 H locs) (hA : ∀ q, cn_A q0 sz q → A q)
    (kk : ∀ (ad2 : Nat → Nat) (H1 : Heap) (locs1 : List Loc), ad2 0 = q0 → va_P D evCl (cn_lay K3 ad2 M) H1 → va_D (cn_A q0 sz) (cn_lay K3 ad2 M) → (∀ q : Nat, q < H.size → ¬ cn_A q0 sz q → H1[q]? = H[q]?) → va_S A H0 H1 locs1 → W p l e R s m args below meth c H1 locs1 (cells + mc) (slots + ms) Q (F0 m (pc + 3) ls rest)) : W p l e R s m args below meth c H locs cells slots Q (F0 m pc ls st0) := by
  intro T hT X
  obtain ⟨v, st₀, t, T', L9, h0, X', hL9, e1, e2, ⟨⟨ad2, hv, h2, hP2, hD2⟩, hF⟩, st⟩ := hr T hT X
  cases hv
  obtain ⟨-, k2, k3⟩ := vx_keep h0 e1 hS (fun q _ z => hA q z) hA hL9 hF
  obtain ⟨t2, a1, b1⟩ := kk ad2 T'.heap (locs ++ L9) h2 (by rw [e1]; exact hP2) hD2 k2 k3 T' rfl X'
  exact ⟨t2, st t2 a1, b1⟩
/-- new, dup, the constructor -/
theorem cn_new (hx : p.tables.exec = Jvm.exec) (hb : c.code = cc) (hA : ∀ q, s.heap.size ≤ q → A q) (hK3 : cnK K3 s) (hN3 : cnN s) {own C : String} {T : u_T} {N9 idx : Nat} {Ts : List Cond} (ci : Nat) (hc : evCl[ci]? = some (C, T, N9)) (hts : ∀ w ∈ Ts, w.before args s = true) (hin : ∀ w ∈ u_ws C T N9, w ∈ Ts) (ty0 : Nat → FieldType) (hty : ∀ k, k < N9 → parseFieldDescriptor (T k).2.2.1 = some (ty0 k)) (hown : s.vm.findClass own = some m.cls) (hcl : Cond.classLink own idx C ∈ Ts) (hinst : Cond.instantiable C N9 ∈ Ts) (hini : Cond.initialized C ∈ Ts) (hK : va_K D evCl (ev_tys K3) s) {df : List Value} (hdf : ∀ j, j < N9 → defaultValue (ty0 j) = vp_V df j) (hdl : df.length = N9)
    {M : List cn_D} {mc ms : Nat} (hrun : ∀ (H : Heap) (locs : List Loc) (cells slots : Nat) (ls : Array Slot) (q : Nat) (rest : List Value), ls.size = nL → (rest.map fun v => v.category).sum ≤ 8 → PreS s H (cn_Pc ci df D K3 q H.size) [.ref q] → (cells + mc ≤ R.cells ∧ slots + ms ≤ R.slots) → va_Run p l e R s m args below meth c H locs cells slots mc ms (F0 m (pc + 4) ls (.ref q :: rest)) rest (cn_Q M D K3 q H.size #[.ref q]) (cn_A q H.size))
    (hMl : M.length = mc + 1 ∧ cn_s M = ms + N9 ∧ M.all (fun d => d.2.2.all (cn_lo M.length)) = true) (hz : z0 ≤ L.length ∧ s0 ≤ cn_s L) (hroom : L.length - z0 + (mc + 1) ≤ R.cells ∧ cn_s L - s0 + (ms + N9) ≤ R.slots) (hp : p0 < L.length ∨ L.length + (mc + 1) ≤ p0) (hw : L.all (fun d => d.2.2.all (cn_w L.length (mc + 1))) = true) (hlv : lv.all (cn_w L.length (mc + 1)) = true) (hst : st.all (cn_w L.length (mc + 1)) = true) (hr : (st.map fun v => v.category).sum ≤ 7) (d0 : decode cc pc = .ok (.new idx, 3)) (d3 : decode cc (pc + 3) = .ok (.dup, 1))
    (kk : cn_WS p l e R s m args below meth c Q nL D K3 A p0 b z0 s0 (pc + 7) lv (.ref L.length :: st) (L ++ M.map (cn_sh L.length))) : cn_WS p l e R s m args below meth c Q nL D K3 A p0 b z0 s0 pc lv st L := by
  intro H locs ls ad h0 hP hD hS hL
  refine va_new hx hb hts hin ty0 hty hown (hts _ hcl) (hts _ hinst) (hts _ hini) hK hP hD hS hA hc hdf (by omega) (by omega) d0 (fun q H1 hP1 hD1 hS1 => ?_)
  refine lv_dup hx hb d3 rfl ?_
  have hq0 : (cn_lay K3 ad L ++ [(q, (.inr (ci, df) : va_E))])[L.length]? = some (q, .inr (ci, df)) := by
    rw [List.getElem?_append_right (by rw [cn_lay_len]; exact Nat.le_refl _), cn_lay_len, Nat.sub_self]
    rfl
  have hq1 : va_P D evCl [(q, (.inr (ci, df) : va_E))] H1 := by
    intro k x hk
    have hk0 : k < 1 := (List.getElem?_eq_some_iff.mp hk).1
    rw [show k = 0 by omega] at hk
    cases hk
    exact hP1 L.length _ hq0
  have hqA : A q := hD1.2 L.length _ hq0
  have hqlt : q < H1.size := (hP1 L.length _ hq0).lt
  have hpre : PreS s H1 (cn_Pc ci df D K3 q H1.size) [.ref q] := by
    refine ⟨fun a U g mk z => ?_, fun U hU hW => ?_⟩
    · obtain ⟨z0, z1, z2, z3, z4, z5⟩ := z
      exact ⟨z0, z1, z2, va_K.moved (u := U) (U := U.calling g mk a) (Vm.Alike.refl U.vm) z3, z4, fun w hw => va_Nw.same (cnW_t w hw) (u := U) (U := U.calling g mk a) rfl (z5 w hw)⟩
    · exact ⟨rfl, by rw [hU], by rw [hU]; exact hq1, va_K.moved hW.alike hK, cnK_moved hW.alike hK3, fun w hw => cnW_warm hW w hw (hN3 w hw)⟩
  refine cn_callq (hrun H1 locs _ _ ls q (.ref q :: st.map (ev_v ad)) hL.1 (by show 1 + ((st.map (ev_v ad)).map fun v => v.category).sum ≤ 8; rw [ev_cats]; omega) hpre (by omega)) hS1 (fun x hx => ?_) (fun ad2 H2 locs2 e0 hP2 hD2 hkq hS2 => ?_)
  · rcases hx with rfl | hx
    · exact hqA
    · exact hA x (Nat.le_trans hS1.1 hx)
  · obtain ⟨hMl1, hMl2, hMl3⟩ := hMl
    have hj := cn_join K3 ad ad2 (L := L) (M := M) (by rw [hMl1]; exact hw) hMl3
    rw [hMl1] at hj
    have apart : ∀ (k : Nat) (x : Nat × va_E), (cn_lay K3 ad L)[k]? = some x → x.1 < H1.size ∧ ¬ cn_A q H1.size x.1 := by
      intro k x hk
      have hkl : k < L.length := by
        have := (List.getElem?_eq_some_iff.mp hk).1
        rw [cn_lay_len] at this
        exact this
      have hk1 : (cn_lay K3 ad L ++ [(q, (.inr (ci, df) : va_E))])[k]? = some x := by
        rw [List.getElem?_append_left (by rw [cn_lay_len]; exact hkl)]
        exact hk
      have hlt := (hP1 k x hk1).lt
      refine ⟨hlt, fun z => ?_⟩
      rcases z with z | z
      · have := hD1.1 k L.length x _ hk1 hq0 z
        omega
      · omega
    have hP3 : va_P D evCl (cn_lay K3 ad L ++ cn_lay K3 ad2 M) H2 := by
      refine va_P.app (fun k x hk => ?_) hP2
      obtain ⟨g1, g2⟩ := apart k x hk
      have hk1 : (cn_lay K3 ad L ++ [(q, (.inr (ci, df) : va_E))])[k]? = some x := by
        rw [List.getElem?_append_left (by rw [cn_lay_len]; have := (List.getElem?_eq_some_iff.mp hk).1; rw [cn_lay_len] at this; exact this)]
        exact hk
      exact (hP1 k x hk1).kept (hkq x.1 g1 g2)
    have hD3 : va_D A (cn_lay K3 ad L ++ cn_lay K3 ad2 M) := by
      refine va_D.app hD (hD2.weaken (fun k x _ z => ?_)) (fun i j x z hi hj hxz => ?_)
      · rcases z with z | z
        · rw [z]; exact hqA
        · exact hA _ (Nat.le_trans hS1.1 z)
      · exact (apart i x hi).2 (by rw [hxz]; exact hD2.2 j z hj)
    rw [← hj] at hP3 hD3
    have h01 : adj L.length (mc + 1) ad ad2 p0 = b := by
      unfold adj
      rw [if_neg (by omega)]
      exact h0
    have key := kk H2 locs2 ls _ h01 hP3 hD3 hS2 (ev_h_adj hL hlv)
    have e2 : (Value.ref L.length :: st).map (ev_v (adj L.length (mc + 1) ad ad2)) = .ref q :: st.map (ev_v ad) := by
      rw [List.map_cons, adj_outs hst]
      show Value.ref (if L.length ≤ L.length ∧ L.length < L.length + (mc + 1) then ad2 (L.length - L.length) else ad L.length) :: _ = _
      rw [if_pos (by omega), Nat.sub_self, e0]
    have e3 : (L ++ M.map (cn_sh L.length)).length - z0 = L.length - z0 + 1 + mc := by
      rw [List.length_append, List.length_map, hMl1]
      omega
    have hsh : cn_s (M.map (cn_sh L.length)) = cn_s M := by
      unfold cn_s
      rw [List.map_map]
      refine congrArg List.sum (List.map_congr_left (fun d _ => ?_))
      obtain ⟨k, cx, fs⟩ := d
      match k with
      | 0 => rfl
      | 1 => rfl
      | 2 => rfl
      | k + 3 =>
        show (fs.map (cn_sv L.length)).length = fs.length
        rw [List.length_map]
    have e4 : cn_s (L ++ M.map (cn_sh L.length)) - s0 = cn_s L - s0 + N9 + ms := by
      rw [cn_s_app, hsh, hMl2]
      omega
    rw [e2, e3, e4] at key
    exact key
end CN
theorem evGI {w0 : Cond} {maxL : Nat} {y : MethodName} {c : ByteArray} {ret : Option FieldType} (h5 : Cond.code y c maxL ret ∈ evW) : GoodIn (w0 :: evW) (.code y c maxL ret :: evW) := evG (by
  intro w hw
  rcases List.mem_cons.mp hw with rfl | hw
  · exact h5
  · exact hw)
/-- the locals at an entry with one object -/
theorem cn_entry {b p0 maxL : Nat} {ls : Array Slot} (hl : lv_has ls maxL (lv_args 0 [Value.ref b])) {ad : Nat → Nat} (h : ad p0 = b) : ev_h ad ls maxL [.ref p0] := by
  refine ⟨hl.1, hl.2.1, fun q hq => hl.2.2 q ?_⟩
  obtain ⟨v, h1, h2, h3⟩ := ev_ps_mem.mp hq
  have h0 : q.1 < 1 := (List.getElem?_eq_some_iff.mp h1).1
  have hq0 : q.1 = 0 := by omega
  rw [hq0] at h1
  cases h1
  have : q = (0, Value.ref b) := by
    rw [← h, ← hq0]
    show q = (q.1, ev_v ad (.ref p0))
    rw [← h3]
  rw [this]
  exact List.mem_cons_self
theorem cn_meth {l : Launch} {y : MethodName} {ws ws' : List Cond} {rm : Room} {ci : Nat} {df : List Value} {M : List cn_D} {mc ms : Nat} {cc : ByteArray} {maxL : Nat}
    (hy : plainName y.cls = true) (hw : ws = Cond.code y cc maxL none :: ws') (hm1 : 1 ≤ maxL) (hname : y.name = "<init>") (hdf : df.all (cn_w 0 0) = true) (hdr : ∀ ad : Nat → Nat, df.map (ev_v ad) = df) (hM : M.length - 1 = mc ∧ cn_s M - df.length = ms)
    (body : ∀ (p : Program) (e : Env) (s : State) (m : MethodId) (args : Array Value) (below : List Frame) (meth : Method) (c : Code) (Q : State → Prop) (D : va_G) (K3 : ev_3) (A : Nat → Prop) (b : Nat), p.tables.exec = Jvm.exec → c.code = cc → c.maxLocals = maxL → s.vm.findClass y.cls = some m.cls → (∀ w ∈ ws, w.before args s = true) → va_K D evCl (ev_tys K3) s → cnK K3 s → cnN s → (∀ q, s.heap.size ≤ q → A q) → meth.name = "<init>" →
      (∀ pc : Nat, decode cc pc = .ok (.return_, 1) → cn_WS p l e rm s m args below meth c Q maxL D K3 A 0 b 1 df.length pc [.ref 0] [] M) → cn_WS p l e rm s m args below meth c Q maxL D K3 A 0 b 1 df.length 0 [.ref 0] [] [(3, ci, df)]) : cn_C l y ws rm ci df M mc ms := by
  intro D K3 b sz
  refine Met.ofW (cc := cc) (maxL := maxL) (ret := none) hy hw ?_
  intro p e s m args below meth c s₁ B hml hv
  obtain ⟨rfl, hsz, hP, hK, hK3, hN3⟩ := hv
  have hx := B.exec
  have hb := B.bytes
  have hr := B.returns
  have hts := atoms_spec (ws := ws) B.pre
  have hown : s.vm.findClass y.cls = some m.cls := findClass_of_methodNamed B.named
  have hlocks := B.notSynchronized
  have hnm : meth.name = "<init>" := by rw [← hname]; exact (name_of_methodNamed B.named B.method).1
  subst hsz
  have hl := lv_entry [Value.ref b] (n := maxL) hm1
  rw [lg_entry_eq]
  generalize (lg_sl [Value.ref b] ++ List.replicate (maxL - (lg_sl [Value.ref b]).length) Slot.unset).toArray = ls at hl ⊢
  have hlt : b < s.heap.size := (hP 0 _ rfl).lt
  have e0 : cn_lay K3 (fun _ => b) [(3, ci, df)] = [(b, .inr (ci, df))] := by
    show [(b, (Sum.inr (ci, df.map (ev_v (fun _ => b))) : va_E))] = _
    rw [hdr]
  have hD0 : va_D (cn_A b s.heap.size) (cn_lay K3 (fun _ => b) [(3, ci, df)]) := by
    rw [e0]
    refine ⟨fun i j x z hi hj _ => ?_, fun k q hk => ?_⟩
    · have h1 : i < 1 := (List.getElem?_eq_some_iff.mp hi).1
      have h2 : j < 1 := (List.getElem?_eq_some_iff.mp hj).1
      omega
    · have h1 : k < 1 := (List.getElem?_eq_some_iff.mp hk).1
      rw [show k = 0 by omega] at hk
      cases hk
      exact Or.inl rfl
  have key := body p e s m #[Value.ref b] below meth c (MQ below (cn_Q M D K3 b s.heap.size) #[Value.ref b] s mc ms (cn_A b s.heap.size)) D K3 (cn_A b s.heap.size) b hx hb hml hown hts hK hK3 hN3 (fun q hq => Or.inr hq) hnm (fun pc d => ?_) s.heap [] ls (fun _ => b) rfl (by rw [e0]; exact hP) hD0 va_S.rf (cn_entry hl rfl)
  · have z1 : [(3, ci, df)].length - 1 = 0 := rfl
    have z2 : cn_s [(3, ci, df)] - df.length = 0 := by
      show df.length + 0 - df.length = 0
      omega
    rw [z1, z2] at key
    exact key
  · intro H locs ls' ad h0 hP' hD' hS' hL'
    rw [hM.1, hM.2]
    refine ev_rop_v p l e _ s m _ below meth c H locs mc ms _ _ cc pc ls' ad () hx hb hr hlocks d (fun t ht hW => ?_) hS'.2.2
    exact ⟨⟨ad, rfl, h0, by rw [ht]; exact hP', hD'⟩, hS'.F ht⟩
