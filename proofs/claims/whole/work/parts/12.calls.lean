/-! contracts over places; calls; returns -/
def ev_Pc (LY : List ev_D) (cl : List vw_C) (D : va_G) (K3 : ev_3) (ad : Nat → Nat) (sz : Nat) (as : List Value) (σ : ev_M) (τ : ev_L) : Array Value → State → Prop := va_Pc (as.map (ev_v ad)) (fun U => U.heap.size = sz ∧ va_P D cl (ev_lay LY K3 ad σ τ) U.heap ∧ va_K D cl (ev_tys K3) U ∧ va_D (fun _ => True) (ev_lay LY K3 ad σ τ))
def ev_Q {ρ : Type} (ι : ρ → Option Value) (LY : List ev_D) (cl : List vw_C) (D : va_G) (K3 : ev_3) (ad : Nat → Nat) (A : Nat → Prop) (post : ρ → ev_M → ev_L → Prop) : Array Value → State → Outcome → State → Prop := fun _ st oc t =>
  (∃ (r : ρ) (σ' : ev_M) (τ' : ev_L), oc = .returned ((ι r).map (ev_v ad)) ∧ post r σ' τ' ∧ va_P D cl (ev_lay LY K3 ad σ' τ') t.heap ∧ va_K D cl (ev_tys K3) t) ∧ va_F A st t
/-- a method's contract: from every store with 'pre' it returns, with 'post' -/
def ev_C {ρ : Type} (ι : ρ → Option Value) (l : Launch) (y : MethodName) (ws : List Cond) (rm : Room) (LY : List ev_D) (cl : List vw_C) (pre : List Value → ev_M → ev_L → Prop) (post : List Value → ev_M → ev_L → ρ → ev_M → ev_L → Prop) : Prop :=
  ∀ (D : va_G) (K3 : ev_3) (ad : Nat → Nat) (sz : Nat) (as : List Value) (σ : ev_M) (τ : ev_L), pre as σ τ → Met l y ws rm (ev_Pc LY cl D K3 ad sz as σ τ) (ev_Q ι LY cl D K3 ad (va_A (ev_lay LY K3 ad σ τ) sz) (post as σ τ)) 0 0 (va_A (ev_lay LY K3 ad σ τ) sz)
def ev_i : Int32 → Option Value := fun x => some (.int x)
def ev_b : Bool → Option Value := fun b => some (.int (cond b 1 0))
def ev_n : Unit → Option Value := fun _ => none
def ev_l : Int64 → Option Value := fun x => some (.long x)
def ev_r : Nat → Option Value := fun q => some (.ref q)
theorem ev_blind {LY : List ev_D} {cl : List vw_C} {D : va_G} {K3 : ev_3} {ad : Nat → Nat} {sz : Nat} {as : List Value} {σ : ev_M} {τ : ev_L} : FrameBlind (ev_Pc LY cl D K3 ad sz as σ τ) := fun a U g mk q => by
  obtain ⟨q0, q1, qP, qK, qD⟩ := q
  exact ⟨q0, q1, qP, va_K.moved (u := U) (U := U.calling g mk a) (Vm.Alike.refl U.vm) qK, qD⟩
section EVC
variable {p : Program} {l : Launch} {e : Env} {R : Room} {s : State} {m : MethodId} {args : Array Value} {below : List Frame} {meth : Method} {c : Code} {H : Heap} {locs : List Loc} {cells slots : Nat} {Q : State → Prop}
variable {pc : Nat} {ls : Array Slot} {rest st0 : List Value} {a : Array Value} {A0 A1 : Nat → Prop} {H0 : Heap} {free : Addr → Prop} {LY : List ev_D} {cl : List vw_C} {D : va_G} {K3 : ev_3} {ad : Nat → Nat}
theorem ev_pre {sz : Nat} {as : List Value} {σ : ev_M} {τ : ev_L} (hK : va_K D cl (ev_tys K3) s) (hP : va_P D cl (ev_lay LY K3 ad σ τ) H) (hD : va_D A0 (ev_lay LY K3 ad σ τ)) (hz : H.size = sz) : ∀ U : State, U.heap = H → s.WarmedH U.vm → ev_Pc LY cl D K3 ad sz as σ τ (as.map (ev_v ad)).toArray U := fun U hU hW =>
  ⟨rfl, by rw [hU]; exact hz, by rw [hU]; exact hP, va_K.moved hW.alike hK, hD.weaken (fun _ _ _ _ => trivial)⟩
theorem ev_callq {ρ : Type} {ι : ρ → Option Value} {post : ρ → ev_M → ev_L → Prop} (hr : va_Run p l e R s m args below meth c H locs cells slots 0 0 (F0 m pc ls st0) rest (ev_Q ι LY cl D K3 ad A1 post a) free) (hS : va_S A0 H0 H locs) (hA : ∀ q, q < H.size → A1 q → A0 q) (hf : ∀ q, free q → A0 q)
    (kk : ∀ (r : ρ) (σ' : ev_M) (τ' : ev_L) (H1 : Heap) (locs1 : List Loc), post r σ' τ' → va_P D cl (ev_lay LY K3 ad σ' τ') H1 → va_S A0 H0 H1 locs1 → W p l e R s m args below meth c H1 locs1 cells slots Q (F0 m (pc + 3) ls (((ι r).map (ev_v ad)).toList ++ rest))) : W p l e R s m args below meth c H locs cells slots Q (F0 m pc ls st0) := by
  intro T hT X
  obtain ⟨v, st₀, t, T', L, h0, X', hL, e1, e2, ⟨⟨r, σ', τ', hv, hp, hP1, -⟩, hz, hk⟩, st⟩ := hr T hT X
  cases hv
  rw [h0] at hz hk
  obtain ⟨t2, a1, b1⟩ := kk r σ' τ' T'.heap (locs ++ L) hp (by rw [e1]; exact hP1)
    ⟨Nat.le_trans hS.1 (by rw [e1]; exact hz), fun q h1 h2 => by rw [e1, hk q (Nat.lt_of_lt_of_le h1 hS.1) (fun z => h2 (hA q (Nat.lt_of_lt_of_le h1 hS.1) z))]; exact hS.2.1 q h1 h2, fun q hq => by
      rcases List.mem_append.mp hq with h | h
      · exact hS.2.2 q h
      · exact hf _ (hL q h)⟩ T' rfl X'
  exact ⟨t2, st t2 a1, b1⟩
end EVC
/-- the arguments off the stack -/
def ev_tk : Nat → List Value → List Value → (List Value → List Value → Prop) → Prop
  | 0, st, as, k => k as st
  | n + 1, v :: st, as, k => ev_tk n st (v :: as) k
  | _ + 1, [], _, _ => False
theorem ev_tk_k : ∀ {n : Nat} {st as : List Value} {k : List Value → List Value → Prop}, ev_tk n st as k → ∃ xs r, xs.length = n ∧ st = xs ++ r ∧ k (xs.reverse ++ as) r
  | 0, st, as, k, h => ⟨[], st, rfl, rfl, h⟩
  | n + 1, v :: st, as, k, h => by
    obtain ⟨xs, r, h1, h2, h3⟩ := ev_tk_k (n := n) (st := st) (as := v :: as) (k := k) h
    refine ⟨v :: xs, r, by simp [h1], by simp [h2], ?_⟩
    simpa using h3
  | n + 1, [], as, k, h => h.elim
theorem ev_tk_0 {n : Nat} {st : List Value} {k : List Value → List Value → Prop} (h : ev_tk n st [] k) : ∃ as r, as.length = n ∧ st = as.reverse ++ r ∧ k as r := by
  obtain ⟨xs, r, h1, h2, h3⟩ := ev_tk_k h
  exact ⟨xs.reverse, r, by simp [h1], by simp [h2], by simpa using h3⟩
def ev_rm (r : List Value) (k : Prop) : Prop := cond (Nat.ble ((r.map fun v => v.category).sum) 8) k False
theorem ev_rm_k {r : List Value} {k : Prop} (h : ev_rm r k) : (r.map fun v => v.category).sum ≤ 8 ∧ k := by
  unfold ev_rm at h
  cases hb : Nat.ble ((r.map fun v => v.category).sum) 8 with
  | true => rw [hb] at h; exact ⟨Nat.le_of_ble_eq_true hb, h⟩
  | false => rw [hb] at h; exact h.elim
def ev_z : Nat → Prop → Prop
  | 0, k => k
  | _ + 1, _ => False
theorem ev_z_k : ∀ {n : Nat} {k : Prop}, ev_z n k → n = 0 ∧ k
  | 0, _, h => ⟨rfl, h⟩
  | _ + 1, _, h => h.elim
def ev_push : Option Value → List Value → (List Value → Prop) → Prop
  | some v, r, k => k (v :: r)
  | none, r, k => k r
theorem ev_push_k : ∀ {o : Option Value} {r : List Value} {k : List Value → Prop}, ev_push o r k → k (o.toList ++ r)
  | some _, _, _, h => h
  | none, _, _, h => h
def tt_cS {ρ : Type} (na : Nat) (ι : ρ → Option Value) (pre : List Value → ev_M → ev_L → Prop) (post : List Value → ev_M → ev_L → ρ → ev_M → ev_L → Prop) (nx : Nat) : ev_T := fun lv st σ τ n K =>
  ev_tk na st [] (fun as r => ev_rm r (ev_z n (pre as σ τ ∧ ∀ (v : ρ) (σ' : ev_M) (τ' : ev_L), post as σ τ v σ' τ' → ev_push (ι v) r (fun st' => K nx lv st' σ' τ' 0))))
def ev_rc (LY : List ev_D) (ci : Nat) (as : List Value) (k : Prop) : Prop := match as with
  | .ref q :: _ => ev_ob LY ci q (fun _ => k)
  | _ => False
def tt_cV {ρ : Type} (LY : List ev_D) (ci na : Nat) (ι : ρ → Option Value) (pre : List Value → ev_M → ev_L → Prop) (post : List Value → ev_M → ev_L → ρ → ev_M → ev_L → Prop) (nx : Nat) : ev_T := fun lv st σ τ n K =>
  ev_tk (na + 1) st [] (fun as r => ev_rc LY ci as (ev_rm r (ev_z n (pre as σ τ ∧ ∀ (v : ρ) (σ' : ev_M) (τ' : ev_L), post as σ τ v σ' τ' → ev_push (ι v) r (fun st' => K nx lv st' σ' τ' 0)))))
theorem ev_stack (ad : Nat → Nat) (o : Option Value) (r : List Value) : (o.map (ev_v ad)).toList ++ r.map (ev_v ad) = (o.toList ++ r).map (ev_v ad) := by
  cases o <;> rfl
section EVQ
variable {l : Launch} {R : Room} {LY : List ev_D} {cl : List vw_C} {Ts : List Cond} {cc : ByteArray} {nL : Nat} {own : String} {J : ev_K} {pc : Nat}
variable {ρ : Type} {ι : ρ → Option Value} {pre : List Value → ev_M → ev_L → Prop} {post : List Value → ev_M → ev_L → ρ → ev_M → ev_L → Prop} {y : MethodName} {ws : List Cond} {rm : Room} {bytes : ByteArray} {maxL index na : Nat} {ret : Option FieldType}
theorem qq_cS (X : ev_X l R LY cl Ts cc nL own J) (hM : ev_C ι l y ws rm LY cl pre post) (cw : ∀ {args : Array Value} {s : State}, (∀ w ∈ Ts, w.before args s = true) → CallB R s args own index y bytes maxL ret ws rm 0 0 na ∧ (Cond.static y).before args s = true) (d : decode cc pc = .ok (.invokestatic index, 3)) : ev_ok J pc (tt_cS na ι pre post (pc + 3)) := by
  obtain ⟨p, e, s, m, args, below, meth, c, Q, D, K3, ad, A, b0, b1, rfl, hx, hb, hml, hown, hts, hK, hD, hA, hc0, hc1⟩ := X
  intro lv st σ τ n K h hK2 H locs ls hP hS hL
  obtain ⟨as, r, h1, rfl, h2⟩ := ev_tk_0 h
  obtain ⟨h3, h4⟩ := ev_rm_k h2
  obtain ⟨rfl, h5, h6⟩ := ev_z_k h4
  have hF : ∀ q, va_A (ev_lay LY K3 ad σ τ) H.size q → A q := by
    intro q hq
    rcases hq with ⟨k, x, hq⟩ | hq
    · exact (hD σ τ).2 k _ hq
    · exact hA q (Nat.le_trans hS.1 hq)
  refine ev_callq (rest := r.map (ev_v ad)) (A1 := va_A (ev_lay LY K3 ad σ τ) H.size) (free := va_A (ev_lay LY K3 ad σ τ) H.size) (va_runS (As := as.map (ev_v ad)) ⟨hx, hb, hml, hown, hts⟩ (hM D K3 ad H.size as σ τ h5) (cw hts) ⟨ev_blind, ev_pre hK hP (hD σ τ) rfl⟩ rfl (by rw [List.length_map]; exact h1) hL.1 (by show List.map _ _ = _; rw [List.map_append, List.map_reverse]) (lv_room (by rw [ev_cats]; exact h3)) d ⟨hc0, hc1⟩) hS (fun q _ hq => hF q hq) hF (fun v σ' τ' H1 locs1 hp hP1 hS1 => ?_)
  rw [ev_stack]
  exact hK2 _ _ _ _ _ _ (ev_push_k (h6 v σ' τ' hp)) H1 locs1 ls hP1 hS1 hL
theorem qq_cSN (X : ev_X l R LY cl Ts cc nL own J) {host : String} (hM : ev_C ι l y ws rm LY cl pre post) (cw : ∀ {args : Array Value} {s : State}, (∀ w ∈ Ts, w.before args s = true) → va_CN R s args own index y host bytes maxL ret ws rm 0 0 na ∧ (Cond.static y).before args s = true ∧ True) (d : decode cc pc = .ok (.invokestatic index, 3)) : ev_ok J pc (tt_cS na ι pre post (pc + 3)) := by
  obtain ⟨p, e, s, m, args, below, meth, c, Q, D, K3, ad, A, b0, b1, rfl, hx, hb, hml, hown, hts, hK, hD, hA, hc0, hc1⟩ := X
  intro lv st σ τ n K h hK2 H locs ls hP hS hL
  obtain ⟨as, r, h1, rfl, h2⟩ := ev_tk_0 h
  obtain ⟨h3, h4⟩ := ev_rm_k h2
  obtain ⟨rfl, h5, h6⟩ := ev_z_k h4
  have hF : ∀ q, va_A (ev_lay LY K3 ad σ τ) H.size q → A q := by
    intro q hq
    rcases hq with ⟨k, x, hq⟩ | hq
    · exact (hD σ τ).2 k _ hq
    · exact hA q (Nat.le_trans hS.1 hq)
  refine ev_callq (rest := r.map (ev_v ad)) (A1 := va_A (ev_lay LY K3 ad σ τ) H.size) (free := va_A (ev_lay LY K3 ad σ τ) H.size) (va_runSN (As := as.map (ev_v ad)) ⟨hx, hb, hml, hown, hts⟩ (hM D K3 ad H.size as σ τ h5) (cw hts) ⟨ev_blind, ev_pre hK hP (hD σ τ) rfl⟩ rfl (by rw [List.length_map]; exact h1) hL.1 (by show List.map _ _ = _; rw [List.map_append, List.map_reverse]) (lv_room (by rw [ev_cats]; exact h3)) d ⟨hc0, hc1⟩) hS (fun q _ hq => hF q hq) hF (fun v σ' τ' H1 locs1 hp hP1 hS1 => ?_)
  rw [ev_stack]
  exact hK2 _ _ _ _ _ _ (ev_push_k (h6 v σ' τ' hp)) H1 locs1 ls hP1 hS1 hL
theorem qq_cV (X : ev_X l R LY cl Ts cc nL own J) {C : String} {T : u_T} {N : Nat} (ci : Nat) (hc : cl[ci]? = some (C, T, N)) (hM : ev_C ι l y ws rm LY cl pre post) (cw : ∀ {args : Array Value} {s : State}, (∀ w ∈ Ts, w.before args s = true) → CallW R s args own C index y bytes maxL ret ws rm 0 0 na) (d : decode cc pc = .ok (.invokevirtual index, 3)) : ev_ok J pc (tt_cV LY ci na ι pre post (pc + 3)) := by
  obtain ⟨p, e, s, m, args, below, meth, c, Q, D, K3, ad, A, b0, b1, rfl, hx, hb, hml, hown, hts, hK, hD, hA, hc0, hc1⟩ := X
  intro lv st σ τ n K h hK2 H locs ls hP hS hL
  obtain ⟨as, r, h1, rfl, h2⟩ := ev_tk_0 h
  unfold ev_rc at h2
  split at h2
  · rename_i q as'
    obtain ⟨fs, h7, h2⟩ := ev_ob_k h2
    obtain ⟨h3, h4⟩ := ev_rm_k h2
    obtain ⟨rfl, h5, h6⟩ := ev_z_k h4
    have hF : ∀ q, va_A (ev_lay LY K3 ad σ τ) H.size q → A q := by
      intro q hq
      rcases hq with ⟨k, x, hq⟩ | hq
      · exact (hD σ τ).2 k _ hq
      · exact hA q (Nat.le_trans hS.1 hq)
    have hrec := va_recv hK hP hc (a := ad q) (q0 := q) (ci := ci) (fs := ev_f ad (σ q) 0 fs) (by rw [ev_lay_get, h7]; rfl)
    refine ev_callq (rest := r.map (ev_v ad)) (A1 := va_A (ev_lay LY K3 ad σ τ) H.size) (free := va_A (ev_lay LY K3 ad σ τ) H.size) (va_runV (b := ad q) (As := as'.map (ev_v ad)) ⟨hx, hb, hml, hown, hts⟩ (hM D K3 ad H.size (.ref q :: as') σ τ h5) (cw hts) ⟨ev_blind, hrec, ev_pre (as := .ref q :: as') hK hP (hD σ τ) rfl⟩ rfl (by rw [List.length_map]; simpa using h1) hL.1 (by show List.map _ _ = _; simp [ev_v]) (lv_room (by rw [ev_cats]; exact h3)) d ⟨hc0, hc1⟩) hS (fun q _ hq => hF q hq) hF (fun v σ' τ' H1 locs1 hp hP1 hS1 => ?_)
    rw [ev_stack]
    exact hK2 _ _ _ _ _ _ (ev_push_k (h6 v σ' τ' hp)) H1 locs1 ls hP1 hS1 hL
  · exact h2.elim
theorem qq_cVN (X : ev_X l R LY cl Ts cc nL own J) {C : String} {T : u_T} {N : Nat} {host : String} (ci : Nat) (hc : cl[ci]? = some (C, T, N)) (hM : ev_C ι l y ws rm LY cl pre post) (cw : ∀ {args : Array Value} {s : State}, (∀ w ∈ Ts, w.before args s = true) → va_CN R s args own index y host bytes maxL ret ws rm 0 0 na ∧ (Cond.instanceMethod y).before args s = true ∧ (Cond.selects C y y).before args s = true) (d : decode cc pc = .ok (.invokevirtual index, 3)) : ev_ok J pc (tt_cV LY ci na ι pre post (pc + 3)) := by
  obtain ⟨p, e, s, m, args, below, meth, c, Q, D, K3, ad, A, b0, b1, rfl, hx, hb, hml, hown, hts, hK, hD, hA, hc0, hc1⟩ := X
  intro lv st σ τ n K h hK2 H locs ls hP hS hL
  obtain ⟨as, r, h1, rfl, h2⟩ := ev_tk_0 h
  unfold ev_rc at h2
  split at h2
  · rename_i q as'
    obtain ⟨fs, h7, h2⟩ := ev_ob_k h2
    obtain ⟨h3, h4⟩ := ev_rm_k h2
    obtain ⟨rfl, h5, h6⟩ := ev_z_k h4
    have hF : ∀ q, va_A (ev_lay LY K3 ad σ τ) H.size q → A q := by
      intro q hq
      rcases hq with ⟨k, x, hq⟩ | hq
      · exact (hD σ τ).2 k _ hq
      · exact hA q (Nat.le_trans hS.1 hq)
    have hrec := va_recv hK hP hc (a := ad q) (q0 := q) (ci := ci) (fs := ev_f ad (σ q) 0 fs) (by rw [ev_lay_get, h7]; rfl)
    refine ev_callq (rest := r.map (ev_v ad)) (A1 := va_A (ev_lay LY K3 ad σ τ) H.size) (free := va_A (ev_lay LY K3 ad σ τ) H.size) (va_runVN (b := ad q) (As := as'.map (ev_v ad)) ⟨hx, hb, hml, hown, hts⟩ (hM D K3 ad H.size (.ref q :: as') σ τ h5) (cw hts) ⟨ev_blind, hrec, ev_pre (as := .ref q :: as') hK hP (hD σ τ) rfl⟩ rfl (by rw [List.length_map]; simpa using h1) hL.1 (by show List.map _ _ = _; simp [ev_v]) (lv_room (by rw [ev_cats]; exact h3)) d ⟨hc0, hc1⟩) hS (fun q _ hq => hF q hq) hF (fun v σ' τ' H1 locs1 hp hP1 hS1 => ?_)
    rw [ev_stack]
    exact hK2 _ _ _ _ _ _ (ev_push_k (h6 v σ' τ' hp)) H1 locs1 ls hP1 hS1 hL
  · exact h2.elim
end EVQ
/-! returns -/
def ev_Z {ρ : Type} (J : ev_K) (cc : ByteArray) (rop : Instr) (ι : ρ → Option Value) (P : ρ → ev_M → ev_L → Prop) : Prop := ∀ (pc : Nat) (lv : List Value) (r : ρ) (σ : ev_M) (τ : ev_L), decode cc pc = .ok (rop, 1) → P r σ τ → J pc lv ((ι r).toList) σ τ 0
def tt_ri (P : Int32 → ev_M → ev_L → Prop) : ev_T := fun _ st σ τ n _ => match st with
  | [.int x] => ev_z n (P x σ τ)
  | _ => False
theorem qq_ri {J : ev_K} {cc : ByteArray} {pc : Nat} {P : Int32 → ev_M → ev_L → Prop} (Z : ev_Z J cc .ireturn ev_i P) (d : decode cc pc = .ok (.ireturn, 1)) : ev_ok J pc (tt_ri P) := by
  intro lv st σ τ n K h _
  unfold tt_ri at h
  split at h
  · obtain ⟨rfl, h⟩ := ev_z_k h
    exact Z pc lv _ σ τ d h
  · exact h.elim
def tt_rz (P : Bool → ev_M → ev_L → Prop) : ev_T := fun _ st σ τ n _ => match st with
  | [.int x] => ev_z n (∃ b : Bool, x = cond b 1 0 ∧ P b σ τ)
  | _ => False
theorem qq_rz {J : ev_K} {cc : ByteArray} {pc : Nat} {P : Bool → ev_M → ev_L → Prop} (Z : ev_Z J cc .ireturn ev_b P) (d : decode cc pc = .ok (.ireturn, 1)) : ev_ok J pc (tt_rz P) := by
  intro lv st σ τ n K h _
  unfold tt_rz at h
  split at h
  · obtain ⟨hn, b, hb, h2⟩ := ev_z_k h
    subst hn
    subst hb
    exact Z pc lv b σ τ d h2
  · exact h.elim
def tt_rv (P : Unit → ev_M → ev_L → Prop) : ev_T := fun _ st σ τ n _ => match st with
  | [] => ev_z n (P () σ τ)
  | _ => False
theorem qq_rv {J : ev_K} {cc : ByteArray} {pc : Nat} {P : Unit → ev_M → ev_L → Prop} (Z : ev_Z J cc .return_ ev_n P) (d : decode cc pc = .ok (.return_, 1)) : ev_ok J pc (tt_rv P) := by
  intro lv st σ τ n K h _
  unfold tt_rv at h
  split at h
  · obtain ⟨rfl, h⟩ := ev_z_k h
    exact Z pc lv () σ τ d h
  · exact h.elim
def tt_rl (P : Int64 → ev_M → ev_L → Prop) : ev_T := fun _ st σ τ n _ => match st with
  | [.long x] => ev_z n (P x σ τ)
  | _ => False
theorem qq_rl {J : ev_K} {cc : ByteArray} {pc : Nat} {P : Int64 → ev_M → ev_L → Prop} (Z : ev_Z J cc .lreturn ev_l P) (d : decode cc pc = .ok (.lreturn, 1)) : ev_ok J pc (tt_rl P) := by
  intro lv st σ τ n K h _
  unfold tt_rl at h
  split at h
  · obtain ⟨rfl, h⟩ := ev_z_k h
    exact Z pc lv _ σ τ d h
  · exact h.elim
def tt_ra (P : Nat → ev_M → ev_L → Prop) : ev_T := fun _ st σ τ n _ => match st with
  | [.ref x] => ev_z n (P x σ τ)
  | _ => False
theorem qq_ra {J : ev_K} {cc : ByteArray} {pc : Nat} {P : Nat → ev_M → ev_L → Prop} (Z : ev_Z J cc .areturn ev_r P) (d : decode cc pc = .ok (.areturn, 1)) : ev_ok J pc (tt_ra P) := by
  intro lv st σ τ n K h _
  unfold tt_ra at h
  split at h
  · obtain ⟨rfl, h⟩ := ev_z_k h
    exact Z pc lv _ σ τ d h
  · exact h.elim
/-- which return answers what -/
def ev_rop {ρ : Type} (ret : Option FieldType) (ι : ρ → Option Value) (rop : Instr) : Prop := ∀ (p : Program) (l : Launch) (e : Env) (R : Room) (s : State) (m : MethodId) (args : Array Value) (below : List Frame) (meth : Method) (c : Code) (H : Heap) (locs : List Loc) (cells slots : Nat) (Qc : Array Value → State → Outcome → State → Prop) (free : Addr → Prop) (cc : ByteArray) (pc : Nat) (ls : Array Slot) (ad : Nat → Nat) (r : ρ),
  p.tables.exec = Jvm.exec → c.code = cc → meth.sig.returnType = ret → meth.locks = false → decode cc pc = .ok (rop, 1) → (∀ t : State, t.heap = H → s.WarmedH t.vm → Qc args s (.returned ((ι r).map (ev_v ad))) t) → (∀ q ∈ locs, free q.base) → W p l e R s m args below meth c H locs cells slots (MQ below Qc args s cells slots free) (F0 m pc ls ((ι r).toList.map (ev_v ad)))
theorem ev_rop_i : ev_rop (some .int) ev_i .ireturn := fun p l e R s m args below meth c H locs cells slots Qc free cc pc ls ad r hx hb hr hl d hq hf => W.iret (v := r) hx hb hr hq hf d hl
theorem ev_rop_b : ev_rop (some .boolean) ev_b .ireturn := fun p l e R s m args below meth c H locs cells slots Qc free cc pc ls ad r hx hb hr hl d hq hf => W.zret (v := cond r 1 0) hx hb hr (by cases r <;> rfl) hq hf d hl
theorem ev_rop_v : ev_rop none ev_n .return_ := fun p l e R s m args below meth c H locs cells slots Qc free cc pc ls ad r hx hb hr hl d hq hf => W.vret hx hb hr hq hf d hl
theorem ev_rop_l : ev_rop (some .long) ev_l .lreturn := fun p l e R s m args below meth c H locs cells slots Qc free cc pc ls ad r hx hb hr hl d hq hf => W.lret (v := r) hx hb hr hq hf d hl
theorem ev_rop_r (C : String) : ev_rop (some (.object C)) ev_r .areturn := fun p l e R s m args below meth c H locs cells slots Qc free cc pc ls ad r hx hb hr hl d hq hf => W.aret (v := .ref (ad r)) hx hb hr (Or.inl ⟨_, rfl⟩) (Or.inr ⟨_, rfl⟩) hq hf d hl
/-- how wide the arguments are -/
def ev_wd : List Value → Nat
  | [] => 0
  | .long _ :: r => ev_wd r + 2
  | .double _ :: r => ev_wd r + 2
  | _ :: r => ev_wd r + 1
theorem ev_wd_sl (ad : Nat → Nat) : ∀ as : List Value, (lg_sl (as.map (ev_v ad))).length = ev_wd as
  | [] => rfl
  | v :: r => by
    have ih := ev_wd_sl ad r
    have key : ∀ (w : Value) (q : List Value), (lg_sl (w :: q)).length = (if w.category = 2 then 2 else 1) + (lg_sl q).length := fun w q => by
      by_cases hc : w.category = 2 <;> simp [lg_sl, hc] <;> omega
    rw [List.map_cons, key, ih, ev_v_cat]
    cases v <;> simp [ev_wd, Value.category] <;> omega
/-- a method: its walk gives its contract -/
theorem ev_meth {ρ : Type} {ι : ρ → Option Value} {l : Launch} {y : MethodName} {ws ws' : List Cond} {rm : Room} {LY : List ev_D} {cl : List vw_C} {pre : List Value → ev_M → ev_L → Prop} {post : List Value → ev_M → ev_L → ρ → ev_M → ev_L → Prop} {cc : ByteArray} {maxL : Nat} {ret : Option FieldType} {rop : Instr}
    (hy : plainName y.cls = true) (hw : ws = Cond.code y cc maxL ret :: ws') (hrop : ev_rop ret ι rop) (hwd : ∀ (as : List Value) (σ : ev_M) (τ : ev_L), pre as σ τ → ev_wd as ≤ maxL)
    (body : ∀ (J : ev_K) (as : List Value) (σ : ev_M) (τ : ev_L), pre as σ τ → ev_X l rm LY cl ws cc maxL y.cls J → ev_Z J cc rop ι (post as σ τ) → J 0 (ev_in maxL as) [] σ τ 0) : ev_C ι l y ws rm LY cl pre post := by
  intro D K3 ad sz as σ τ hpre
  refine Met.ofW (cc := cc) (maxL := maxL) (ret := ret) hy hw ?_
  intro p e s m args below meth c s₁ B hml hv
  obtain ⟨rfl, hsz, hP, hK, hD0⟩ := hv
  have hx := B.exec
  have hb := B.bytes
  have hr := B.returns
  have hts := atoms_spec (ws := ws) B.pre
  have hown : s.vm.findClass y.cls = some m.cls := findClass_of_methodNamed B.named
  have hlocks := B.notSynchronized
  subst hsz
  have hD1 := hD0.self (sz := s.heap.size)
  have hl := lv_entry (as.map (ev_v ad)) (n := maxL) (by rw [ev_wd_sl]; exact hwd as σ τ hpre)
  rw [lg_entry_eq]
  generalize (lg_sl (as.map (ev_v ad)) ++ List.replicate (maxL - (lg_sl (as.map (ev_v ad))).length) Slot.unset).toArray = ls at hl ⊢
  have hL : ev_h ad ls maxL (ev_in maxL as) := by
    refine ⟨hl.1, hl.2.1, fun q hq => hl.2.2 q ?_⟩
    obtain ⟨v, h1, h2, h3⟩ := ev_ps_mem.mp hq
    have h4 := ev_in_at maxL as 0 q.1 v ad h1 h2
    rw [Nat.zero_add, ← h3] at h4
    exact h4
  have hX : ev_X l rm LY cl ws cc maxL y.cls (ev_WS p l e (headSpec ws rm).room s m (as.map (ev_v ad)).toArray below meth c (MQ below (ev_Q ι LY cl D K3 ad (va_A (ev_lay LY K3 ad σ τ) s.heap.size) (post as σ τ)) (as.map (ev_v ad)).toArray s 0 0 (va_A (ev_lay LY K3 ad σ τ) s.heap.size)) maxL D cl LY K3 ad (va_A (ev_lay LY K3 ad σ τ) s.heap.size) 0 0) :=
    ⟨p, e, s, m, _, below, meth, c, _, D, K3, ad, _, 0, 0, rfl, hx, hb, hml, hown, hts, hK, fun σ' τ' => ev_D_any hD1, fun q hq => Or.inr hq, Nat.zero_le _, Nat.zero_le _⟩
  refine body _ as σ τ hpre hX ?_ s.heap [] ls hP va_S.rf hL
  intro pc lv r σ' τ' d hp H locs ls' hP' hS' _
  refine hrop p l e _ s m _ below meth c H locs 0 0 _ _ cc pc ls' ad r hx hb hr hlocks d (fun t ht hW => ?_) hS'.2.2
  exact ⟨⟨r, σ', τ', rfl, hp, by rw [ht]; exact hP', va_K.moved hW.alike hK⟩, hS'.F ht⟩
theorem ev_meth0 {ρ : Type} {ι : ρ → Option Value} {l : Launch} {y : MethodName} {ws ws' : List Cond} {rm : Room} {LY : List ev_D} {cl : List vw_C} {pre : List Value → ev_M → ev_L → Prop} {post : List Value → ev_M → ev_L → ρ → ev_M → ev_L → Prop} {cc : ByteArray} {maxL : Nat} {ret : Option FieldType} {rop : Instr}
    (hy : plainName y.cls = true) (hw : ws = Cond.code y cc maxL ret :: ws') (hrop : ev_rop ret ι rop) (hwd : ∀ (as : List Value) (σ : ev_M) (τ : ev_L), pre as σ τ → ev_wd as ≤ maxL) (I : (ρ → ev_M → ev_L → Prop) → List (Nat × ev_T))
    (ok : ∀ (J : ev_K) (P : ρ → ev_M → ev_L → Prop), ev_X l rm LY cl ws cc maxL y.cls J → ev_Z J cc rop ι P → ev_oks J (I P)) (f : Nat)
    (body : ∀ (as : List Value) (σ : ev_M) (τ : ev_L), pre as σ τ → ev_wp (I (post as σ τ)) [] f 0 (ev_in maxL as) [] σ τ 0 (fun _ _ _ _ _ _ => False)) : ev_C ι l y ws rm LY cl pre post :=
  ev_meth hy hw hrop hwd (fun J as σ τ hpre X Z => ev_sound (ok J _ X Z) (fun _ _ _ _ _ _ h => h.elim) (body as σ τ hpre))
theorem ev_methL {ρ : Type} {ι : ρ → Option Value} {l : Launch} {y : MethodName} {ws ws' : List Cond} {rm : Room} {LY : List ev_D} {cl : List vw_C} {pre : List Value → ev_M → ev_L → Prop} {post : List Value → ev_M → ev_L → ρ → ev_M → ev_L → Prop} {cc : ByteArray} {maxL : Nat} {ret : Option FieldType} {rop : Instr}
    (hy : plainName y.cls = true) (hw : ws = Cond.code y cc maxL ret :: ws') (hrop : ev_rop ret ι rop) (hwd : ∀ (as : List Value) (σ : ev_M) (τ : ev_L), pre as σ τ → ev_wd as ≤ maxL) (I : (ρ → ev_M → ev_L → Prop) → List (Nat × ev_T))
    (ok : ∀ (J : ev_K) (P : ρ → ev_M → ev_L → Prop), ev_X l rm LY cl ws cc maxL y.cls J → ev_Z J cc rop ι P → ev_oks J (I P)) (cut : List Nat) (f : Nat)
    (body : ∀ (as : List Value) (σ : ev_M) (τ : ev_L), pre as σ τ → ∃ Inv : Nat → ev_K, (∃ μ, Inv μ 0 (ev_in maxL as) [] σ τ 0) ∧ ∀ (μ pc : Nat) (lv st : List Value) (σ' : ev_M) (τ' : ev_L) (n : Nat), Inv μ pc lv st σ' τ' n → ev_wp (I (post as σ τ)) cut f pc lv st σ' τ' n (fun pc' lv' st' σ'' τ'' n' => ∃ μ', μ' < μ ∧ Inv μ' pc' lv' st' σ'' τ'' n')) : ev_C ι l y ws rm LY cl pre post :=
  ev_meth hy hw hrop hwd (fun J as σ τ hpre X Z => by
    obtain ⟨Inv, ⟨μ, h0⟩, hs⟩ := body as σ τ hpre
    exact ev_loop (ok J _ X Z) f Inv hs μ _ _ _ _ _ _ h0)
