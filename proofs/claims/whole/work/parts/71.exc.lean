/-! contracts that may throw: an exception by its number; what a throw needs of the start rides along as a premise of its own -/
def xcN : Nat → String
  | 0 => "java/lang/IndexOutOfBoundsException"
  | 1 => "java/lang/IllegalArgumentException"
  | 2 => "java/lang/IllegalStateException"
  | _ => "java/lang/UnsupportedOperationException"
def xcI : Nat → Nat
  | 0 => 48
  | 1 => 62
  | 2 => 71
  | _ => 92
def xcJ : Nat → Nat
  | 0 => 52
  | 1 => 66
  | 2 => 75
  | _ => 96
theorem ex4 {P : Nat → Prop} (h0 : P 0) (h1 : P 1) (h2 : P 2) (h3 : P 3) : ∀ k, k < 4 → P k
  | 0, _ => h0
  | 1, _ => h1
  | 2, _ => h2
  | 3, _ => h3
  | k + 4, h => absurd h (by omega)
def xcU : List String := ["java/lang/RuntimeException", "java/lang/Exception"]
def xcG (k : Nat) : List Cond := (vx_atS "BlockCounter" (xcJ k) (xcN k) xcU).filter goodWord
def xcB (k : Nat) : List Cond := (vx_atS "BlockCounter" (xcJ k) (xcN k) xcU).filter (fun w => !goodWord w)
def xcT : Cond → Bool
  | .castable _ _ => true
  | .declares _ => true
  | _ => false
theorem xcB_t : ∀ k, k < 4 → ∀ w ∈ xcB k, xcT w = true := ex4 (by decide +kernel) (by decide +kernel) (by decide +kernel) (by decide +kernel)
set_option maxRecDepth 100000 in
theorem xcG_in : ∀ k, k < 4 → ∀ w ∈ xcG k, w ∈ evW := ex4 (by decide +kernel) (by decide +kernel) (by decide +kernel) (by decide +kernel)
theorem ex_good : ∀ k, k < 4 → ∀ w ∈ Cond.classLink "BlockCounter" (xcI k) (xcN k) :: Cond.initialized (xcN k) :: vx_atS "BlockCounter" (xcJ k) (xcN k) xcU, vx_ot w = true := ex4 (by decide +kernel) (by decide +kernel) (by decide +kernel) (by decide +kernel)
set_option maxRecDepth 100000 in
theorem ex_cl : ∀ k, k < 4 → Cond.classLink "BlockCounter" (xcI k) (xcN k) ∈ evW := ex4 (by decide +kernel) (by decide +kernel) (by decide +kernel) (by decide +kernel)
set_option maxRecDepth 100000 in
theorem ex_ini : ∀ k, k < 4 → Cond.initialized (xcN k) ∈ evW := ex4 (by decide +kernel) (by decide +kernel) (by decide +kernel) (by decide +kernel)
theorem ex_cast : ∀ k, k < 4 → Cond.castable (xcN k) (xcN k) ∈ xcB k := ex4 (by decide +kernel) (by decide +kernel) (by decide +kernel) (by decide +kernel)
theorem ex_fit : ∀ k, k < 4 → Bundle.fit (xcN k) = true := ex4 (by decide +kernel) (by decide +kernel) (by decide +kernel) (by decide +kernel)
theorem ex_fitU : ∀ n ∈ xcU, Bundle.fit n = true := by decide +kernel
/-- which is no subclass of which: a later handler's class, an earlier one's -/
def xcNc : List (Nat × Nat) := [(2, 1), (1, 0), (3, 2), (2, 0)]
def xcSt : List (Nat × String) := [(50, "no such address in the code"), (64, "the table does not lie in the code"), (73, "there are four tables"), (83, "no such cell"), (94, "the program is refused"), (98, "no such block"), (110, "no such fact of a block"), (118, "there is no analysis"), (124, "the section is too small"), (129, "no such address in memory"), (132, "there is no rewritten program"), (141, "not 0 to 3000 steps"), (170, "no such register"), (175, "no such number in the output"), (180, "no such counter")]
theorem ex_mv {w : Cond} (ht : xcT w = true) {s U : State} (hW : s.vm.Alike U.vm) (h : w.before #[] s = true) : w.before #[] U = true := by
  cases w with
  | castable a b => exact va_tabs (A := #[]) (u := s.setVm U.vm) rfl rfl (by rw [Cond.castable_setVm hW]; exact h)
  | declares x => exact va_tabs (A := #[]) (u := s.setVm U.vm) rfl rfl (by rw [Cond.declares_setVm hW]; exact h)
  | _ => cases ht
def xcE (A : Nat → Prop) (U : State) (H : Heap) : Prop := (∀ k, k < 4 → ∀ w ∈ xcB k, w.before #[] U = true) ∧ vx_Zq Bundle.tN "UNASSIGNED_STACK" Bundle.steD A U H ∧ vx_Zq Bundle.tN "SUPPRESSED_SENTINEL" Bundle.listD A U H ∧ (∀ q ∈ xcSt, ∃ sa : Nat, vk_R "BlockCounter" q.1 q.2 sa U) ∧ (∀ q ∈ xcNc, va_Nc (xcN q.1) (xcN q.2) U)
theorem xcE_warm {A : Nat → Prop} {s U : State} {H : Heap} (hW : s.WarmedH U.vm) (h : xcE A s H) : xcE A U H := by
  obtain ⟨h1, h2, h3, h4, h5⟩ := h
  refine ⟨fun k hk w hw => ex_mv (xcB_t k hk w hw) hW.alike (h1 k hk w hw), vx_Zq.moved hW.alike h2, vx_Zq.moved hW.alike h3, fun q hq => ?_, fun q hq => va_Nc.moved hW.alike (h5 q hq)⟩
  obtain ⟨sa, h⟩ := h4 q hq
  exact ⟨sa, vk_R.warm hW h⟩
theorem xcE_kept {A : Nat → Prop} {U : State} {H H1 : Heap} (h : xcE A U H) (hq : ∀ a : Nat, a < H.size → ¬ A a → H1[a]? = H[a]?) : xcE A U H1 := ⟨h.1, vx_Zq.kept h.2.1 hq, vx_Zq.kept h.2.2.1 hq, h.2.2.2⟩
theorem xcE_narrow {A B : Nat → Prop} {U : State} {H : Heap} (h : xcE A U H) (hAB : ∀ q, B q → A q) : xcE B U H := ⟨h.1, vx_Zq.narrow h.2.1 hAB, vx_Zq.narrow h.2.2.1 hAB, h.2.2.2⟩
theorem ex_hat {A : Nat → Prop} {s : State} {H : Heap} {args : Array Value} {w0 : Cond} (hE : xcE A s H) (hts : ∀ w ∈ w0 :: evW, w.before args s = true) {k : Nat} (hk : k < 4) : ∀ w ∈ vx_atS "BlockCounter" (xcJ k) (xcN k) xcU, w.before args s = true := by
  refine vx_hat (B := xcB k) (fun w hw => hts w (List.mem_cons_of_mem _ (xcG_in k hk w hw))) (fun w hw => hw) (fun w hw => ?_)
  have ht := xcB_t k hk w hw
  have hb := hE.1 k hk w hw
  cases w with
  | castable a b => exact va_any rfl hb
  | declares x => exact va_any rfl hb
  | _ => cases ht
def ex_Pc (LY : List ev_D) (cl : List vw_C) (D : va_G) (K3 : ev_3) (ad : Nat → Nat) (sz : Nat) (as : List Value) (σ : ev_M) (τ : ev_L) : Array Value → State → Prop := va_Pc (as.map (ev_v ad)) (fun U => (U.heap.size = sz ∧ va_P D cl (ev_lay LY K3 ad σ τ) U.heap ∧ va_K D cl (ev_tys K3) U ∧ va_D (fun _ => True) (ev_lay LY K3 ad σ τ)) ∧ xcE (va_A (ev_lay LY K3 ad σ τ) sz) U U.heap)
theorem ex_blind {LY : List ev_D} {cl : List vw_C} {D : va_G} {K3 : ev_3} {ad : Nat → Nat} {sz : Nat} {as : List Value} {σ : ev_M} {τ : ev_L} : FrameBlind (ex_Pc LY cl D K3 ad sz as σ τ) := fun a U g mk q => by
  obtain ⟨q0, ⟨q1, qP, qK, qD⟩, qE⟩ := q
  exact ⟨q0, ⟨q1, qP, va_K.moved (u := U) (U := U.calling g mk a) (Vm.Alike.refl U.vm) qK, qD⟩, xcE_warm (s := U) (U := U.calling g mk a) (State.WarmedH.refl U) qE⟩
theorem ex_pre {s : State} {H : Heap} {LY : List ev_D} {cl : List vw_C} {D : va_G} {K3 : ev_3} {ad : Nat → Nat} {A0 : Nat → Prop} {sz : Nat} {as : List Value} {σ : ev_M} {τ : ev_L} (hK : va_K D cl (ev_tys K3) s) (hP : va_P D cl (ev_lay LY K3 ad σ τ) H) (hD : va_D A0 (ev_lay LY K3 ad σ τ)) (hz : H.size = sz) (hE : xcE (va_A (ev_lay LY K3 ad σ τ) sz) s H) : ∀ U : State, U.heap = H → s.WarmedH U.vm → ex_Pc LY cl D K3 ad sz as σ τ (as.map (ev_v ad)).toArray U := fun U hU hW =>
  ⟨rfl, ⟨by rw [hU]; exact hz, by rw [hU]; exact hP, va_K.moved hW.alike hK, hD.weaken (fun _ _ _ _ => trivial)⟩, by rw [hU]; exact xcE_warm hW hE⟩
def ex_XC (LY : List ev_D) (cl : List vw_C) (D : va_G) (K3 : ev_3) (ad : Nat → Nat) (A : Nat → Prop) (px : Nat → ev_M → ev_L → Prop) : String → State → State → Prop := fun E st t => (∃ (k : Nat) (σ' : ev_M) (τ' : ev_L), k < 4 ∧ E = xcN k ∧ px k σ' τ' ∧ va_P D cl (ev_lay LY K3 ad σ' τ') t.heap) ∧ va_F A st t
/-- a method that returns or throws -/
def ex_C {ρ : Type} (ι : ρ → Option Value) (l : Launch) (y : MethodName) (ws : List Cond) (rm : Room) (LY : List ev_D) (cl : List vw_C) (pre : List Value → ev_M → ev_L → Prop) (post : List Value → ev_M → ev_L → ρ → ev_M → ev_L → Prop) (px : List Value → ev_M → ev_L → Nat → ev_M → ev_L → Prop) : Prop :=
  ∀ (D : va_G) (K3 : ev_3) (ad : Nat → Nat) (sz : Nat) (as : List Value) (σ : ev_M) (τ : ev_L), pre as σ τ → vx_Met l y ws rm (ex_Pc LY cl D K3 ad sz as σ τ) (ev_Q ι LY cl D K3 ad (va_A (ev_lay LY K3 ad σ τ) sz) (post as σ τ)) (ex_XC LY cl D K3 ad (va_A (ev_lay LY K3 ad σ τ) sz) (px as σ τ)) 1 6 (va_A (ev_lay LY K3 ad σ τ) sz)
/-- a method that catches all -/
def ex_H {ρ : Type} (ι : ρ → Option Value) (l : Launch) (y : MethodName) (ws : List Cond) (rm : Room) (LY : List ev_D) (cl : List vw_C) (pre : List Value → ev_M → ev_L → Prop) (post : List Value → ev_M → ev_L → ρ → ev_M → ev_L → Prop) : Prop :=
  ∀ (D : va_G) (K3 : ev_3) (ad : Nat → Nat) (sz : Nat) (as : List Value) (σ : ev_M) (τ : ev_L), pre as σ τ → Met l y ws rm (ex_Pc LY cl D K3 ad sz as σ τ) (ev_Q ι LY cl D K3 ad (va_A (ev_lay LY K3 ad σ τ) sz) (post as σ τ)) 1 6 (va_A (ev_lay LY K3 ad σ τ) sz)
def ex_Z (J : ev_K) (cc : ByteArray) (PX : Nat → ev_M → ev_L → Prop) : Prop := ∀ (k is pc : Nat) (tx : String) (lv st : List Value) (σ : ev_M) (τ : ev_L), k < 4 → (is, tx) ∈ xcSt → decode cc pc = .ok (.new (xcI k), 3) → decode cc (pc + 3) = .ok (.dup, 1) → decode cc (pc + 4) = .ok (.ldc is, 2) → decode cc (pc + 6) = .ok (.invokespecial (xcJ k), 3) → decode cc (pc + 9) = .ok (.athrow, 1) → (st.map fun v => v.category).sum ≤ 8 → PX k σ τ → J pc lv st σ τ 0
def tt_th (k : Nat) (PX : Nat → ev_M → ev_L → Prop) : ev_T := fun _ st σ τ n _ => ev_rm st (ev_z n (PX k σ τ))
theorem qq_th {J : ev_K} {cc : ByteArray} {PX : Nat → ev_M → ev_L → Prop} (T : ex_Z J cc PX) (k : Nat) (hk : k < 4) {is pc : Nat} {tx : String} (hs : (is, tx) ∈ xcSt) (d0 : decode cc pc = .ok (.new (xcI k), 3)) (d3 : decode cc (pc + 3) = .ok (.dup, 1)) (d4 : decode cc (pc + 4) = .ok (.ldc is, 2)) (d6 : decode cc (pc + 6) = .ok (.invokespecial (xcJ k), 3)) (d9 : decode cc (pc + 9) = .ok (.athrow, 1)) : ev_ok J pc (tt_th k PX) := by
  intro lv st σ τ n K h _
  obtain ⟨h1, h2⟩ := ev_rm_k h
  obtain ⟨rfl, h3⟩ := ev_z_k h2
  exact T k is pc tx lv st σ τ hk hs d0 d3 d4 d6 d9 h1 h3
/-- a method of the face: its walk gives its contract -/
theorem ex_meth {ρ : Type} {ι : ρ → Option Value} {l : Launch} {y : MethodName} {ws : List Cond} {rm : Room} {LY : List ev_D} {cl : List vw_C} {pre : List Value → ev_M → ev_L → Prop} {post : List Value → ev_M → ev_L → ρ → ev_M → ev_L → Prop} {px : List Value → ev_M → ev_L → Nat → ev_M → ev_L → Prop} {cc : ByteArray} {maxL : Nat} {ret : Option FieldType} {rop : Instr}
    (hst : l.stackTraces = false) (hyc : y.cls = "BlockCounter") (hy : plainName y.cls = true) (hw : ws = Cond.code y cc maxL ret :: evW) (hrop : ev_rop ret ι rop) (hwd : ∀ (as : List Value) (σ : ev_M) (τ : ev_L), pre as σ τ → ev_wd as ≤ maxL) (hrm : 6 ≤ rm.frames ∧ 90 ≤ rm.locals ∧ 1 ≤ rm.cells ∧ 6 ≤ rm.slots)
    (body : ∀ (J : ev_K) (as : List Value) (σ : ev_M) (τ : ev_L), pre as σ τ → ev_X l rm LY cl ws cc maxL y.cls J → ev_Z J cc rop ι (post as σ τ) → ex_Z J cc (px as σ τ) → J 0 (ev_in maxL as) [] σ τ 0) : ex_C ι l y ws rm LY cl pre post px := by
  intro D K3 ad sz as σ τ hpre
  refine vx_ofW (cc := cc) (maxL := maxL) (ret := ret) hy hw ?_
  intro p e s m args below meth c s₁ B hml htab hv
  obtain ⟨rfl, ⟨hsz, hP, hK, hD0⟩, hE⟩ := hv
  have hx := B.exec
  have hb := B.bytes
  have hr := B.returns
  have hts := atoms_spec (ws := ws) B.pre
  have hown : s.vm.findClass y.cls = some m.cls := findClass_of_methodNamed B.named
  have hlocks := B.notSynchronized
  subst hsz
  have hD1 := hD0.self (sz := s.heap.size)
  have hl := lv_entry (as.map (ev_v ad)) (n := maxL) (by rw [ev_wd_sl]; exact hwd as σ τ hpre)
  rw [lg_entry_eq]
  generalize (lg_sl (as.map (ev_v ad)) ++ List.replicate (maxL - (lg_sl (as.map (ev_v ad))).length) Slot.unset).toArray = ls at hl ⊢
  have hL : ev_h ad ls maxL (ev_in maxL as) := by
    refine ⟨hl.1, hl.2.1, fun q hq => hl.2.2 q ?_⟩
    obtain ⟨v, h1, h2, h3⟩ := ev_ps_mem.mp hq
    have h4 := ev_in_at maxL as 0 q.1 v ad h1 h2
    rw [Nat.zero_add, ← h3] at h4
    exact h4
  have hX : ev_X l rm LY cl ws cc maxL y.cls (ev_WS p l e (headSpec ws rm).room s m (as.map (ev_v ad)).toArray below meth c (vx_MQ below (ev_Q ι LY cl D K3 ad (va_A (ev_lay LY K3 ad σ τ) s.heap.size) (post as σ τ)) (ex_XC LY cl D K3 ad (va_A (ev_lay LY K3 ad σ τ) s.heap.size) (px as σ τ)) (as.map (ev_v ad)).toArray s 1 6 (va_A (ev_lay LY K3 ad σ τ) s.heap.size)) maxL D cl LY K3 ad (va_A (ev_lay LY K3 ad σ τ) s.heap.size) 0 0) :=
    ⟨p, e, s, m, _, below, meth, c, _, D, K3, ad, _, 0, 0, rfl, hx, hb, hml, hown, hts, hK, fun σ' τ' => ev_D_any hD1, fun q hq => Or.inr hq, Nat.zero_le _, Nat.zero_le _⟩
  refine body _ as σ τ hpre hX ?_ ?_ s.heap [] ls hP va_S.rf hL
  · intro pc lv r σ' τ' d hp H locs ls' hP' hS' _
    refine W.widen (k := 1) (n := 6) (by omega) (by omega) (vx_ret ?_)
    refine hrop p l e _ s m _ below meth c H locs 1 6 _ _ cc pc ls' ad r hx hb hr hlocks d (fun t ht hW => ?_) hS'.2.2
    exact ⟨⟨r, σ', τ', rfl, hp, by rw [ht]; exact hP', va_K.moved hW.alike hK⟩, hS'.F ht⟩
  · intro k is pc tx lv st σ' τ' hk hs d0 d3 d4 d6 d9 hsum hp H locs ls' hP' hS' hL'
    obtain ⟨sa, hstr⟩ := hE.2.2.2.1 _ hs
    have hts9 : ∀ w ∈ Cond.code y cc maxL ret :: evW, w.before (as.map (ev_v ad)).toArray s = true := by rw [← hw]; exact hts
    refine vx_throwS (own := "BlockCounter") (cls := xcN k) (names := xcU) (text := tx) (ik := xcI k) (is := is) (ic := xcJ k) (sa := sa) (A := va_A (ev_lay LY K3 ad σ τ) s.heap.size) hx hb hst (by rw [← hyc]; exact hown) (ex_fit k hk) ex_fitU (hts9 _ (List.mem_cons_of_mem _ (ex_cl k hk))) (hts9 _ (List.mem_cons_of_mem _ (ex_ini k hk))) hstr (ex_hat hE hts9 hk) (ex_good k hk) hE.2.1 hE.2.2.1 hS' (hL'.1.trans hml.symm) d0 d3 d4 d6 d9 (fun x hx => (htab x hx).elim) ?_ ?_ ?_ ?_ hlocks (fun t _ hz hkq => ?_) hS'.2.2 (by omega) (by omega)
    · show xcU.length + 3 < rm.frames
      have : xcU.length = 2 := rfl
      omega
    · show _ ≤ rm.locals
      rw [ev_cats]
      have : xcU.length = 2 := rfl
      omega
    · show 0 + 0 + 1 ≤ rm.cells
      omega
    · show 0 + 6 * 0 + 6 ≤ rm.slots
      omega
    · exact ⟨⟨k, σ', τ', hk, rfl, hp, hP'.kept (fun k' q hq => hkq q.1 (vx_lt hP' hq))⟩, Nat.le_trans hS'.1 hz, fun q h1 h2 => (hkq q (Nat.lt_of_lt_of_le h1 hS'.1)).trans (hS'.2.1 q h1 h2)⟩
theorem ex_meth0 {ρ : Type} {ι : ρ → Option Value} {l : Launch} {y : MethodName} {ws : List Cond} {rm : Room} {LY : List ev_D} {cl : List vw_C} {pre : List Value → ev_M → ev_L → Prop} {post : List Value → ev_M → ev_L → ρ → ev_M → ev_L → Prop} {px : List Value → ev_M → ev_L → Nat → ev_M → ev_L → Prop} {cc : ByteArray} {maxL : Nat} {ret : Option FieldType} {rop : Instr}
    (hst : l.stackTraces = false) (hyc : y.cls = "BlockCounter") (hy : plainName y.cls = true) (hw : ws = Cond.code y cc maxL ret :: evW) (hrop : ev_rop ret ι rop) (hwd : ∀ (as : List Value) (σ : ev_M) (τ : ev_L), pre as σ τ → ev_wd as ≤ maxL) (hrm : 6 ≤ rm.frames ∧ 90 ≤ rm.locals ∧ 1 ≤ rm.cells ∧ 6 ≤ rm.slots) (I : (ρ → ev_M → ev_L → Prop) → (Nat → ev_M → ev_L → Prop) → List (Nat × ev_T))
    (ok : ∀ (J : ev_K) (P : ρ → ev_M → ev_L → Prop) (PX : Nat → ev_M → ev_L → Prop), ev_X l rm LY cl ws cc maxL y.cls J → ev_Z J cc rop ι P → ex_Z J cc PX → ev_oks J (I P PX)) (f : Nat)
    (body : ∀ (as : List Value) (σ : ev_M) (τ : ev_L), pre as σ τ → ev_wp (I (post as σ τ) (px as σ τ)) [] f 0 (ev_in maxL as) [] σ τ 0 (fun _ _ _ _ _ _ => False)) : ex_C ι l y ws rm LY cl pre post px :=
  ex_meth hst hyc hy hw hrop hwd hrm (fun J as σ τ hpre X Z T => ev_sound (ok J _ _ X Z T) (fun _ _ _ _ _ _ h => h.elim) (body as σ τ hpre))
/-! a call that may throw, from a method that catches -/
section EXC
variable {p : Program} {l : Launch} {e : Env} {R : Room} {s : State} {m : MethodId} {args : Array Value} {below : List Frame} {meth : Method} {c : Code} {H : Heap} {locs : List Loc} {cells slots : Nat} {Q : State → Prop}
variable {pc : Nat} {ls : Array Slot} {rest st0 : List Value} {a : Array Value} {A0 A1 : Nat → Prop} {H0 : Heap} {free : Addr → Prop} {LY : List ev_D} {cl : List vw_C} {D : va_G} {K3 : ev_3} {ad : Nat → Nat}
theorem ex_callq {ρ : Type} {ι : ρ → Option Value} {post : ρ → ev_M → ev_L → Prop} {px : Nat → ev_M → ev_L → Prop} (hr : vx_Run p l e R s m args below meth c H locs cells slots 1 6 (F0 m pc ls st0) rest (ev_Q ι LY cl D K3 ad A1 post a) (ex_XC LY cl D K3 ad A1 px) free) (hS : va_S A0 H0 H locs) (hA : ∀ q, q < H.size → A1 q → A0 q) (hf : ∀ q, free q → A0 q)
    (kk : ∀ (r : ρ) (σ' : ev_M) (τ' : ev_L) (H1 : Heap) (locs1 : List Loc), post r σ' τ' → va_P D cl (ev_lay LY K3 ad σ' τ') H1 → va_S A0 H0 H1 locs1 → W p l e R s m args below meth c H1 locs1 (cells + 1) (slots + 6) Q (F0 m (pc + 3) ls (((ι r).map (ev_v ad)).toList ++ rest)))
    (kx : ∀ (k : Nat) (σ' : ev_M) (τ' : ev_L) (H1 : Heap) (locs1 : List Loc) (q9 : Addr) (ce : Cell), k < 4 → px k σ' τ' → va_P D cl (ev_lay LY K3 ad σ' τ') H1 → va_S A0 H0 H1 locs1 → H1[q9]? = some ce → ce.vm = .none → s.vm.findClass (xcN k) = some ce.cls → vx_W p l e R s m args below meth c H1 locs1 (cells + 1) (slots + 6) Q (F0 m pc ls rest) q9) : W p l e R s m args below meth c H locs cells slots Q (F0 m pc ls st0) := by
  intro T hT X
  rcases hr T hT X with ⟨v, st₀, t, T', L, h0, X', hL, e1, e2, ⟨⟨r, σ', τ', hv, hp, hP1, -⟩, hF⟩, st⟩ | ⟨q, st₀, t, T', L, E, ce, h0, X', hL, e1, e2, ⟨⟨k, σ', τ', hk, hEk, hp, hP1⟩, hF⟩, hce, hcv, hcl, st⟩
  · cases hv
    obtain ⟨-, -, k3⟩ := vx_keep h0 e1 hS hA hf hL hF
    obtain ⟨t2, a1, b1⟩ := kk r σ' τ' T'.heap (locs ++ L) hp (by rw [e1]; exact hP1) k3 T' rfl X'
    exact ⟨t2, st t2 a1, b1⟩
  · subst hEk
    obtain ⟨-, -, k3⟩ := vx_keep h0 e1 hS hA hf hL hF
    obtain ⟨t2, a1, b1⟩ := kx k σ' τ' T'.heap (locs ++ L) q ce hk hp (by rw [e1]; exact hP1) k3 (by rw [e1]; exact hce) hcv hcl T' rfl X'
    exact ⟨t2, st.trans a1, b1⟩
end EXC
/-- the context of a method that catches -/
def ex_X (l : Launch) (R : Room) (LY : List ev_D) (cl : List vw_C) (Ts : List Cond) (cc : ByteArray) (nL : Nat) (own : String) (tab : List ExceptionTableEntry) (N : Nat) (J : ev_K) : Prop :=
  ∃ (p : Program) (e : Env) (s : State) (m : MethodId) (args : Array Value) (below : List Frame) (meth : Method) (c : Code) (Q : State → Prop) (D : va_G) (K3 : ev_3) (ad : Nat → Nat) (A : Nat → Prop) (b0 b1 : Nat),
    J = ev_WS p l e R s m args below meth c Q nL D cl LY K3 ad A b0 b1 ∧ (p.tables.exec = Jvm.exec ∧ c.code = cc ∧ c.maxLocals = nL ∧ s.vm.findClass own = some m.cls ∧ (∀ w ∈ Ts, w.before args s = true) ∧ va_K D cl (ev_tys K3) s ∧ (∀ (σ : ev_M) (τ : ev_L), va_D A (ev_lay LY K3 ad σ τ)) ∧ (∀ q, s.heap.size ≤ q → A q)) ∧ (b0 + N ≤ R.cells ∧ b1 + 6 * N ≤ R.slots) ∧ xcE A s s.heap ∧ c.exceptionTable.toList = tab
theorem ex_X_ev {l : Launch} {R : Room} {LY : List ev_D} {cl : List vw_C} {Ts : List Cond} {cc : ByteArray} {nL : Nat} {own : String} {tab : List ExceptionTableEntry} {N : Nat} {J : ev_K} (X : ex_X l R LY cl Ts cc nL own tab N J) : ev_X l R LY cl Ts cc nL own J := by
  obtain ⟨p, e, s, m, args, below, meth, c, Q, D, K3, ad, A, b0, b1, h0, ⟨h1, h2, h3, h4, h5, h6, h7, h8⟩, ⟨h9, h10⟩, -⟩ := X
  exact ⟨p, e, s, m, args, below, meth, c, Q, D, K3, ad, A, b0, b1, h0, h1, h2, h3, h4, h5, h6, h7, h8, by omega, by omega⟩
/-- where an exception goes: its number, the place behind the handler's first instruction, the local that takes it -/
def ev_hd : List (Nat × Nat × Nat) → Nat → (Nat → Nat → Prop) → Prop
  | [], _, _ => False
  | (a, pc, i) :: r, k, f => cond (Nat.beq a k) (f pc i) (ev_hd r k f)
theorem ev_hd_k : ∀ {hs : List (Nat × Nat × Nat)} {k : Nat} {f : Nat → Nat → Prop}, ev_hd hs k f → ∃ pc i, (k, pc, i) ∈ hs ∧ f pc i
  | [], _, _, h => h.elim
  | (a, pc, i) :: r, k, f, h => by
    unfold ev_hd at h
    cases hb : Nat.beq a k with
    | true =>
      rw [hb] at h
      have : a = k := Nat.eq_of_beq_eq_true hb
      subst this
      exact ⟨pc, i, List.mem_cons_self, h⟩
    | false =>
      rw [hb] at h
      obtain ⟨pc', i', h1, h2⟩ := ev_hd_k h
      exact ⟨pc', i', List.mem_cons_of_mem _ h1, h2⟩
def xcHd (Ts : List Cond) (own : String) (cc : ByteArray) (nL : Nat) (tab : List ExceptionTableEntry) (pc : Nat) (q : Nat × Nat × Nat) : Prop :=
  ∃ (pre : List ExceptionTableEntry) (x : ExceptionTableEntry) (suf : List ExceptionTableEntry), tab = pre ++ x :: suf ∧ (∀ z ∈ pre, z.catchType ≠ 0 ∧ ∃ k', Cond.classLink own z.catchType (xcN k') ∈ Ts ∧ (q.1, k') ∈ xcNc) ∧ covers x pc = true ∧ x.catchType ≠ 0 ∧ Cond.classLink own x.catchType (xcN q.1) ∈ Ts ∧ q.2.2 < nL ∧
    ((∃ kk : Fin 4, decode cc x.handlerPc = .ok (.astore_n kk, 1) ∧ (kk : Nat) = q.2.2 ∧ q.2.1 = x.handlerPc + 1) ∨ (decode cc x.handlerPc = .ok (.astore q.2.2, 2) ∧ q.2.1 = x.handlerPc + 2))
theorem ex_h_set {ad : Nat → Nat} {ls' : Array Slot} {nL : Nat} {lv : List Value} {i x : Nat} (hst : ∀ (j : Nat) (w : Value), j + 1 = i → lv[j]? = some w → ¬ w.category = 2)
    (h : lv_has ls' nL ((i, Value.ref x) :: (ev_ps ad lv).filter (fun q => !(q.1 == i) && !(q.1 + 1 == i && q.2.category == 2)))) : ev_h ad ls' nL (lv.set i .null) := by
  refine ⟨h.1, h.2.1, fun q hq => h.2.2 q ?_⟩
  obtain ⟨w, hw, hn, he⟩ := ev_ps_mem.mp hq
  by_cases hi : i = q.1
  · rw [← hi] at hw
    have hl : i < lv.length := by
      have := (List.getElem?_eq_some_iff.mp hw).1
      simpa using this
    rw [List.getElem?_set_self hl] at hw
    cases hw
    exact absurd rfl hn
  · rw [List.getElem?_set_ne hi] at hw
    refine List.mem_cons_of_mem _ (List.mem_filter.mpr ⟨ev_ps_mem.mpr ⟨w, hw, hn, he⟩, ?_⟩)
    have h1 : (q.1 == i) = false := by simpa using fun h => hi h.symm
    have h2 : (q.1 + 1 == i && q.2.category == 2) = false := by
      by_cases hj : q.1 + 1 = i
      · have := hst q.1 w hj hw
        rw [he, ev_v_cat]
        simp [this]
      · simp [hj]
    rw [h1, h2]; rfl
def tt_xV {ρ : Type} (LY : List ev_D) (ci na : Nat) (ι : ρ → Option Value) (pre : List Value → ev_M → ev_L → Prop) (post : List Value → ev_M → ev_L → ρ → ev_M → ev_L → Prop) (px : List Value → ev_M → ev_L → Nat → ev_M → ev_L → Prop) (hs : List (Nat × Nat × Nat)) (nx : Nat) : ev_T := fun lv st σ τ n K =>
  ev_tk (na + 1) st [] (fun as r => ev_rc LY ci as (ev_rm r (ev_z n (pre as σ τ ∧ (∀ (v : ρ) (σ' : ev_M) (τ' : ev_L), post as σ τ v σ' τ' → ev_push (ι v) r (fun st' => K nx lv st' σ' τ' 1)) ∧ ∀ (k : Nat) (σ' : ev_M) (τ' : ev_L), px as σ τ k σ' τ' → ev_hd hs k (fun pc' i => ev_st lv i (ev_setK lv i .null (fun lv' => K pc' lv' [] σ' τ' 1)))))))
section EXQ
variable {l : Launch} {R : Room} {LY : List ev_D} {cl : List vw_C} {Ts : List Cond} {cc : ByteArray} {nL : Nat} {own : String} {J : ev_K} {pc N : Nat} {tab : List ExceptionTableEntry}
variable {ρ : Type} {ι : ρ → Option Value} {pre : List Value → ev_M → ev_L → Prop} {post : List Value → ev_M → ev_L → ρ → ev_M → ev_L → Prop} {px : List Value → ev_M → ev_L → Nat → ev_M → ev_L → Prop} {y : MethodName} {ws : List Cond} {rm : Room} {bytes : ByteArray} {maxL index na : Nat} {ret : Option FieldType} {hs : List (Nat × Nat × Nat)}
theorem qq_xV (X : ex_X l R LY cl Ts cc nL own tab 1 J) {C : String} {T : u_T} {N9 : Nat} (ci : Nat) (hc : cl[ci]? = some (C, T, N9)) (hM : ex_C ι l y ws rm LY cl pre post px) (cw : ∀ {args : Array Value} {s : State}, (∀ w ∈ Ts, w.before args s = true) → CallW R s args own C index y bytes maxL ret ws rm 1 6 na) (d : decode cc pc = .ok (.invokevirtual index, 3)) (hh : ∀ q ∈ hs, xcHd Ts own cc nL tab pc q) : ev_ok J pc (tt_xV LY ci na ι pre post px hs (pc + 3)) := by
  obtain ⟨p, e, s, m, args, below, meth, c, Q, D, K3, ad, A, b0, b1, rfl, ⟨hx, hb, hml, hown, hts, hK, hD, hA⟩, ⟨hc0, hc1⟩, hE, htab⟩ := X
  intro lv st σ τ n K h hK2 H locs ls hP hS hL
  obtain ⟨as, r, h1, rfl, h2⟩ := ev_tk_0 h
  unfold ev_rc at h2
  split at h2
  · rename_i q as'
    obtain ⟨fs, h7, h2⟩ := ev_ob_k h2
    obtain ⟨h3, h4⟩ := ev_rm_k h2
    obtain ⟨rfl, h5, h6, h8⟩ := ev_z_k h4
    have hF : ∀ q, va_A (ev_lay LY K3 ad σ τ) H.size q → A q := by
      intro q hq
      rcases hq with ⟨k, x, hq⟩ | hq
      · exact (hD σ τ).2 k _ hq
      · exact hA q (Nat.le_trans hS.1 hq)
    have hrec := va_recv hK hP hc (a := ad q) (q0 := q) (ci := ci) (fs := ev_f ad (σ q) 0 fs) (by rw [ev_lay_get, h7]; rfl)
    refine ex_callq (rest := r.map (ev_v ad)) (A1 := va_A (ev_lay LY K3 ad σ τ) H.size) (free := va_A (ev_lay LY K3 ad σ τ) H.size) (vx_runV (b := ad q) (As := as'.map (ev_v ad)) ⟨hx, hb, hml, hown, hts⟩ (hM D K3 ad H.size (.ref q :: as') σ τ h5) (cw hts) ⟨ex_blind, hrec, ex_pre (as := .ref q :: as') hK hP (hD σ τ) rfl (xcE_narrow (xcE_kept hE hS.2.1) hF)⟩ rfl (by rw [List.length_map]; simpa using h1) hL.1 (by show List.map _ _ = _; simp [ev_v]) (lv_room (by rw [ev_cats]; exact h3)) d ⟨by omega, by omega⟩) hS (fun q _ hq => hF q hq) hF (fun v σ' τ' H1 locs1 hp hP1 hS1 => ?_) (fun k σ' τ' H1 locs1 q9 ce hk hp hP1 hS1 hce hcv hcl => ?_)
    · rw [ev_stack]
      exact hK2 _ _ _ _ _ _ (ev_push_k (h6 v σ' τ' hp)) H1 locs1 ls hP1 hS1 hL
    · obtain ⟨pc', i, hm, h9⟩ := ev_hd_k (h8 k σ' τ' hp)
      obtain ⟨h10, hst⟩ := ev_st_k h9
      rw [ev_setK_eq] at h10
      obtain ⟨pre9, x, suf, t1, t2, t3, t4, t5, t6, t7⟩ := hh _ hm
      dsimp only at t2 t5 t6 t7
      refine vx_catch hown pre9 x suf (htab.trans t1) (fun z hz => ?_) t3 t4 (hts _ t5) (va_any rfl (hE.1 k hk _ (ex_cast k hk))) hce hcv hcl ?_
      · obtain ⟨z1, k', z2, z3⟩ := t2 z hz
        exact Or.inr ⟨z1, xcN k', hts _ z2, hE.2.2.2.2 _ z3⟩
      · rcases t7 with ⟨kk, g1, g2, g3⟩ | ⟨g1, g3⟩
        · refine lv_astore_n hx hb g1 g2 hL t6 rfl (fun ls' hL' => ?_)
          rw [← g3]
          exact hK2 _ _ _ _ _ _ h10 H1 locs1 ls' hP1 hS1 (ex_h_set hst hL')
        · refine lv_astore hx hb g1 hL t6 rfl (fun ls' hL' => ?_)
          rw [← g3]
          exact hK2 _ _ _ _ _ _ h10 H1 locs1 ls' hP1 hS1 (ex_h_set hst hL')
  · exact h2.elim
end EXQ
/-! returns behind one such call -/
def ev_z1 : Nat → Prop → Prop
  | 1, k => k
  | _, _ => False
theorem ev_z1_k : ∀ {n : Nat} {k : Prop}, ev_z1 n k → n = 1 ∧ k
  | 0, _, h => h.elim
  | 1, _, h => ⟨rfl, h⟩
  | _ + 2, _, h => h.elim
def ex_Z1 (J : ev_K) (cc : ByteArray) (P : Int32 → ev_M → ev_L → Prop) : Prop := ∀ (pc : Nat) (lv : List Value) (r : Int32) (σ : ev_M) (τ : ev_L), decode cc pc = .ok (.ireturn, 1) → P r σ τ → J pc lv [.int r] σ τ 1
def tt_ri1 (P : Int32 → ev_M → ev_L → Prop) : ev_T := fun _ st σ τ n _ => match st with
  | [.int x] => ev_z1 n (P x σ τ)
  | _ => False
theorem qq_ri1 {J : ev_K} {cc : ByteArray} {pc : Nat} {P : Int32 → ev_M → ev_L → Prop} (Z : ex_Z1 J cc P) (d : decode cc pc = .ok (.ireturn, 1)) : ev_ok J pc (tt_ri1 P) := by
  intro lv st σ τ n K h _
  unfold tt_ri1 at h
  split at h
  · obtain ⟨rfl, h⟩ := ev_z1_k h
    exact Z pc lv _ σ τ d h
  · exact h.elim
theorem ex_methH {l : Launch} {y : MethodName} {ws ws' : List Cond} {rm : Room} {LY : List ev_D} {cl : List vw_C} {pre : List Value → ev_M → ev_L → Prop} {post : List Value → ev_M → ev_L → Int32 → ev_M → ev_L → Prop} {cc : ByteArray} {maxL : Nat} {hh : List (Nat × Nat × Nat × Nat)}
    (hy : plainName y.cls = true) (hw : ws = Cond.codeWith y cc maxL (some .int) hh :: ws') (hwd : ∀ (as : List Value) (σ : ev_M) (τ : ev_L), pre as σ τ → ev_wd as ≤ maxL) (hrm : 1 ≤ rm.cells ∧ 6 ≤ rm.slots) (I : (Int32 → ev_M → ev_L → Prop) → List (Nat × ev_T))
    (ok : ∀ (J : ev_K) (P : Int32 → ev_M → ev_L → Prop), ex_X l rm LY cl ws cc maxL y.cls (tableOf hh) 1 J → ex_Z1 J cc P → ev_oks J (I P)) (f : Nat)
    (body : ∀ (as : List Value) (σ : ev_M) (τ : ev_L), pre as σ τ → ev_wp (I (post as σ τ)) [] f 0 (ev_in maxL as) [] σ τ 0 (fun _ _ _ _ _ _ => False)) : ex_H ev_i l y ws rm LY cl pre post := by
  intro D K3 ad sz as σ τ hpre
  refine va_MetW (cc := cc) (maxL := maxL) (ret := some .int) (hh := hh) hy hw ?_
  intro p e s m args below meth c s₁ B hml hv
  obtain ⟨rfl, ⟨hsz, hP, hK, hD0⟩, hE⟩ := hv
  have hx := B.exec
  have hb := B.bytes
  have hr := B.returns
  have hts := atoms_spec (ws := ws) B.pre
  have hown : s.vm.findClass y.cls = some m.cls := findClass_of_methodNamed B.named
  have hlocks := B.notSynchronized
  have htab : c.exceptionTable.toList = tableOf hh := vx_table (x := y) B (hts _ (by rw [hw]; exact List.mem_cons_self))
  subst hsz
  have hD1 := hD0.self (sz := s.heap.size)
  have hl := lv_entry (as.map (ev_v ad)) (n := maxL) (by rw [ev_wd_sl]; exact hwd as σ τ hpre)
  rw [lg_entry_eq]
  generalize (lg_sl (as.map (ev_v ad)) ++ List.replicate (maxL - (lg_sl (as.map (ev_v ad))).length) Slot.unset).toArray = ls at hl ⊢
  have hL : ev_h ad ls maxL (ev_in maxL as) := by
    refine ⟨hl.1, hl.2.1, fun q hq => hl.2.2 q ?_⟩
    obtain ⟨v, h1, h2, h3⟩ := ev_ps_mem.mp hq
    have h4 := ev_in_at maxL as 0 q.1 v ad h1 h2
    rw [Nat.zero_add, ← h3] at h4
    exact h4
  have hX : ex_X l rm LY cl ws cc maxL y.cls (tableOf hh) 1 (ev_WS p l e (headSpec ws rm).room s m (as.map (ev_v ad)).toArray below meth c (MQ below (ev_Q ev_i LY cl D K3 ad (va_A (ev_lay LY K3 ad σ τ) s.heap.size) (post as σ τ)) (as.map (ev_v ad)).toArray s 1 6 (va_A (ev_lay LY K3 ad σ τ) s.heap.size)) maxL D cl LY K3 ad (va_A (ev_lay LY K3 ad σ τ) s.heap.size) 0 0) :=
    ⟨p, e, s, m, _, below, meth, c, _, D, K3, ad, _, 0, 0, rfl, ⟨hx, hb, hml, hown, hts, hK, fun σ' τ' => ev_D_any hD1, fun q hq => Or.inr hq⟩, ⟨by omega, by omega⟩, hE, htab⟩
  refine ev_sound (ok _ _ hX ?_) (fun _ _ _ _ _ _ h => h.elim) (body as σ τ hpre) s.heap [] ls hP va_S.rf hL
  intro pc lv r σ' τ' d hp H locs ls' hP' hS' _
  refine ev_rop_i p l e _ s m _ below meth c H locs 1 6 _ _ cc pc ls' ad r hx hb hr hlocks d (fun t ht hW => ?_) hS'.2.2
  exact ⟨⟨r, σ', τ', rfl, hp, by rw [ht]; exact hP', va_K.moved hW.alike hK⟩, hS'.F ht⟩
