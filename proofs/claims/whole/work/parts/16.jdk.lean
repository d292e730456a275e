/-! methods of java/lang/Math (no row of the natives is theirs), java/util/Arrays -/
theorem ev_ofWF {l : Launch} {y : MethodName} {ws ws' : List Cond} {rm : Room} {Pc : Array Value → State → Prop} {Qc : Array Value → State → Outcome → State → Prop} {mc ms : Nat} {free : Addr → Prop} {cc : ByteArray} {maxL : Nat} {ret : Option FieldType}
    (hy : plainFor y = true) (hw : ws = Cond.code y cc maxL ret :: ws')
    (body : ∀ p e s m args below meth c s₁, BodyLoose p l y (headSpec ws rm) cc maxL ret e s m args below meth c s₁ → c.maxLocals = maxL → Pc args s →
      W p l e (headSpec ws rm).room s m args below meth c s.heap [] 0 0 (MQ below Qc args s mc ms free) (entryFrame m args maxL)) : Met l y ws rm Pc Qc mc ms free := by
  refine MetFree.of_bodySF (code := cc) (maxLocals := maxL) (ret := ret) hy ?_ ?_
  · intro args s m h hn
    obtain ⟨meth, c, h1, h2, h3, h4, h5, h6, -, -⟩ := Cond.code_spec hn (atoms_spec (ws := ws) h _ (by rw [hw]; exact List.mem_cons_self))
    exact ⟨meth, c, h1, h2, h3, h4, h5, h6⟩
  · intro p e s m args below meth c s₁ B hml hP _
    have hh0 : s₁.heap = s.heap := by rw [B.state]; rfl
    obtain ⟨t, a1, o, b1, b2, b3⟩ := body p e s m args below meth c s₁ B hml hP s₁ hh0 (Stand.of_body B)
    exact ⟨t, o, a1, b1, b2, ⟨b3.1, b3.2⟩⟩
theorem ev_methF {ρ : Type} {ι : ρ → Option Value} {l : Launch} {y : MethodName} {ws ws' : List Cond} {rm : Room} {LY : List ev_D} {cl : List vw_C} {pre : List Value → ev_M → ev_L → Prop} {post : List Value → ev_M → ev_L → ρ → ev_M → ev_L → Prop} {cc : ByteArray} {maxL : Nat} {ret : Option FieldType} {rop : Instr}
    (hy : plainFor y = true) (hw : ws = Cond.code y cc maxL ret :: ws') (hrop : ev_rop ret ι rop) (hwd : ∀ (as : List Value) (σ : ev_M) (τ : ev_L), pre as σ τ → ev_wd as ≤ maxL)
    (body : ∀ (J : ev_K) (as : List Value) (σ : ev_M) (τ : ev_L), pre as σ τ → ev_X l rm LY cl ws cc maxL y.cls J → ev_Z J cc rop ι (post as σ τ) → J 0 (ev_in maxL as) [] σ τ 0) : ev_C ι l y ws rm LY cl pre post := by
  intro D K3 ad sz as σ τ hpre
  refine ev_ofWF (cc := cc) (maxL := maxL) (ret := ret) hy hw ?_
  intro p e s m args below meth c s₁ B hml hv
  obtain ⟨rfl, hsz, hP, hK, hD0⟩ := hv
  have hx := B.exec
  have hb := B.bytes
  have hr := B.returns
  have hts := atoms_spec (ws := ws) B.pre
  have hown : s.vm.findClass y.cls = some m.cls := findClass_of_methodNamed B.named
  have hlocks := B.notSynchronized
  subst hsz
  have hD1 := hD0.self (sz := s.heap.size)
  have hl := lv_entry (as.map (ev_v ad)) (n := maxL) (by rw [ev_wd_sl]; exact hwd as σ τ hpre)
  rw [lg_entry_eq]
  generalize (lg_sl (as.map (ev_v ad)) ++ List.replicate (maxL - (lg_sl (as.map (ev_v ad))).length) Slot.unset).toArray = ls at hl ⊢
  have hL : ev_h ad ls maxL (ev_in maxL as) := by
    refine ⟨hl.1, hl.2.1, fun q hq => hl.2.2 q ?_⟩
    obtain ⟨v, h1, h2, h3⟩ := ev_ps_mem.mp hq
    have h4 := ev_in_at maxL as 0 q.1 v ad h1 h2
    rw [Nat.zero_add, ← h3] at h4
    exact h4
  have hX : ev_X l rm LY cl ws cc maxL y.cls (ev_WS p l e (headSpec ws rm).room s m (as.map (ev_v ad)).toArray below meth c (MQ below (ev_Q ι LY cl D K3 ad (va_A (ev_lay LY K3 ad σ τ) s.heap.size) (post as σ τ)) (as.map (ev_v ad)).toArray s 0 0 (va_A (ev_lay LY K3 ad σ τ) s.heap.size)) maxL D cl LY K3 ad (va_A (ev_lay LY K3 ad σ τ) s.heap.size) 0 0) :=
    ⟨p, e, s, m, _, below, meth, c, _, D, K3, ad, _, 0, 0, rfl, hx, hb, hml, hown, hts, hK, fun σ' τ' => ev_D_any hD1, fun q hq => Or.inr hq, Nat.zero_le _, Nat.zero_le _⟩
  refine body _ as σ τ hpre hX ?_ s.heap [] ls hP va_S.rf hL
  intro pc lv r σ' τ' d hp H locs ls' hP' hS' _
  refine hrop p l e _ s m _ below meth c H locs 0 0 _ _ cc pc ls' ad r hx hb hr hlocks d (fun t ht hW => ?_) hS'.2.2
  exact ⟨⟨r, σ', τ', rfl, hp, by rw [ht]; exact hP', va_K.moved hW.alike hK⟩, hS'.F ht⟩
theorem ev_methF0 {ρ : Type} {ι : ρ → Option Value} {l : Launch} {y : MethodName} {ws ws' : List Cond} {rm : Room} {LY : List ev_D} {cl : List vw_C} {pre : List Value → ev_M → ev_L → Prop} {post : List Value → ev_M → ev_L → ρ → ev_M → ev_L → Prop} {cc : ByteArray} {maxL : Nat} {ret : Option FieldType} {rop : Instr}
    (hy : plainFor y = true) (hw : ws = Cond.code y cc maxL ret :: ws') (hrop : ev_rop ret ι rop) (hwd : ∀ (as : List Value) (σ : ev_M) (τ : ev_L), pre as σ τ → ev_wd as ≤ maxL) (I : (ρ → ev_M → ev_L → Prop) → List (Nat × ev_T))
    (ok : ∀ (J : ev_K) (P : ρ → ev_M → ev_L → Prop), ev_X l rm LY cl ws cc maxL y.cls J → ev_Z J cc rop ι P → ev_oks J (I P)) (f : Nat)
    (body : ∀ (as : List Value) (σ : ev_M) (τ : ev_L), pre as σ τ → ev_wp (I (post as σ τ)) [] f 0 (ev_in maxL as) [] σ τ 0 (fun _ _ _ _ _ _ => False)) : ev_C ι l y ws rm LY cl pre post :=
  ev_methF hy hw hrop hwd (fun J as σ τ hpre X Z => ev_sound (ok J _ X Z) (fun _ _ _ _ _ _ h => h.elim) (body as σ τ hpre))
def y_JM_min : MethodName := ⟨"java/lang/Math", "min", "(II)I"⟩
def ws_JM_min : List Cond := .code y_JM_min prog_14_method_69_code 2 (some .int) :: evW
theorem d_JM_min_0 : decode prog_14_method_69_code 0 = .ok (.iload_n 0, 1) := by decide +kernel
theorem d_JM_min_1 : decode prog_14_method_69_code 1 = .ok (.iload_n 1, 1) := by decide +kernel
theorem d_JM_min_2 : decode prog_14_method_69_code 2 = .ok (.if_icmp .gt 7, 3) := by decide +kernel
theorem d_JM_min_5 : decode prog_14_method_69_code 5 = .ok (.iload_n 0, 1) := by decide +kernel
theorem d_JM_min_6 : decode prog_14_method_69_code 6 = .ok (.goto 4, 3) := by decide +kernel
theorem d_JM_min_9 : decode prog_14_method_69_code 9 = .ok (.iload_n 1, 1) := by decide +kernel
theorem d_JM_min_10 : decode prog_14_method_69_code 10 = .ok (.ireturn, 1) := by decide +kernel
def I_JM_min (P : Int32 → ev_M → ev_L → Prop) : List (Nat × ev_T) := [(0, tt_il 0 1),
  (1, tt_il 1 2),
  (2, tt_icgt 9 5),
  (5, tt_il 0 6),
  (6, tt_go 10),
  (9, tt_il 1 10),
  (10, tt_ri P)]
abbrev rm_JM_min : Room := { frames := 0, cells := 0, slots := 0, locals := 0 }
set_option maxRecDepth 20000 in
theorem ok_JM_min (l : Launch) (J : ev_K) (P : Int32 → ev_M → ev_L → Prop) (X : ev_X l rm_JM_min evLY evCl ws_JM_min prog_14_method_69_code 2 y_JM_min.cls J) (Z : ev_Z J prog_14_method_69_code .ireturn ev_i P) : ev_oks J (I_JM_min P) :=
  ⟨qq_iln X 0 rfl d_JM_min_0,
  qq_iln X 1 rfl d_JM_min_1,
  qq_icgt X 9 (by decide) d_JM_min_2,
  qq_iln X 0 rfl d_JM_min_5,
  qq_go X 10 (by decide) d_JM_min_6,
  qq_iln X 1 rfl d_JM_min_9,
  qq_ri Z d_JM_min_10, trivial⟩
def pre_JM_min : List Value → ev_M → ev_L → Prop := fun as _ _ => ∃ (a b : Int32), as = [.int a, .int b]
def post_JM_min : List Value → ev_M → ev_L → Int32 → ev_M → ev_L → Prop := fun as σ τ r σ' τ' => match as with
  | [.int a, .int b] => r = (if b < a then b else a) ∧ σ' = σ ∧ τ' = τ
  | _ => False
set_option maxHeartbeats 4000000 in
set_option maxRecDepth 100000 in
theorem c_JM_min (l : Launch) : ev_C ev_i l y_JM_min ws_JM_min rm_JM_min evLY evCl pre_JM_min post_JM_min := by
  refine ev_methF0 (by decide +kernel) rfl ev_rop_i ?_ I_JM_min (ok_JM_min l) 30 ?_
  · rintro _ σ τ ⟨a, b, rfl⟩
    exact Nat.le_refl _
  · rintro _ σ τ ⟨a, b, rfl⟩
    refine br_c (fun h => ?_) (fun h => ?_)
    · exact ⟨(if_pos h).symm, rfl, rfl⟩
    · exact ⟨(if_neg h).symm, rfl, rfl⟩
def sp_fm (x y : Int32) : Int32 := if x ^^^ y < 0 ∧ ¬ (x - x / y * y) = 0 then (x - x / y * y) + y else (x - x / y * y)
def y_JM_floorMod : MethodName := ⟨"java/lang/Math", "floorMod", "(II)I"⟩
def ws_JM_floorMod : List Cond := .code y_JM_floorMod prog_14_method_50_code 3 (some .int) :: evW
theorem d_JM_floorMod_0 : decode prog_14_method_50_code 0 = .ok (.iload_n 0, 1) := by decide +kernel
theorem d_JM_floorMod_1 : decode prog_14_method_50_code 1 = .ok (.iload_n 1, 1) := by decide +kernel
theorem d_JM_floorMod_2 : decode prog_14_method_50_code 2 = .ok (.irem, 1) := by decide +kernel
theorem d_JM_floorMod_3 : decode prog_14_method_50_code 3 = .ok (.istore_n 2, 1) := by decide +kernel
theorem d_JM_floorMod_4 : decode prog_14_method_50_code 4 = .ok (.iload_n 0, 1) := by decide +kernel
theorem d_JM_floorMod_5 : decode prog_14_method_50_code 5 = .ok (.iload_n 1, 1) := by decide +kernel
theorem d_JM_floorMod_6 : decode prog_14_method_50_code 6 = .ok (.ixor, 1) := by decide +kernel
theorem d_JM_floorMod_7 : decode prog_14_method_50_code 7 = .ok (.ifCond .ge 11, 3) := by decide +kernel
theorem d_JM_floorMod_10 : decode prog_14_method_50_code 10 = .ok (.iload_n 2, 1) := by decide +kernel
theorem d_JM_floorMod_11 : decode prog_14_method_50_code 11 = .ok (.ifCond .eq 7, 3) := by decide +kernel
theorem d_JM_floorMod_14 : decode prog_14_method_50_code 14 = .ok (.iload_n 2, 1) := by decide +kernel
theorem d_JM_floorMod_15 : decode prog_14_method_50_code 15 = .ok (.iload_n 1, 1) := by decide +kernel
theorem d_JM_floorMod_16 : decode prog_14_method_50_code 16 = .ok (.iadd, 1) := by decide +kernel
theorem d_JM_floorMod_17 : decode prog_14_method_50_code 17 = .ok (.ireturn, 1) := by decide +kernel
theorem d_JM_floorMod_18 : decode prog_14_method_50_code 18 = .ok (.iload_n 2, 1) := by decide +kernel
theorem d_JM_floorMod_19 : decode prog_14_method_50_code 19 = .ok (.ireturn, 1) := by decide +kernel
def I_JM_floorMod (P : Int32 → ev_M → ev_L → Prop) : List (Nat × ev_T) := [(0, tt_il 0 1),
  (1, tt_il 1 2),
  (2, tt_irem 3),
  (3, tt_is 2 4),
  (4, tt_il 0 5),
  (5, tt_il 1 6),
  (6, tt_ixor 7),
  (7, tt_ifge 18 10),
  (10, tt_il 2 11),
  (11, tt_ifeq 18 14),
  (14, tt_il 2 15),
  (15, tt_il 1 16),
  (16, tt_iadd 17),
  (17, tt_ri P),
  (18, tt_il 2 19),
  (19, tt_ri P)]
abbrev rm_JM_floorMod : Room := { frames := 0, cells := 0, slots := 0, locals := 0 }
set_option maxRecDepth 20000 in
theorem ok_JM_floorMod (l : Launch) (J : ev_K) (P : Int32 → ev_M → ev_L → Prop) (X : ev_X l rm_JM_floorMod evLY evCl ws_JM_floorMod prog_14_method_50_code 3 y_JM_floorMod.cls J) (Z : ev_Z J prog_14_method_50_code .ireturn ev_i P) : ev_oks J (I_JM_floorMod P) :=
  ⟨qq_iln X 0 rfl d_JM_floorMod_0,
  qq_iln X 1 rfl d_JM_floorMod_1,
  qq_irem X d_JM_floorMod_2,
  qq_isn X 2 rfl (by decide) d_JM_floorMod_3,
  qq_iln X 0 rfl d_JM_floorMod_4,
  qq_iln X 1 rfl d_JM_floorMod_5,
  qq_ixor X d_JM_floorMod_6,
  qq_ifge X 18 (by decide) d_JM_floorMod_7,
  qq_iln X 2 rfl d_JM_floorMod_10,
  qq_ifeq X 18 (by decide) d_JM_floorMod_11,
  qq_iln X 2 rfl d_JM_floorMod_14,
  qq_iln X 1 rfl d_JM_floorMod_15,
  qq_iadd X d_JM_floorMod_16,
  qq_ri Z d_JM_floorMod_17,
  qq_iln X 2 rfl d_JM_floorMod_18,
  qq_ri Z d_JM_floorMod_19, trivial⟩
def pre_JM_floorMod : List Value → ev_M → ev_L → Prop := fun as _ _ => ∃ (a b : Int32), as = [.int a, .int b] ∧ ¬ b = 0
def post_JM_floorMod : List Value → ev_M → ev_L → Int32 → ev_M → ev_L → Prop := fun as σ τ r σ' τ' => match as with
  | [.int a, .int b] => r = sp_fm a b ∧ σ' = σ ∧ τ' = τ
  | _ => False
set_option maxHeartbeats 4000000 in
set_option maxRecDepth 100000 in
theorem c_JM_floorMod (l : Launch) : ev_C ev_i l y_JM_floorMod ws_JM_floorMod rm_JM_floorMod evLY evCl pre_JM_floorMod post_JM_floorMod := by
  refine ev_methF0 (by decide +kernel) rfl ev_rop_i ?_ I_JM_floorMod (ok_JM_floorMod l) 30 ?_
  · rintro _ σ τ ⟨a, b, rfl, h⟩
    exact Nat.le_of_ble_eq_true rfl
  · rintro _ σ τ ⟨a, b, rfl, h⟩
    refine ⟨h, br_c (fun h2 => ?_) (fun h2 => br_c (fun h3 => ?_) (fun h3 => ?_))⟩
    · exact ⟨(if_neg fun q => absurd q.1 (Int32.not_lt.mpr h2)).symm, rfl, rfl⟩
    · exact ⟨(if_neg fun q => q.2 h3).symm, rfl, rfl⟩
    · exact ⟨(if_pos ⟨Int32.not_le.mp h2, h3⟩).symm, rfl, rfl⟩
def y_J_fillI : MethodName := ⟨"java/util/Arrays", "fill", "([II)V"⟩
def ws_J_fillI : List Cond := .code y_J_fillI prog_20_method_103_code 4 none :: evW
theorem d_J_fillI_0 : decode prog_20_method_103_code 0 = .ok (.iconst 0, 1) := by decide +kernel
theorem d_J_fillI_1 : decode prog_20_method_103_code 1 = .ok (.istore_n 2, 1) := by decide +kernel
theorem d_J_fillI_2 : decode prog_20_method_103_code 2 = .ok (.aload_n 0, 1) := by decide +kernel
theorem d_J_fillI_3 : decode prog_20_method_103_code 3 = .ok (.arraylength, 1) := by decide +kernel
theorem d_J_fillI_4 : decode prog_20_method_103_code 4 = .ok (.istore_n 3, 1) := by decide +kernel
theorem d_J_fillI_5 : decode prog_20_method_103_code 5 = .ok (.iload_n 2, 1) := by decide +kernel
theorem d_J_fillI_6 : decode prog_20_method_103_code 6 = .ok (.iload_n 3, 1) := by decide +kernel
theorem d_J_fillI_7 : decode prog_20_method_103_code 7 = .ok (.if_icmp .ge 13, 3) := by decide +kernel
theorem d_J_fillI_10 : decode prog_20_method_103_code 10 = .ok (.aload_n 0, 1) := by decide +kernel
theorem d_J_fillI_11 : decode prog_20_method_103_code 11 = .ok (.iload_n 2, 1) := by decide +kernel
theorem d_J_fillI_12 : decode prog_20_method_103_code 12 = .ok (.iload_n 1, 1) := by decide +kernel
theorem d_J_fillI_13 : decode prog_20_method_103_code 13 = .ok (.iastore, 1) := by decide +kernel
theorem d_J_fillI_14 : decode prog_20_method_103_code 14 = .ok (.iinc 2 1, 3) := by decide +kernel
theorem d_J_fillI_17 : decode prog_20_method_103_code 17 = .ok (.goto (-12), 3) := by decide +kernel
theorem d_J_fillI_20 : decode prog_20_method_103_code 20 = .ok (.return_, 1) := by decide +kernel
def I_J_fillI (P : Unit → ev_M → ev_L → Prop) : List (Nat × ev_T) := [(0, tt_k 0 1),
  (1, tt_is 2 2),
  (2, tt_al 0 3),
  (3, tt_alen evLY 4),
  (4, tt_is 3 5),
  (5, tt_il 2 6),
  (6, tt_il 3 7),
  (7, tt_icge 20 10),
  (10, tt_al 0 11),
  (11, tt_il 2 12),
  (12, tt_il 1 13),
  (13, tt_ias evLY 14),
  (14, tt_ii 2 1 17),
  (17, tt_go 5),
  (20, tt_rv P)]
abbrev rm_J_fillI : Room := { frames := 0, cells := 0, slots := 0, locals := 0 }
set_option maxRecDepth 20000 in
theorem ok_J_fillI (l : Launch) (J : ev_K) (P : Unit → ev_M → ev_L → Prop) (X : ev_X l rm_J_fillI evLY evCl ws_J_fillI prog_20_method_103_code 4 y_J_fillI.cls J) (Z : ev_Z J prog_20_method_103_code .return_ ev_n P) : ev_oks J (I_J_fillI P) :=
  ⟨qq_ic X 0 (by decide) d_J_fillI_0,
  qq_isn X 2 rfl (by decide) d_J_fillI_1,
  qq_aln X 0 rfl d_J_fillI_2,
  qq_alen X d_J_fillI_3,
  qq_isn X 3 rfl (by decide) d_J_fillI_4,
  qq_iln X 2 rfl d_J_fillI_5,
  qq_iln X 3 rfl d_J_fillI_6,
  qq_icge X 20 (by decide) d_J_fillI_7,
  qq_aln X 0 rfl d_J_fillI_10,
  qq_iln X 2 rfl d_J_fillI_11,
  qq_iln X 1 rfl d_J_fillI_12,
  qq_ias X d_J_fillI_13,
  qq_ii X 2 1 (by decide) (by decide) d_J_fillI_14,
  qq_go X 5 (by decide) d_J_fillI_17,
  qq_rv Z d_J_fillI_20, trivial⟩
def sp_fill {α : Type} (f : Nat → α) (n : Nat) (v : α) : Nat → α := fun j => if j < n then v else f j
theorem sp_fill_0 {α : Type} (f : Nat → α) (v : α) : sp_fill f 0 v = f := by funext j; simp [sp_fill]
theorem sp_fill_s (f : Nat → Int32) (n : Nat) (v : Int32) : upd (sp_fill f n v) n v = sp_fill f (n + 1) v := by
  funext j
  unfold upd sp_fill
  by_cases h : j = n
  · simp [h]
  · by_cases h2 : j < n
    · simp [h, h2, show j < n + 1 by omega]
    · simp [h, h2, show ¬ j < n + 1 by omega]
theorem sp_fill_sL (f : Nat → Int64) (n : Nat) (v : Int64) : vp_updL (sp_fill f n v) n v = sp_fill f (n + 1) v := by
  funext j
  unfold vp_updL sp_fill
  by_cases h : j = n
  · simp [h]
  · by_cases h2 : j < n
    · simp [h, h2, show j < n + 1 by omega]
    · simp [h, h2, show ¬ j < n + 1 by omega]
theorem ev_p_p {α : Type} (σ : Nat → Nat → α) (k : Nat) (f g : Nat → α) : ev_p (ev_p σ k f) k g = ev_p σ k g := by
  funext q
  unfold ev_p
  by_cases h : q = k <;> simp [h]
theorem ev_p_k {α : Type} (σ : Nat → Nat → α) (k : Nat) (f : Nat → α) : ev_p σ k f k = f := if_pos rfl
def pre_J_fillI : List Value → ev_M → ev_L → Prop := fun as _ _ => ∃ (k : Nat) (v : Int32), as = [.ref k, .int v] ∧ (k = 14 ∨ k = 25)
def post_J_fillI : List Value → ev_M → ev_L → Unit → ev_M → ev_L → Prop := fun as σ τ _ σ' τ' => match as with
  | [.ref k, .int v] => σ' = ev_p σ k (sp_fill (σ k) (if k = 14 then 96 else 4) v) ∧ τ' = τ
  | _ => False
set_option maxHeartbeats 4000000 in
set_option maxRecDepth 100000 in
theorem c_J_fillI (l : Launch) : ev_C ev_n l y_J_fillI ws_J_fillI rm_J_fillI evLY evCl pre_J_fillI post_J_fillI := by
  refine ev_methL (by decide) rfl ev_rop_v ?_ I_J_fillI (ok_J_fillI l) [5] 40 ?_
  · rintro _ σ τ ⟨k, v, rfl, h⟩
    exact Nat.le_of_ble_eq_true rfl
  · rintro _ σ τ ⟨k, v, rfl, rfl | rfl⟩
    · refine ⟨fun μ pc lv st σ' τ' n => τ' = τ ∧ st = [] ∧ n = 0 ∧ ((pc = 0 ∧ μ = 200 ∧ lv = [.ref 14, .int v, .null, .null] ∧ σ' = σ) ∨ (pc = 5 ∧ ∃ i : Nat, i ≤ 96 ∧ μ = 96 - i ∧ lv = [.ref 14, .int v, .int (nI i), .int 96] ∧ σ' = ev_p σ 14 (sp_fill (σ 14) i v))), ⟨200, rfl, rfl, rfl, Or.inl ⟨rfl, rfl, rfl, rfl⟩⟩, ?_⟩
      rintro μ pc lv st σ' τ' n ⟨rfl, rfl, rfl, ⟨rfl, rfl, rfl, rfl⟩ | ⟨rfl, i, hi, rfl, rfl, rfl⟩⟩
      · exact ⟨96, by omega, rfl, rfl, rfl, Or.inr ⟨rfl, 0, Nat.zero_le _, rfl, rfl, by rw [sp_fill_0, ev_p_same]⟩⟩
      · refine br_c (fun h => ?_) (fun h => ?_)
        · have hin : 96 ≤ i := (nI_leI (a := 96) (by omega) (by omega)).mp h
          have : i = 96 := by omega
          subst this
          exact ⟨rfl, rfl⟩
        · have hin : i < 96 := Nat.not_le.mp fun q => h ((nI_leI (a := 96) (by omega) (by omega)).mpr q)
          refine ⟨vp_in_nI hin (by omega), ⟨96 - (i + 1), by omega, rfl, rfl, rfl, Or.inr ⟨rfl, i + 1, by omega, rfl, by rw [← nI_1], ?_⟩⟩⟩
          show ev_u _ 14 _ _ = _
          unfold ev_u
          rw [ev_p_k, ev_p_p, nI_clamp (by omega), sp_fill_s]
    · refine ⟨fun μ pc lv st σ' τ' n => τ' = τ ∧ st = [] ∧ n = 0 ∧ ((pc = 0 ∧ μ = 200 ∧ lv = [.ref 25, .int v, .null, .null] ∧ σ' = σ) ∨ (pc = 5 ∧ ∃ i : Nat, i ≤ 4 ∧ μ = 4 - i ∧ lv = [.ref 25, .int v, .int (nI i), .int 4] ∧ σ' = ev_p σ 25 (sp_fill (σ 25) i v))), ⟨200, rfl, rfl, rfl, Or.inl ⟨rfl, rfl, rfl, rfl⟩⟩, ?_⟩
      rintro μ pc lv st σ' τ' n ⟨rfl, rfl, rfl, ⟨rfl, rfl, rfl, rfl⟩ | ⟨rfl, i, hi, rfl, rfl, rfl⟩⟩
      · exact ⟨4, by omega, rfl, rfl, rfl, Or.inr ⟨rfl, 0, Nat.zero_le _, rfl, rfl, by rw [sp_fill_0, ev_p_same]⟩⟩
      · refine br_c (fun h => ?_) (fun h => ?_)
        · have hin : 4 ≤ i := (nI_leI (a := 4) (by omega) (by omega)).mp h
          have : i = 4 := by omega
          subst this
          exact ⟨rfl, rfl⟩
        · have hin : i < 4 := Nat.not_le.mp fun q => h ((nI_leI (a := 4) (by omega) (by omega)).mpr q)
          refine ⟨vp_in_nI hin (by omega), ⟨4 - (i + 1), by omega, rfl, rfl, rfl, Or.inr ⟨rfl, i + 1, by omega, rfl, by rw [← nI_1], ?_⟩⟩⟩
          show ev_u _ 25 _ _ = _
          unfold ev_u
          rw [ev_p_k, ev_p_p, nI_clamp (by omega), sp_fill_s]
def y_J_fillJ : MethodName := ⟨"java/util/Arrays", "fill", "([JJ)V"⟩
def ws_J_fillJ : List Cond := .code y_J_fillJ prog_20_method_101_code 5 none :: evW
theorem d_J_fillJ_0 : decode prog_20_method_101_code 0 = .ok (.iconst 0, 1) := by decide +kernel
theorem d_J_fillJ_1 : decode prog_20_method_101_code 1 = .ok (.istore_n 3, 1) := by decide +kernel
theorem d_J_fillJ_2 : decode prog_20_method_101_code 2 = .ok (.aload_n 0, 1) := by decide +kernel
theorem d_J_fillJ_3 : decode prog_20_method_101_code 3 = .ok (.arraylength, 1) := by decide +kernel
theorem d_J_fillJ_4 : decode prog_20_method_101_code 4 = .ok (.istore 4, 2) := by decide +kernel
theorem d_J_fillJ_6 : decode prog_20_method_101_code 6 = .ok (.iload_n 3, 1) := by decide +kernel
theorem d_J_fillJ_7 : decode prog_20_method_101_code 7 = .ok (.iload 4, 2) := by decide +kernel
theorem d_J_fillJ_9 : decode prog_20_method_101_code 9 = .ok (.if_icmp .ge 13, 3) := by decide +kernel
theorem d_J_fillJ_12 : decode prog_20_method_101_code 12 = .ok (.aload_n 0, 1) := by decide +kernel
theorem d_J_fillJ_13 : decode prog_20_method_101_code 13 = .ok (.iload_n 3, 1) := by decide +kernel
theorem d_J_fillJ_14 : decode prog_20_method_101_code 14 = .ok (.lload_n 1, 1) := by decide +kernel
theorem d_J_fillJ_15 : decode prog_20_method_101_code 15 = .ok (.lastore, 1) := by decide +kernel
theorem d_J_fillJ_16 : decode prog_20_method_101_code 16 = .ok (.iinc 3 1, 3) := by decide +kernel
theorem d_J_fillJ_19 : decode prog_20_method_101_code 19 = .ok (.goto (-13), 3) := by decide +kernel
theorem d_J_fillJ_22 : decode prog_20_method_101_code 22 = .ok (.return_, 1) := by decide +kernel
def I_J_fillJ (P : Unit → ev_M → ev_L → Prop) : List (Nat × ev_T) := [(0, tt_k 0 1),
  (1, tt_is 3 2),
  (2, tt_al 0 3),
  (3, tt_alen evLY 4),
  (4, tt_is 4 6),
  (6, tt_il 3 7),
  (7, tt_il 4 9),
  (9, tt_icge 22 12),
  (12, tt_al 0 13),
  (13, tt_il 3 14),
  (14, tt_ll 1 15),
  (15, tt_las evLY 16),
  (16, tt_ii 3 1 19),
  (19, tt_go 6),
  (22, tt_rv P)]
abbrev rm_J_fillJ : Room := { frames := 0, cells := 0, slots := 0, locals := 0 }
set_option maxRecDepth 20000 in
theorem ok_J_fillJ (l : Launch) (J : ev_K) (P : Unit → ev_M → ev_L → Prop) (X : ev_X l rm_J_fillJ evLY evCl ws_J_fillJ prog_20_method_101_code 5 y_J_fillJ.cls J) (Z : ev_Z J prog_20_method_101_code .return_ ev_n P) : ev_oks J (I_J_fillJ P) :=
  ⟨qq_ic X 0 (by decide) d_J_fillJ_0,
  qq_isn X 3 rfl (by decide) d_J_fillJ_1,
  qq_aln X 0 rfl d_J_fillJ_2,
  qq_alen X d_J_fillJ_3,
  qq_is X 4 (by decide) d_J_fillJ_4,
  qq_iln X 3 rfl d_J_fillJ_6,
  qq_il X 4 d_J_fillJ_7,
  qq_icge X 22 (by decide) d_J_fillJ_9,
  qq_aln X 0 rfl d_J_fillJ_12,
  qq_iln X 3 rfl d_J_fillJ_13,
  qq_lln X 1 rfl d_J_fillJ_14,
  qq_las X d_J_fillJ_15,
  qq_ii X 3 1 (by decide) (by decide) d_J_fillJ_16,
  qq_go X 6 (by decide) d_J_fillJ_19,
  qq_rv Z d_J_fillJ_22, trivial⟩
def pre_J_fillJ : List Value → ev_M → ev_L → Prop := fun as _ _ => ∃ v : Int64, as = [.ref 29, .long v]
def post_J_fillJ : List Value → ev_M → ev_L → Unit → ev_M → ev_L → Prop := fun as σ τ _ σ' τ' => match as with
  | [.ref _, .long v] => σ' = σ ∧ τ' = ev_p τ 29 (sp_fill (τ 29) 64 v)
  | _ => False
set_option maxHeartbeats 4000000 in
set_option maxRecDepth 100000 in
theorem c_J_fillJ (l : Launch) : ev_C ev_n l y_J_fillJ ws_J_fillJ rm_J_fillJ evLY evCl pre_J_fillJ post_J_fillJ := by
  refine ev_methL (by decide) rfl ev_rop_v ?_ I_J_fillJ (ok_J_fillJ l) [6] 40 ?_
  · rintro _ σ τ ⟨v, rfl⟩
    exact Nat.le_of_ble_eq_true rfl
  · rintro _ σ τ ⟨v, rfl⟩
    refine ⟨fun μ pc lv st σ' τ' n => σ' = σ ∧ st = [] ∧ n = 0 ∧ ((pc = 0 ∧ μ = 200 ∧ lv = [.ref 29, .long v, .null, .null, .null] ∧ τ' = τ) ∨ (pc = 6 ∧ ∃ i : Nat, i ≤ 64 ∧ μ = 64 - i ∧ lv = [.ref 29, .long v, .null, .int (nI i), .int 64] ∧ τ' = ev_p τ 29 (sp_fill (τ 29) i v))), ⟨200, rfl, rfl, rfl, Or.inl ⟨rfl, rfl, rfl, rfl⟩⟩, ?_⟩
    rintro μ pc lv st σ' τ' n ⟨rfl, rfl, rfl, ⟨rfl, rfl, rfl, rfl⟩ | ⟨rfl, i, hi, rfl, rfl, rfl⟩⟩
    · exact ⟨64, by omega, rfl, rfl, rfl, Or.inr ⟨rfl, 0, Nat.zero_le _, rfl, rfl, by rw [sp_fill_0, ev_p_same]⟩⟩
    · refine br_c (fun h => ?_) (fun h => ?_)
      · have hin : 64 ≤ i := (nI_leI (a := 64) (by omega) (by omega)).mp h
        have : i = 64 := by omega
        subst this
        exact ⟨rfl, rfl⟩
      · have hin : i < 64 := Nat.not_le.mp fun q => h ((nI_leI (a := 64) (by omega) (by omega)).mpr q)
        refine ⟨vp_in_nI hin (by omega), ⟨64 - (i + 1), by omega, rfl, rfl, rfl, Or.inr ⟨rfl, i + 1, by omega, rfl, by rw [← nI_1], ?_⟩⟩⟩
        show ev_w _ 29 _ _ = _
        unfold ev_w
        rw [ev_p_k, ev_p_p, nI_clamp (by omega), sp_fill_sL]
