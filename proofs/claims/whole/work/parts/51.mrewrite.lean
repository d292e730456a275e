/-! the reference's rewriting -/
theorem and255 {v : Int32} (h0 : 0 ≤ v.toInt) (h1 : v.toInt < 256) : v &&& 255 = v := by
  obtain ⟨j, hj, rfl⟩ := nI_of (x := v) (by rw [Int32.lt_iff_toInt_lt]; have : (0 : Int32).toInt = 0 := rfl; omega)
  rw [nI_toInt hj] at h0 h1
  have key : ∀ n, n < 256 → nI n &&& 255 = nI n := by decide +kernel
  exact key j (by omega)
def ntD (T : Nat → Int32) : Nat → Int32 := fun i => if i < 96 then T i else -1
def rvD (σ : ev_M) : rws := (cutF (fun i => σ 31 (256 + i)), ntD (σ 32), σ 30 19)
/-- nothing but the second half of memory, the traps and the end has changed -/
def frV (σ σ' : ev_M) : Prop := (∀ k, ¬ k = 30 → ¬ k = 31 → ¬ k = 32 → σ' k = σ k) ∧ (∀ j, ¬ j = 19 → σ' 30 j = σ 30 j) ∧ ∀ i, i < 256 → σ' 31 i = σ 31 i
theorem frV_rf (σ : ev_M) : frV σ σ := ⟨fun _ _ _ _ => rfl, fun _ _ => rfl, fun _ _ => rfl⟩
theorem frV_tr {σ σ1 σ2 : ev_M} (h1 : frV σ σ1) (h2 : frV σ1 σ2) : frV σ σ2 := ⟨fun k a b c => (h2.1 k a b c).trans (h1.1 k a b c), fun j h => (h2.2.1 j h).trans (h1.2.1 j h), fun i h => (h2.2.2 i h).trans (h1.2.2 i h)⟩
theorem frV_at {σ σ' : ev_M} (h : frV σ σ') (a : Int32) : sp_at (σ' 31) a = sp_at (σ 31) a := by
  unfold sp_at
  by_cases hc : 0 ≤ a ∧ a < 256
  · rw [if_pos hc, if_pos hc]
    refine h.2.2 _ ?_
    have := i_clt hc.1 hc.2
    have h2 : (256 : Int32).toInt = 256 := rfl
    omega
  · rw [if_neg hc, if_neg hc]
theorem frV_sp {σ σ' : ev_M} (h : frV σ σ') : sp_at (σ' 31) = sp_at (σ 31) := funext (frV_at h)
theorem rvD_put {σ : ev_M} {a v : Int32} (h0 : 0 ≤ a.toInt) (h1 : a.toInt < 256) (w0 : 0 ≤ v.toInt) (w1 : v.toInt < 256) : rvD (ev_u σ 31 (256 + a).toNatClampNeg v) = rw_put a v (rvD σ) ∧ frV σ (ev_u σ 31 (256 + a).toNatClampNeg v) := by
  have e : ((256 : Int32) + a).toInt = 256 + a.toInt := i_add (by decide) (by decide) (by omega) (by omega)
  have c1 := i_cl (x := 256 + a) (by omega)
  have c2 := i_cl (x := a) (by omega)
  have ix : ((256 : Int32) + a).toNatClampNeg = 256 + a.toNatClampNeg := by omega
  have hc : 0 ≤ a ∧ a < 256 := ⟨Int32.le_iff_toInt_le.mpr h0, Int32.lt_iff_toInt_lt.mpr h1⟩
  refine ⟨?_, fun k _ h _ => if_neg h, fun j _ => rfl, fun i hi => ?_⟩
  · unfold rw_put rvD
    dsimp only
    rw [if_pos hc, and255 w0 w1, ← cut_upd (by omega), ix]
    have : (fun i => ev_u σ 31 (256 + a.toNatClampNeg) v 31 (256 + i)) = upd (fun i => σ 31 (256 + i)) a.toNatClampNeg v := by
      funext i
      unfold ev_u ev_p upd
      by_cases hi : i = a.toNatClampNeg
      · simp [hi]
      · have : ¬ (256 + i = 256 + a.toNatClampNeg) := by omega
        simp [hi]
    rw [this]
    rfl
  · unfold ev_u ev_p upd
    rw [if_pos rfl, if_neg (by omega)]
theorem frV_19 (σ : ev_M) (x : Int32) : frV σ (ev_u σ 30 19 x) := ⟨fun k h _ _ => if_neg h, fun j h => by unfold ev_u ev_p upd; rw [if_pos rfl, if_neg h], fun _ _ => rfl⟩
def y_D_emit : MethodName := ⟨RD, "emit", "(I)V"⟩
def ws_D_emit : List Cond := .code y_D_emit prog_9_method_24_code 2 none :: evW
theorem d_D_emit_0 : decode prog_9_method_24_code 0 = .ok (.aload_n 0, 1) := by decide +kernel
theorem d_D_emit_1 : decode prog_9_method_24_code 1 = .ok (.getfield 137, 3) := by decide +kernel
theorem d_D_emit_4 : decode prog_9_method_24_code 4 = .ok (.sipush 256, 3) := by decide +kernel
theorem d_D_emit_7 : decode prog_9_method_24_code 7 = .ok (.if_icmp .ge 17, 3) := by decide +kernel
theorem d_D_emit_10 : decode prog_9_method_24_code 10 = .ok (.aload_n 0, 1) := by decide +kernel
theorem d_D_emit_11 : decode prog_9_method_24_code 11 = .ok (.getfield 7, 3) := by decide +kernel
theorem d_D_emit_14 : decode prog_9_method_24_code 14 = .ok (.sipush 256, 3) := by decide +kernel
theorem d_D_emit_17 : decode prog_9_method_24_code 17 = .ok (.aload_n 0, 1) := by decide +kernel
theorem d_D_emit_18 : decode prog_9_method_24_code 18 = .ok (.getfield 137, 3) := by decide +kernel
theorem d_D_emit_21 : decode prog_9_method_24_code 21 = .ok (.iadd, 1) := by decide +kernel
theorem d_D_emit_22 : decode prog_9_method_24_code 22 = .ok (.iload_n 1, 1) := by decide +kernel
theorem d_D_emit_23 : decode prog_9_method_24_code 23 = .ok (.iastore, 1) := by decide +kernel
theorem d_D_emit_24 : decode prog_9_method_24_code 24 = .ok (.aload_n 0, 1) := by decide +kernel
theorem d_D_emit_25 : decode prog_9_method_24_code 25 = .ok (.dup, 1) := by decide +kernel
theorem d_D_emit_26 : decode prog_9_method_24_code 26 = .ok (.getfield 137, 3) := by decide +kernel
theorem d_D_emit_29 : decode prog_9_method_24_code 29 = .ok (.iconst 1, 1) := by decide +kernel
theorem d_D_emit_30 : decode prog_9_method_24_code 30 = .ok (.iadd, 1) := by decide +kernel
theorem d_D_emit_31 : decode prog_9_method_24_code 31 = .ok (.putfield 137, 3) := by decide +kernel
theorem d_D_emit_34 : decode prog_9_method_24_code 34 = .ok (.return_, 1) := by decide +kernel
def I_D_emit (P : Unit → ev_M → ev_L → Prop) : List (Nat × ev_T) := [(0, tt_al 0 1),
  (1, tt_gf evLY 7 19 4),
  (4, tt_k 256 7),
  (7, tt_icge 24 10),
  (10, tt_al 0 11),
  (11, tt_gf evLY 7 1 14),
  (14, tt_k 256 17),
  (17, tt_al 0 18),
  (18, tt_gf evLY 7 19 21),
  (21, tt_iadd 22),
  (22, tt_il 1 23),
  (23, tt_ias evLY 24),
  (24, tt_al 0 25),
  (25, tt_dup 26),
  (26, tt_gf evLY 7 19 29),
  (29, tt_k 1 30),
  (30, tt_iadd 31),
  (31, tt_pf evLY 7 19 34),
  (34, tt_rv P)]
abbrev rm_D_emit : Room := { frames := 0, cells := 0, slots := 0, locals := 0 }
set_option maxRecDepth 20000 in
theorem ok_D_emit (l : Launch) (J : ev_K) (P : Unit → ev_M → ev_L → Prop) (X : ev_X l rm_D_emit evLY evCl ws_D_emit prog_9_method_24_code 2 y_D_emit.cls J) (Z : ev_Z J prog_9_method_24_code .return_ ev_n P) : ev_oks J (I_D_emit P) :=
  ⟨qq_aln X 0 rfl d_D_emit_0,
  qq_gf X 7 19 rfl (fun w h => List.mem_cons_of_mem _ (inE_D w h)) (by decide) (List.mem_cons_of_mem _ mw_773) d_D_emit_1,
  qq_sp X 256 (by decide) d_D_emit_4,
  qq_icge X 24 (by decide) d_D_emit_7,
  qq_aln X 0 rfl d_D_emit_10,
  qq_gf X 7 1 rfl (fun w h => List.mem_cons_of_mem _ (inE_D w h)) (by decide) (List.mem_cons_of_mem _ mw_755) d_D_emit_11,
  qq_sp X 256 (by decide) d_D_emit_14,
  qq_aln X 0 rfl d_D_emit_17,
  qq_gf X 7 19 rfl (fun w h => List.mem_cons_of_mem _ (inE_D w h)) (by decide) (List.mem_cons_of_mem _ mw_773) d_D_emit_18,
  qq_iadd X d_D_emit_21,
  qq_iln X 1 rfl d_D_emit_22,
  qq_ias X d_D_emit_23,
  qq_aln X 0 rfl d_D_emit_24,
  qq_dup X d_D_emit_25,
  qq_gf X 7 19 rfl (fun w h => List.mem_cons_of_mem _ (inE_D w h)) (by decide) (List.mem_cons_of_mem _ mw_773) d_D_emit_26,
  qq_ic X 1 (by decide) d_D_emit_29,
  qq_iadd X d_D_emit_30,
  qq_pf X 7 19 rfl (fun w h => List.mem_cons_of_mem _ (inE_D w h)) (by decide) tyD tyD_ok nmD rfl (by decide +kernel) (List.mem_cons_of_mem _ mw_773) d_D_emit_31,
  qq_rv Z d_D_emit_34, trivial⟩
def pre_D_emit : List Value → ev_M → ev_L → Prop := fun as σ τ => ∃ (v : Int32), as = [.ref 30, .int v] ∧ 0 ≤ v.toInt ∧ v.toInt < 256 ∧ 0 ≤ (σ 30 19).toInt ∧ (σ 30 19).toInt ≤ 100000
def post_D_emit : List Value → ev_M → ev_L → Unit → ev_M → ev_L → Prop := fun as σ τ r σ' τ' => match as with
  | [_, .int v] => rvD σ' = rw_app v (rvD σ) ∧ frV σ σ' ∧ (σ' 30 19).toInt = (σ 30 19).toInt + 1 ∧ τ' = τ
  | _ => False
set_option maxHeartbeats 4000000 in
set_option maxRecDepth 100000 in
theorem c_D_emit (l : Launch) : ev_C ev_n l y_D_emit ws_D_emit rm_D_emit evLY evCl pre_D_emit post_D_emit := by
  refine ev_meth0 (by decide) rfl ev_rop_v ?_ I_D_emit (ok_D_emit l) 60 ?_
  · rintro _ σ τ ⟨v, rfl, hp⟩
    exact Nat.le_of_ble_eq_true rfl
  · rintro _ σ τ ⟨v, rfl, hp⟩
    obtain ⟨h0, h1, e0, e1⟩ := hp
    have h256 : (256 : Int32).toInt = 256 := rfl
    have h00 : (0 : Int32).toInt = 0 := rfl
    have ea : (σ 30 19 + 1).toInt = (σ 30 19).toInt + 1 := i_add (by omega) (by omega) (by decide) (by decide)
    refine br_c (fun h => ?_) (fun h => ?_)
    · refine ⟨?_, frV_19 _ _, ea, rfl⟩
      show (_, _, σ 30 19 + 1) = _
      unfold rw_app
      have hc : ¬ (0 ≤ σ 30 19 ∧ σ 30 19 < 256) := fun q => absurd (Int32.not_le.mpr q.2) (fun w => w h)
      show _ = ((if 0 ≤ σ 30 19 ∧ σ 30 19 < 256 then _ else _), _, _)
      rw [if_neg hc]
      rfl
    · have h' := h
      rw [Int32.le_iff_toInt_le, h256] at h'
      obtain ⟨p1, p2⟩ := rvD_put (σ := σ) (a := σ 30 19) (v := v) e0 (by omega) h0 h1
      have eb : ((256 : Int32) + σ 30 19).toInt = 256 + (σ 30 19).toInt := i_add (by decide) (by decide) (by omega) (by omega)
      refine ⟨by rw [vp_in_iff]; omega, ?_, frV_tr p2 (frV_19 _ _), ea, rfl⟩
      have p3 : rvD (ev_u (ev_u σ 31 (256 + σ 30 19).toNatClampNeg v) 30 19 (σ 30 19 + 1)) = ((rw_put (σ 30 19) v (rvD σ)).1, (rw_put (σ 30 19) v (rvD σ)).2.1, σ 30 19 + 1) := by rw [← p1]; rfl
      exact p3.trans rfl
def y_D_jumpTo : MethodName := ⟨RD, "jumpTo", "(I)V"⟩
def ws_D_jumpTo : List Cond := .code y_D_jumpTo prog_9_method_25_code 2 none :: evW
theorem d_D_jumpTo_0 : decode prog_9_method_25_code 0 = .ok (.aload_n 0, 1) := by decide +kernel
theorem d_D_jumpTo_1 : decode prog_9_method_25_code 1 = .ok (.bipush 69, 2) := by decide +kernel
theorem d_D_jumpTo_3 : decode prog_9_method_25_code 3 = .ok (.invokevirtual 140, 3) := by decide +kernel
theorem d_D_jumpTo_6 : decode prog_9_method_25_code 6 = .ok (.aload_n 0, 1) := by decide +kernel
theorem d_D_jumpTo_7 : decode prog_9_method_25_code 7 = .ok (.iload_n 1, 1) := by decide +kernel
theorem d_D_jumpTo_8 : decode prog_9_method_25_code 8 = .ok (.invokevirtual 140, 3) := by decide +kernel
theorem d_D_jumpTo_11 : decode prog_9_method_25_code 11 = .ok (.return_, 1) := by decide +kernel
def I_D_jumpTo (P : Unit → ev_M → ev_L → Prop) : List (Nat × ev_T) := [(0, tt_al 0 1),
  (1, tt_k 69 3),
  (3, tt_cV evLY 7 1 ev_n pre_D_emit post_D_emit 6),
  (6, tt_al 0 7),
  (7, tt_il 1 8),
  (8, tt_cV evLY 7 1 ev_n pre_D_emit post_D_emit 11),
  (11, tt_rv P)]
abbrev rm_D_jumpTo : Room := { frames := 1, cells := 0, slots := 0, locals := 32 }
set_option maxRecDepth 20000 in
theorem ok_D_jumpTo (l : Launch) (J : ev_K) (P : Unit → ev_M → ev_L → Prop) (X : ev_X l rm_D_jumpTo evLY evCl ws_D_jumpTo prog_9_method_25_code 2 y_D_jumpTo.cls J) (Z : ev_Z J prog_9_method_25_code .return_ ev_n P) : ev_oks J (I_D_jumpTo P) :=
  ⟨qq_aln X 0 rfl d_D_jumpTo_0,
  qq_bp X 69 (by decide) d_D_jumpTo_1,
  qq_cV X 7 rfl (c_D_emit l) (fun hts => cwV 1 hts (evGV (mw_935) (mw_937) (mp_36) (mw_8) (mw_938)) rfl rfl rfl (by decide +kernel) ⟨Nat.le_of_ble_eq_true rfl, Nat.le_of_ble_eq_true rfl⟩) d_D_jumpTo_3,
  qq_aln X 0 rfl d_D_jumpTo_6,
  qq_iln X 1 rfl d_D_jumpTo_7,
  qq_cV X 7 rfl (c_D_emit l) (fun hts => cwV 1 hts (evGV (mw_935) (mw_937) (mp_36) (mw_8) (mw_938)) rfl rfl rfl (by decide +kernel) ⟨Nat.le_of_ble_eq_true rfl, Nat.le_of_ble_eq_true rfl⟩) d_D_jumpTo_8,
  qq_rv Z d_D_jumpTo_11, trivial⟩
def pre_D_jumpTo : List Value → ev_M → ev_L → Prop := fun as σ τ => ∃ (v : Int32), as = [.ref 30, .int v] ∧ 0 ≤ v.toInt ∧ v.toInt < 256 ∧ 0 ≤ (σ 30 19).toInt ∧ (σ 30 19).toInt ≤ 90000
def post_D_jumpTo : List Value → ev_M → ev_L → Unit → ev_M → ev_L → Prop := fun as σ τ r σ' τ' => match as with
  | [_, .int v] => rvD σ' = rw_jump v (rvD σ) ∧ frV σ σ' ∧ (σ' 30 19).toInt = (σ 30 19).toInt + 2 ∧ τ' = τ
  | _ => False
set_option maxHeartbeats 4000000 in
set_option maxRecDepth 100000 in
theorem c_D_jumpTo (l : Launch) : ev_C ev_n l y_D_jumpTo ws_D_jumpTo rm_D_jumpTo evLY evCl pre_D_jumpTo post_D_jumpTo := by
  refine ev_meth0 (by decide) rfl ev_rop_v ?_ I_D_jumpTo (ok_D_jumpTo l) 60 ?_
  · rintro _ σ τ ⟨v, rfl, hp⟩
    exact Nat.le_of_ble_eq_true rfl
  · rintro _ σ τ ⟨v, rfl, hp⟩
    obtain ⟨h0, h1, e0, e1⟩ := hp
    refine ⟨⟨_, rfl, by decide, by decide, e0, by omega⟩, ?_⟩
    rintro _ σ1 τ1 ⟨v1, f1, g1, rfl⟩
    refine ⟨⟨_, rfl, h0, h1, by omega, by omega⟩, ?_⟩
    rintro _ σ2 τ2 ⟨v2, f2, g2, rfl⟩
    exact ⟨by rw [v2, v1]; rfl, frV_tr f1 f2, by omega, rfl⟩
def sd_ends (x : Int32) : Bool := decide (x = 0 ∨ x = 3 ∨ (60 ≤ x ∧ x ≤ 68) ∨ x = 69 ∨ x = 70 ∨ (72 ≤ x ∧ x < 76))
def sd_goes (x : Int32) : Bool := decide (¬ x = 0 ∧ ¬ x = 3 ∧ ¬ x = 68 ∧ ¬ x = 69 ∧ ¬ (72 ≤ x ∧ x < 76))
def y_D_ends : MethodName := ⟨RD, "ends", "(I)Z"⟩
def ws_D_ends : List Cond := .code y_D_ends prog_9_method_12_code 1 (some .boolean) :: evW
theorem d_D_ends_0 : decode prog_9_method_12_code 0 = .ok (.iload_n 0, 1) := by decide +kernel
theorem d_D_ends_1 : decode prog_9_method_12_code 1 = .ok (.ifCond .eq 34, 3) := by decide +kernel
theorem d_D_ends_4 : decode prog_9_method_12_code 4 = .ok (.iload_n 0, 1) := by decide +kernel
theorem d_D_ends_5 : decode prog_9_method_12_code 5 = .ok (.iconst 3, 1) := by decide +kernel
theorem d_D_ends_6 : decode prog_9_method_12_code 6 = .ok (.if_icmp .eq 29, 3) := by decide +kernel
theorem d_D_ends_9 : decode prog_9_method_12_code 9 = .ok (.iload_n 0, 1) := by decide +kernel
theorem d_D_ends_10 : decode prog_9_method_12_code 10 = .ok (.invokestatic 84, 3) := by decide +kernel
theorem d_D_ends_13 : decode prog_9_method_12_code 13 = .ok (.ifCond .ne 22, 3) := by decide +kernel
theorem d_D_ends_16 : decode prog_9_method_12_code 16 = .ok (.iload_n 0, 1) := by decide +kernel
theorem d_D_ends_17 : decode prog_9_method_12_code 17 = .ok (.bipush 69, 2) := by decide +kernel
theorem d_D_ends_19 : decode prog_9_method_12_code 19 = .ok (.if_icmp .eq 16, 3) := by decide +kernel
theorem d_D_ends_22 : decode prog_9_method_12_code 22 = .ok (.iload_n 0, 1) := by decide +kernel
theorem d_D_ends_23 : decode prog_9_method_12_code 23 = .ok (.bipush 70, 2) := by decide +kernel
theorem d_D_ends_25 : decode prog_9_method_12_code 25 = .ok (.if_icmp .eq 10, 3) := by decide +kernel
theorem d_D_ends_28 : decode prog_9_method_12_code 28 = .ok (.iload_n 0, 1) := by decide +kernel
theorem d_D_ends_29 : decode prog_9_method_12_code 29 = .ok (.invokestatic 88, 3) := by decide +kernel
theorem d_D_ends_32 : decode prog_9_method_12_code 32 = .ok (.ifCond .eq 7, 3) := by decide +kernel
theorem d_D_ends_35 : decode prog_9_method_12_code 35 = .ok (.iconst 1, 1) := by decide +kernel
theorem d_D_ends_36 : decode prog_9_method_12_code 36 = .ok (.goto 4, 3) := by decide +kernel
theorem d_D_ends_39 : decode prog_9_method_12_code 39 = .ok (.iconst 0, 1) := by decide +kernel
theorem d_D_ends_40 : decode prog_9_method_12_code 40 = .ok (.ireturn, 1) := by decide +kernel
def I_D_ends (P : Bool → ev_M → ev_L → Prop) : List (Nat × ev_T) := [(0, tt_il 0 1),
  (1, tt_ifeq 35 4),
  (4, tt_il 0 5),
  (5, tt_k 3 6),
  (6, tt_iceq 35 9),
  (9, tt_il 0 10),
  (10, tt_cS 1 ev_b pre_D_branches post_D_branches 13),
  (13, tt_ifne 35 16),
  (16, tt_il 0 17),
  (17, tt_k 69 19),
  (19, tt_iceq 35 22),
  (22, tt_il 0 23),
  (23, tt_k 70 25),
  (25, tt_iceq 35 28),
  (28, tt_il 0 29),
  (29, tt_cS 1 ev_b pre_D_isSwitch post_D_isSwitch 32),
  (32, tt_ifeq 39 35),
  (35, tt_k 1 36),
  (36, tt_go 40),
  (39, tt_k 0 40),
  (40, tt_rz P)]
abbrev rm_D_ends : Room := { frames := 1, cells := 0, slots := 0, locals := 32 }
set_option maxRecDepth 20000 in
theorem ok_D_ends (l : Launch) (J : ev_K) (P : Bool → ev_M → ev_L → Prop) (X : ev_X l rm_D_ends evLY evCl ws_D_ends prog_9_method_12_code 1 y_D_ends.cls J) (Z : ev_Z J prog_9_method_12_code .ireturn ev_b P) : ev_oks J (I_D_ends P) :=
  ⟨qq_iln X 0 rfl d_D_ends_0,
  qq_ifeq X 35 (by decide) d_D_ends_1,
  qq_iln X 0 rfl d_D_ends_4,
  qq_ic X 3 (by decide) d_D_ends_5,
  qq_iceq X 35 (by decide) d_D_ends_6,
  qq_iln X 0 rfl d_D_ends_9,
  qq_cS X (c_D_branches l) (fun hts => va_cwS 1 hts (evGS (mw_884) (mw_885) (mw_8) (mw_886)) rfl rfl rfl (by decide +kernel) ⟨Nat.le_of_ble_eq_true rfl, Nat.le_of_ble_eq_true rfl⟩) d_D_ends_10,
  qq_ifne X 35 (by decide) d_D_ends_13,
  qq_iln X 0 rfl d_D_ends_16,
  qq_bp X 69 (by decide) d_D_ends_17,
  qq_iceq X 35 (by decide) d_D_ends_19,
  qq_iln X 0 rfl d_D_ends_22,
  qq_bp X 70 (by decide) d_D_ends_23,
  qq_iceq X 35 (by decide) d_D_ends_25,
  qq_iln X 0 rfl d_D_ends_28,
  qq_cS X (c_D_isSwitch l) (fun hts => va_cwS 1 hts (evGS (mw_891) (mw_892) (mw_8) (mw_893)) rfl rfl rfl (by decide +kernel) ⟨Nat.le_of_ble_eq_true rfl, Nat.le_of_ble_eq_true rfl⟩) d_D_ends_29,
  qq_ifeq X 39 (by decide) d_D_ends_32,
  qq_ic X 1 (by decide) d_D_ends_35,
  qq_go X 40 (by decide) d_D_ends_36,
  qq_ic X 0 (by decide) d_D_ends_39,
  qq_rz Z d_D_ends_40, trivial⟩
def pre_D_ends : List Value → ev_M → ev_L → Prop := fun as σ τ => ∃ (x : Int32), as = [.int x]
def post_D_ends : List Value → ev_M → ev_L → Bool → ev_M → ev_L → Prop := fun as σ τ r σ' τ' => match as with
  | [.int x] => r = sd_ends x ∧ σ' = σ ∧ τ' = τ
  | _ => False
set_option maxHeartbeats 4000000 in
set_option maxRecDepth 100000 in
theorem c_D_ends (l : Launch) : ev_C ev_b l y_D_ends ws_D_ends rm_D_ends evLY evCl pre_D_ends post_D_ends := by
  refine ev_meth0 (by decide) rfl ev_rop_b ?_ I_D_ends (ok_D_ends l) 60 ?_
  · rintro _ σ τ ⟨x, rfl⟩
    exact Nat.le_of_ble_eq_true rfl
  · rintro _ σ τ ⟨x, rfl⟩
    refine br_c (fun h0 => ?_) (fun h0 => br_c (fun h3 => ?_) (fun h3 => ⟨⟨_, rfl⟩, ?_⟩))
    · exact ⟨true, rfl, (decide_eq_true (Or.inl h0)).symm, rfl, rfl⟩
    · exact ⟨true, rfl, (decide_eq_true (Or.inr (Or.inl h3))).symm, rfl, rfl⟩
    · rintro _ σ τ ⟨rfl, rfl, rfl⟩
      refine br_n (fun hb => ?_) (fun hb => br_c (fun h69 => ?_) (fun h69 => br_c (fun h70 => ?_) (fun h70 => ⟨⟨_, rfl⟩, ?_⟩)))
      · exact ⟨true, rfl, (decide_eq_true (Or.inr (Or.inr (Or.inl (of_decide_eq_true (bnz hb)))))).symm, rfl, rfl⟩
      · exact ⟨true, rfl, (decide_eq_true (Or.inr (Or.inr (Or.inr (Or.inl h69))))).symm, rfl, rfl⟩
      · exact ⟨true, rfl, (decide_eq_true (Or.inr (Or.inr (Or.inr (Or.inr (Or.inl h70)))))).symm, rfl, rfl⟩
      · rintro _ σ τ ⟨rfl, rfl, rfl⟩
        have hb' := of_decide_eq_false (bz hb)
        refine br_c (fun hs => ?_) (fun hs => ?_)
        · have hs' := of_decide_eq_false (bz hs)
          refine ⟨false, rfl, (decide_eq_false ?_).symm, rfl, rfl⟩
          rintro (q | q | q | q | q | q)
          · exact h0 q
          · exact h3 q
          · exact hb' q
          · exact h69 q
          · exact h70 q
          · exact hs' q
        · exact ⟨true, rfl, (decide_eq_true (Or.inr (Or.inr (Or.inr (Or.inr (Or.inr (of_decide_eq_true (bnz hs)))))))).symm, rfl, rfl⟩
def y_D_goesOn : MethodName := ⟨RD, "goesOn", "(I)Z"⟩
def ws_D_goesOn : List Cond := .code y_D_goesOn prog_9_method_13_code 1 (some .boolean) :: evW
theorem d_D_goesOn_0 : decode prog_9_method_13_code 0 = .ok (.iload_n 0, 1) := by decide +kernel
theorem d_D_goesOn_1 : decode prog_9_method_13_code 1 = .ok (.ifCond .eq 31, 3) := by decide +kernel
theorem d_D_goesOn_4 : decode prog_9_method_13_code 4 = .ok (.iload_n 0, 1) := by decide +kernel
theorem d_D_goesOn_5 : decode prog_9_method_13_code 5 = .ok (.iconst 3, 1) := by decide +kernel
theorem d_D_goesOn_6 : decode prog_9_method_13_code 6 = .ok (.if_icmp .eq 26, 3) := by decide +kernel
theorem d_D_goesOn_9 : decode prog_9_method_13_code 9 = .ok (.iload_n 0, 1) := by decide +kernel
theorem d_D_goesOn_10 : decode prog_9_method_13_code 10 = .ok (.bipush 68, 2) := by decide +kernel
theorem d_D_goesOn_12 : decode prog_9_method_13_code 12 = .ok (.if_icmp .eq 20, 3) := by decide +kernel
theorem d_D_goesOn_15 : decode prog_9_method_13_code 15 = .ok (.iload_n 0, 1) := by decide +kernel
theorem d_D_goesOn_16 : decode prog_9_method_13_code 16 = .ok (.bipush 69, 2) := by decide +kernel
theorem d_D_goesOn_18 : decode prog_9_method_13_code 18 = .ok (.if_icmp .eq 14, 3) := by decide +kernel
theorem d_D_goesOn_21 : decode prog_9_method_13_code 21 = .ok (.iload_n 0, 1) := by decide +kernel
theorem d_D_goesOn_22 : decode prog_9_method_13_code 22 = .ok (.invokestatic 88, 3) := by decide +kernel
theorem d_D_goesOn_25 : decode prog_9_method_13_code 25 = .ok (.ifCond .ne 7, 3) := by decide +kernel
theorem d_D_goesOn_28 : decode prog_9_method_13_code 28 = .ok (.iconst 1, 1) := by decide +kernel
theorem d_D_goesOn_29 : decode prog_9_method_13_code 29 = .ok (.goto 4, 3) := by decide +kernel
theorem d_D_goesOn_32 : decode prog_9_method_13_code 32 = .ok (.iconst 0, 1) := by decide +kernel
theorem d_D_goesOn_33 : decode prog_9_method_13_code 33 = .ok (.ireturn, 1) := by decide +kernel
def I_D_goesOn (P : Bool → ev_M → ev_L → Prop) : List (Nat × ev_T) := [(0, tt_il 0 1),
  (1, tt_ifeq 32 4),
  (4, tt_il 0 5),
  (5, tt_k 3 6),
  (6, tt_iceq 32 9),
  (9, tt_il 0 10),
  (10, tt_k 68 12),
  (12, tt_iceq 32 15),
  (15, tt_il 0 16),
  (16, tt_k 69 18),
  (18, tt_iceq 32 21),
  (21, tt_il 0 22),
  (22, tt_cS 1 ev_b pre_D_isSwitch post_D_isSwitch 25),
  (25, tt_ifne 32 28),
  (28, tt_k 1 29),
  (29, tt_go 33),
  (32, tt_k 0 33),
  (33, tt_rz P)]
abbrev rm_D_goesOn : Room := { frames := 1, cells := 0, slots := 0, locals := 32 }
set_option maxRecDepth 20000 in
theorem ok_D_goesOn (l : Launch) (J : ev_K) (P : Bool → ev_M → ev_L → Prop) (X : ev_X l rm_D_goesOn evLY evCl ws_D_goesOn prog_9_method_13_code 1 y_D_goesOn.cls J) (Z : ev_Z J prog_9_method_13_code .ireturn ev_b P) : ev_oks J (I_D_goesOn P) :=
  ⟨qq_iln X 0 rfl d_D_goesOn_0,
  qq_ifeq X 32 (by decide) d_D_goesOn_1,
  qq_iln X 0 rfl d_D_goesOn_4,
  qq_ic X 3 (by decide) d_D_goesOn_5,
  qq_iceq X 32 (by decide) d_D_goesOn_6,
  qq_iln X 0 rfl d_D_goesOn_9,
  qq_bp X 68 (by decide) d_D_goesOn_10,
  qq_iceq X 32 (by decide) d_D_goesOn_12,
  qq_iln X 0 rfl d_D_goesOn_15,
  qq_bp X 69 (by decide) d_D_goesOn_16,
  qq_iceq X 32 (by decide) d_D_goesOn_18,
  qq_iln X 0 rfl d_D_goesOn_21,
  qq_cS X (c_D_isSwitch l) (fun hts => va_cwS 1 hts (evGS (mw_891) (mw_892) (mw_8) (mw_893)) rfl rfl rfl (by decide +kernel) ⟨Nat.le_of_ble_eq_true rfl, Nat.le_of_ble_eq_true rfl⟩) d_D_goesOn_22,
  qq_ifne X 32 (by decide) d_D_goesOn_25,
  qq_ic X 1 (by decide) d_D_goesOn_28,
  qq_go X 33 (by decide) d_D_goesOn_29,
  qq_ic X 0 (by decide) d_D_goesOn_32,
  qq_rz Z d_D_goesOn_33, trivial⟩
def pre_D_goesOn : List Value → ev_M → ev_L → Prop := fun as σ τ => ∃ (x : Int32), as = [.int x]
def post_D_goesOn : List Value → ev_M → ev_L → Bool → ev_M → ev_L → Prop := fun as σ τ r σ' τ' => match as with
  | [.int x] => r = sd_goes x ∧ σ' = σ ∧ τ' = τ
  | _ => False
set_option maxHeartbeats 4000000 in
set_option maxRecDepth 100000 in
theorem c_D_goesOn (l : Launch) : ev_C ev_b l y_D_goesOn ws_D_goesOn rm_D_goesOn evLY evCl pre_D_goesOn post_D_goesOn := by
  refine ev_meth0 (by decide) rfl ev_rop_b ?_ I_D_goesOn (ok_D_goesOn l) 60 ?_
  · rintro _ σ τ ⟨x, rfl⟩
    exact Nat.le_of_ble_eq_true rfl
  · rintro _ σ τ ⟨x, rfl⟩
    refine br_c (fun h0 => ?_) (fun h0 => br_c (fun h3 => ?_) (fun h3 => br_c (fun h68 => ?_) (fun h68 => br_c (fun h69 => ?_) (fun h69 => ⟨⟨_, rfl⟩, ?_⟩))))
    · exact ⟨false, rfl, (decide_eq_false (fun q => q.1 h0)).symm, rfl, rfl⟩
    · exact ⟨false, rfl, (decide_eq_false (fun q => q.2.1 h3)).symm, rfl, rfl⟩
    · exact ⟨false, rfl, (decide_eq_false (fun q => q.2.2.1 h68)).symm, rfl, rfl⟩
    · exact ⟨false, rfl, (decide_eq_false (fun q => q.2.2.2.1 h69)).symm, rfl, rfl⟩
    · rintro _ σ τ ⟨rfl, rfl, rfl⟩
      refine br_n (fun hs => ?_) (fun hs => ?_)
      · exact ⟨false, rfl, (decide_eq_false (fun q => q.2.2.2.2 (of_decide_eq_true (bnz hs)))).symm, rfl, rfl⟩
      · exact ⟨true, rfl, (decide_eq_true ⟨h0, h3, h68, h69, of_decide_eq_false (bz hs)⟩).symm, rfl, rfl⟩
theorem m_at {σ : ev_M} {a : Int32} (h0 : 0 ≤ a.toInt) (h1 : a.toInt < 256) : vp_in a 512 ∧ σ 31 a.toNatClampNeg = sp_at (σ 31) a := by
  refine ⟨by rw [vp_in_iff]; omega, ?_⟩
  unfold sp_at
  rw [if_pos ⟨Int32.le_iff_toInt_le.mpr h0, Int32.lt_iff_toInt_lt.mpr h1⟩]
def sd_tgt (f : Nat → Int32) (a : Int32) : Int32 := if sd_br (sp_at f a) = true then a + 2 + (sp_at f (a + 1)).toInt8.toInt32 else if sp_at f a = 69 ∨ sp_at f a = 70 then sp_at f (a + 1) else -1
def y_D_target : MethodName := ⟨RD, "target", "(I)I"⟩
def ws_D_target : List Cond := .code y_D_target prog_9_method_14_code 3 (some .int) :: evW
theorem d_D_target_0 : decode prog_9_method_14_code 0 = .ok (.aload_n 0, 1) := by decide +kernel
theorem d_D_target_1 : decode prog_9_method_14_code 1 = .ok (.getfield 7, 3) := by decide +kernel
theorem d_D_target_4 : decode prog_9_method_14_code 4 = .ok (.iload_n 1, 1) := by decide +kernel
theorem d_D_target_5 : decode prog_9_method_14_code 5 = .ok (.iaload, 1) := by decide +kernel
theorem d_D_target_6 : decode prog_9_method_14_code 6 = .ok (.istore_n 2, 1) := by decide +kernel
theorem d_D_target_7 : decode prog_9_method_14_code 7 = .ok (.iload_n 2, 1) := by decide +kernel
theorem d_D_target_8 : decode prog_9_method_14_code 8 = .ok (.invokestatic 84, 3) := by decide +kernel
theorem d_D_target_11 : decode prog_9_method_14_code 11 = .ok (.ifCond .eq 17, 3) := by decide +kernel
theorem d_D_target_14 : decode prog_9_method_14_code 14 = .ok (.iload_n 1, 1) := by decide +kernel
theorem d_D_target_15 : decode prog_9_method_14_code 15 = .ok (.iconst 2, 1) := by decide +kernel
theorem d_D_target_16 : decode prog_9_method_14_code 16 = .ok (.iadd, 1) := by decide +kernel
theorem d_D_target_17 : decode prog_9_method_14_code 17 = .ok (.aload_n 0, 1) := by decide +kernel
theorem d_D_target_18 : decode prog_9_method_14_code 18 = .ok (.getfield 7, 3) := by decide +kernel
theorem d_D_target_21 : decode prog_9_method_14_code 21 = .ok (.iload_n 1, 1) := by decide +kernel
theorem d_D_target_22 : decode prog_9_method_14_code 22 = .ok (.iconst 1, 1) := by decide +kernel
theorem d_D_target_23 : decode prog_9_method_14_code 23 = .ok (.iadd, 1) := by decide +kernel
theorem d_D_target_24 : decode prog_9_method_14_code 24 = .ok (.iaload, 1) := by decide +kernel
theorem d_D_target_25 : decode prog_9_method_14_code 25 = .ok (.i2b, 1) := by decide +kernel
theorem d_D_target_26 : decode prog_9_method_14_code 26 = .ok (.iadd, 1) := by decide +kernel
theorem d_D_target_27 : decode prog_9_method_14_code 27 = .ok (.ireturn, 1) := by decide +kernel
theorem d_D_target_28 : decode prog_9_method_14_code 28 = .ok (.iload_n 2, 1) := by decide +kernel
theorem d_D_target_29 : decode prog_9_method_14_code 29 = .ok (.bipush 69, 2) := by decide +kernel
theorem d_D_target_31 : decode prog_9_method_14_code 31 = .ok (.if_icmp .eq 9, 3) := by decide +kernel
theorem d_D_target_34 : decode prog_9_method_14_code 34 = .ok (.iload_n 2, 1) := by decide +kernel
theorem d_D_target_35 : decode prog_9_method_14_code 35 = .ok (.bipush 70, 2) := by decide +kernel
theorem d_D_target_37 : decode prog_9_method_14_code 37 = .ok (.if_icmp .ne 14, 3) := by decide +kernel
theorem d_D_target_40 : decode prog_9_method_14_code 40 = .ok (.aload_n 0, 1) := by decide +kernel
theorem d_D_target_41 : decode prog_9_method_14_code 41 = .ok (.getfield 7, 3) := by decide +kernel
theorem d_D_target_44 : decode prog_9_method_14_code 44 = .ok (.iload_n 1, 1) := by decide +kernel
theorem d_D_target_45 : decode prog_9_method_14_code 45 = .ok (.iconst 1, 1) := by decide +kernel
theorem d_D_target_46 : decode prog_9_method_14_code 46 = .ok (.iadd, 1) := by decide +kernel
theorem d_D_target_47 : decode prog_9_method_14_code 47 = .ok (.iaload, 1) := by decide +kernel
theorem d_D_target_48 : decode prog_9_method_14_code 48 = .ok (.goto 4, 3) := by decide +kernel
theorem d_D_target_51 : decode prog_9_method_14_code 51 = .ok (.iconst (-1), 1) := by decide +kernel
theorem d_D_target_52 : decode prog_9_method_14_code 52 = .ok (.ireturn, 1) := by decide +kernel
def I_D_target (P : Int32 → ev_M → ev_L → Prop) : List (Nat × ev_T) := [(0, tt_al 0 1),
  (1, tt_gf evLY 7 1 4),
  (4, tt_il 1 5),
  (5, tt_ia evLY 6),
  (6, tt_is 2 7),
  (7, tt_il 2 8),
  (8, tt_cS 1 ev_b pre_D_branches post_D_branches 11),
  (11, tt_ifeq 28 14),
  (14, tt_il 1 15),
  (15, tt_k 2 16),
  (16, tt_iadd 17),
  (17, tt_al 0 18),
  (18, tt_gf evLY 7 1 21),
  (21, tt_il 1 22),
  (22, tt_k 1 23),
  (23, tt_iadd 24),
  (24, tt_ia evLY 25),
  (25, tt_i2b 26),
  (26, tt_iadd 27),
  (27, tt_ri P),
  (28, tt_il 2 29),
  (29, tt_k 69 31),
  (31, tt_iceq 40 34),
  (34, tt_il 2 35),
  (35, tt_k 70 37),
  (37, tt_icne 51 40),
  (40, tt_al 0 41),
  (41, tt_gf evLY 7 1 44),
  (44, tt_il 1 45),
  (45, tt_k 1 46),
  (46, tt_iadd 47),
  (47, tt_ia evLY 48),
  (48, tt_go 52),
  (51, tt_k (-1) 52),
  (52, tt_ri P)]
abbrev rm_D_target : Room := { frames := 1, cells := 0, slots := 0, locals := 32 }
set_option maxRecDepth 20000 in
theorem ok_D_target (l : Launch) (J : ev_K) (P : Int32 → ev_M → ev_L → Prop) (X : ev_X l rm_D_target evLY evCl ws_D_target prog_9_method_14_code 3 y_D_target.cls J) (Z : ev_Z J prog_9_method_14_code .ireturn ev_i P) : ev_oks J (I_D_target P) :=
  ⟨qq_aln X 0 rfl d_D_target_0,
  qq_gf X 7 1 rfl (fun w h => List.mem_cons_of_mem _ (inE_D w h)) (by decide) (List.mem_cons_of_mem _ mw_755) d_D_target_1,
  qq_iln X 1 rfl d_D_target_4,
  qq_ia X d_D_target_5,
  qq_isn X 2 rfl (by decide) d_D_target_6,
  qq_iln X 2 rfl d_D_target_7,
  qq_cS X (c_D_branches l) (fun hts => va_cwS 1 hts (evGS (mw_884) (mw_885) (mw_8) (mw_886)) rfl rfl rfl (by decide +kernel) ⟨Nat.le_of_ble_eq_true rfl, Nat.le_of_ble_eq_true rfl⟩) d_D_target_8,
  qq_ifeq X 28 (by decide) d_D_target_11,
  qq_iln X 1 rfl d_D_target_14,
  qq_ic X 2 (by decide) d_D_target_15,
  qq_iadd X d_D_target_16,
  qq_aln X 0 rfl d_D_target_17,
  qq_gf X 7 1 rfl (fun w h => List.mem_cons_of_mem _ (inE_D w h)) (by decide) (List.mem_cons_of_mem _ mw_755) d_D_target_18,
  qq_iln X 1 rfl d_D_target_21,
  qq_ic X 1 (by decide) d_D_target_22,
  qq_iadd X d_D_target_23,
  qq_ia X d_D_target_24,
  qq_i2b X d_D_target_25,
  qq_iadd X d_D_target_26,
  qq_ri Z d_D_target_27,
  qq_iln X 2 rfl d_D_target_28,
  qq_bp X 69 (by decide) d_D_target_29,
  qq_iceq X 40 (by decide) d_D_target_31,
  qq_iln X 2 rfl d_D_target_34,
  qq_bp X 70 (by decide) d_D_target_35,
  qq_icne X 51 (by decide) d_D_target_37,
  qq_aln X 0 rfl d_D_target_40,
  qq_gf X 7 1 rfl (fun w h => List.mem_cons_of_mem _ (inE_D w h)) (by decide) (List.mem_cons_of_mem _ mw_755) d_D_target_41,
  qq_iln X 1 rfl d_D_target_44,
  qq_ic X 1 (by decide) d_D_target_45,
  qq_iadd X d_D_target_46,
  qq_ia X d_D_target_47,
  qq_go X 52 (by decide) d_D_target_48,
  qq_ic X (-1) (by decide) d_D_target_51,
  qq_ri Z d_D_target_52, trivial⟩
def pre_D_target : List Value → ev_M → ev_L → Prop := fun as σ τ => ∃ (a : Int32), as = [.ref 30, .int a] ∧ 0 ≤ a.toInt ∧ a.toInt < 96
def post_D_target : List Value → ev_M → ev_L → Int32 → ev_M → ev_L → Prop := fun as σ τ r σ' τ' => match as with
  | [_, .int a] => r = sd_tgt (σ 31) a ∧ σ' = σ ∧ τ' = τ
  | _ => False
set_option maxHeartbeats 4000000 in
set_option maxRecDepth 100000 in
theorem c_D_target (l : Launch) : ev_C ev_i l y_D_target ws_D_target rm_D_target evLY evCl pre_D_target post_D_target := by
  refine ev_meth0 (by decide) rfl ev_rop_i ?_ I_D_target (ok_D_target l) 60 ?_
  · rintro _ σ τ ⟨a, rfl, hp⟩
    exact Nat.le_of_ble_eq_true rfl
  · rintro _ σ τ ⟨a, rfl, hp⟩
    obtain ⟨h0, h1⟩ := hp
    have e1 : (a + 1).toInt = a.toInt + 1 := i_add (by omega) (by omega) (by decide) (by decide)
    obtain ⟨v1, m1⟩ := m_at (σ := σ) (a := a) (by omega) (by omega)
    obtain ⟨v2, m2⟩ := m_at (σ := σ) (a := a + 1) (by omega) (by omega)
    refine ⟨v1, ?_⟩
    rw [m1]
    refine ⟨⟨_, rfl⟩, ?_⟩
    rintro _ σ τ ⟨rfl, rfl, rfl⟩
    refine br_c (fun hb => ?_) (fun hb => ?_)
    · have hb' := bz hb
      have hn : ¬ sd_br (sp_at (σ 31) a) = true := by rw [hb']; decide
      refine br_c (fun h69 => ?_) (fun h69 => br_n (fun h70 => ?_) (fun h70 => ?_))
      · refine ⟨v2, ?_, rfl, rfl⟩
        rw [m2]
        exact ((if_neg hn).trans (if_pos (Or.inl h69))).symm
      · refine ⟨?_, rfl, rfl⟩
        exact ((if_neg hn).trans (if_neg (fun q => q.elim h69 h70))).symm
      · refine ⟨v2, ?_, rfl, rfl⟩
        rw [m2]
        exact ((if_neg hn).trans (if_pos (Or.inr h70))).symm
    · refine ⟨v2, ?_, rfl, rfl⟩
      rw [m2]
      exact (if_pos (bnz hb)).symm
