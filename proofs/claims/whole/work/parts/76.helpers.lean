/-! the law's helpers: a call, and which exception came of it -/
theorem vp_in01 : vp_in (0 : Int32) 1 := by
  unfold vp_in
  decide
def y_L_poke : MethodName := ⟨"BlockCounterLaw", "poke", "(LBlockCounter;II)I"⟩
def hh_L_poke : List (Nat × Nat × Nat × Nat) := [(0, 6, 9, 13)]
def ws_L_poke : List Cond := .codeWith y_L_poke method_3_code 4 (some .int) hh_L_poke :: evW
theorem d_L_poke_9 : decode method_3_code 9 = .ok (.astore_n 3, 1) := by decide +kernel
theorem d_L_poke_0 : decode method_3_code 0 = .ok (.aload_n 0, 1) := by decide +kernel
theorem d_L_poke_1 : decode method_3_code 1 = .ok (.iload_n 1, 1) := by decide +kernel
theorem d_L_poke_2 : decode method_3_code 2 = .ok (.iload_n 2, 1) := by decide +kernel
theorem d_L_poke_3 : decode method_3_code 3 = .ok (.invokevirtual 7, 3) := by decide +kernel
theorem d_L_poke_6 : decode method_3_code 6 = .ok (.goto 6, 3) := by decide +kernel
theorem d_L_poke_10 : decode method_3_code 10 = .ok (.iconst 1, 1) := by decide +kernel
theorem d_L_poke_11 : decode method_3_code 11 = .ok (.ireturn, 1) := by decide +kernel
theorem d_L_poke_12 : decode method_3_code 12 = .ok (.iconst 0, 1) := by decide +kernel
theorem d_L_poke_13 : decode method_3_code 13 = .ok (.ireturn, 1) := by decide +kernel
def I_L_poke (P : Int32 → ev_M → ev_L → Prop) : List (Nat × ev_T) := [(0, tt_al 0 1),
  (1, tt_il 1 2),
  (2, tt_il 2 3),
  (3, tt_xV evLY 6 2 ev_n pre_B_poke post_B_poke px_B_poke [(0, 10, 3)] 6),
  (6, tt_go 12),
  (10, tt_k 1 11),
  (11, tt_ri1 P),
  (12, tt_k 0 13),
  (13, tt_ri1 P)]
abbrev rm_L_poke : Room := { frames := 7, cells := 1, slots := 6, locals := 224 }
set_option maxRecDepth 20000 in
theorem ok_L_poke (l : Launch) (hst : l.stackTraces = false) (J : ev_K) (P : Int32 → ev_M → ev_L → Prop) (X9 : ex_X l rm_L_poke evLY evCl ws_L_poke method_3_code 4 y_L_poke.cls (tableOf hh_L_poke) 1 J) (Z : ex_Z1 J method_3_code P) : ev_oks J (I_L_poke P) := by
  have X := ex_X_ev X9
  exact ⟨qq_aln X 0 rfl d_L_poke_0,
  qq_iln X 1 rfl d_L_poke_1,
  qq_iln X 2 rfl d_L_poke_2,
  qq_xV X9 6 rfl (c_B_poke l hst) (fun hts => cwV 2 hts (evGV (mw_236) (mw_237) (mw_238) (mw_1) (mw_239)) rfl rfl rfl (by decide +kernel) ⟨Nat.le_of_ble_eq_true rfl, Nat.le_of_ble_eq_true rfl⟩) d_L_poke_3 (List.forall_mem_cons.mpr ⟨⟨[], ⟨0, 6, 9, 13⟩, [], rfl, fun z hz => absurd hz List.not_mem_nil, by decide, by decide, List.mem_cons_of_mem _ mw_235, by decide, Or.inl ⟨3, d_L_poke_9, rfl, rfl⟩⟩, fun q hq => absurd hq List.not_mem_nil⟩),
  qq_go X 12 (by decide) d_L_poke_6,
  qq_ic X 1 (by decide) d_L_poke_10,
  qq_ri1 Z d_L_poke_11,
  qq_ic X 0 (by decide) d_L_poke_12,
  qq_ri1 Z d_L_poke_13, trivial⟩
def pre_L_poke : List Value → ev_M → ev_L → Prop := fun as σ τ => ∃ p0 p1 : Int32, as = [.ref 0, .int p0, .int p1] ∧ pre_B_poke [.ref 0, .int p0, .int p1] σ τ
def post_L_poke : List Value → ev_M → ev_L → Int32 → ev_M → ev_L → Prop := fun as σ τ r σ' τ' => match as with
  | [_, .int p0, .int p1] => (∃ v, post_B_poke [.ref 0, .int p0, .int p1] σ τ v σ' τ' ∧ r = 0) ∨ (∃ k, px_B_poke [.ref 0, .int p0, .int p1] σ τ k σ' τ' ∧ r = 1)
  | _ => False
set_option maxHeartbeats 4000000 in
set_option maxRecDepth 100000 in
theorem c_L_poke (l : Launch) (hst : l.stackTraces = false) : ex_H ev_i l y_L_poke ws_L_poke rm_L_poke evLY evCl pre_L_poke post_L_poke := by
  refine ex_methH (by decide) rfl ?_ ⟨by decide, by decide⟩ I_L_poke (ok_L_poke l hst) 60 ?_
  · rintro _ σ τ ⟨p0, p1, rfl, hp⟩
    exact Nat.le_of_ble_eq_true rfl
  · rintro _ σ τ ⟨p0, p1, rfl, hp⟩
    refine ⟨hp, ?_, ?_⟩
    · rintro v σ1 τ1 hq
      exact Or.inl ⟨v, hq, rfl⟩
    · rintro k σ1 τ1 hq
      have hk : k = 0 := hq.1
      subst hk
      exact Or.inr ⟨0, hq, rfl⟩
def y_L_declare : MethodName := ⟨"BlockCounterLaw", "declare", "(LBlockCounter;II[J)I"⟩
def hh_L_declare : List (Nat × Nat × Nat × Nat) := [(0, 10, 13, 19), (0, 10, 17, 21)]
def ws_L_declare : List Cond := .codeWith y_L_declare method_4_code 5 (some .int) hh_L_declare :: evW
theorem d_L_declare_13 : decode method_4_code 13 = .ok (.astore 4, 2) := by decide +kernel
theorem d_L_declare_17 : decode method_4_code 17 = .ok (.astore 4, 2) := by decide +kernel
theorem d_L_declare_0 : decode method_4_code 0 = .ok (.aload_n 3, 1) := by decide +kernel
theorem d_L_declare_1 : decode method_4_code 1 = .ok (.iconst 0, 1) := by decide +kernel
theorem d_L_declare_2 : decode method_4_code 2 = .ok (.aload_n 0, 1) := by decide +kernel
theorem d_L_declare_3 : decode method_4_code 3 = .ok (.iload_n 1, 1) := by decide +kernel
theorem d_L_declare_4 : decode method_4_code 4 = .ok (.iload_n 2, 1) := by decide +kernel
theorem d_L_declare_5 : decode method_4_code 5 = .ok (.invokevirtual 15, 3) := by decide +kernel
theorem d_L_declare_8 : decode method_4_code 8 = .ok (.i2l, 1) := by decide +kernel
theorem d_L_declare_9 : decode method_4_code 9 = .ok (.lastore, 1) := by decide +kernel
theorem d_L_declare_10 : decode method_4_code 10 = .ok (.goto 11, 3) := by decide +kernel
theorem d_L_declare_15 : decode method_4_code 15 = .ok (.iconst 1, 1) := by decide +kernel
theorem d_L_declare_16 : decode method_4_code 16 = .ok (.ireturn, 1) := by decide +kernel
theorem d_L_declare_19 : decode method_4_code 19 = .ok (.iconst 2, 1) := by decide +kernel
theorem d_L_declare_20 : decode method_4_code 20 = .ok (.ireturn, 1) := by decide +kernel
theorem d_L_declare_21 : decode method_4_code 21 = .ok (.iconst 0, 1) := by decide +kernel
theorem d_L_declare_22 : decode method_4_code 22 = .ok (.ireturn, 1) := by decide +kernel
def I_L_declare (P : Int32 → ev_M → ev_L → Prop) : List (Nat × ev_T) := [(0, tt_al 3 1),
  (1, tt_k 0 2),
  (2, tt_al 0 3),
  (3, tt_il 1 4),
  (4, tt_il 2 5),
  (5, tt_xV evLY 6 2 ev_i pre_B_declare post_B_declare px_B_declare [(1, 15, 4), (2, 19, 4)] 8),
  (8, tt_i2l 9),
  (9, tt_las evLY 10),
  (10, tt_go 21),
  (15, tt_k 1 16),
  (16, tt_ri1 P),
  (19, tt_k 2 20),
  (20, tt_ri1 P),
  (21, tt_k 0 22),
  (22, tt_ri1 P)]
abbrev rm_L_declare : Room := { frames := 7, cells := 1, slots := 6, locals := 224 }
set_option maxRecDepth 20000 in
theorem ok_L_declare (l : Launch) (hst : l.stackTraces = false) (J : ev_K) (P : Int32 → ev_M → ev_L → Prop) (X9 : ex_X l rm_L_declare evLY evCl ws_L_declare method_4_code 5 y_L_declare.cls (tableOf hh_L_declare) 1 J) (Z : ex_Z1 J method_4_code P) : ev_oks J (I_L_declare P) := by
  have X := ex_X_ev X9
  exact ⟨qq_aln X 3 rfl d_L_declare_0,
  qq_ic X 0 (by decide) d_L_declare_1,
  qq_aln X 0 rfl d_L_declare_2,
  qq_iln X 1 rfl d_L_declare_3,
  qq_iln X 2 rfl d_L_declare_4,
  qq_xV X9 6 rfl (c_B_declare l hst) (fun hts => cwV 2 hts (evGV (mw_330) (mw_331) (mw_332) (mw_1) (mw_333)) rfl rfl rfl (by decide +kernel) ⟨Nat.le_of_ble_eq_true rfl, Nat.le_of_ble_eq_true rfl⟩) d_L_declare_5 (List.forall_mem_cons.mpr ⟨⟨[], ⟨0, 10, 13, 19⟩, [⟨0, 10, 17, 21⟩], rfl, fun z hz => absurd hz List.not_mem_nil, by decide, by decide, List.mem_cons_of_mem _ mw_328, by decide, Or.inr ⟨d_L_declare_13, rfl⟩⟩, List.forall_mem_cons.mpr ⟨⟨[⟨0, 10, 13, 19⟩], ⟨0, 10, 17, 21⟩, [], rfl, fun z hz => by rw [List.mem_singleton.mp hz]; exact ⟨by decide, 1, List.mem_cons_of_mem _ mw_328, by decide⟩, by decide, by decide, List.mem_cons_of_mem _ mw_329, by decide, Or.inr ⟨d_L_declare_17, rfl⟩⟩, fun q hq => absurd hq List.not_mem_nil⟩⟩),
  qq_i2l X d_L_declare_8,
  qq_las X d_L_declare_9,
  qq_go X 21 (by decide) d_L_declare_10,
  qq_ic X 1 (by decide) d_L_declare_15,
  qq_ri1 Z d_L_declare_16,
  qq_ic X 2 (by decide) d_L_declare_19,
  qq_ri1 Z d_L_declare_20,
  qq_ic X 0 (by decide) d_L_declare_21,
  qq_ri1 Z d_L_declare_22, trivial⟩
def pre_L_declare : List Value → ev_M → ev_L → Prop := fun as σ τ => ∃ p0 p1 : Int32, as = [.ref 0, .int p0, .int p1, .ref 48] ∧ pre_B_declare [.ref 0, .int p0, .int p1] σ τ
def post_L_declare : List Value → ev_M → ev_L → Int32 → ev_M → ev_L → Prop := fun as σ τ r σ' τ' => match as with
  | [_, .int p0, .int p1, _] => (∃ v τ1, post_B_declare [.ref 0, .int p0, .int p1] σ τ v σ' τ1 ∧ r = 0 ∧ τ' = ev_w τ1 48 0 v.toInt64) ∨ (∃ k, px_B_declare [.ref 0, .int p0, .int p1] σ τ k σ' τ' ∧ r = (if k = 1 then 1 else 2))
  | _ => False
set_option maxHeartbeats 4000000 in
set_option maxRecDepth 100000 in
theorem c_L_declare (l : Launch) (hst : l.stackTraces = false) : ex_H ev_i l y_L_declare ws_L_declare rm_L_declare evLY evCl pre_L_declare post_L_declare := by
  refine ex_methH (by decide) rfl ?_ ⟨by decide, by decide⟩ I_L_declare (ok_L_declare l hst) 60 ?_
  · rintro _ σ τ ⟨p0, p1, rfl, hp⟩
    exact Nat.le_of_ble_eq_true rfl
  · rintro _ σ τ ⟨p0, p1, rfl, hp⟩
    refine ⟨hp, ?_, ?_⟩
    · rintro v σ1 τ1 hq
      exact ⟨vp_in01, Or.inl ⟨v, τ1, hq, rfl, rfl⟩⟩
    · rintro k σ1 τ1 hq
      have hk : k = 1 ∨ k = 2 := by
        rcases hq.1 with q | q
        · exact Or.inl q.1
        · exact Or.inr q.1
      rcases hk with rfl | rfl
      · exact Or.inr ⟨1, hq, rfl⟩
      · exact Or.inr ⟨2, hq, rfl⟩
def y_L_data : MethodName := ⟨"BlockCounterLaw", "data", "(LBlockCounter;II)I"⟩
def hh_L_data : List (Nat × Nat × Nat × Nat) := [(0, 6, 9, 13)]
def ws_L_data : List Cond := .codeWith y_L_data method_5_code 4 (some .int) hh_L_data :: evW
theorem d_L_data_9 : decode method_5_code 9 = .ok (.astore_n 3, 1) := by decide +kernel
theorem d_L_data_0 : decode method_5_code 0 = .ok (.aload_n 0, 1) := by decide +kernel
theorem d_L_data_1 : decode method_5_code 1 = .ok (.iload_n 1, 1) := by decide +kernel
theorem d_L_data_2 : decode method_5_code 2 = .ok (.iload_n 2, 1) := by decide +kernel
theorem d_L_data_3 : decode method_5_code 3 = .ok (.invokevirtual 23, 3) := by decide +kernel
theorem d_L_data_6 : decode method_5_code 6 = .ok (.goto 6, 3) := by decide +kernel
theorem d_L_data_10 : decode method_5_code 10 = .ok (.iconst 1, 1) := by decide +kernel
theorem d_L_data_11 : decode method_5_code 11 = .ok (.ireturn, 1) := by decide +kernel
theorem d_L_data_12 : decode method_5_code 12 = .ok (.iconst 0, 1) := by decide +kernel
theorem d_L_data_13 : decode method_5_code 13 = .ok (.ireturn, 1) := by decide +kernel
def I_L_data (P : Int32 → ev_M → ev_L → Prop) : List (Nat × ev_T) := [(0, tt_al 0 1),
  (1, tt_il 1 2),
  (2, tt_il 2 3),
  (3, tt_xV evLY 6 2 ev_n pre_B_data post_B_data px_B_data [(0, 10, 3)] 6),
  (6, tt_go 12),
  (10, tt_k 1 11),
  (11, tt_ri1 P),
  (12, tt_k 0 13),
  (13, tt_ri1 P)]
abbrev rm_L_data : Room := { frames := 7, cells := 1, slots := 6, locals := 224 }
set_option maxRecDepth 20000 in
theorem ok_L_data (l : Launch) (hst : l.stackTraces = false) (J : ev_K) (P : Int32 → ev_M → ev_L → Prop) (X9 : ex_X l rm_L_data evLY evCl ws_L_data method_5_code 4 y_L_data.cls (tableOf hh_L_data) 1 J) (Z : ex_Z1 J method_5_code P) : ev_oks J (I_L_data P) := by
  have X := ex_X_ev X9
  exact ⟨qq_aln X 0 rfl d_L_data_0,
  qq_iln X 1 rfl d_L_data_1,
  qq_iln X 2 rfl d_L_data_2,
  qq_xV X9 6 rfl (c_B_data l hst) (fun hts => cwV 2 hts (evGV (mw_382) (mw_383) (mw_384) (mw_1) (mw_385)) rfl rfl rfl (by decide +kernel) ⟨Nat.le_of_ble_eq_true rfl, Nat.le_of_ble_eq_true rfl⟩) d_L_data_3 (List.forall_mem_cons.mpr ⟨⟨[], ⟨0, 6, 9, 13⟩, [], rfl, fun z hz => absurd hz List.not_mem_nil, by decide, by decide, List.mem_cons_of_mem _ mw_235, by decide, Or.inl ⟨3, d_L_data_9, rfl, rfl⟩⟩, fun q hq => absurd hq List.not_mem_nil⟩),
  qq_go X 12 (by decide) d_L_data_6,
  qq_ic X 1 (by decide) d_L_data_10,
  qq_ri1 Z d_L_data_11,
  qq_ic X 0 (by decide) d_L_data_12,
  qq_ri1 Z d_L_data_13, trivial⟩
def pre_L_data : List Value → ev_M → ev_L → Prop := fun as σ τ => ∃ p0 p1 : Int32, as = [.ref 0, .int p0, .int p1] ∧ pre_B_data [.ref 0, .int p0, .int p1] σ τ
def post_L_data : List Value → ev_M → ev_L → Int32 → ev_M → ev_L → Prop := fun as σ τ r σ' τ' => match as with
  | [_, .int p0, .int p1] => (∃ v, post_B_data [.ref 0, .int p0, .int p1] σ τ v σ' τ' ∧ r = 0) ∨ (∃ k, px_B_data [.ref 0, .int p0, .int p1] σ τ k σ' τ' ∧ r = 1)
  | _ => False
set_option maxHeartbeats 4000000 in
set_option maxRecDepth 100000 in
theorem c_L_data (l : Launch) (hst : l.stackTraces = false) : ex_H ev_i l y_L_data ws_L_data rm_L_data evLY evCl pre_L_data post_L_data := by
  refine ex_methH (by decide) rfl ?_ ⟨by decide, by decide⟩ I_L_data (ok_L_data l hst) 60 ?_
  · rintro _ σ τ ⟨p0, p1, rfl, hp⟩
    exact Nat.le_of_ble_eq_true rfl
  · rintro _ σ τ ⟨p0, p1, rfl, hp⟩
    refine ⟨hp, ?_, ?_⟩
    · rintro v σ1 τ1 hq
      exact Or.inl ⟨v, hq, rfl⟩
    · rintro k σ1 τ1 hq
      have hk : k = 0 := hq.1
      subst hk
      exact Or.inr ⟨0, hq, rfl⟩
def y_L_analyse : MethodName := ⟨"BlockCounterLaw", "analyse", "(LBlockCounter;[J)I"⟩
def hh_L_analyse : List (Nat × Nat × Nat × Nat) := [(0, 8, 11, 30)]
def ws_L_analyse : List Cond := .codeWith y_L_analyse method_6_code 3 (some .int) hh_L_analyse :: evW
theorem d_L_analyse_11 : decode method_6_code 11 = .ok (.astore_n 2, 1) := by decide +kernel
theorem d_L_analyse_0 : decode method_6_code 0 = .ok (.aload_n 1, 1) := by decide +kernel
theorem d_L_analyse_1 : decode method_6_code 1 = .ok (.iconst 0, 1) := by decide +kernel
theorem d_L_analyse_2 : decode method_6_code 2 = .ok (.aload_n 0, 1) := by decide +kernel
theorem d_L_analyse_3 : decode method_6_code 3 = .ok (.invokevirtual 26, 3) := by decide +kernel
theorem d_L_analyse_6 : decode method_6_code 6 = .ok (.i2l, 1) := by decide +kernel
theorem d_L_analyse_7 : decode method_6_code 7 = .ok (.lastore, 1) := by decide +kernel
theorem d_L_analyse_8 : decode method_6_code 8 = .ok (.goto 6, 3) := by decide +kernel
theorem d_L_analyse_12 : decode method_6_code 12 = .ok (.iconst 1, 1) := by decide +kernel
theorem d_L_analyse_13 : decode method_6_code 13 = .ok (.ireturn, 1) := by decide +kernel
theorem d_L_analyse_14 : decode method_6_code 14 = .ok (.iconst 0, 1) := by decide +kernel
theorem d_L_analyse_15 : decode method_6_code 15 = .ok (.ireturn, 1) := by decide +kernel
def I_L_analyse (P : Int32 → ev_M → ev_L → Prop) : List (Nat × ev_T) := [(0, tt_al 1 1),
  (1, tt_k 0 2),
  (2, tt_al 0 3),
  (3, tt_xV evLY 6 0 ev_i pre_B_analyse post_B_analyse px_B_analyse [(3, 12, 2)] 6),
  (6, tt_i2l 7),
  (7, tt_las evLY 8),
  (8, tt_go 14),
  (12, tt_k 1 13),
  (13, tt_ri1 P),
  (14, tt_k 0 15),
  (15, tt_ri1 P)]
abbrev rm_L_analyse : Room := { frames := 7, cells := 1, slots := 6, locals := 224 }
set_option maxRecDepth 20000 in
theorem ok_L_analyse (l : Launch) (hst : l.stackTraces = false) (J : ev_K) (P : Int32 → ev_M → ev_L → Prop) (X9 : ex_X l rm_L_analyse evLY evCl ws_L_analyse method_6_code 3 y_L_analyse.cls (tableOf hh_L_analyse) 1 J) (Z : ex_Z1 J method_6_code P) : ev_oks J (I_L_analyse P) := by
  have X := ex_X_ev X9
  exact ⟨qq_aln X 1 rfl d_L_analyse_0,
  qq_ic X 0 (by decide) d_L_analyse_1,
  qq_aln X 0 rfl d_L_analyse_2,
  qq_xV X9 6 rfl (c_B_analyse l hst) (fun hts => cwV 0 hts (evGV (mw_391) (mw_392) (mw_393) (mw_1) (mw_394)) rfl rfl rfl (by decide +kernel) ⟨Nat.le_of_ble_eq_true rfl, Nat.le_of_ble_eq_true rfl⟩) d_L_analyse_3 (List.forall_mem_cons.mpr ⟨⟨[], ⟨0, 8, 11, 30⟩, [], rfl, fun z hz => absurd hz List.not_mem_nil, by decide, by decide, List.mem_cons_of_mem _ mw_390, by decide, Or.inl ⟨2, d_L_analyse_11, rfl, rfl⟩⟩, fun q hq => absurd hq List.not_mem_nil⟩),
  qq_i2l X d_L_analyse_6,
  qq_las X d_L_analyse_7,
  qq_go X 14 (by decide) d_L_analyse_8,
  qq_ic X 1 (by decide) d_L_analyse_12,
  qq_ri1 Z d_L_analyse_13,
  qq_ic X 0 (by decide) d_L_analyse_14,
  qq_ri1 Z d_L_analyse_15, trivial⟩
def pre_L_analyse : List Value → ev_M → ev_L → Prop := fun as σ τ => as = [.ref 0, .ref 48] ∧ pre_B_analyse [.ref 0] σ τ
def post_L_analyse : List Value → ev_M → ev_L → Int32 → ev_M → ev_L → Prop := fun as σ τ r σ' τ' => match as with
  | [_, _] => (∃ v τ1, post_B_analyse [.ref 0] σ τ v σ' τ1 ∧ r = 0 ∧ τ' = ev_w τ1 48 0 v.toInt64) ∨ (∃ k, px_B_analyse [.ref 0] σ τ k σ' τ' ∧ r = 1)
  | _ => False
set_option maxHeartbeats 4000000 in
set_option maxRecDepth 100000 in
theorem c_L_analyse (l : Launch) (hst : l.stackTraces = false) : ex_H ev_i l y_L_analyse ws_L_analyse rm_L_analyse evLY evCl pre_L_analyse post_L_analyse := by
  refine ex_methH (by decide) rfl ?_ ⟨by decide, by decide⟩ I_L_analyse (ok_L_analyse l hst) 60 ?_
  · rintro _ σ τ ⟨rfl, hp⟩
    exact Nat.le_of_ble_eq_true rfl
  · rintro _ σ τ ⟨rfl, hp⟩
    refine ⟨hp, ?_, ?_⟩
    · rintro v σ1 τ1 hq
      exact ⟨vp_in01, Or.inl ⟨v, τ1, hq, rfl, rfl⟩⟩
    · rintro k σ1 τ1 hq
      have hk : k = 3 := hq.1
      subst hk
      exact Or.inr ⟨3, hq, rfl⟩
def y_L_block : MethodName := ⟨"BlockCounterLaw", "block", "(LBlockCounter;II[J)I"⟩
def hh_L_block : List (Nat × Nat × Nat × Nat) := [(0, 10, 13, 13), (0, 10, 17, 19)]
def ws_L_block : List Cond := .codeWith y_L_block method_7_code 5 (some .int) hh_L_block :: evW
theorem d_L_block_13 : decode method_7_code 13 = .ok (.astore 4, 2) := by decide +kernel
theorem d_L_block_17 : decode method_7_code 17 = .ok (.astore 4, 2) := by decide +kernel
theorem d_L_block_0 : decode method_7_code 0 = .ok (.aload_n 3, 1) := by decide +kernel
theorem d_L_block_1 : decode method_7_code 1 = .ok (.iconst 0, 1) := by decide +kernel
theorem d_L_block_2 : decode method_7_code 2 = .ok (.aload_n 0, 1) := by decide +kernel
theorem d_L_block_3 : decode method_7_code 3 = .ok (.iload_n 1, 1) := by decide +kernel
theorem d_L_block_4 : decode method_7_code 4 = .ok (.iload_n 2, 1) := by decide +kernel
theorem d_L_block_5 : decode method_7_code 5 = .ok (.invokevirtual 32, 3) := by decide +kernel
theorem d_L_block_8 : decode method_7_code 8 = .ok (.i2l, 1) := by decide +kernel
theorem d_L_block_9 : decode method_7_code 9 = .ok (.lastore, 1) := by decide +kernel
theorem d_L_block_10 : decode method_7_code 10 = .ok (.goto 11, 3) := by decide +kernel
theorem d_L_block_15 : decode method_7_code 15 = .ok (.iconst 1, 1) := by decide +kernel
theorem d_L_block_16 : decode method_7_code 16 = .ok (.ireturn, 1) := by decide +kernel
theorem d_L_block_19 : decode method_7_code 19 = .ok (.iconst 2, 1) := by decide +kernel
theorem d_L_block_20 : decode method_7_code 20 = .ok (.ireturn, 1) := by decide +kernel
theorem d_L_block_21 : decode method_7_code 21 = .ok (.iconst 0, 1) := by decide +kernel
theorem d_L_block_22 : decode method_7_code 22 = .ok (.ireturn, 1) := by decide +kernel
def I_L_block (P : Int32 → ev_M → ev_L → Prop) : List (Nat × ev_T) := [(0, tt_al 3 1),
  (1, tt_k 0 2),
  (2, tt_al 0 3),
  (3, tt_il 1 4),
  (4, tt_il 2 5),
  (5, tt_xV evLY 6 2 ev_i pre_B_block post_B_block px_B_block [(0, 15, 4), (1, 19, 4)] 8),
  (8, tt_i2l 9),
  (9, tt_las evLY 10),
  (10, tt_go 21),
  (15, tt_k 1 16),
  (16, tt_ri1 P),
  (19, tt_k 2 20),
  (20, tt_ri1 P),
  (21, tt_k 0 22),
  (22, tt_ri1 P)]
abbrev rm_L_block : Room := { frames := 7, cells := 1, slots := 6, locals := 224 }
set_option maxRecDepth 20000 in
theorem ok_L_block (l : Launch) (hst : l.stackTraces = false) (J : ev_K) (P : Int32 → ev_M → ev_L → Prop) (X9 : ex_X l rm_L_block evLY evCl ws_L_block method_7_code 5 y_L_block.cls (tableOf hh_L_block) 1 J) (Z : ex_Z1 J method_7_code P) : ev_oks J (I_L_block P) := by
  have X := ex_X_ev X9
  exact ⟨qq_aln X 3 rfl d_L_block_0,
  qq_ic X 0 (by decide) d_L_block_1,
  qq_aln X 0 rfl d_L_block_2,
  qq_iln X 1 rfl d_L_block_3,
  qq_iln X 2 rfl d_L_block_4,
  qq_xV X9 6 rfl (c_B_block l hst) (fun hts => cwV 2 hts (evGV (mw_494) (mw_495) (mw_496) (mw_1) (mw_497)) rfl rfl rfl (by decide +kernel) ⟨Nat.le_of_ble_eq_true rfl, Nat.le_of_ble_eq_true rfl⟩) d_L_block_5 (List.forall_mem_cons.mpr ⟨⟨[], ⟨0, 10, 13, 13⟩, [⟨0, 10, 17, 19⟩], rfl, fun z hz => absurd hz List.not_mem_nil, by decide, by decide, List.mem_cons_of_mem _ mw_235, by decide, Or.inr ⟨d_L_block_13, rfl⟩⟩, List.forall_mem_cons.mpr ⟨⟨[⟨0, 10, 13, 13⟩], ⟨0, 10, 17, 19⟩, [], rfl, fun z hz => by rw [List.mem_singleton.mp hz]; exact ⟨by decide, 0, List.mem_cons_of_mem _ mw_235, by decide⟩, by decide, by decide, List.mem_cons_of_mem _ mw_328, by decide, Or.inr ⟨d_L_block_17, rfl⟩⟩, fun q hq => absurd hq List.not_mem_nil⟩⟩),
  qq_i2l X d_L_block_8,
  qq_las X d_L_block_9,
  qq_go X 21 (by decide) d_L_block_10,
  qq_ic X 1 (by decide) d_L_block_15,
  qq_ri1 Z d_L_block_16,
  qq_ic X 2 (by decide) d_L_block_19,
  qq_ri1 Z d_L_block_20,
  qq_ic X 0 (by decide) d_L_block_21,
  qq_ri1 Z d_L_block_22, trivial⟩
def pre_L_block : List Value → ev_M → ev_L → Prop := fun as σ τ => ∃ p0 p1 : Int32, as = [.ref 0, .int p0, .int p1, .ref 48] ∧ pre_B_block [.ref 0, .int p0, .int p1] σ τ
def post_L_block : List Value → ev_M → ev_L → Int32 → ev_M → ev_L → Prop := fun as σ τ r σ' τ' => match as with
  | [_, .int p0, .int p1, _] => (∃ v τ1, post_B_block [.ref 0, .int p0, .int p1] σ τ v σ' τ1 ∧ r = 0 ∧ τ' = ev_w τ1 48 0 v.toInt64) ∨ (∃ k, px_B_block [.ref 0, .int p0, .int p1] σ τ k σ' τ' ∧ r = (if k = 0 then 1 else 2))
  | _ => False
set_option maxHeartbeats 4000000 in
set_option maxRecDepth 100000 in
theorem c_L_block (l : Launch) (hst : l.stackTraces = false) : ex_H ev_i l y_L_block ws_L_block rm_L_block evLY evCl pre_L_block post_L_block := by
  refine ex_methH (by decide) rfl ?_ ⟨by decide, by decide⟩ I_L_block (ok_L_block l hst) 60 ?_
  · rintro _ σ τ ⟨p0, p1, rfl, hp⟩
    exact Nat.le_of_ble_eq_true rfl
  · rintro _ σ τ ⟨p0, p1, rfl, hp⟩
    refine ⟨hp, ?_, ?_⟩
    · rintro v σ1 τ1 hq
      exact ⟨vp_in01, Or.inl ⟨v, τ1, hq, rfl, rfl⟩⟩
    · rintro k σ1 τ1 hq
      have hk : k = 0 ∨ k = 1 := by
        rcases hq.1 with q | q
        · exact Or.inl q.1
        · exact Or.inr q.1
      rcases hk with rfl | rfl
      · exact Or.inr ⟨0, hq, rfl⟩
      · exact Or.inr ⟨1, hq, rfl⟩
def y_L_rewrite : MethodName := ⟨"BlockCounterLaw", "rewrite", "(LBlockCounter;[J)I"⟩
def hh_L_rewrite : List (Nat × Nat × Nat × Nat) := [(0, 8, 11, 21), (0, 8, 14, 30)]
def ws_L_rewrite : List Cond := .codeWith y_L_rewrite method_8_code 3 (some .int) hh_L_rewrite :: evW
theorem d_L_rewrite_11 : decode method_8_code 11 = .ok (.astore_n 2, 1) := by decide +kernel
theorem d_L_rewrite_14 : decode method_8_code 14 = .ok (.astore_n 2, 1) := by decide +kernel
theorem d_L_rewrite_0 : decode method_8_code 0 = .ok (.aload_n 1, 1) := by decide +kernel
theorem d_L_rewrite_1 : decode method_8_code 1 = .ok (.iconst 0, 1) := by decide +kernel
theorem d_L_rewrite_2 : decode method_8_code 2 = .ok (.aload_n 0, 1) := by decide +kernel
theorem d_L_rewrite_3 : decode method_8_code 3 = .ok (.invokevirtual 35, 3) := by decide +kernel
theorem d_L_rewrite_6 : decode method_8_code 6 = .ok (.i2l, 1) := by decide +kernel
theorem d_L_rewrite_7 : decode method_8_code 7 = .ok (.lastore, 1) := by decide +kernel
theorem d_L_rewrite_8 : decode method_8_code 8 = .ok (.goto 9, 3) := by decide +kernel
theorem d_L_rewrite_12 : decode method_8_code 12 = .ok (.iconst 1, 1) := by decide +kernel
theorem d_L_rewrite_13 : decode method_8_code 13 = .ok (.ireturn, 1) := by decide +kernel
theorem d_L_rewrite_15 : decode method_8_code 15 = .ok (.iconst 2, 1) := by decide +kernel
theorem d_L_rewrite_16 : decode method_8_code 16 = .ok (.ireturn, 1) := by decide +kernel
theorem d_L_rewrite_17 : decode method_8_code 17 = .ok (.iconst 0, 1) := by decide +kernel
theorem d_L_rewrite_18 : decode method_8_code 18 = .ok (.ireturn, 1) := by decide +kernel
def I_L_rewrite (P : Int32 → ev_M → ev_L → Prop) : List (Nat × ev_T) := [(0, tt_al 1 1),
  (1, tt_k 0 2),
  (2, tt_al 0 3),
  (3, tt_xV evLY 6 0 ev_i pre_B_rewrite post_B_rewrite px_B_rewrite [(2, 12, 2), (3, 15, 2)] 6),
  (6, tt_i2l 7),
  (7, tt_las evLY 8),
  (8, tt_go 17),
  (12, tt_k 1 13),
  (13, tt_ri1 P),
  (15, tt_k 2 16),
  (16, tt_ri1 P),
  (17, tt_k 0 18),
  (18, tt_ri1 P)]
abbrev rm_L_rewrite : Room := { frames := 7, cells := 1, slots := 6, locals := 224 }
set_option maxRecDepth 20000 in
theorem ok_L_rewrite (l : Launch) (hst : l.stackTraces = false) (J : ev_K) (P : Int32 → ev_M → ev_L → Prop) (X9 : ex_X l rm_L_rewrite evLY evCl ws_L_rewrite method_8_code 3 y_L_rewrite.cls (tableOf hh_L_rewrite) 1 J) (Z : ex_Z1 J method_8_code P) : ev_oks J (I_L_rewrite P) := by
  have X := ex_X_ev X9
  exact ⟨qq_aln X 1 rfl d_L_rewrite_0,
  qq_ic X 0 (by decide) d_L_rewrite_1,
  qq_aln X 0 rfl d_L_rewrite_2,
  qq_xV X9 6 rfl (c_B_rewrite l hst) (fun hts => cwV 0 hts (evGV (mw_515) (mw_516) (mw_517) (mw_1) (mw_518)) rfl rfl rfl (by decide +kernel) ⟨Nat.le_of_ble_eq_true rfl, Nat.le_of_ble_eq_true rfl⟩) d_L_rewrite_3 (List.forall_mem_cons.mpr ⟨⟨[], ⟨0, 8, 11, 21⟩, [⟨0, 8, 14, 30⟩], rfl, fun z hz => absurd hz List.not_mem_nil, by decide, by decide, List.mem_cons_of_mem _ mw_329, by decide, Or.inl ⟨2, d_L_rewrite_11, rfl, rfl⟩⟩, List.forall_mem_cons.mpr ⟨⟨[⟨0, 8, 11, 21⟩], ⟨0, 8, 14, 30⟩, [], rfl, fun z hz => by rw [List.mem_singleton.mp hz]; exact ⟨by decide, 2, List.mem_cons_of_mem _ mw_329, by decide⟩, by decide, by decide, List.mem_cons_of_mem _ mw_390, by decide, Or.inl ⟨2, d_L_rewrite_14, rfl, rfl⟩⟩, fun q hq => absurd hq List.not_mem_nil⟩⟩),
  qq_i2l X d_L_rewrite_6,
  qq_las X d_L_rewrite_7,
  qq_go X 17 (by decide) d_L_rewrite_8,
  qq_ic X 1 (by decide) d_L_rewrite_12,
  qq_ri1 Z d_L_rewrite_13,
  qq_ic X 2 (by decide) d_L_rewrite_15,
  qq_ri1 Z d_L_rewrite_16,
  qq_ic X 0 (by decide) d_L_rewrite_17,
  qq_ri1 Z d_L_rewrite_18, trivial⟩
def pre_L_rewrite : List Value → ev_M → ev_L → Prop := fun as σ τ => as = [.ref 0, .ref 48] ∧ pre_B_rewrite [.ref 0] σ τ
def post_L_rewrite : List Value → ev_M → ev_L → Int32 → ev_M → ev_L → Prop := fun as σ τ r σ' τ' => match as with
  | [_, _] => (∃ v τ1, post_B_rewrite [.ref 0] σ τ v σ' τ1 ∧ r = 0 ∧ τ' = ev_w τ1 48 0 v.toInt64) ∨ (∃ k, px_B_rewrite [.ref 0] σ τ k σ' τ' ∧ r = (if k = 2 then 1 else 2))
  | _ => False
set_option maxHeartbeats 4000000 in
set_option maxRecDepth 100000 in
theorem c_L_rewrite (l : Launch) (hst : l.stackTraces = false) : ex_H ev_i l y_L_rewrite ws_L_rewrite rm_L_rewrite evLY evCl pre_L_rewrite post_L_rewrite := by
  refine ex_methH (by decide) rfl ?_ ⟨by decide, by decide⟩ I_L_rewrite (ok_L_rewrite l hst) 60 ?_
  · rintro _ σ τ ⟨rfl, hp⟩
    exact Nat.le_of_ble_eq_true rfl
  · rintro _ σ τ ⟨rfl, hp⟩
    refine ⟨hp, ?_, ?_⟩
    · rintro v σ1 τ1 hq
      exact ⟨vp_in01, Or.inl ⟨v, τ1, hq, rfl, rfl⟩⟩
    · rintro k σ1 τ1 hq
      have hk : k = 2 ∨ k = 3 := by
        rcases hq.1 with q | q
        · exact Or.inl q.1
        · exact Or.inr q.1
      rcases hk with rfl | rfl
      · exact Or.inr ⟨2, hq, rfl⟩
      · exact Or.inr ⟨3, hq, rfl⟩
def y_L_code : MethodName := ⟨"BlockCounterLaw", "code", "(LBlockCounter;IZ[J)I"⟩
def hh_L_code : List (Nat × Nat × Nat × Nat) := [(0, 10, 13, 13), (0, 10, 17, 21)]
def ws_L_code : List Cond := .codeWith y_L_code method_9_code 5 (some .int) hh_L_code :: evW
theorem d_L_code_13 : decode method_9_code 13 = .ok (.astore 4, 2) := by decide +kernel
theorem d_L_code_17 : decode method_9_code 17 = .ok (.astore 4, 2) := by decide +kernel
theorem d_L_code_0 : decode method_9_code 0 = .ok (.aload_n 3, 1) := by decide +kernel
theorem d_L_code_1 : decode method_9_code 1 = .ok (.iconst 0, 1) := by decide +kernel
theorem d_L_code_2 : decode method_9_code 2 = .ok (.aload_n 0, 1) := by decide +kernel
theorem d_L_code_3 : decode method_9_code 3 = .ok (.iload_n 1, 1) := by decide +kernel
theorem d_L_code_4 : decode method_9_code 4 = .ok (.iload_n 2, 1) := by decide +kernel
theorem d_L_code_5 : decode method_9_code 5 = .ok (.invokevirtual 38, 3) := by decide +kernel
theorem d_L_code_8 : decode method_9_code 8 = .ok (.i2l, 1) := by decide +kernel
theorem d_L_code_9 : decode method_9_code 9 = .ok (.lastore, 1) := by decide +kernel
theorem d_L_code_10 : decode method_9_code 10 = .ok (.goto 11, 3) := by decide +kernel
theorem d_L_code_15 : decode method_9_code 15 = .ok (.iconst 1, 1) := by decide +kernel
theorem d_L_code_16 : decode method_9_code 16 = .ok (.ireturn, 1) := by decide +kernel
theorem d_L_code_19 : decode method_9_code 19 = .ok (.iconst 2, 1) := by decide +kernel
theorem d_L_code_20 : decode method_9_code 20 = .ok (.ireturn, 1) := by decide +kernel
theorem d_L_code_21 : decode method_9_code 21 = .ok (.iconst 0, 1) := by decide +kernel
theorem d_L_code_22 : decode method_9_code 22 = .ok (.ireturn, 1) := by decide +kernel
def I_L_code (P : Int32 → ev_M → ev_L → Prop) : List (Nat × ev_T) := [(0, tt_al 3 1),
  (1, tt_k 0 2),
  (2, tt_al 0 3),
  (3, tt_il 1 4),
  (4, tt_il 2 5),
  (5, tt_xV evLY 6 2 ev_i pre_B_code post_B_code px_B_code [(0, 15, 4), (2, 19, 4)] 8),
  (8, tt_i2l 9),
  (9, tt_las evLY 10),
  (10, tt_go 21),
  (15, tt_k 1 16),
  (16, tt_ri1 P),
  (19, tt_k 2 20),
  (20, tt_ri1 P),
  (21, tt_k 0 22),
  (22, tt_ri1 P)]
abbrev rm_L_code : Room := { frames := 7, cells := 1, slots := 6, locals := 224 }
set_option maxRecDepth 20000 in
theorem ok_L_code (l : Launch) (hst : l.stackTraces = false) (J : ev_K) (P : Int32 → ev_M → ev_L → Prop) (X9 : ex_X l rm_L_code evLY evCl ws_L_code method_9_code 5 y_L_code.cls (tableOf hh_L_code) 1 J) (Z : ex_Z1 J method_9_code P) : ev_oks J (I_L_code P) := by
  have X := ex_X_ev X9
  exact ⟨qq_aln X 3 rfl d_L_code_0,
  qq_ic X 0 (by decide) d_L_code_1,
  qq_aln X 0 rfl d_L_code_2,
  qq_iln X 1 rfl d_L_code_3,
  qq_iln X 2 rfl d_L_code_4,
  qq_xV X9 6 rfl (c_B_code l hst) (fun hts => cwV 2 hts (evGV (mw_584) (mw_585) (mw_586) (mw_1) (mw_587)) rfl rfl rfl (by decide +kernel) ⟨Nat.le_of_ble_eq_true rfl, Nat.le_of_ble_eq_true rfl⟩) d_L_code_5 (List.forall_mem_cons.mpr ⟨⟨[], ⟨0, 10, 13, 13⟩, [⟨0, 10, 17, 21⟩], rfl, fun z hz => absurd hz List.not_mem_nil, by decide, by decide, List.mem_cons_of_mem _ mw_235, by decide, Or.inr ⟨d_L_code_13, rfl⟩⟩, List.forall_mem_cons.mpr ⟨⟨[⟨0, 10, 13, 13⟩], ⟨0, 10, 17, 21⟩, [], rfl, fun z hz => by rw [List.mem_singleton.mp hz]; exact ⟨by decide, 0, List.mem_cons_of_mem _ mw_235, by decide⟩, by decide, by decide, List.mem_cons_of_mem _ mw_329, by decide, Or.inr ⟨d_L_code_17, rfl⟩⟩, fun q hq => absurd hq List.not_mem_nil⟩⟩),
  qq_i2l X d_L_code_8,
  qq_las X d_L_code_9,
  qq_go X 21 (by decide) d_L_code_10,
  qq_ic X 1 (by decide) d_L_code_15,
  qq_ri1 Z d_L_code_16,
  qq_ic X 2 (by decide) d_L_code_19,
  qq_ri1 Z d_L_code_20,
  qq_ic X 0 (by decide) d_L_code_21,
  qq_ri1 Z d_L_code_22, trivial⟩
def pre_L_code : List Value → ev_M → ev_L → Prop := fun as σ τ => ∃ p0 p1 : Int32, as = [.ref 0, .int p0, .int p1, .ref 48] ∧ pre_B_code [.ref 0, .int p0, .int p1] σ τ
def post_L_code : List Value → ev_M → ev_L → Int32 → ev_M → ev_L → Prop := fun as σ τ r σ' τ' => match as with
  | [_, .int p0, .int p1, _] => (∃ v τ1, post_B_code [.ref 0, .int p0, .int p1] σ τ v σ' τ1 ∧ r = 0 ∧ τ' = ev_w τ1 48 0 v.toInt64) ∨ (∃ k, px_B_code [.ref 0, .int p0, .int p1] σ τ k σ' τ' ∧ r = (if k = 0 then 1 else 2))
  | _ => False
set_option maxHeartbeats 4000000 in
set_option maxRecDepth 100000 in
theorem c_L_code (l : Launch) (hst : l.stackTraces = false) : ex_H ev_i l y_L_code ws_L_code rm_L_code evLY evCl pre_L_code post_L_code := by
  refine ex_methH (by decide) rfl ?_ ⟨by decide, by decide⟩ I_L_code (ok_L_code l hst) 60 ?_
  · rintro _ σ τ ⟨p0, p1, rfl, hp⟩
    exact Nat.le_of_ble_eq_true rfl
  · rintro _ σ τ ⟨p0, p1, rfl, hp⟩
    refine ⟨hp, ?_, ?_⟩
    · rintro v σ1 τ1 hq
      exact ⟨vp_in01, Or.inl ⟨v, τ1, hq, rfl, rfl⟩⟩
    · rintro k σ1 τ1 hq
      have hk : k = 0 ∨ k = 2 := by
        rcases hq.1 with q | q
        · exact Or.inl q.1
        · exact Or.inr q.1
      rcases hk with rfl | rfl
      · exact Or.inr ⟨0, hq, rfl⟩
      · exact Or.inr ⟨2, hq, rfl⟩
def y_L_run : MethodName := ⟨"BlockCounterLaw", "run", "(LBlockCounter;ZI[J)I"⟩
def hh_L_run : List (Nat × Nat × Nat × Nat) := [(0, 10, 13, 19), (0, 10, 17, 21)]
def ws_L_run : List Cond := .codeWith y_L_run method_10_code 5 (some .int) hh_L_run :: evW
theorem d_L_run_13 : decode method_10_code 13 = .ok (.astore 4, 2) := by decide +kernel
theorem d_L_run_17 : decode method_10_code 17 = .ok (.astore 4, 2) := by decide +kernel
theorem d_L_run_0 : decode method_10_code 0 = .ok (.aload_n 3, 1) := by decide +kernel
theorem d_L_run_1 : decode method_10_code 1 = .ok (.iconst 0, 1) := by decide +kernel
theorem d_L_run_2 : decode method_10_code 2 = .ok (.aload_n 0, 1) := by decide +kernel
theorem d_L_run_3 : decode method_10_code 3 = .ok (.iload_n 1, 1) := by decide +kernel
theorem d_L_run_4 : decode method_10_code 4 = .ok (.iload_n 2, 1) := by decide +kernel
theorem d_L_run_5 : decode method_10_code 5 = .ok (.invokevirtual 42, 3) := by decide +kernel
theorem d_L_run_8 : decode method_10_code 8 = .ok (.i2l, 1) := by decide +kernel
theorem d_L_run_9 : decode method_10_code 9 = .ok (.lastore, 1) := by decide +kernel
theorem d_L_run_10 : decode method_10_code 10 = .ok (.goto 11, 3) := by decide +kernel
theorem d_L_run_15 : decode method_10_code 15 = .ok (.iconst 1, 1) := by decide +kernel
theorem d_L_run_16 : decode method_10_code 16 = .ok (.ireturn, 1) := by decide +kernel
theorem d_L_run_19 : decode method_10_code 19 = .ok (.iconst 2, 1) := by decide +kernel
theorem d_L_run_20 : decode method_10_code 20 = .ok (.ireturn, 1) := by decide +kernel
theorem d_L_run_21 : decode method_10_code 21 = .ok (.iconst 0, 1) := by decide +kernel
theorem d_L_run_22 : decode method_10_code 22 = .ok (.ireturn, 1) := by decide +kernel
def I_L_run (P : Int32 → ev_M → ev_L → Prop) : List (Nat × ev_T) := [(0, tt_al 3 1),
  (1, tt_k 0 2),
  (2, tt_al 0 3),
  (3, tt_il 1 4),
  (4, tt_il 2 5),
  (5, tt_xV evLY 6 2 ev_i pre_B_run post_B_run px_B_run [(1, 15, 4), (2, 19, 4)] 8),
  (8, tt_i2l 9),
  (9, tt_las evLY 10),
  (10, tt_go 21),
  (15, tt_k 1 16),
  (16, tt_ri1 P),
  (19, tt_k 2 20),
  (20, tt_ri1 P),
  (21, tt_k 0 22),
  (22, tt_ri1 P)]
abbrev rm_L_run : Room := { frames := 8, cells := 1, slots := 6, locals := 256 }
set_option maxRecDepth 20000 in
theorem ok_L_run (l : Launch) (hst : l.stackTraces = false) (J : ev_K) (P : Int32 → ev_M → ev_L → Prop) (X9 : ex_X l rm_L_run evLY evCl ws_L_run method_10_code 5 y_L_run.cls (tableOf hh_L_run) 1 J) (Z : ex_Z1 J method_10_code P) : ev_oks J (I_L_run P) := by
  have X := ex_X_ev X9
  exact ⟨qq_aln X 3 rfl d_L_run_0,
  qq_ic X 0 (by decide) d_L_run_1,
  qq_aln X 0 rfl d_L_run_2,
  qq_iln X 1 rfl d_L_run_3,
  qq_iln X 2 rfl d_L_run_4,
  qq_xV X9 6 rfl (c_B_run l hst) (fun hts => cwV 2 hts (evGV (mw_602) (mw_603) (mw_604) (mw_1) (mw_605)) rfl rfl rfl (by decide +kernel) ⟨Nat.le_of_ble_eq_true rfl, Nat.le_of_ble_eq_true rfl⟩) d_L_run_5 (List.forall_mem_cons.mpr ⟨⟨[], ⟨0, 10, 13, 19⟩, [⟨0, 10, 17, 21⟩], rfl, fun z hz => absurd hz List.not_mem_nil, by decide, by decide, List.mem_cons_of_mem _ mw_328, by decide, Or.inr ⟨d_L_run_13, rfl⟩⟩, List.forall_mem_cons.mpr ⟨⟨[⟨0, 10, 13, 19⟩], ⟨0, 10, 17, 21⟩, [], rfl, fun z hz => by rw [List.mem_singleton.mp hz]; exact ⟨by decide, 1, List.mem_cons_of_mem _ mw_328, by decide⟩, by decide, by decide, List.mem_cons_of_mem _ mw_329, by decide, Or.inr ⟨d_L_run_17, rfl⟩⟩, fun q hq => absurd hq List.not_mem_nil⟩⟩),
  qq_i2l X d_L_run_8,
  qq_las X d_L_run_9,
  qq_go X 21 (by decide) d_L_run_10,
  qq_ic X 1 (by decide) d_L_run_15,
  qq_ri1 Z d_L_run_16,
  qq_ic X 2 (by decide) d_L_run_19,
  qq_ri1 Z d_L_run_20,
  qq_ic X 0 (by decide) d_L_run_21,
  qq_ri1 Z d_L_run_22, trivial⟩
def pre_L_run : List Value → ev_M → ev_L → Prop := fun as σ τ => ∃ p0 p1 : Int32, as = [.ref 0, .int p0, .int p1, .ref 48] ∧ pre_B_run [.ref 0, .int p0, .int p1] σ τ
def post_L_run : List Value → ev_M → ev_L → Int32 → ev_M → ev_L → Prop := fun as σ τ r σ' τ' => match as with
  | [_, .int p0, .int p1, _] => (∃ v τ1, post_B_run [.ref 0, .int p0, .int p1] σ τ v σ' τ1 ∧ r = 0 ∧ τ' = ev_w τ1 48 0 v.toInt64) ∨ (∃ k, px_B_run [.ref 0, .int p0, .int p1] σ τ k σ' τ' ∧ r = (if k = 1 then 1 else 2))
  | _ => False
set_option maxHeartbeats 4000000 in
set_option maxRecDepth 100000 in
theorem c_L_run (l : Launch) (hst : l.stackTraces = false) : ex_H ev_i l y_L_run ws_L_run rm_L_run evLY evCl pre_L_run post_L_run := by
  refine ex_methH (by decide) rfl ?_ ⟨by decide, by decide⟩ I_L_run (ok_L_run l hst) 60 ?_
  · rintro _ σ τ ⟨p0, p1, rfl, hp⟩
    exact Nat.le_of_ble_eq_true rfl
  · rintro _ σ τ ⟨p0, p1, rfl, hp⟩
    refine ⟨hp, ?_, ?_⟩
    · rintro v σ1 τ1 hq
      exact ⟨vp_in01, Or.inl ⟨v, τ1, hq, rfl, rfl⟩⟩
    · rintro k σ1 τ1 hq
      have hk : k = 1 ∨ k = 2 := by
        rcases hq.1 with q | q
        · exact Or.inl q.1
        · exact Or.inr q.1
      rcases hk with rfl | rfl
      · exact Or.inr ⟨1, hq, rfl⟩
      · exact Or.inr ⟨2, hq, rfl⟩
def y_L_register : MethodName := ⟨"BlockCounterLaw", "register", "(LBlockCounter;I[J)I"⟩
def hh_L_register : List (Nat × Nat × Nat × Nat) := [(0, 9, 12, 13)]
def ws_L_register : List Cond := .codeWith y_L_register method_11_code 4 (some .int) hh_L_register :: evW
theorem d_L_register_12 : decode method_11_code 12 = .ok (.astore_n 3, 1) := by decide +kernel
theorem d_L_register_0 : decode method_11_code 0 = .ok (.aload_n 2, 1) := by decide +kernel
theorem d_L_register_1 : decode method_11_code 1 = .ok (.iconst 0, 1) := by decide +kernel
theorem d_L_register_2 : decode method_11_code 2 = .ok (.aload_n 0, 1) := by decide +kernel
theorem d_L_register_3 : decode method_11_code 3 = .ok (.iload_n 1, 1) := by decide +kernel
theorem d_L_register_4 : decode method_11_code 4 = .ok (.invokevirtual 46, 3) := by decide +kernel
theorem d_L_register_7 : decode method_11_code 7 = .ok (.i2l, 1) := by decide +kernel
theorem d_L_register_8 : decode method_11_code 8 = .ok (.lastore, 1) := by decide +kernel
theorem d_L_register_9 : decode method_11_code 9 = .ok (.goto 6, 3) := by decide +kernel
theorem d_L_register_13 : decode method_11_code 13 = .ok (.iconst 1, 1) := by decide +kernel
theorem d_L_register_14 : decode method_11_code 14 = .ok (.ireturn, 1) := by decide +kernel
theorem d_L_register_15 : decode method_11_code 15 = .ok (.iconst 0, 1) := by decide +kernel
theorem d_L_register_16 : decode method_11_code 16 = .ok (.ireturn, 1) := by decide +kernel
def I_L_register (P : Int32 → ev_M → ev_L → Prop) : List (Nat × ev_T) := [(0, tt_al 2 1),
  (1, tt_k 0 2),
  (2, tt_al 0 3),
  (3, tt_il 1 4),
  (4, tt_xV evLY 6 1 ev_i pre_B_register post_B_register px_B_register [(0, 13, 3)] 7),
  (7, tt_i2l 8),
  (8, tt_las evLY 9),
  (9, tt_go 15),
  (13, tt_k 1 14),
  (14, tt_ri1 P),
  (15, tt_k 0 16),
  (16, tt_ri1 P)]
abbrev rm_L_register : Room := { frames := 7, cells := 1, slots := 6, locals := 224 }
set_option maxRecDepth 20000 in
theorem ok_L_register (l : Launch) (hst : l.stackTraces = false) (J : ev_K) (P : Int32 → ev_M → ev_L → Prop) (X9 : ex_X l rm_L_register evLY evCl ws_L_register method_11_code 4 y_L_register.cls (tableOf hh_L_register) 1 J) (Z : ex_Z1 J method_11_code P) : ev_oks J (I_L_register P) := by
  have X := ex_X_ev X9
  exact ⟨qq_aln X 2 rfl d_L_register_0,
  qq_ic X 0 (by decide) d_L_register_1,
  qq_aln X 0 rfl d_L_register_2,
  qq_iln X 1 rfl d_L_register_3,
  qq_xV X9 6 rfl (c_B_register l hst) (fun hts => cwV 1 hts (evGV (mw_692) (mw_693) (mw_694) (mw_1) (mw_695)) rfl rfl rfl (by decide +kernel) ⟨Nat.le_of_ble_eq_true rfl, Nat.le_of_ble_eq_true rfl⟩) d_L_register_4 (List.forall_mem_cons.mpr ⟨⟨[], ⟨0, 9, 12, 13⟩, [], rfl, fun z hz => absurd hz List.not_mem_nil, by decide, by decide, List.mem_cons_of_mem _ mw_235, by decide, Or.inl ⟨3, d_L_register_12, rfl, rfl⟩⟩, fun q hq => absurd hq List.not_mem_nil⟩),
  qq_i2l X d_L_register_7,
  qq_las X d_L_register_8,
  qq_go X 15 (by decide) d_L_register_9,
  qq_ic X 1 (by decide) d_L_register_13,
  qq_ri1 Z d_L_register_14,
  qq_ic X 0 (by decide) d_L_register_15,
  qq_ri1 Z d_L_register_16, trivial⟩
def pre_L_register : List Value → ev_M → ev_L → Prop := fun as σ τ => ∃ p0 : Int32, as = [.ref 0, .int p0, .ref 48] ∧ pre_B_register [.ref 0, .int p0] σ τ
def post_L_register : List Value → ev_M → ev_L → Int32 → ev_M → ev_L → Prop := fun as σ τ r σ' τ' => match as with
  | [_, .int p0, _] => (∃ v τ1, post_B_register [.ref 0, .int p0] σ τ v σ' τ1 ∧ r = 0 ∧ τ' = ev_w τ1 48 0 v.toInt64) ∨ (∃ k, px_B_register [.ref 0, .int p0] σ τ k σ' τ' ∧ r = 1)
  | _ => False
set_option maxHeartbeats 4000000 in
set_option maxRecDepth 100000 in
theorem c_L_register (l : Launch) (hst : l.stackTraces = false) : ex_H ev_i l y_L_register ws_L_register rm_L_register evLY evCl pre_L_register post_L_register := by
  refine ex_methH (by decide) rfl ?_ ⟨by decide, by decide⟩ I_L_register (ok_L_register l hst) 60 ?_
  · rintro _ σ τ ⟨p0, rfl, hp⟩
    exact Nat.le_of_ble_eq_true rfl
  · rintro _ σ τ ⟨p0, rfl, hp⟩
    refine ⟨hp, ?_, ?_⟩
    · rintro v σ1 τ1 hq
      exact ⟨vp_in01, Or.inl ⟨v, τ1, hq, rfl, rfl⟩⟩
    · rintro k σ1 τ1 hq
      have hk : k = 0 := hq.1
      subst hk
      exact Or.inr ⟨0, hq, rfl⟩
def y_L_cell : MethodName := ⟨"BlockCounterLaw", "cell", "(LBlockCounter;I[J)I"⟩
def hh_L_cell : List (Nat × Nat × Nat × Nat) := [(0, 9, 12, 13)]
def ws_L_cell : List Cond := .codeWith y_L_cell method_12_code 4 (some .int) hh_L_cell :: evW
theorem d_L_cell_12 : decode method_12_code 12 = .ok (.astore_n 3, 1) := by decide +kernel
theorem d_L_cell_0 : decode method_12_code 0 = .ok (.aload_n 2, 1) := by decide +kernel
theorem d_L_cell_1 : decode method_12_code 1 = .ok (.iconst 0, 1) := by decide +kernel
theorem d_L_cell_2 : decode method_12_code 2 = .ok (.aload_n 0, 1) := by decide +kernel
theorem d_L_cell_3 : decode method_12_code 3 = .ok (.iload_n 1, 1) := by decide +kernel
theorem d_L_cell_4 : decode method_12_code 4 = .ok (.invokevirtual 50, 3) := by decide +kernel
theorem d_L_cell_7 : decode method_12_code 7 = .ok (.i2l, 1) := by decide +kernel
theorem d_L_cell_8 : decode method_12_code 8 = .ok (.lastore, 1) := by decide +kernel
theorem d_L_cell_9 : decode method_12_code 9 = .ok (.goto 6, 3) := by decide +kernel
theorem d_L_cell_13 : decode method_12_code 13 = .ok (.iconst 1, 1) := by decide +kernel
theorem d_L_cell_14 : decode method_12_code 14 = .ok (.ireturn, 1) := by decide +kernel
theorem d_L_cell_15 : decode method_12_code 15 = .ok (.iconst 0, 1) := by decide +kernel
theorem d_L_cell_16 : decode method_12_code 16 = .ok (.ireturn, 1) := by decide +kernel
def I_L_cell (P : Int32 → ev_M → ev_L → Prop) : List (Nat × ev_T) := [(0, tt_al 2 1),
  (1, tt_k 0 2),
  (2, tt_al 0 3),
  (3, tt_il 1 4),
  (4, tt_xV evLY 6 1 ev_i pre_B_cell post_B_cell px_B_cell [(0, 13, 3)] 7),
  (7, tt_i2l 8),
  (8, tt_las evLY 9),
  (9, tt_go 15),
  (13, tt_k 1 14),
  (14, tt_ri1 P),
  (15, tt_k 0 16),
  (16, tt_ri1 P)]
abbrev rm_L_cell : Room := { frames := 7, cells := 1, slots := 6, locals := 224 }
set_option maxRecDepth 20000 in
theorem ok_L_cell (l : Launch) (hst : l.stackTraces = false) (J : ev_K) (P : Int32 → ev_M → ev_L → Prop) (X9 : ex_X l rm_L_cell evLY evCl ws_L_cell method_12_code 4 y_L_cell.cls (tableOf hh_L_cell) 1 J) (Z : ex_Z1 J method_12_code P) : ev_oks J (I_L_cell P) := by
  have X := ex_X_ev X9
  exact ⟨qq_aln X 2 rfl d_L_cell_0,
  qq_ic X 0 (by decide) d_L_cell_1,
  qq_aln X 0 rfl d_L_cell_2,
  qq_iln X 1 rfl d_L_cell_3,
  qq_xV X9 6 rfl (c_B_cell l hst) (fun hts => cwV 1 hts (evGV (mw_716) (mw_717) (mw_718) (mw_1) (mw_719)) rfl rfl rfl (by decide +kernel) ⟨Nat.le_of_ble_eq_true rfl, Nat.le_of_ble_eq_true rfl⟩) d_L_cell_4 (List.forall_mem_cons.mpr ⟨⟨[], ⟨0, 9, 12, 13⟩, [], rfl, fun z hz => absurd hz List.not_mem_nil, by decide, by decide, List.mem_cons_of_mem _ mw_235, by decide, Or.inl ⟨3, d_L_cell_12, rfl, rfl⟩⟩, fun q hq => absurd hq List.not_mem_nil⟩),
  qq_i2l X d_L_cell_7,
  qq_las X d_L_cell_8,
  qq_go X 15 (by decide) d_L_cell_9,
  qq_ic X 1 (by decide) d_L_cell_13,
  qq_ri1 Z d_L_cell_14,
  qq_ic X 0 (by decide) d_L_cell_15,
  qq_ri1 Z d_L_cell_16, trivial⟩
def pre_L_cell : List Value → ev_M → ev_L → Prop := fun as σ τ => ∃ p0 : Int32, as = [.ref 0, .int p0, .ref 48] ∧ pre_B_cell [.ref 0, .int p0] σ τ
def post_L_cell : List Value → ev_M → ev_L → Int32 → ev_M → ev_L → Prop := fun as σ τ r σ' τ' => match as with
  | [_, .int p0, _] => (∃ v τ1, post_B_cell [.ref 0, .int p0] σ τ v σ' τ1 ∧ r = 0 ∧ τ' = ev_w τ1 48 0 v.toInt64) ∨ (∃ k, px_B_cell [.ref 0, .int p0] σ τ k σ' τ' ∧ r = 1)
  | _ => False
set_option maxHeartbeats 4000000 in
set_option maxRecDepth 100000 in
theorem c_L_cell (l : Launch) (hst : l.stackTraces = false) : ex_H ev_i l y_L_cell ws_L_cell rm_L_cell evLY evCl pre_L_cell post_L_cell := by
  refine ex_methH (by decide) rfl ?_ ⟨by decide, by decide⟩ I_L_cell (ok_L_cell l hst) 60 ?_
  · rintro _ σ τ ⟨p0, rfl, hp⟩
    exact Nat.le_of_ble_eq_true rfl
  · rintro _ σ τ ⟨p0, rfl, hp⟩
    refine ⟨hp, ?_, ?_⟩
    · rintro v σ1 τ1 hq
      exact ⟨vp_in01, Or.inl ⟨v, τ1, hq, rfl, rfl⟩⟩
    · rintro k σ1 τ1 hq
      have hk : k = 0 := hq.1
      subst hk
      exact Or.inr ⟨0, hq, rfl⟩
def y_L_output : MethodName := ⟨"BlockCounterLaw", "output", "(LBlockCounter;I[J)I"⟩
def hh_L_output : List (Nat × Nat × Nat × Nat) := [(0, 9, 12, 13)]
def ws_L_output : List Cond := .codeWith y_L_output method_13_code 4 (some .int) hh_L_output :: evW
theorem d_L_output_12 : decode method_13_code 12 = .ok (.astore_n 3, 1) := by decide +kernel
theorem d_L_output_0 : decode method_13_code 0 = .ok (.aload_n 2, 1) := by decide +kernel
theorem d_L_output_1 : decode method_13_code 1 = .ok (.iconst 0, 1) := by decide +kernel
theorem d_L_output_2 : decode method_13_code 2 = .ok (.aload_n 0, 1) := by decide +kernel
theorem d_L_output_3 : decode method_13_code 3 = .ok (.iload_n 1, 1) := by decide +kernel
theorem d_L_output_4 : decode method_13_code 4 = .ok (.invokevirtual 53, 3) := by decide +kernel
theorem d_L_output_7 : decode method_13_code 7 = .ok (.i2l, 1) := by decide +kernel
theorem d_L_output_8 : decode method_13_code 8 = .ok (.lastore, 1) := by decide +kernel
theorem d_L_output_9 : decode method_13_code 9 = .ok (.goto 6, 3) := by decide +kernel
theorem d_L_output_13 : decode method_13_code 13 = .ok (.iconst 1, 1) := by decide +kernel
theorem d_L_output_14 : decode method_13_code 14 = .ok (.ireturn, 1) := by decide +kernel
theorem d_L_output_15 : decode method_13_code 15 = .ok (.iconst 0, 1) := by decide +kernel
theorem d_L_output_16 : decode method_13_code 16 = .ok (.ireturn, 1) := by decide +kernel
def I_L_output (P : Int32 → ev_M → ev_L → Prop) : List (Nat × ev_T) := [(0, tt_al 2 1),
  (1, tt_k 0 2),
  (2, tt_al 0 3),
  (3, tt_il 1 4),
  (4, tt_xV evLY 6 1 ev_i pre_B_output post_B_output px_B_output [(0, 13, 3)] 7),
  (7, tt_i2l 8),
  (8, tt_las evLY 9),
  (9, tt_go 15),
  (13, tt_k 1 14),
  (14, tt_ri1 P),
  (15, tt_k 0 16),
  (16, tt_ri1 P)]
abbrev rm_L_output : Room := { frames := 7, cells := 1, slots := 6, locals := 224 }
set_option maxRecDepth 20000 in
theorem ok_L_output (l : Launch) (hst : l.stackTraces = false) (J : ev_K) (P : Int32 → ev_M → ev_L → Prop) (X9 : ex_X l rm_L_output evLY evCl ws_L_output method_13_code 4 y_L_output.cls (tableOf hh_L_output) 1 J) (Z : ex_Z1 J method_13_code P) : ev_oks J (I_L_output P) := by
  have X := ex_X_ev X9
  exact ⟨qq_aln X 2 rfl d_L_output_0,
  qq_ic X 0 (by decide) d_L_output_1,
  qq_aln X 0 rfl d_L_output_2,
  qq_iln X 1 rfl d_L_output_3,
  qq_xV X9 6 rfl (c_B_output l hst) (fun hts => cwV 1 hts (evGV (mw_727) (mw_728) (mw_729) (mw_1) (mw_730)) rfl rfl rfl (by decide +kernel) ⟨Nat.le_of_ble_eq_true rfl, Nat.le_of_ble_eq_true rfl⟩) d_L_output_4 (List.forall_mem_cons.mpr ⟨⟨[], ⟨0, 9, 12, 13⟩, [], rfl, fun z hz => absurd hz List.not_mem_nil, by decide, by decide, List.mem_cons_of_mem _ mw_235, by decide, Or.inl ⟨3, d_L_output_12, rfl, rfl⟩⟩, fun q hq => absurd hq List.not_mem_nil⟩),
  qq_i2l X d_L_output_7,
  qq_las X d_L_output_8,
  qq_go X 15 (by decide) d_L_output_9,
  qq_ic X 1 (by decide) d_L_output_13,
  qq_ri1 Z d_L_output_14,
  qq_ic X 0 (by decide) d_L_output_15,
  qq_ri1 Z d_L_output_16, trivial⟩
def pre_L_output : List Value → ev_M → ev_L → Prop := fun as σ τ => ∃ p0 : Int32, as = [.ref 0, .int p0, .ref 48] ∧ pre_B_output [.ref 0, .int p0] σ τ
def post_L_output : List Value → ev_M → ev_L → Int32 → ev_M → ev_L → Prop := fun as σ τ r σ' τ' => match as with
  | [_, .int p0, _] => (∃ v τ1, post_B_output [.ref 0, .int p0] σ τ v σ' τ1 ∧ r = 0 ∧ τ' = ev_w τ1 48 0 v.toInt64) ∨ (∃ k, px_B_output [.ref 0, .int p0] σ τ k σ' τ' ∧ r = 1)
  | _ => False
set_option maxHeartbeats 4000000 in
set_option maxRecDepth 100000 in
theorem c_L_output (l : Launch) (hst : l.stackTraces = false) : ex_H ev_i l y_L_output ws_L_output rm_L_output evLY evCl pre_L_output post_L_output := by
  refine ex_methH (by decide) rfl ?_ ⟨by decide, by decide⟩ I_L_output (ok_L_output l hst) 60 ?_
  · rintro _ σ τ ⟨p0, rfl, hp⟩
    exact Nat.le_of_ble_eq_true rfl
  · rintro _ σ τ ⟨p0, rfl, hp⟩
    refine ⟨hp, ?_, ?_⟩
    · rintro v σ1 τ1 hq
      exact ⟨vp_in01, Or.inl ⟨v, τ1, hq, rfl, rfl⟩⟩
    · rintro k σ1 τ1 hq
      have hk : k = 0 := hq.1
      subst hk
      exact Or.inr ⟨0, hq, rfl⟩
def y_L_counter : MethodName := ⟨"BlockCounterLaw", "counter", "(LBlockCounter;I[J)I"⟩
def hh_L_counter : List (Nat × Nat × Nat × Nat) := [(0, 8, 11, 13)]
def ws_L_counter : List Cond := .codeWith y_L_counter method_14_code 4 (some .int) hh_L_counter :: evW
theorem d_L_counter_11 : decode method_14_code 11 = .ok (.astore_n 3, 1) := by decide +kernel
theorem d_L_counter_0 : decode method_14_code 0 = .ok (.aload_n 2, 1) := by decide +kernel
theorem d_L_counter_1 : decode method_14_code 1 = .ok (.iconst 0, 1) := by decide +kernel
theorem d_L_counter_2 : decode method_14_code 2 = .ok (.aload_n 0, 1) := by decide +kernel
theorem d_L_counter_3 : decode method_14_code 3 = .ok (.iload_n 1, 1) := by decide +kernel
theorem d_L_counter_4 : decode method_14_code 4 = .ok (.invokevirtual 56, 3) := by decide +kernel
theorem d_L_counter_7 : decode method_14_code 7 = .ok (.lastore, 1) := by decide +kernel
theorem d_L_counter_8 : decode method_14_code 8 = .ok (.goto 6, 3) := by decide +kernel
theorem d_L_counter_12 : decode method_14_code 12 = .ok (.iconst 1, 1) := by decide +kernel
theorem d_L_counter_13 : decode method_14_code 13 = .ok (.ireturn, 1) := by decide +kernel
theorem d_L_counter_14 : decode method_14_code 14 = .ok (.iconst 0, 1) := by decide +kernel
theorem d_L_counter_15 : decode method_14_code 15 = .ok (.ireturn, 1) := by decide +kernel
def I_L_counter (P : Int32 → ev_M → ev_L → Prop) : List (Nat × ev_T) := [(0, tt_al 2 1),
  (1, tt_k 0 2),
  (2, tt_al 0 3),
  (3, tt_il 1 4),
  (4, tt_xV evLY 6 1 ev_l pre_B_counter post_B_counter px_B_counter [(0, 12, 3)] 7),
  (7, tt_las evLY 8),
  (8, tt_go 14),
  (12, tt_k 1 13),
  (13, tt_ri1 P),
  (14, tt_k 0 15),
  (15, tt_ri1 P)]
abbrev rm_L_counter : Room := { frames := 7, cells := 1, slots := 6, locals := 224 }
set_option maxRecDepth 20000 in
theorem ok_L_counter (l : Launch) (hst : l.stackTraces = false) (J : ev_K) (P : Int32 → ev_M → ev_L → Prop) (X9 : ex_X l rm_L_counter evLY evCl ws_L_counter method_14_code 4 y_L_counter.cls (tableOf hh_L_counter) 1 J) (Z : ex_Z1 J method_14_code P) : ev_oks J (I_L_counter P) := by
  have X := ex_X_ev X9
  exact ⟨qq_aln X 2 rfl d_L_counter_0,
  qq_ic X 0 (by decide) d_L_counter_1,
  qq_aln X 0 rfl d_L_counter_2,
  qq_iln X 1 rfl d_L_counter_3,
  qq_xV X9 6 rfl (c_B_counter l hst) (fun hts => cwV 1 hts (evGV (mw_739) (mw_740) (mw_741) (mw_1) (mw_742)) rfl rfl rfl (by decide +kernel) ⟨Nat.le_of_ble_eq_true rfl, Nat.le_of_ble_eq_true rfl⟩) d_L_counter_4 (List.forall_mem_cons.mpr ⟨⟨[], ⟨0, 8, 11, 13⟩, [], rfl, fun z hz => absurd hz List.not_mem_nil, by decide, by decide, List.mem_cons_of_mem _ mw_235, by decide, Or.inl ⟨3, d_L_counter_11, rfl, rfl⟩⟩, fun q hq => absurd hq List.not_mem_nil⟩),
  qq_las X d_L_counter_7,
  qq_go X 14 (by decide) d_L_counter_8,
  qq_ic X 1 (by decide) d_L_counter_12,
  qq_ri1 Z d_L_counter_13,
  qq_ic X 0 (by decide) d_L_counter_14,
  qq_ri1 Z d_L_counter_15, trivial⟩
def pre_L_counter : List Value → ev_M → ev_L → Prop := fun as σ τ => ∃ p0 : Int32, as = [.ref 0, .int p0, .ref 48] ∧ pre_B_counter [.ref 0, .int p0] σ τ
def post_L_counter : List Value → ev_M → ev_L → Int32 → ev_M → ev_L → Prop := fun as σ τ r σ' τ' => match as with
  | [_, .int p0, _] => (∃ v τ1, post_B_counter [.ref 0, .int p0] σ τ v σ' τ1 ∧ r = 0 ∧ τ' = ev_w τ1 48 0 v) ∨ (∃ k, px_B_counter [.ref 0, .int p0] σ τ k σ' τ' ∧ r = 1)
  | _ => False
set_option maxHeartbeats 4000000 in
set_option maxRecDepth 100000 in
theorem c_L_counter (l : Launch) (hst : l.stackTraces = false) : ex_H ev_i l y_L_counter ws_L_counter rm_L_counter evLY evCl pre_L_counter post_L_counter := by
  refine ex_methH (by decide) rfl ?_ ⟨by decide, by decide⟩ I_L_counter (ok_L_counter l hst) 60 ?_
  · rintro _ σ τ ⟨p0, rfl, hp⟩
    exact Nat.le_of_ble_eq_true rfl
  · rintro _ σ τ ⟨p0, rfl, hp⟩
    refine ⟨hp, ?_, ?_⟩
    · rintro v σ1 τ1 hq
      exact ⟨vp_in01, Or.inl ⟨v, τ1, hq, rfl, rfl⟩⟩
    · rintro k σ1 τ1 hq
      have hk : k = 0 := hq.1
      subst hk
      exact Or.inr ⟨0, hq, rfl⟩
