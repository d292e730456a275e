/-! Program -/
def y_P_at : MethodName := ⟨RX3, "at", "(I)I"⟩
def ws_P_at : List Cond := .code y_P_at prog_5_method_2_code 2 (some .int) :: evW
theorem d_P_at_0 : decode prog_5_method_2_code 0 = .ok (.iload_n 1, 1) := by decide +kernel
theorem d_P_at_1 : decode prog_5_method_2_code 1 = .ok (.ifCond .lt 19, 3) := by decide +kernel
theorem d_P_at_4 : decode prog_5_method_2_code 4 = .ok (.iload_n 1, 1) := by decide +kernel
theorem d_P_at_5 : decode prog_5_method_2_code 5 = .ok (.sipush 256, 3) := by decide +kernel
theorem d_P_at_8 : decode prog_5_method_2_code 8 = .ok (.if_icmp .ge 12, 3) := by decide +kernel
theorem d_P_at_11 : decode prog_5_method_2_code 11 = .ok (.aload_n 0, 1) := by decide +kernel
theorem d_P_at_12 : decode prog_5_method_2_code 12 = .ok (.getfield 9, 3) := by decide +kernel
theorem d_P_at_15 : decode prog_5_method_2_code 15 = .ok (.iload_n 1, 1) := by decide +kernel
theorem d_P_at_16 : decode prog_5_method_2_code 16 = .ok (.iaload, 1) := by decide +kernel
theorem d_P_at_17 : decode prog_5_method_2_code 17 = .ok (.goto 4, 3) := by decide +kernel
theorem d_P_at_20 : decode prog_5_method_2_code 20 = .ok (.iconst 0, 1) := by decide +kernel
theorem d_P_at_21 : decode prog_5_method_2_code 21 = .ok (.ireturn, 1) := by decide +kernel
def I_P_at (P : Int32 → ev_M → ev_L → Prop) : List (Nat × ev_T) := [(0, tt_il 1 1),
  (1, tt_iflt 20 4),
  (4, tt_il 1 5),
  (5, tt_k 256 8),
  (8, tt_icge 20 11),
  (11, tt_al 0 12),
  (12, tt_gf evLY 3 0 15),
  (15, tt_il 1 16),
  (16, tt_ia evLY 17),
  (17, tt_go 21),
  (20, tt_k 0 21),
  (21, tt_ri P)]
abbrev rm_P_at : Room := { frames := 0, cells := 0, slots := 0, locals := 0 }
set_option maxRecDepth 20000 in
theorem ok_P_at (l : Launch) (J : ev_K) (P : Int32 → ev_M → ev_L → Prop) (X : ev_X l rm_P_at evLY evCl ws_P_at prog_5_method_2_code 2 y_P_at.cls J) (Z : ev_Z J prog_5_method_2_code .ireturn ev_i P) : ev_oks J (I_P_at P) :=
  ⟨qq_iln X 1 rfl d_P_at_0,
  qq_iflt X 20 (by decide) d_P_at_1,
  qq_iln X 1 rfl d_P_at_4,
  qq_sp X 256 (by decide) d_P_at_5,
  qq_icge X 20 (by decide) d_P_at_8,
  qq_aln X 0 rfl d_P_at_11,
  qq_gf X 3 0 rfl (fun w h => List.mem_cons_of_mem _ (inE_P w h)) (by decide) (List.mem_cons_of_mem _ mw_33) d_P_at_12,
  qq_iln X 1 rfl d_P_at_15,
  qq_ia X d_P_at_16,
  qq_go X 21 (by decide) d_P_at_17,
  qq_ic X 0 (by decide) d_P_at_20,
  qq_ri Z d_P_at_21, trivial⟩
def pre_P_at : List Value → ev_M → ev_L → Prop := fun as _ _ => ∃ (k : Nat) (a : Int32), as = [.ref k, .int a] ∧ (k = 1 ∨ k = 20)
def post_P_at : List Value → ev_M → ev_L → Int32 → ev_M → ev_L → Prop := fun as σ τ r σ' τ' => match as with
  | [.ref k, .int a] => r = sp_at (σ (k + 1)) a ∧ σ' = σ ∧ τ' = τ
  | _ => False
set_option maxHeartbeats 4000000 in
set_option maxRecDepth 100000 in
theorem c_P_at (l : Launch) : ev_C ev_i l y_P_at ws_P_at rm_P_at evLY evCl pre_P_at post_P_at := by
  refine ev_meth0 (by decide) rfl ev_rop_i ?_ I_P_at (ok_P_at l) 30 ?_
  · rintro _ σ τ ⟨k, a, rfl, hk⟩
    exact Nat.le_refl _
  · rintro _ σ τ ⟨k, a, rfl, rfl | rfl⟩
    · refine br_c (fun h => ?_) (fun h => br_c (fun h2 => ?_) (fun h2 => ?_))
      · exact ⟨(sp_at_lo h).symm, rfl, rfl⟩
      · exact ⟨(sp_at_hi h2).symm, rfl, rfl⟩
      · exact ⟨i_vin rfl h h2, (sp_at_in h h2).symm, rfl, rfl⟩
    · refine br_c (fun h => ?_) (fun h => br_c (fun h2 => ?_) (fun h2 => ?_))
      · exact ⟨(sp_at_lo h).symm, rfl, rfl⟩
      · exact ⟨(sp_at_hi h2).symm, rfl, rfl⟩
      · exact ⟨i_vin rfl h h2, (sp_at_in h h2).symm, rfl, rfl⟩
def sp_put (σ : ev_M) (k : Nat) (a v : Int32) : ev_M := if 0 ≤ a ∧ a < 256 then ev_u σ k a.toNatClampNeg (v &&& 255) else σ
def y_P_put : MethodName := ⟨RX3, "put", "(II)V"⟩
def ws_P_put : List Cond := .code y_P_put prog_5_method_3_code 3 none :: evW
theorem d_P_put_0 : decode prog_5_method_3_code 0 = .ok (.iload_n 1, 1) := by decide +kernel
theorem d_P_put_1 : decode prog_5_method_3_code 1 = .ok (.ifCond .lt 21, 3) := by decide +kernel
theorem d_P_put_4 : decode prog_5_method_3_code 4 = .ok (.iload_n 1, 1) := by decide +kernel
theorem d_P_put_5 : decode prog_5_method_3_code 5 = .ok (.sipush 256, 3) := by decide +kernel
theorem d_P_put_8 : decode prog_5_method_3_code 8 = .ok (.if_icmp .ge 14, 3) := by decide +kernel
theorem d_P_put_11 : decode prog_5_method_3_code 11 = .ok (.aload_n 0, 1) := by decide +kernel
theorem d_P_put_12 : decode prog_5_method_3_code 12 = .ok (.getfield 9, 3) := by decide +kernel
theorem d_P_put_15 : decode prog_5_method_3_code 15 = .ok (.iload_n 1, 1) := by decide +kernel
theorem d_P_put_16 : decode prog_5_method_3_code 16 = .ok (.iload_n 2, 1) := by decide +kernel
theorem d_P_put_17 : decode prog_5_method_3_code 17 = .ok (.sipush 255, 3) := by decide +kernel
theorem d_P_put_20 : decode prog_5_method_3_code 20 = .ok (.iand, 1) := by decide +kernel
theorem d_P_put_21 : decode prog_5_method_3_code 21 = .ok (.iastore, 1) := by decide +kernel
theorem d_P_put_22 : decode prog_5_method_3_code 22 = .ok (.return_, 1) := by decide +kernel
def I_P_put (P : Unit → ev_M → ev_L → Prop) : List (Nat × ev_T) := [(0, tt_il 1 1),
  (1, tt_iflt 22 4),
  (4, tt_il 1 5),
  (5, tt_k 256 8),
  (8, tt_icge 22 11),
  (11, tt_al 0 12),
  (12, tt_gf evLY 3 0 15),
  (15, tt_il 1 16),
  (16, tt_il 2 17),
  (17, tt_k 255 20),
  (20, tt_iand 21),
  (21, tt_ias evLY 22),
  (22, tt_rv P)]
abbrev rm_P_put : Room := { frames := 0, cells := 0, slots := 0, locals := 0 }
set_option maxRecDepth 20000 in
theorem ok_P_put (l : Launch) (J : ev_K) (P : Unit → ev_M → ev_L → Prop) (X : ev_X l rm_P_put evLY evCl ws_P_put prog_5_method_3_code 3 y_P_put.cls J) (Z : ev_Z J prog_5_method_3_code .return_ ev_n P) : ev_oks J (I_P_put P) :=
  ⟨qq_iln X 1 rfl d_P_put_0,
  qq_iflt X 22 (by decide) d_P_put_1,
  qq_iln X 1 rfl d_P_put_4,
  qq_sp X 256 (by decide) d_P_put_5,
  qq_icge X 22 (by decide) d_P_put_8,
  qq_aln X 0 rfl d_P_put_11,
  qq_gf X 3 0 rfl (fun w h => List.mem_cons_of_mem _ (inE_P w h)) (by decide) (List.mem_cons_of_mem _ mw_33) d_P_put_12,
  qq_iln X 1 rfl d_P_put_15,
  qq_iln X 2 rfl d_P_put_16,
  qq_sp X 255 (by decide) d_P_put_17,
  qq_iand X d_P_put_20,
  qq_ias X d_P_put_21,
  qq_rv Z d_P_put_22, trivial⟩
def pre_P_put : List Value → ev_M → ev_L → Prop := fun as _ _ => ∃ (k : Nat) (a v : Int32), as = [.ref k, .int a, .int v] ∧ (k = 1 ∨ k = 20)
def post_P_put : List Value → ev_M → ev_L → Unit → ev_M → ev_L → Prop := fun as σ τ _ σ' τ' => match as with
  | [.ref k, .int a, .int v] => σ' = sp_put σ (k + 1) a v ∧ τ' = τ
  | _ => False
set_option maxHeartbeats 4000000 in
set_option maxRecDepth 100000 in
theorem c_P_put (l : Launch) : ev_C ev_n l y_P_put ws_P_put rm_P_put evLY evCl pre_P_put post_P_put := by
  refine ev_meth0 (by decide) rfl ev_rop_v ?_ I_P_put (ok_P_put l) 30 ?_
  · rintro _ σ τ ⟨k, a, v, rfl, hk⟩
    exact Nat.le_refl _
  · rintro _ σ τ ⟨k, a, v, rfl, rfl | rfl⟩
    all_goals
      refine br_c (fun h => ?_) (fun h => br_c (fun h2 => ?_) (fun h2 => ?_))
      · exact ⟨(if_neg fun q => absurd (Int32.not_lt.mpr q.1) (fun w => w h)).symm, rfl⟩
      · exact ⟨(if_neg fun q => absurd (Int32.not_le.mpr q.2) (fun w => w h2)).symm, rfl⟩
      · exact ⟨i_vin rfl h h2, (if_pos ⟨Int32.not_lt.mp h, Int32.not_le.mp h2⟩).symm, rfl⟩
def sp_trap (f : Nat → Int32) (a : Int32) : Int32 := if (0 ≤ a ∧ a < 96) ∧ ¬ f a.toNatClampNeg = 0 then f a.toNatClampNeg else -1
def y_P_trapAt : MethodName := ⟨RX3, "trapAt", "(I)I"⟩
def ws_P_trapAt : List Cond := .code y_P_trapAt prog_5_method_4_code 2 (some .int) :: evW
theorem d_P_trapAt_0 : decode prog_5_method_4_code 0 = .ok (.iload_n 1, 1) := by decide +kernel
theorem d_P_trapAt_1 : decode prog_5_method_4_code 1 = .ok (.ifCond .lt 18, 3) := by decide +kernel
theorem d_P_trapAt_4 : decode prog_5_method_4_code 4 = .ok (.iload_n 1, 1) := by decide +kernel
theorem d_P_trapAt_5 : decode prog_5_method_4_code 5 = .ok (.bipush 96, 2) := by decide +kernel
theorem d_P_trapAt_7 : decode prog_5_method_4_code 7 = .ok (.if_icmp .ge 12, 3) := by decide +kernel
theorem d_P_trapAt_10 : decode prog_5_method_4_code 10 = .ok (.aload_n 0, 1) := by decide +kernel
theorem d_P_trapAt_11 : decode prog_5_method_4_code 11 = .ok (.getfield 15, 3) := by decide +kernel
theorem d_P_trapAt_14 : decode prog_5_method_4_code 14 = .ok (.iload_n 1, 1) := by decide +kernel
theorem d_P_trapAt_15 : decode prog_5_method_4_code 15 = .ok (.iaload, 1) := by decide +kernel
theorem d_P_trapAt_16 : decode prog_5_method_4_code 16 = .ok (.ifCond .ne 5, 3) := by decide +kernel
theorem d_P_trapAt_19 : decode prog_5_method_4_code 19 = .ok (.iconst (-1), 1) := by decide +kernel
theorem d_P_trapAt_20 : decode prog_5_method_4_code 20 = .ok (.ireturn, 1) := by decide +kernel
theorem d_P_trapAt_21 : decode prog_5_method_4_code 21 = .ok (.aload_n 0, 1) := by decide +kernel
theorem d_P_trapAt_22 : decode prog_5_method_4_code 22 = .ok (.getfield 15, 3) := by decide +kernel
theorem d_P_trapAt_25 : decode prog_5_method_4_code 25 = .ok (.iload_n 1, 1) := by decide +kernel
theorem d_P_trapAt_26 : decode prog_5_method_4_code 26 = .ok (.iaload, 1) := by decide +kernel
theorem d_P_trapAt_27 : decode prog_5_method_4_code 27 = .ok (.ireturn, 1) := by decide +kernel
def I_P_trapAt (P : Int32 → ev_M → ev_L → Prop) : List (Nat × ev_T) := [(0, tt_il 1 1),
  (1, tt_iflt 19 4),
  (4, tt_il 1 5),
  (5, tt_k 96 7),
  (7, tt_icge 19 10),
  (10, tt_al 0 11),
  (11, tt_gf evLY 3 1 14),
  (14, tt_il 1 15),
  (15, tt_ia evLY 16),
  (16, tt_ifne 21 19),
  (19, tt_k (-1) 20),
  (20, tt_ri P),
  (21, tt_al 0 22),
  (22, tt_gf evLY 3 1 25),
  (25, tt_il 1 26),
  (26, tt_ia evLY 27),
  (27, tt_ri P)]
abbrev rm_P_trapAt : Room := { frames := 0, cells := 0, slots := 0, locals := 0 }
set_option maxRecDepth 20000 in
theorem ok_P_trapAt (l : Launch) (J : ev_K) (P : Int32 → ev_M → ev_L → Prop) (X : ev_X l rm_P_trapAt evLY evCl ws_P_trapAt prog_5_method_4_code 2 y_P_trapAt.cls J) (Z : ev_Z J prog_5_method_4_code .ireturn ev_i P) : ev_oks J (I_P_trapAt P) :=
  ⟨qq_iln X 1 rfl d_P_trapAt_0,
  qq_iflt X 19 (by decide) d_P_trapAt_1,
  qq_iln X 1 rfl d_P_trapAt_4,
  qq_bp X 96 (by decide) d_P_trapAt_5,
  qq_icge X 19 (by decide) d_P_trapAt_7,
  qq_aln X 0 rfl d_P_trapAt_10,
  qq_gf X 3 1 rfl (fun w h => List.mem_cons_of_mem _ (inE_P w h)) (by decide) (List.mem_cons_of_mem _ mw_34) d_P_trapAt_11,
  qq_iln X 1 rfl d_P_trapAt_14,
  qq_ia X d_P_trapAt_15,
  qq_ifne X 21 (by decide) d_P_trapAt_16,
  qq_ic X (-1) (by decide) d_P_trapAt_19,
  qq_ri Z d_P_trapAt_20,
  qq_aln X 0 rfl d_P_trapAt_21,
  qq_gf X 3 1 rfl (fun w h => List.mem_cons_of_mem _ (inE_P w h)) (by decide) (List.mem_cons_of_mem _ mw_34) d_P_trapAt_22,
  qq_iln X 1 rfl d_P_trapAt_25,
  qq_ia X d_P_trapAt_26,
  qq_ri Z d_P_trapAt_27, trivial⟩
def pre_P_trapAt : List Value → ev_M → ev_L → Prop := fun as _ _ => ∃ (k : Nat) (a : Int32), as = [.ref k, .int a] ∧ (k = 1 ∨ k = 20)
def post_P_trapAt : List Value → ev_M → ev_L → Int32 → ev_M → ev_L → Prop := fun as σ τ r σ' τ' => match as with
  | [.ref k, .int a] => r = sp_trap (σ (k + 2)) a ∧ σ' = σ ∧ τ' = τ
  | _ => False
set_option maxHeartbeats 4000000 in
set_option maxRecDepth 100000 in
theorem c_P_trapAt (l : Launch) : ev_C ev_i l y_P_trapAt ws_P_trapAt rm_P_trapAt evLY evCl pre_P_trapAt post_P_trapAt := by
  refine ev_meth0 (by decide) rfl ev_rop_i ?_ I_P_trapAt (ok_P_trapAt l) 30 ?_
  · rintro _ σ τ ⟨k, a, rfl, hk⟩
    exact Nat.le_refl _
  · rintro _ σ τ ⟨k, a, rfl, rfl | rfl⟩
    all_goals
      refine br_c (fun h => ?_) (fun h => br_c (fun h2 => ?_) (fun h2 => ⟨i_vin rfl h h2, br_n (fun h3 => ?_) (fun h3 => ?_)⟩))
      · exact ⟨(if_neg fun q => absurd (Int32.not_lt.mpr q.1.1) (fun w => w h)).symm, rfl, rfl⟩
      · exact ⟨(if_neg fun q => absurd (Int32.not_le.mpr q.1.2) (fun w => w h2)).symm, rfl, rfl⟩
      · exact ⟨i_vin rfl h h2, (if_pos ⟨⟨Int32.not_lt.mp h, Int32.not_le.mp h2⟩, h3⟩).symm, rfl, rfl⟩
      · exact ⟨(if_neg fun q => q.2 h3).symm, rfl, rfl⟩
def sp_putTrap (σ : ev_M) (k : Nat) (a v : Int32) : ev_M := if 0 ≤ a ∧ a < 96 then ev_u σ k a.toNatClampNeg v else σ
def y_P_putTrap : MethodName := ⟨RX3, "putTrap", "(II)V"⟩
def ws_P_putTrap : List Cond := .code y_P_putTrap prog_5_method_5_code 3 none :: evW
theorem d_P_putTrap_0 : decode prog_5_method_5_code 0 = .ok (.iload_n 1, 1) := by decide +kernel
theorem d_P_putTrap_1 : decode prog_5_method_5_code 1 = .ok (.ifCond .lt 16, 3) := by decide +kernel
theorem d_P_putTrap_4 : decode prog_5_method_5_code 4 = .ok (.iload_n 1, 1) := by decide +kernel
theorem d_P_putTrap_5 : decode prog_5_method_5_code 5 = .ok (.bipush 96, 2) := by decide +kernel
theorem d_P_putTrap_7 : decode prog_5_method_5_code 7 = .ok (.if_icmp .ge 10, 3) := by decide +kernel
theorem d_P_putTrap_10 : decode prog_5_method_5_code 10 = .ok (.aload_n 0, 1) := by decide +kernel
theorem d_P_putTrap_11 : decode prog_5_method_5_code 11 = .ok (.getfield 15, 3) := by decide +kernel
theorem d_P_putTrap_14 : decode prog_5_method_5_code 14 = .ok (.iload_n 1, 1) := by decide +kernel
theorem d_P_putTrap_15 : decode prog_5_method_5_code 15 = .ok (.iload_n 2, 1) := by decide +kernel
theorem d_P_putTrap_16 : decode prog_5_method_5_code 16 = .ok (.iastore, 1) := by decide +kernel
theorem d_P_putTrap_17 : decode prog_5_method_5_code 17 = .ok (.return_, 1) := by decide +kernel
def I_P_putTrap (P : Unit → ev_M → ev_L → Prop) : List (Nat × ev_T) := [(0, tt_il 1 1),
  (1, tt_iflt 17 4),
  (4, tt_il 1 5),
  (5, tt_k 96 7),
  (7, tt_icge 17 10),
  (10, tt_al 0 11),
  (11, tt_gf evLY 3 1 14),
  (14, tt_il 1 15),
  (15, tt_il 2 16),
  (16, tt_ias evLY 17),
  (17, tt_rv P)]
abbrev rm_P_putTrap : Room := { frames := 0, cells := 0, slots := 0, locals := 0 }
set_option maxRecDepth 20000 in
theorem ok_P_putTrap (l : Launch) (J : ev_K) (P : Unit → ev_M → ev_L → Prop) (X : ev_X l rm_P_putTrap evLY evCl ws_P_putTrap prog_5_method_5_code 3 y_P_putTrap.cls J) (Z : ev_Z J prog_5_method_5_code .return_ ev_n P) : ev_oks J (I_P_putTrap P) :=
  ⟨qq_iln X 1 rfl d_P_putTrap_0,
  qq_iflt X 17 (by decide) d_P_putTrap_1,
  qq_iln X 1 rfl d_P_putTrap_4,
  qq_bp X 96 (by decide) d_P_putTrap_5,
  qq_icge X 17 (by decide) d_P_putTrap_7,
  qq_aln X 0 rfl d_P_putTrap_10,
  qq_gf X 3 1 rfl (fun w h => List.mem_cons_of_mem _ (inE_P w h)) (by decide) (List.mem_cons_of_mem _ mw_34) d_P_putTrap_11,
  qq_iln X 1 rfl d_P_putTrap_14,
  qq_iln X 2 rfl d_P_putTrap_15,
  qq_ias X d_P_putTrap_16,
  qq_rv Z d_P_putTrap_17, trivial⟩
def pre_P_putTrap : List Value → ev_M → ev_L → Prop := fun as _ _ => ∃ (a v : Int32), as = [.ref 20, .int a, .int v]
def post_P_putTrap : List Value → ev_M → ev_L → Unit → ev_M → ev_L → Prop := fun as σ τ _ σ' τ' => match as with
  | [.ref _, .int a, .int v] => σ' = sp_putTrap σ 22 a v ∧ τ' = τ
  | _ => False
set_option maxHeartbeats 4000000 in
set_option maxRecDepth 100000 in
theorem c_P_putTrap (l : Launch) : ev_C ev_n l y_P_putTrap ws_P_putTrap rm_P_putTrap evLY evCl pre_P_putTrap post_P_putTrap := by
  refine ev_meth0 (by decide) rfl ev_rop_v ?_ I_P_putTrap (ok_P_putTrap l) 30 ?_
  · rintro _ σ τ ⟨a, v, rfl⟩
    exact Nat.le_refl _
  · rintro _ σ τ ⟨a, v, rfl⟩
    refine br_c (fun h => ?_) (fun h => br_c (fun h2 => ?_) (fun h2 => ?_))
    · exact ⟨(if_neg fun q => absurd (Int32.not_lt.mpr q.1) (fun w => w h)).symm, rfl⟩
    · exact ⟨(if_neg fun q => absurd (Int32.not_le.mpr q.2) (fun w => w h2)).symm, rfl⟩
    · exact ⟨i_vin rfl h h2, (if_pos ⟨Int32.not_lt.mp h, Int32.not_le.mp h2⟩).symm, rfl⟩
def y_P_becomeCopyOf : MethodName := ⟨RX3, "becomeCopyOf", "(LBlockCounter$Program;)V"⟩
def ws_P_becomeCopyOf : List Cond := .code y_P_becomeCopyOf prog_5_method_6_code 2 none :: evW
theorem d_P_becomeCopyOf_0 : decode prog_5_method_6_code 0 = .ok (.aload_n 1, 1) := by decide +kernel
theorem d_P_becomeCopyOf_1 : decode prog_5_method_6_code 1 = .ok (.getfield 9, 3) := by decide +kernel
theorem d_P_becomeCopyOf_4 : decode prog_5_method_6_code 4 = .ok (.iconst 0, 1) := by decide +kernel
theorem d_P_becomeCopyOf_5 : decode prog_5_method_6_code 5 = .ok (.aload_n 0, 1) := by decide +kernel
theorem d_P_becomeCopyOf_6 : decode prog_5_method_6_code 6 = .ok (.getfield 9, 3) := by decide +kernel
theorem d_P_becomeCopyOf_9 : decode prog_5_method_6_code 9 = .ok (.iconst 0, 1) := by decide +kernel
theorem d_P_becomeCopyOf_10 : decode prog_5_method_6_code 10 = .ok (.sipush 256, 3) := by decide +kernel
theorem d_P_becomeCopyOf_13 : decode prog_5_method_6_code 13 = .ok (.invokestatic 18, 3) := by decide +kernel
theorem d_P_becomeCopyOf_16 : decode prog_5_method_6_code 16 = .ok (.aload_n 1, 1) := by decide +kernel
theorem d_P_becomeCopyOf_17 : decode prog_5_method_6_code 17 = .ok (.getfield 15, 3) := by decide +kernel
theorem d_P_becomeCopyOf_20 : decode prog_5_method_6_code 20 = .ok (.iconst 0, 1) := by decide +kernel
theorem d_P_becomeCopyOf_21 : decode prog_5_method_6_code 21 = .ok (.aload_n 0, 1) := by decide +kernel
theorem d_P_becomeCopyOf_22 : decode prog_5_method_6_code 22 = .ok (.getfield 15, 3) := by decide +kernel
theorem d_P_becomeCopyOf_25 : decode prog_5_method_6_code 25 = .ok (.iconst 0, 1) := by decide +kernel
theorem d_P_becomeCopyOf_26 : decode prog_5_method_6_code 26 = .ok (.bipush 96, 2) := by decide +kernel
theorem d_P_becomeCopyOf_28 : decode prog_5_method_6_code 28 = .ok (.invokestatic 18, 3) := by decide +kernel
theorem d_P_becomeCopyOf_31 : decode prog_5_method_6_code 31 = .ok (.return_, 1) := by decide +kernel
def I_P_becomeCopyOf (P : Unit → ev_M → ev_L → Prop) : List (Nat × ev_T) := [(0, tt_al 1 1),
  (1, tt_gf evLY 3 0 4),
  (4, tt_k 0 5),
  (5, tt_al 0 6),
  (6, tt_gf evLY 3 0 9),
  (9, tt_k 0 10),
  (10, tt_k 256 13),
  (13, tt_cpy evLY 16),
  (16, tt_al 1 17),
  (17, tt_gf evLY 3 1 20),
  (20, tt_k 0 21),
  (21, tt_al 0 22),
  (22, tt_gf evLY 3 1 25),
  (25, tt_k 0 26),
  (26, tt_k 96 28),
  (28, tt_cpy evLY 31),
  (31, tt_rv P)]
abbrev rm_P_becomeCopyOf : Room := { frames := 1, cells := 0, slots := 0, locals := 32 }
set_option maxRecDepth 20000 in
theorem ok_P_becomeCopyOf (l : Launch) (J : ev_K) (P : Unit → ev_M → ev_L → Prop) (X : ev_X l rm_P_becomeCopyOf evLY evCl ws_P_becomeCopyOf prog_5_method_6_code 2 y_P_becomeCopyOf.cls J) (Z : ev_Z J prog_5_method_6_code .return_ ev_n P) : ev_oks J (I_P_becomeCopyOf P) :=
  ⟨qq_aln X 1 rfl d_P_becomeCopyOf_0,
  qq_gf X 3 0 rfl (fun w h => List.mem_cons_of_mem _ (inE_P w h)) (by decide) (List.mem_cons_of_mem _ mw_33) d_P_becomeCopyOf_1,
  qq_ic X 0 (by decide) d_P_becomeCopyOf_4,
  qq_aln X 0 rfl d_P_becomeCopyOf_5,
  qq_gf X 3 0 rfl (fun w h => List.mem_cons_of_mem _ (inE_P w h)) (by decide) (List.mem_cons_of_mem _ mw_33) d_P_becomeCopyOf_6,
  qq_ic X 0 (by decide) d_P_becomeCopyOf_9,
  qq_sp X 256 (by decide) d_P_becomeCopyOf_10,
  qq_cpy X (List.mem_cons_of_mem _ mw_529) (List.mem_cons_of_mem _ mw_531) (List.mem_cons_of_mem _ mw_530) (List.mem_cons_of_mem _ mw_17) (by decide) (by decide) d_P_becomeCopyOf_13,
  qq_aln X 1 rfl d_P_becomeCopyOf_16,
  qq_gf X 3 1 rfl (fun w h => List.mem_cons_of_mem _ (inE_P w h)) (by decide) (List.mem_cons_of_mem _ mw_34) d_P_becomeCopyOf_17,
  qq_ic X 0 (by decide) d_P_becomeCopyOf_20,
  qq_aln X 0 rfl d_P_becomeCopyOf_21,
  qq_gf X 3 1 rfl (fun w h => List.mem_cons_of_mem _ (inE_P w h)) (by decide) (List.mem_cons_of_mem _ mw_34) d_P_becomeCopyOf_22,
  qq_ic X 0 (by decide) d_P_becomeCopyOf_25,
  qq_bp X 96 (by decide) d_P_becomeCopyOf_26,
  qq_cpy X (List.mem_cons_of_mem _ mw_529) (List.mem_cons_of_mem _ mw_531) (List.mem_cons_of_mem _ mw_530) (List.mem_cons_of_mem _ mw_17) (by decide) (by decide) d_P_becomeCopyOf_28,
  qq_rv Z d_P_becomeCopyOf_31, trivial⟩
def sp_copy (σ : ev_M) : ev_M := ev_p (ev_p σ 21 (va_cpy (σ 2) (σ 21) 0 0 256)) 22 (va_cpy (σ 3) (σ 22) 0 0 96)
def pre_P_becomeCopyOf : List Value → ev_M → ev_L → Prop := fun as _ _ => as = [.ref 20, .ref 1]
def post_P_becomeCopyOf : List Value → ev_M → ev_L → Unit → ev_M → ev_L → Prop := fun _ σ τ _ σ' τ' => σ' = sp_copy σ ∧ τ' = τ
set_option maxHeartbeats 4000000 in
set_option maxRecDepth 100000 in
theorem c_P_becomeCopyOf (l : Launch) : ev_C ev_n l y_P_becomeCopyOf ws_P_becomeCopyOf rm_P_becomeCopyOf evLY evCl pre_P_becomeCopyOf post_P_becomeCopyOf := by
  refine ev_meth0 (by decide) rfl ev_rop_v ?_ I_P_becomeCopyOf (ok_P_becomeCopyOf l) 30 ?_
  · rintro _ σ τ rfl
    exact Nat.le_refl _
  · rintro _ σ τ rfl
    exact ⟨by decide, ⟨by decide, ⟨rfl, rfl⟩⟩⟩
