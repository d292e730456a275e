/-! analysis: clearing, marking -/
def y_A_clear : MethodName := ⟨RX0, "clear", "()V"⟩
def ws_A_clear : List Cond := .code y_A_clear prog_2_method_11_code 2 none :: evW
theorem d_A_clear_0 : decode prog_2_method_11_code 0 = .ok (.aload_n 0, 1) := by decide +kernel
theorem d_A_clear_1 : decode prog_2_method_11_code 1 = .ok (.iconst 0, 1) := by decide +kernel
theorem d_A_clear_2 : decode prog_2_method_11_code 2 = .ok (.putfield 44, 3) := by decide +kernel
theorem d_A_clear_5 : decode prog_2_method_11_code 5 = .ok (.aload_n 0, 1) := by decide +kernel
theorem d_A_clear_6 : decode prog_2_method_11_code 6 = .ok (.iconst 0, 1) := by decide +kernel
theorem d_A_clear_7 : decode prog_2_method_11_code 7 = .ok (.putfield 66, 3) := by decide +kernel
theorem d_A_clear_10 : decode prog_2_method_11_code 10 = .ok (.aload_n 0, 1) := by decide +kernel
theorem d_A_clear_11 : decode prog_2_method_11_code 11 = .ok (.getfield 32, 3) := by decide +kernel
theorem d_A_clear_14 : decode prog_2_method_11_code 14 = .ok (.iconst (-1), 1) := by decide +kernel
theorem d_A_clear_15 : decode prog_2_method_11_code 15 = .ok (.invokestatic 81, 3) := by decide +kernel
theorem d_A_clear_18 : decode prog_2_method_11_code 18 = .ok (.iconst 0, 1) := by decide +kernel
theorem d_A_clear_19 : decode prog_2_method_11_code 19 = .ok (.istore_n 1, 1) := by decide +kernel
theorem d_A_clear_20 : decode prog_2_method_11_code 20 = .ok (.iload_n 1, 1) := by decide +kernel
theorem d_A_clear_21 : decode prog_2_method_11_code 21 = .ok (.bipush 96, 2) := by decide +kernel
theorem d_A_clear_23 : decode prog_2_method_11_code 23 = .ok (.if_icmp .ge 30, 3) := by decide +kernel
theorem d_A_clear_26 : decode prog_2_method_11_code 26 = .ok (.aload_n 0, 1) := by decide +kernel
theorem d_A_clear_27 : decode prog_2_method_11_code 27 = .ok (.getfield 22, 3) := by decide +kernel
theorem d_A_clear_30 : decode prog_2_method_11_code 30 = .ok (.iload_n 1, 1) := by decide +kernel
theorem d_A_clear_31 : decode prog_2_method_11_code 31 = .ok (.iconst 0, 1) := by decide +kernel
theorem d_A_clear_32 : decode prog_2_method_11_code 32 = .ok (.bastore, 1) := by decide +kernel
theorem d_A_clear_33 : decode prog_2_method_11_code 33 = .ok (.aload_n 0, 1) := by decide +kernel
theorem d_A_clear_34 : decode prog_2_method_11_code 34 = .ok (.getfield 26, 3) := by decide +kernel
theorem d_A_clear_37 : decode prog_2_method_11_code 37 = .ok (.iload_n 1, 1) := by decide +kernel
theorem d_A_clear_38 : decode prog_2_method_11_code 38 = .ok (.iconst 0, 1) := by decide +kernel
theorem d_A_clear_39 : decode prog_2_method_11_code 39 = .ok (.bastore, 1) := by decide +kernel
theorem d_A_clear_40 : decode prog_2_method_11_code 40 = .ok (.aload_n 0, 1) := by decide +kernel
theorem d_A_clear_41 : decode prog_2_method_11_code 41 = .ok (.getfield 29, 3) := by decide +kernel
theorem d_A_clear_44 : decode prog_2_method_11_code 44 = .ok (.iload_n 1, 1) := by decide +kernel
theorem d_A_clear_45 : decode prog_2_method_11_code 45 = .ok (.iconst 0, 1) := by decide +kernel
theorem d_A_clear_46 : decode prog_2_method_11_code 46 = .ok (.bastore, 1) := by decide +kernel
theorem d_A_clear_47 : decode prog_2_method_11_code 47 = .ok (.iinc 1 1, 3) := by decide +kernel
theorem d_A_clear_50 : decode prog_2_method_11_code 50 = .ok (.goto (-30), 3) := by decide +kernel
theorem d_A_clear_53 : decode prog_2_method_11_code 53 = .ok (.return_, 1) := by decide +kernel
def I_A_clear (P : Unit → ev_M → ev_L → Prop) : List (Nat × ev_T) := [(0, tt_al 0 1),
  (1, tt_k 0 2),
  (2, tt_pf evLY 0 10 5),
  (5, tt_al 0 6),
  (6, tt_k 0 7),
  (7, tt_pf evLY 0 9 10),
  (10, tt_al 0 11),
  (11, tt_gf evLY 0 5 14),
  (14, tt_k (-1) 15),
  (15, tt_cS 2 ev_n pre_J_fillI post_J_fillI 18),
  (18, tt_k 0 19),
  (19, tt_is 1 20),
  (20, tt_il 1 21),
  (21, tt_k 96 23),
  (23, tt_icge 53 26),
  (26, tt_al 0 27),
  (27, tt_gf evLY 0 2 30),
  (30, tt_il 1 31),
  (31, tt_k 0 32),
  (32, tt_zas evLY 33),
  (33, tt_al 0 34),
  (34, tt_gf evLY 0 3 37),
  (37, tt_il 1 38),
  (38, tt_k 0 39),
  (39, tt_zas evLY 40),
  (40, tt_al 0 41),
  (41, tt_gf evLY 0 4 44),
  (44, tt_il 1 45),
  (45, tt_k 0 46),
  (46, tt_zas evLY 47),
  (47, tt_ii 1 1 50),
  (50, tt_go 20),
  (53, tt_rv P)]
abbrev rm_A_clear : Room := { frames := 1, cells := 0, slots := 0, locals := 32 }
set_option maxRecDepth 20000 in
theorem ok_A_clear (l : Launch) (J : ev_K) (P : Unit → ev_M → ev_L → Prop) (X : ev_X l rm_A_clear evLY evCl ws_A_clear prog_2_method_11_code 2 y_A_clear.cls J) (Z : ev_Z J prog_2_method_11_code .return_ ev_n P) : ev_oks J (I_A_clear P) :=
  ⟨qq_aln X 0 rfl d_A_clear_0,
  qq_ic X 0 (by decide) d_A_clear_1,
  qq_pf X 0 10 rfl (fun w h => List.mem_cons_of_mem _ (inE_A w h)) (by decide) tyX0 tyX0_ok nmX0 rfl (by decide +kernel) (List.mem_cons_of_mem _ mw_105) d_A_clear_2,
  qq_aln X 0 rfl d_A_clear_5,
  qq_ic X 0 (by decide) d_A_clear_6,
  qq_pf X 0 9 rfl (fun w h => List.mem_cons_of_mem _ (inE_A w h)) (by decide) tyX0 tyX0_ok nmX0 rfl (by decide +kernel) (List.mem_cons_of_mem _ mw_104) d_A_clear_7,
  qq_aln X 0 rfl d_A_clear_10,
  qq_gf X 0 5 rfl (fun w h => List.mem_cons_of_mem _ (inE_A w h)) (by decide) (List.mem_cons_of_mem _ mw_100) d_A_clear_11,
  qq_ic X (-1) (by decide) d_A_clear_14,
  qq_cS X (c_J_fillI l) (fun hts => va_cwS 2 hts (evGS (mw_403) (mw_404) (mw_15) (mw_405)) rfl rfl rfl (by decide +kernel) ⟨Nat.le_of_ble_eq_true rfl, Nat.le_of_ble_eq_true rfl⟩) d_A_clear_15,
  qq_ic X 0 (by decide) d_A_clear_18,
  qq_isn X 1 rfl (by decide) d_A_clear_19,
  qq_iln X 1 rfl d_A_clear_20,
  qq_bp X 96 (by decide) d_A_clear_21,
  qq_icge X 53 (by decide) d_A_clear_23,
  qq_aln X 0 rfl d_A_clear_26,
  qq_gf X 0 2 rfl (fun w h => List.mem_cons_of_mem _ (inE_A w h)) (by decide) (List.mem_cons_of_mem _ mw_97) d_A_clear_27,
  qq_iln X 1 rfl d_A_clear_30,
  qq_ic X 0 (by decide) d_A_clear_31,
  qq_zas X d_A_clear_32,
  qq_aln X 0 rfl d_A_clear_33,
  qq_gf X 0 3 rfl (fun w h => List.mem_cons_of_mem _ (inE_A w h)) (by decide) (List.mem_cons_of_mem _ mw_98) d_A_clear_34,
  qq_iln X 1 rfl d_A_clear_37,
  qq_ic X 0 (by decide) d_A_clear_38,
  qq_zas X d_A_clear_39,
  qq_aln X 0 rfl d_A_clear_40,
  qq_gf X 0 4 rfl (fun w h => List.mem_cons_of_mem _ (inE_A w h)) (by decide) (List.mem_cons_of_mem _ mw_99) d_A_clear_41,
  qq_iln X 1 rfl d_A_clear_44,
  qq_ic X 0 (by decide) d_A_clear_45,
  qq_zas X d_A_clear_46,
  qq_ii X 1 1 (by decide) (by decide) d_A_clear_47,
  qq_go X 20 (by decide) d_A_clear_50,
  qq_rv Z d_A_clear_53, trivial⟩
def sp_clear (σ : ev_M) : ev_M := ev_p (ev_p (ev_p (ev_p (ev_u (ev_u σ 8 10 0) 8 9 0) 14 (sp_fill (σ 14) 96 (-1))) 11 (sp_fill (σ 11) 96 0)) 12 (sp_fill (σ 12) 96 0)) 13 (sp_fill (σ 13) 96 0)
def pre_A_clear : List Value → ev_M → ev_L → Prop := fun as _ _ => as = [.ref 8]
def post_A_clear : List Value → ev_M → ev_L → Unit → ev_M → ev_L → Prop := fun _ σ τ _ σ' τ' => σ' = sp_clear σ ∧ τ' = τ
set_option maxHeartbeats 4000000 in
set_option maxRecDepth 100000 in
theorem c_A_clear (l : Launch) : ev_C ev_n l y_A_clear ws_A_clear rm_A_clear evLY evCl pre_A_clear post_A_clear := by
  refine ev_methL (by decide) rfl ev_rop_v ?_ I_A_clear (ok_A_clear l) [20] 60 ?_
  · rintro _ σ τ rfl
    exact Nat.le_of_ble_eq_true rfl
  · rintro _ σ τ rfl
    refine ⟨fun μ pc lv st σ' τ' z => st = [] ∧ z = 0 ∧ τ = τ' ∧ ((pc = 0 ∧ μ = 500 ∧ lv = [.ref 8, .null] ∧ σ = σ') ∨ (pc = 20 ∧ ∃ i : Nat, i ≤ 96 ∧ μ = 96 - i ∧ lv = [.ref 8, .int (nI i)] ∧ σ' = ev_p (ev_p (ev_p (ev_p (ev_u (ev_u σ 8 10 0) 8 9 0) 14 (sp_fill (σ 14) 96 (-1))) 11 (sp_fill (σ 11) i 0)) 12 (sp_fill (σ 12) i 0)) 13 (sp_fill (σ 13) i 0))), ⟨500, rfl, rfl, rfl, Or.inl ⟨rfl, rfl, rfl, rfl⟩⟩, ?_⟩
    rintro μ pc lv st σ' τ' z ⟨rfl, rfl, rfl, ⟨rfl, rfl, rfl, rfl⟩ | ⟨rfl, i, hi, rfl, rfl, rfl⟩⟩
    · refine ⟨⟨_, _, rfl, by decide⟩, ?_⟩
      rintro _ _ _ ⟨rfl, rfl⟩
      refine ⟨96, by omega, rfl, rfl, rfl, Or.inr ⟨rfl, 0, Nat.zero_le _, rfl, rfl, ?_⟩⟩
      rw [sp_fill_0, sp_fill_0, sp_fill_0]
      show ev_p (ev_u (ev_u σ 8 10 0) 8 9 0) 14 (sp_fill (σ 14) 96 (-1)) = _
      generalize hX : ev_p (ev_u (ev_u σ 8 10 0) 8 9 0) 14 (sp_fill (σ 14) 96 (-1)) = X
      have e11 : X 11 = σ 11 := by rw [← hX]; rfl
      have e12 : X 12 = σ 12 := by rw [← hX]; rfl
      have e13 : X 13 = σ 13 := by rw [← hX]; rfl
      rw [← e11, ev_p_same, ← e12, ev_p_same, ← e13, ev_p_same]
    · refine br_c (fun h => ?_) (fun h => ?_)
      · have hin : 96 ≤ i := (nI_leI (a := 96) (by omega) (by omega)).mp h
        have : i = 96 := by omega
        subst this
        exact ⟨rfl, rfl⟩
      · have hin : i < 96 := Nat.not_le.mp fun q => h ((nI_leI (a := 96) (by omega) (by omega)).mpr q)
        have hv : vp_in (nI i) 96 := vp_in_nI hin (by omega)
        have hci : (nI i).toNatClampNeg = i := nI_clamp (by omega)
        refine ⟨hv, hv, hv, ⟨96 - (i + 1), by omega, rfl, rfl, rfl, Or.inr ⟨rfl, i + 1, by omega, rfl, by rw [← nI_1], ?_⟩⟩⟩
        rw [hci]
        funext q
        by_cases q11 : q = 11
        · subst q11
          show upd (sp_fill (σ 11) i 0) i 0 = _
          rw [sp_fill_s]; rfl
        · by_cases q12 : q = 12
          · subst q12
            show upd (sp_fill (σ 12) i 0) i 0 = _
            rw [sp_fill_s]; rfl
          · by_cases q13 : q = 13
            · subst q13
              show upd (sp_fill (σ 13) i 0) i 0 = _
              rw [sp_fill_s]; rfl
            · simp [ev_u, ev_p, q11, q12, q13]
/-- an address is come to -/
def sp_mark (σ : ev_M) (a : Int32) : ev_M := if σ 11 a.toNatClampNeg = 0 ∧ σ 8 9 < 96 then ev_u (ev_u (ev_u σ 11 a.toNatClampNeg 1) 10 (σ 8 9).toNatClampNeg a) 8 9 (σ 8 9 + 1) else σ
def y_A_comeTo : MethodName := ⟨RX0, "comeTo", "(I)Z"⟩
def ws_A_comeTo : List Cond := .code y_A_comeTo prog_2_method_12_code 2 (some .boolean) :: evW
theorem d_A_comeTo_0 : decode prog_2_method_12_code 0 = .ok (.iload_n 1, 1) := by decide +kernel
theorem d_A_comeTo_1 : decode prog_2_method_12_code 1 = .ok (.ifCond .lt 9, 3) := by decide +kernel
theorem d_A_comeTo_4 : decode prog_2_method_12_code 4 = .ok (.iload_n 1, 1) := by decide +kernel
theorem d_A_comeTo_5 : decode prog_2_method_12_code 5 = .ok (.bipush 96, 2) := by decide +kernel
theorem d_A_comeTo_7 : decode prog_2_method_12_code 7 = .ok (.if_icmp .lt 5, 3) := by decide +kernel
theorem d_A_comeTo_10 : decode prog_2_method_12_code 10 = .ok (.iconst 0, 1) := by decide +kernel
theorem d_A_comeTo_11 : decode prog_2_method_12_code 11 = .ok (.ireturn, 1) := by decide +kernel
theorem d_A_comeTo_12 : decode prog_2_method_12_code 12 = .ok (.aload_n 0, 1) := by decide +kernel
theorem d_A_comeTo_13 : decode prog_2_method_12_code 13 = .ok (.getfield 22, 3) := by decide +kernel
theorem d_A_comeTo_16 : decode prog_2_method_12_code 16 = .ok (.iload_n 1, 1) := by decide +kernel
theorem d_A_comeTo_17 : decode prog_2_method_12_code 17 = .ok (.baload, 1) := by decide +kernel
theorem d_A_comeTo_18 : decode prog_2_method_12_code 18 = .ok (.ifCond .ne 39, 3) := by decide +kernel
theorem d_A_comeTo_21 : decode prog_2_method_12_code 21 = .ok (.aload_n 0, 1) := by decide +kernel
theorem d_A_comeTo_22 : decode prog_2_method_12_code 22 = .ok (.getfield 66, 3) := by decide +kernel
theorem d_A_comeTo_25 : decode prog_2_method_12_code 25 = .ok (.bipush 96, 2) := by decide +kernel
theorem d_A_comeTo_27 : decode prog_2_method_12_code 27 = .ok (.if_icmp .ge 30, 3) := by decide +kernel
theorem d_A_comeTo_30 : decode prog_2_method_12_code 30 = .ok (.aload_n 0, 1) := by decide +kernel
theorem d_A_comeTo_31 : decode prog_2_method_12_code 31 = .ok (.getfield 22, 3) := by decide +kernel
theorem d_A_comeTo_34 : decode prog_2_method_12_code 34 = .ok (.iload_n 1, 1) := by decide +kernel
theorem d_A_comeTo_35 : decode prog_2_method_12_code 35 = .ok (.iconst 1, 1) := by decide +kernel
theorem d_A_comeTo_36 : decode prog_2_method_12_code 36 = .ok (.bastore, 1) := by decide +kernel
theorem d_A_comeTo_37 : decode prog_2_method_12_code 37 = .ok (.aload_n 0, 1) := by decide +kernel
theorem d_A_comeTo_38 : decode prog_2_method_12_code 38 = .ok (.getfield 18, 3) := by decide +kernel
theorem d_A_comeTo_41 : decode prog_2_method_12_code 41 = .ok (.aload_n 0, 1) := by decide +kernel
theorem d_A_comeTo_42 : decode prog_2_method_12_code 42 = .ok (.getfield 66, 3) := by decide +kernel
theorem d_A_comeTo_45 : decode prog_2_method_12_code 45 = .ok (.iload_n 1, 1) := by decide +kernel
theorem d_A_comeTo_46 : decode prog_2_method_12_code 46 = .ok (.iastore, 1) := by decide +kernel
theorem d_A_comeTo_47 : decode prog_2_method_12_code 47 = .ok (.aload_n 0, 1) := by decide +kernel
theorem d_A_comeTo_48 : decode prog_2_method_12_code 48 = .ok (.dup, 1) := by decide +kernel
theorem d_A_comeTo_49 : decode prog_2_method_12_code 49 = .ok (.getfield 66, 3) := by decide +kernel
theorem d_A_comeTo_52 : decode prog_2_method_12_code 52 = .ok (.iconst 1, 1) := by decide +kernel
theorem d_A_comeTo_53 : decode prog_2_method_12_code 53 = .ok (.iadd, 1) := by decide +kernel
theorem d_A_comeTo_54 : decode prog_2_method_12_code 54 = .ok (.putfield 66, 3) := by decide +kernel
theorem d_A_comeTo_57 : decode prog_2_method_12_code 57 = .ok (.iconst 1, 1) := by decide +kernel
theorem d_A_comeTo_58 : decode prog_2_method_12_code 58 = .ok (.ireturn, 1) := by decide +kernel
def I_A_comeTo (P : Bool → ev_M → ev_L → Prop) : List (Nat × ev_T) := [(0, tt_il 1 1),
  (1, tt_iflt 10 4),
  (4, tt_il 1 5),
  (5, tt_k 96 7),
  (7, tt_iclt 12 10),
  (10, tt_k 0 11),
  (11, tt_rz P),
  (12, tt_al 0 13),
  (13, tt_gf evLY 0 2 16),
  (16, tt_il 1 17),
  (17, tt_za evLY 18),
  (18, tt_ifne 57 21),
  (21, tt_al 0 22),
  (22, tt_gf evLY 0 9 25),
  (25, tt_k 96 27),
  (27, tt_icge 57 30),
  (30, tt_al 0 31),
  (31, tt_gf evLY 0 2 34),
  (34, tt_il 1 35),
  (35, tt_k 1 36),
  (36, tt_zas evLY 37),
  (37, tt_al 0 38),
  (38, tt_gf evLY 0 1 41),
  (41, tt_al 0 42),
  (42, tt_gf evLY 0 9 45),
  (45, tt_il 1 46),
  (46, tt_ias evLY 47),
  (47, tt_al 0 48),
  (48, tt_dup 49),
  (49, tt_gf evLY 0 9 52),
  (52, tt_k 1 53),
  (53, tt_iadd 54),
  (54, tt_pf evLY 0 9 57),
  (57, tt_k 1 58),
  (58, tt_rz P)]
abbrev rm_A_comeTo : Room := { frames := 0, cells := 0, slots := 0, locals := 0 }
set_option maxRecDepth 20000 in
theorem ok_A_comeTo (l : Launch) (J : ev_K) (P : Bool → ev_M → ev_L → Prop) (X : ev_X l rm_A_comeTo evLY evCl ws_A_comeTo prog_2_method_12_code 2 y_A_comeTo.cls J) (Z : ev_Z J prog_2_method_12_code .ireturn ev_b P) : ev_oks J (I_A_comeTo P) :=
  ⟨qq_iln X 1 rfl d_A_comeTo_0,
  qq_iflt X 10 (by decide) d_A_comeTo_1,
  qq_iln X 1 rfl d_A_comeTo_4,
  qq_bp X 96 (by decide) d_A_comeTo_5,
  qq_iclt X 12 (by decide) d_A_comeTo_7,
  qq_ic X 0 (by decide) d_A_comeTo_10,
  qq_rz Z d_A_comeTo_11,
  qq_aln X 0 rfl d_A_comeTo_12,
  qq_gf X 0 2 rfl (fun w h => List.mem_cons_of_mem _ (inE_A w h)) (by decide) (List.mem_cons_of_mem _ mw_97) d_A_comeTo_13,
  qq_iln X 1 rfl d_A_comeTo_16,
  qq_za X d_A_comeTo_17,
  qq_ifne X 57 (by decide) d_A_comeTo_18,
  qq_aln X 0 rfl d_A_comeTo_21,
  qq_gf X 0 9 rfl (fun w h => List.mem_cons_of_mem _ (inE_A w h)) (by decide) (List.mem_cons_of_mem _ mw_104) d_A_comeTo_22,
  qq_bp X 96 (by decide) d_A_comeTo_25,
  qq_icge X 57 (by decide) d_A_comeTo_27,
  qq_aln X 0 rfl d_A_comeTo_30,
  qq_gf X 0 2 rfl (fun w h => List.mem_cons_of_mem _ (inE_A w h)) (by decide) (List.mem_cons_of_mem _ mw_97) d_A_comeTo_31,
  qq_iln X 1 rfl d_A_comeTo_34,
  qq_ic X 1 (by decide) d_A_comeTo_35,
  qq_zas X d_A_comeTo_36,
  qq_aln X 0 rfl d_A_comeTo_37,
  qq_gf X 0 1 rfl (fun w h => List.mem_cons_of_mem _ (inE_A w h)) (by decide) (List.mem_cons_of_mem _ mw_96) d_A_comeTo_38,
  qq_aln X 0 rfl d_A_comeTo_41,
  qq_gf X 0 9 rfl (fun w h => List.mem_cons_of_mem _ (inE_A w h)) (by decide) (List.mem_cons_of_mem _ mw_104) d_A_comeTo_42,
  qq_iln X 1 rfl d_A_comeTo_45,
  qq_ias X d_A_comeTo_46,
  qq_aln X 0 rfl d_A_comeTo_47,
  qq_dup X d_A_comeTo_48,
  qq_gf X 0 9 rfl (fun w h => List.mem_cons_of_mem _ (inE_A w h)) (by decide) (List.mem_cons_of_mem _ mw_104) d_A_comeTo_49,
  qq_ic X 1 (by decide) d_A_comeTo_52,
  qq_iadd X d_A_comeTo_53,
  qq_pf X 0 9 rfl (fun w h => List.mem_cons_of_mem _ (inE_A w h)) (by decide) tyX0 tyX0_ok nmX0 rfl (by decide +kernel) (List.mem_cons_of_mem _ mw_104) d_A_comeTo_54,
  qq_ic X 1 (by decide) d_A_comeTo_57,
  qq_rz Z d_A_comeTo_58, trivial⟩
def pre_A_comeTo : List Value → ev_M → ev_L → Prop := fun as σ τ => ∃ (a : Int32), as = [.ref 8, .int a] ∧ 0 ≤ (σ 8 9).toInt
def post_A_comeTo : List Value → ev_M → ev_L → Bool → ev_M → ev_L → Prop := fun as σ τ r σ' τ' => match as with
  | [_, .int a] => τ' = τ ∧ ((¬ (0 ≤ a ∧ a < 96) ∧ r = false ∧ σ' = σ) ∨ ((0 ≤ a ∧ a < 96) ∧ r = true ∧ σ' = sp_mark σ a))
  | _ => False
set_option maxHeartbeats 4000000 in
set_option maxRecDepth 100000 in
theorem c_A_comeTo (l : Launch) : ev_C ev_b l y_A_comeTo ws_A_comeTo rm_A_comeTo evLY evCl pre_A_comeTo post_A_comeTo := by
  refine ev_meth0 (by decide) rfl ev_rop_b ?_ I_A_comeTo (ok_A_comeTo l) 60 ?_
  · rintro _ σ τ ⟨a, rfl, hp⟩
    exact Nat.le_of_ble_eq_true rfl
  · rintro _ σ τ ⟨a, rfl, hp⟩
    have h96 : (96 : Int32).toInt = 96 := rfl
    refine br_c (fun h => ?_) (fun h => br_c (fun h2 => ?_) (fun h2 => ?_))
    · exact ⟨false, rfl, rfl, Or.inl ⟨fun q => absurd (Int32.not_lt.mpr q.1) (fun w => w h), rfl, rfl⟩⟩
    · have hv : vp_in a 96 := i_vin2 (b := 96) rfl (Int32.not_lt.mp h) h2
      refine ⟨hv, br_n (fun h3 => ?_) (fun h3 => br_c (fun h4 => ?_) (fun h4 => ?_))⟩
      · exact ⟨true, rfl, rfl, Or.inr ⟨⟨Int32.not_lt.mp h, h2⟩, rfl, (if_neg fun q => h3 q.1).symm⟩⟩
      · exact ⟨true, rfl, rfl, Or.inr ⟨⟨Int32.not_lt.mp h, h2⟩, rfl, (if_neg fun q => absurd (Int32.not_le.mpr q.2) (fun w => w h4)).symm⟩⟩
      · have h4' : ¬ 96 ≤ σ 8 9 := h4
        have hv9 : vp_in (σ 8 9) 96 := by
          rw [vp_in_iff]
          rw [Int32.le_iff_toInt_le] at h4'
          omega
        exact ⟨hv, hv9, true, rfl, rfl, Or.inr ⟨⟨Int32.not_lt.mp h, h2⟩, rfl, (if_pos ⟨h3, Int32.not_le.mp h4'⟩).symm⟩⟩
    · exact ⟨false, rfl, rfl, Or.inl ⟨fun q => h2 q.2, rfl, rfl⟩⟩
def y_A_comeToHead : MethodName := ⟨RX0, "comeToHead", "(I)Z"⟩
def ws_A_comeToHead : List Cond := .code y_A_comeToHead prog_2_method_13_code 2 (some .boolean) :: evW
theorem d_A_comeToHead_0 : decode prog_2_method_13_code 0 = .ok (.aload_n 0, 1) := by decide +kernel
theorem d_A_comeToHead_1 : decode prog_2_method_13_code 1 = .ok (.iload_n 1, 1) := by decide +kernel
theorem d_A_comeToHead_2 : decode prog_2_method_13_code 2 = .ok (.invokevirtual 87, 3) := by decide +kernel
theorem d_A_comeToHead_5 : decode prog_2_method_13_code 5 = .ok (.ifCond .ne 5, 3) := by decide +kernel
theorem d_A_comeToHead_8 : decode prog_2_method_13_code 8 = .ok (.iconst 0, 1) := by decide +kernel
theorem d_A_comeToHead_9 : decode prog_2_method_13_code 9 = .ok (.ireturn, 1) := by decide +kernel
theorem d_A_comeToHead_10 : decode prog_2_method_13_code 10 = .ok (.aload_n 0, 1) := by decide +kernel
theorem d_A_comeToHead_11 : decode prog_2_method_13_code 11 = .ok (.getfield 26, 3) := by decide +kernel
theorem d_A_comeToHead_14 : decode prog_2_method_13_code 14 = .ok (.iload_n 1, 1) := by decide +kernel
theorem d_A_comeToHead_15 : decode prog_2_method_13_code 15 = .ok (.iconst 1, 1) := by decide +kernel
theorem d_A_comeToHead_16 : decode prog_2_method_13_code 16 = .ok (.bastore, 1) := by decide +kernel
theorem d_A_comeToHead_17 : decode prog_2_method_13_code 17 = .ok (.iconst 1, 1) := by decide +kernel
theorem d_A_comeToHead_18 : decode prog_2_method_13_code 18 = .ok (.ireturn, 1) := by decide +kernel
def I_A_comeToHead (P : Bool → ev_M → ev_L → Prop) : List (Nat × ev_T) := [(0, tt_al 0 1),
  (1, tt_il 1 2),
  (2, tt_cV evLY 0 1 ev_b pre_A_comeTo post_A_comeTo 5),
  (5, tt_ifne 10 8),
  (8, tt_k 0 9),
  (9, tt_rz P),
  (10, tt_al 0 11),
  (11, tt_gf evLY 0 3 14),
  (14, tt_il 1 15),
  (15, tt_k 1 16),
  (16, tt_zas evLY 17),
  (17, tt_k 1 18),
  (18, tt_rz P)]
abbrev rm_A_comeToHead : Room := { frames := 1, cells := 0, slots := 0, locals := 32 }
set_option maxRecDepth 20000 in
theorem ok_A_comeToHead (l : Launch) (J : ev_K) (P : Bool → ev_M → ev_L → Prop) (X : ev_X l rm_A_comeToHead evLY evCl ws_A_comeToHead prog_2_method_13_code 2 y_A_comeToHead.cls J) (Z : ev_Z J prog_2_method_13_code .ireturn ev_b P) : ev_oks J (I_A_comeToHead P) :=
  ⟨qq_aln X 0 rfl d_A_comeToHead_0,
  qq_iln X 1 rfl d_A_comeToHead_1,
  qq_cV X 0 rfl (c_A_comeTo l) (fun hts => cwV 1 hts (evGV (mw_410) (mw_412) (mp_4) (mw_4) (mw_413)) rfl rfl rfl (by decide +kernel) ⟨Nat.le_of_ble_eq_true rfl, Nat.le_of_ble_eq_true rfl⟩) d_A_comeToHead_2,
  qq_ifne X 10 (by decide) d_A_comeToHead_5,
  qq_ic X 0 (by decide) d_A_comeToHead_8,
  qq_rz Z d_A_comeToHead_9,
  qq_aln X 0 rfl d_A_comeToHead_10,
  qq_gf X 0 3 rfl (fun w h => List.mem_cons_of_mem _ (inE_A w h)) (by decide) (List.mem_cons_of_mem _ mw_98) d_A_comeToHead_11,
  qq_iln X 1 rfl d_A_comeToHead_14,
  qq_ic X 1 (by decide) d_A_comeToHead_15,
  qq_zas X d_A_comeToHead_16,
  qq_ic X 1 (by decide) d_A_comeToHead_17,
  qq_rz Z d_A_comeToHead_18, trivial⟩
def pre_A_comeToHead : List Value → ev_M → ev_L → Prop := fun as σ τ => ∃ (a : Int32), as = [.ref 8, .int a] ∧ 0 ≤ (σ 8 9).toInt
def post_A_comeToHead : List Value → ev_M → ev_L → Bool → ev_M → ev_L → Prop := fun as σ τ r σ' τ' => match as with
  | [_, .int a] => τ' = τ ∧ ((¬ (0 ≤ a ∧ a < 96) ∧ r = false ∧ σ' = σ) ∨ ((0 ≤ a ∧ a < 96) ∧ r = true ∧ σ' = ev_u (sp_mark σ a) 12 a.toNatClampNeg 1))
  | _ => False
set_option maxHeartbeats 4000000 in
set_option maxRecDepth 100000 in
theorem c_A_comeToHead (l : Launch) : ev_C ev_b l y_A_comeToHead ws_A_comeToHead rm_A_comeToHead evLY evCl pre_A_comeToHead post_A_comeToHead := by
  refine ev_meth0 (by decide) rfl ev_rop_b ?_ I_A_comeToHead (ok_A_comeToHead l) 60 ?_
  · rintro _ σ τ ⟨a, rfl, hp⟩
    exact Nat.le_of_ble_eq_true rfl
  · rintro _ σ τ ⟨a, rfl, hp⟩
    refine ⟨⟨_, rfl, hp⟩, ?_⟩
    rintro _ σ1 τ ⟨rfl, ⟨hn, rfl, rfl⟩ | ⟨hn, rfl, rfl⟩⟩
    · refine br_nf rfl ?_
      exact ⟨false, rfl, rfl, Or.inl ⟨hn, rfl, rfl⟩⟩
    · refine br_nt (by decide) ?_
      exact ⟨i_vin2 (b := 96) rfl hn.1 hn.2, true, rfl, rfl, Or.inr ⟨hn, rfl, rfl⟩⟩
def sd_mo (σ : ev_M) (a h : Int32) : Int32 := if ¬ σ 30 14 = 0 ∨ σ 36 a.toNatClampNeg = 0 ∨ (¬ h = 0 ∧ σ 37 a.toNatClampNeg = 0) then 1 else 0
def sd_hh (σ : ev_M) (a h : Int32) : Int32 := if ¬ σ 37 a.toNatClampNeg = 0 ∨ ¬ h = 0 then 1 else 0
def sd_mark (σ : ev_M) (a h : Int32) : ev_M := ev_u (ev_u (ev_u σ 30 14 (sd_mo σ a h)) 36 a.toNatClampNeg 1) 37 a.toNatClampNeg (sd_hh σ a h)
def y_D_come : MethodName := ⟨RD, "come", "(IZ)V"⟩
def ws_D_come : List Cond := .code y_D_come prog_9_method_15_code 3 none :: evW
theorem d_D_come_0 : decode prog_9_method_15_code 0 = .ok (.iload_n 1, 1) := by decide +kernel
theorem d_D_come_1 : decode prog_9_method_15_code 1 = .ok (.ifCond .lt 9, 3) := by decide +kernel
theorem d_D_come_4 : decode prog_9_method_15_code 4 = .ok (.iload_n 1, 1) := by decide +kernel
theorem d_D_come_5 : decode prog_9_method_15_code 5 = .ok (.bipush 96, 2) := by decide +kernel
theorem d_D_come_7 : decode prog_9_method_15_code 7 = .ok (.if_icmp .lt 9, 3) := by decide +kernel
theorem d_D_come_10 : decode prog_9_method_15_code 10 = .ok (.aload_n 0, 1) := by decide +kernel
theorem d_D_come_11 : decode prog_9_method_15_code 11 = .ok (.iconst 1, 1) := by decide +kernel
theorem d_D_come_12 : decode prog_9_method_15_code 12 = .ok (.putfield 91, 3) := by decide +kernel
theorem d_D_come_15 : decode prog_9_method_15_code 15 = .ok (.return_, 1) := by decide +kernel
theorem d_D_come_16 : decode prog_9_method_15_code 16 = .ok (.aload_n 0, 1) := by decide +kernel
theorem d_D_come_17 : decode prog_9_method_15_code 17 = .ok (.aload_n 0, 1) := by decide +kernel
theorem d_D_come_18 : decode prog_9_method_15_code 18 = .ok (.getfield 94, 3) := by decide +kernel
theorem d_D_come_21 : decode prog_9_method_15_code 21 = .ok (.ifCond .ne 25, 3) := by decide +kernel
theorem d_D_come_24 : decode prog_9_method_15_code 24 = .ok (.aload_n 0, 1) := by decide +kernel
theorem d_D_come_25 : decode prog_9_method_15_code 25 = .ok (.getfield 25, 3) := by decide +kernel
theorem d_D_come_28 : decode prog_9_method_15_code 28 = .ok (.iload_n 1, 1) := by decide +kernel
theorem d_D_come_29 : decode prog_9_method_15_code 29 = .ok (.baload, 1) := by decide +kernel
theorem d_D_come_30 : decode prog_9_method_15_code 30 = .ok (.ifCond .eq 16, 3) := by decide +kernel
theorem d_D_come_33 : decode prog_9_method_15_code 33 = .ok (.iload_n 2, 1) := by decide +kernel
theorem d_D_come_34 : decode prog_9_method_15_code 34 = .ok (.ifCond .eq 16, 3) := by decide +kernel
theorem d_D_come_37 : decode prog_9_method_15_code 37 = .ok (.aload_n 0, 1) := by decide +kernel
theorem d_D_come_38 : decode prog_9_method_15_code 38 = .ok (.getfield 29, 3) := by decide +kernel
theorem d_D_come_41 : decode prog_9_method_15_code 41 = .ok (.iload_n 1, 1) := by decide +kernel
theorem d_D_come_42 : decode prog_9_method_15_code 42 = .ok (.baload, 1) := by decide +kernel
theorem d_D_come_43 : decode prog_9_method_15_code 43 = .ok (.ifCond .ne 7, 3) := by decide +kernel
theorem d_D_come_46 : decode prog_9_method_15_code 46 = .ok (.iconst 1, 1) := by decide +kernel
theorem d_D_come_47 : decode prog_9_method_15_code 47 = .ok (.goto 4, 3) := by decide +kernel
theorem d_D_come_50 : decode prog_9_method_15_code 50 = .ok (.iconst 0, 1) := by decide +kernel
theorem d_D_come_51 : decode prog_9_method_15_code 51 = .ok (.putfield 94, 3) := by decide +kernel
theorem d_D_come_54 : decode prog_9_method_15_code 54 = .ok (.aload_n 0, 1) := by decide +kernel
theorem d_D_come_55 : decode prog_9_method_15_code 55 = .ok (.getfield 25, 3) := by decide +kernel
theorem d_D_come_58 : decode prog_9_method_15_code 58 = .ok (.iload_n 1, 1) := by decide +kernel
theorem d_D_come_59 : decode prog_9_method_15_code 59 = .ok (.iconst 1, 1) := by decide +kernel
theorem d_D_come_60 : decode prog_9_method_15_code 60 = .ok (.bastore, 1) := by decide +kernel
theorem d_D_come_61 : decode prog_9_method_15_code 61 = .ok (.aload_n 0, 1) := by decide +kernel
theorem d_D_come_62 : decode prog_9_method_15_code 62 = .ok (.getfield 29, 3) := by decide +kernel
theorem d_D_come_65 : decode prog_9_method_15_code 65 = .ok (.iload_n 1, 1) := by decide +kernel
theorem d_D_come_66 : decode prog_9_method_15_code 66 = .ok (.aload_n 0, 1) := by decide +kernel
theorem d_D_come_67 : decode prog_9_method_15_code 67 = .ok (.getfield 29, 3) := by decide +kernel
theorem d_D_come_70 : decode prog_9_method_15_code 70 = .ok (.iload_n 1, 1) := by decide +kernel
theorem d_D_come_71 : decode prog_9_method_15_code 71 = .ok (.baload, 1) := by decide +kernel
theorem d_D_come_72 : decode prog_9_method_15_code 72 = .ok (.ifCond .ne 7, 3) := by decide +kernel
theorem d_D_come_75 : decode prog_9_method_15_code 75 = .ok (.iload_n 2, 1) := by decide +kernel
theorem d_D_come_76 : decode prog_9_method_15_code 76 = .ok (.ifCond .eq 7, 3) := by decide +kernel
theorem d_D_come_79 : decode prog_9_method_15_code 79 = .ok (.iconst 1, 1) := by decide +kernel
theorem d_D_come_80 : decode prog_9_method_15_code 80 = .ok (.goto 4, 3) := by decide +kernel
theorem d_D_come_83 : decode prog_9_method_15_code 83 = .ok (.iconst 0, 1) := by decide +kernel
theorem d_D_come_84 : decode prog_9_method_15_code 84 = .ok (.bastore, 1) := by decide +kernel
theorem d_D_come_85 : decode prog_9_method_15_code 85 = .ok (.return_, 1) := by decide +kernel
def I_D_come (P : Unit → ev_M → ev_L → Prop) : List (Nat × ev_T) := [(0, tt_il 1 1),
  (1, tt_iflt 10 4),
  (4, tt_il 1 5),
  (5, tt_k 96 7),
  (7, tt_iclt 16 10),
  (10, tt_al 0 11),
  (11, tt_k 1 12),
  (12, tt_pz evLY 7 13 15),
  (15, tt_rv P),
  (16, tt_al 0 17),
  (17, tt_al 0 18),
  (18, tt_gf evLY 7 14 21),
  (21, tt_ifne 46 24),
  (24, tt_al 0 25),
  (25, tt_gf evLY 7 9 28),
  (28, tt_il 1 29),
  (29, tt_za evLY 30),
  (30, tt_ifeq 46 33),
  (33, tt_il 2 34),
  (34, tt_ifeq 50 37),
  (37, tt_al 0 38),
  (38, tt_gf evLY 7 10 41),
  (41, tt_il 1 42),
  (42, tt_za evLY 43),
  (43, tt_ifne 50 46),
  (46, tt_k 1 47),
  (47, tt_go 51),
  (50, tt_k 0 51),
  (51, tt_pz evLY 7 14 54),
  (54, tt_al 0 55),
  (55, tt_gf evLY 7 9 58),
  (58, tt_il 1 59),
  (59, tt_k 1 60),
  (60, tt_zas evLY 61),
  (61, tt_al 0 62),
  (62, tt_gf evLY 7 10 65),
  (65, tt_il 1 66),
  (66, tt_al 0 67),
  (67, tt_gf evLY 7 10 70),
  (70, tt_il 1 71),
  (71, tt_za evLY 72),
  (72, tt_ifne 79 75),
  (75, tt_il 2 76),
  (76, tt_ifeq 83 79),
  (79, tt_k 1 80),
  (80, tt_go 84),
  (83, tt_k 0 84),
  (84, tt_zas evLY 85),
  (85, tt_rv P)]
abbrev rm_D_come : Room := { frames := 0, cells := 0, slots := 0, locals := 0 }
set_option maxRecDepth 20000 in
theorem ok_D_come (l : Launch) (J : ev_K) (P : Unit → ev_M → ev_L → Prop) (X : ev_X l rm_D_come evLY evCl ws_D_come prog_9_method_15_code 3 y_D_come.cls J) (Z : ev_Z J prog_9_method_15_code .return_ ev_n P) : ev_oks J (I_D_come P) :=
  ⟨qq_iln X 1 rfl d_D_come_0,
  qq_iflt X 10 (by decide) d_D_come_1,
  qq_iln X 1 rfl d_D_come_4,
  qq_bp X 96 (by decide) d_D_come_5,
  qq_iclt X 16 (by decide) d_D_come_7,
  qq_aln X 0 rfl d_D_come_10,
  qq_ic X 1 (by decide) d_D_come_11,
  qq_pz X 7 13 rfl (fun w h => List.mem_cons_of_mem _ (inE_D w h)) (by decide) tyD tyD_ok nmD rfl (by decide +kernel) (List.mem_cons_of_mem _ mw_767) d_D_come_12,
  qq_rv Z d_D_come_15,
  qq_aln X 0 rfl d_D_come_16,
  qq_aln X 0 rfl d_D_come_17,
  qq_gf X 7 14 rfl (fun w h => List.mem_cons_of_mem _ (inE_D w h)) (by decide) (List.mem_cons_of_mem _ mw_768) d_D_come_18,
  qq_ifne X 46 (by decide) d_D_come_21,
  qq_aln X 0 rfl d_D_come_24,
  qq_gf X 7 9 rfl (fun w h => List.mem_cons_of_mem _ (inE_D w h)) (by decide) (List.mem_cons_of_mem _ mw_763) d_D_come_25,
  qq_iln X 1 rfl d_D_come_28,
  qq_za X d_D_come_29,
  qq_ifeq X 46 (by decide) d_D_come_30,
  qq_iln X 2 rfl d_D_come_33,
  qq_ifeq X 50 (by decide) d_D_come_34,
  qq_aln X 0 rfl d_D_come_37,
  qq_gf X 7 10 rfl (fun w h => List.mem_cons_of_mem _ (inE_D w h)) (by decide) (List.mem_cons_of_mem _ mw_764) d_D_come_38,
  qq_iln X 1 rfl d_D_come_41,
  qq_za X d_D_come_42,
  qq_ifne X 50 (by decide) d_D_come_43,
  qq_ic X 1 (by decide) d_D_come_46,
  qq_go X 51 (by decide) d_D_come_47,
  qq_ic X 0 (by decide) d_D_come_50,
  qq_pz X 7 14 rfl (fun w h => List.mem_cons_of_mem _ (inE_D w h)) (by decide) tyD tyD_ok nmD rfl (by decide +kernel) (List.mem_cons_of_mem _ mw_768) d_D_come_51,
  qq_aln X 0 rfl d_D_come_54,
  qq_gf X 7 9 rfl (fun w h => List.mem_cons_of_mem _ (inE_D w h)) (by decide) (List.mem_cons_of_mem _ mw_763) d_D_come_55,
  qq_iln X 1 rfl d_D_come_58,
  qq_ic X 1 (by decide) d_D_come_59,
  qq_zas X d_D_come_60,
  qq_aln X 0 rfl d_D_come_61,
  qq_gf X 7 10 rfl (fun w h => List.mem_cons_of_mem _ (inE_D w h)) (by decide) (List.mem_cons_of_mem _ mw_764) d_D_come_62,
  qq_iln X 1 rfl d_D_come_65,
  qq_aln X 0 rfl d_D_come_66,
  qq_gf X 7 10 rfl (fun w h => List.mem_cons_of_mem _ (inE_D w h)) (by decide) (List.mem_cons_of_mem _ mw_764) d_D_come_67,
  qq_iln X 1 rfl d_D_come_70,
  qq_za X d_D_come_71,
  qq_ifne X 79 (by decide) d_D_come_72,
  qq_iln X 2 rfl d_D_come_75,
  qq_ifeq X 83 (by decide) d_D_come_76,
  qq_ic X 1 (by decide) d_D_come_79,
  qq_go X 84 (by decide) d_D_come_80,
  qq_ic X 0 (by decide) d_D_come_83,
  qq_zas X d_D_come_84,
  qq_rv Z d_D_come_85, trivial⟩
def pre_D_come : List Value → ev_M → ev_L → Prop := fun as σ τ => ∃ (a h : Int32), as = [.ref 30, .int a, .int h]
def post_D_come : List Value → ev_M → ev_L → Unit → ev_M → ev_L → Prop := fun as σ τ r σ' τ' => match as with
  | [_, .int a, .int h] => τ' = τ ∧ ((¬ (0 ≤ a ∧ a < 96) ∧ σ' = ev_u σ 30 13 1) ∨ ((0 ≤ a ∧ a < 96) ∧ σ' = sd_mark σ a h))
  | _ => False
set_option maxHeartbeats 4000000 in
set_option maxRecDepth 100000 in
theorem c_D_come (l : Launch) : ev_C ev_n l y_D_come ws_D_come rm_D_come evLY evCl pre_D_come post_D_come := by
  refine ev_meth0 (by decide) rfl ev_rop_v ?_ I_D_come (ok_D_come l) 60 ?_
  · rintro _ σ τ ⟨a, h, rfl⟩
    exact Nat.le_of_ble_eq_true rfl
  · rintro _ σ τ ⟨a, h, rfl⟩
    refine br_c (fun h1 => ?_) (fun h1 => br_c (fun h2 => ?_) (fun h2 => ?_))
    · exact ⟨Or.inr rfl, rfl, Or.inl ⟨fun q => absurd (Int32.not_lt.mpr q.1) (fun w => w h1), rfl⟩⟩
    · have hn : 0 ≤ a ∧ a < 96 := ⟨Int32.not_lt.mp h1, h2⟩
      have hv : vp_in a 96 := i_vin2 (b := 96) rfl hn.1 hn.2
      have tail : ∀ mo : Int32, mo = sd_mo σ a h → (¬ σ 37 a.toNatClampNeg = 0 → vp_in a 96 ∧ post_D_come [.ref 30, .int a, .int h] σ τ () (ev_u (ev_u (ev_u σ 30 14 mo) 36 a.toNatClampNeg 1) 37 a.toNatClampNeg 1) τ) ∧ (σ 37 a.toNatClampNeg = 0 → ((h = 0 → vp_in a 96 ∧ post_D_come [.ref 30, .int a, .int h] σ τ () (ev_u (ev_u (ev_u σ 30 14 mo) 36 a.toNatClampNeg 1) 37 a.toNatClampNeg 0) τ) ∧ (¬ h = 0 → vp_in a 96 ∧ post_D_come [.ref 30, .int a, .int h] σ τ () (ev_u (ev_u (ev_u σ 30 14 mo) 36 a.toNatClampNeg 1) 37 a.toNatClampNeg 1) τ))) := by
        rintro _ rfl
        refine ⟨fun q => ⟨hv, rfl, Or.inr ⟨hn, ?_⟩⟩, fun q => ⟨fun q2 => ⟨hv, rfl, Or.inr ⟨hn, ?_⟩⟩, fun q2 => ⟨hv, rfl, Or.inr ⟨hn, ?_⟩⟩⟩⟩
        · unfold sd_mark
          rw [show sd_hh σ a h = 1 from if_pos (Or.inl q)]
        · unfold sd_mark
          rw [show sd_hh σ a h = 0 from if_neg (fun w => w.elim (fun z => z q) (fun z => z q2))]
        · unfold sd_mark
          rw [show sd_hh σ a h = 1 from if_pos (Or.inr q2)]
      refine br_n (fun h3 => ?_) (fun h3 => ?_)
      · exact ⟨Or.inr rfl, hv, hv, tail 1 (if_pos (Or.inl h3)).symm⟩
      · refine ⟨hv, br_c (fun h4 => ?_) (fun h4 => ?_)⟩
        · exact ⟨Or.inr rfl, hv, hv, tail 1 (if_pos (Or.inr (Or.inl h4))).symm⟩
        · refine br_c (fun h5 => ?_) (fun h5 => ⟨hv, br_n (fun h6 => ?_) (fun h6 => ?_)⟩)
          · exact ⟨Or.inl rfl, hv, hv, tail 0 (if_neg (fun w => w.elim (fun z => z h3) (fun z => z.elim h4 (fun y => y.1 h5)))).symm⟩
          · exact ⟨Or.inl rfl, hv, hv, tail 0 (if_neg (fun w => w.elim (fun z => z h3) (fun z => z.elim h4 (fun y => h6 y.2)))).symm⟩
          · exact ⟨Or.inr rfl, hv, hv, tail 1 (if_pos (Or.inr (Or.inr ⟨h5, h6⟩))).symm⟩
    · exact ⟨Or.inr rfl, rfl, Or.inl ⟨fun q => h2 q.2, rfl⟩⟩
def sd_has (σ : ev_M) (b c : Int32) : Prop := ∃ i : Nat, i < (σ 30 3).toNatClampNeg ∧ σ 33 i = b ∧ σ 34 i = c
def y_D_isDeclared : MethodName := ⟨RD, "isDeclared", "(II)Z"⟩
def ws_D_isDeclared : List Cond := .code y_D_isDeclared prog_9_method_16_code 5 (some .boolean) :: evW
theorem d_D_isDeclared_0 : decode prog_9_method_16_code 0 = .ok (.iconst 0, 1) := by decide +kernel
theorem d_D_isDeclared_1 : decode prog_9_method_16_code 1 = .ok (.istore_n 3, 1) := by decide +kernel
theorem d_D_isDeclared_2 : decode prog_9_method_16_code 2 = .ok (.iconst 0, 1) := by decide +kernel
theorem d_D_isDeclared_3 : decode prog_9_method_16_code 3 = .ok (.istore 4, 2) := by decide +kernel
theorem d_D_isDeclared_5 : decode prog_9_method_16_code 5 = .ok (.iload 4, 2) := by decide +kernel
theorem d_D_isDeclared_7 : decode prog_9_method_16_code 7 = .ok (.aload_n 0, 1) := by decide +kernel
theorem d_D_isDeclared_8 : decode prog_9_method_16_code 8 = .ok (.getfield 81, 3) := by decide +kernel
theorem d_D_isDeclared_11 : decode prog_9_method_16_code 11 = .ok (.if_icmp .ge 41, 3) := by decide +kernel
theorem d_D_isDeclared_14 : decode prog_9_method_16_code 14 = .ok (.iload_n 3, 1) := by decide +kernel
theorem d_D_isDeclared_15 : decode prog_9_method_16_code 15 = .ok (.ifCond .ne 25, 3) := by decide +kernel
theorem d_D_isDeclared_18 : decode prog_9_method_16_code 18 = .ok (.aload_n 0, 1) := by decide +kernel
theorem d_D_isDeclared_19 : decode prog_9_method_16_code 19 = .ok (.getfield 16, 3) := by decide +kernel
theorem d_D_isDeclared_22 : decode prog_9_method_16_code 22 = .ok (.iload 4, 2) := by decide +kernel
theorem d_D_isDeclared_24 : decode prog_9_method_16_code 24 = .ok (.iaload, 1) := by decide +kernel
theorem d_D_isDeclared_25 : decode prog_9_method_16_code 25 = .ok (.iload_n 1, 1) := by decide +kernel
theorem d_D_isDeclared_26 : decode prog_9_method_16_code 26 = .ok (.if_icmp .ne 18, 3) := by decide +kernel
theorem d_D_isDeclared_29 : decode prog_9_method_16_code 29 = .ok (.aload_n 0, 1) := by decide +kernel
theorem d_D_isDeclared_30 : decode prog_9_method_16_code 30 = .ok (.getfield 19, 3) := by decide +kernel
theorem d_D_isDeclared_33 : decode prog_9_method_16_code 33 = .ok (.iload 4, 2) := by decide +kernel
theorem d_D_isDeclared_35 : decode prog_9_method_16_code 35 = .ok (.iaload, 1) := by decide +kernel
theorem d_D_isDeclared_36 : decode prog_9_method_16_code 36 = .ok (.iload_n 2, 1) := by decide +kernel
theorem d_D_isDeclared_37 : decode prog_9_method_16_code 37 = .ok (.if_icmp .ne 7, 3) := by decide +kernel
theorem d_D_isDeclared_40 : decode prog_9_method_16_code 40 = .ok (.iconst 1, 1) := by decide +kernel
theorem d_D_isDeclared_41 : decode prog_9_method_16_code 41 = .ok (.goto 4, 3) := by decide +kernel
theorem d_D_isDeclared_44 : decode prog_9_method_16_code 44 = .ok (.iconst 0, 1) := by decide +kernel
theorem d_D_isDeclared_45 : decode prog_9_method_16_code 45 = .ok (.istore_n 3, 1) := by decide +kernel
theorem d_D_isDeclared_46 : decode prog_9_method_16_code 46 = .ok (.iinc 4 1, 3) := by decide +kernel
theorem d_D_isDeclared_49 : decode prog_9_method_16_code 49 = .ok (.goto (-44), 3) := by decide +kernel
theorem d_D_isDeclared_52 : decode prog_9_method_16_code 52 = .ok (.iload_n 3, 1) := by decide +kernel
theorem d_D_isDeclared_53 : decode prog_9_method_16_code 53 = .ok (.ireturn, 1) := by decide +kernel
def I_D_isDeclared (P : Bool → ev_M → ev_L → Prop) : List (Nat × ev_T) := [(0, tt_k 0 1),
  (1, tt_is 3 2),
  (2, tt_k 0 3),
  (3, tt_is 4 5),
  (5, tt_il 4 7),
  (7, tt_al 0 8),
  (8, tt_gf evLY 7 3 11),
  (11, tt_icge 52 14),
  (14, tt_il 3 15),
  (15, tt_ifne 40 18),
  (18, tt_al 0 19),
  (19, tt_gf evLY 7 4 22),
  (22, tt_il 4 24),
  (24, tt_ia evLY 25),
  (25, tt_il 1 26),
  (26, tt_icne 44 29),
  (29, tt_al 0 30),
  (30, tt_gf evLY 7 5 33),
  (33, tt_il 4 35),
  (35, tt_ia evLY 36),
  (36, tt_il 2 37),
  (37, tt_icne 44 40),
  (40, tt_k 1 41),
  (41, tt_go 45),
  (44, tt_k 0 45),
  (45, tt_is 3 46),
  (46, tt_ii 4 1 49),
  (49, tt_go 5),
  (52, tt_il 3 53),
  (53, tt_rz P)]
abbrev rm_D_isDeclared : Room := { frames := 0, cells := 0, slots := 0, locals := 0 }
set_option maxRecDepth 20000 in
theorem ok_D_isDeclared (l : Launch) (J : ev_K) (P : Bool → ev_M → ev_L → Prop) (X : ev_X l rm_D_isDeclared evLY evCl ws_D_isDeclared prog_9_method_16_code 5 y_D_isDeclared.cls J) (Z : ev_Z J prog_9_method_16_code .ireturn ev_b P) : ev_oks J (I_D_isDeclared P) :=
  ⟨qq_ic X 0 (by decide) d_D_isDeclared_0,
  qq_isn X 3 rfl (by decide) d_D_isDeclared_1,
  qq_ic X 0 (by decide) d_D_isDeclared_2,
  qq_is X 4 (by decide) d_D_isDeclared_3,
  qq_il X 4 d_D_isDeclared_5,
  qq_aln X 0 rfl d_D_isDeclared_7,
  qq_gf X 7 3 rfl (fun w h => List.mem_cons_of_mem _ (inE_D w h)) (by decide) (List.mem_cons_of_mem _ mw_757) d_D_isDeclared_8,
  qq_icge X 52 (by decide) d_D_isDeclared_11,
  qq_iln X 3 rfl d_D_isDeclared_14,
  qq_ifne X 40 (by decide) d_D_isDeclared_15,
  qq_aln X 0 rfl d_D_isDeclared_18,
  qq_gf X 7 4 rfl (fun w h => List.mem_cons_of_mem _ (inE_D w h)) (by decide) (List.mem_cons_of_mem _ mw_758) d_D_isDeclared_19,
  qq_il X 4 d_D_isDeclared_22,
  qq_ia X d_D_isDeclared_24,
  qq_iln X 1 rfl d_D_isDeclared_25,
  qq_icne X 44 (by decide) d_D_isDeclared_26,
  qq_aln X 0 rfl d_D_isDeclared_29,
  qq_gf X 7 5 rfl (fun w h => List.mem_cons_of_mem _ (inE_D w h)) (by decide) (List.mem_cons_of_mem _ mw_759) d_D_isDeclared_30,
  qq_il X 4 d_D_isDeclared_33,
  qq_ia X d_D_isDeclared_35,
  qq_iln X 2 rfl d_D_isDeclared_36,
  qq_icne X 44 (by decide) d_D_isDeclared_37,
  qq_ic X 1 (by decide) d_D_isDeclared_40,
  qq_go X 45 (by decide) d_D_isDeclared_41,
  qq_ic X 0 (by decide) d_D_isDeclared_44,
  qq_isn X 3 rfl (by decide) d_D_isDeclared_45,
  qq_ii X 4 1 (by decide) (by decide) d_D_isDeclared_46,
  qq_go X 5 (by decide) d_D_isDeclared_49,
  qq_iln X 3 rfl d_D_isDeclared_52,
  qq_rz Z d_D_isDeclared_53, trivial⟩
def pre_D_isDeclared : List Value → ev_M → ev_L → Prop := fun as σ _ => ∃ (b c : Int32), as = [.ref 30, .int b, .int c] ∧ ∃ n : Nat, n ≤ 4 ∧ σ 30 3 = nI n
def post_D_isDeclared : List Value → ev_M → ev_L → Bool → ev_M → ev_L → Prop := fun as σ τ r σ' τ' => match as with
  | [_, .int b, .int c] => (r = true ↔ sd_has σ b c) ∧ σ' = σ ∧ τ' = τ
  | _ => False
set_option maxHeartbeats 4000000 in
set_option maxRecDepth 100000 in
theorem c_D_isDeclared (l : Launch) : ev_C ev_b l y_D_isDeclared ws_D_isDeclared rm_D_isDeclared evLY evCl pre_D_isDeclared post_D_isDeclared := by
  refine ev_methL (by decide) rfl ev_rop_b ?_ I_D_isDeclared (ok_D_isDeclared l) [5] 60 ?_
  · rintro _ σ τ ⟨b, c, rfl, h⟩
    exact Nat.le_of_ble_eq_true rfl
  · rintro _ σ τ ⟨b, c, rfl, n, hn, hd⟩
    refine ⟨fun μ pc lv st σ' τ' z => st = [] ∧ z = 0 ∧ τ = τ' ∧ σ = σ' ∧ ((pc = 0 ∧ μ = 10 ∧ lv = [.ref 30, .int b, .int c, .null, .null]) ∨ (pc = 5 ∧ ∃ (i : Nat) (x : Bool), i ≤ n ∧ μ = n - i ∧ lv = [.ref 30, .int b, .int c, .int (cond x 1 0), .int (nI i)] ∧ (x = true ↔ ∃ j, j < i ∧ σ 33 j = b ∧ σ 34 j = c))), ⟨10, rfl, rfl, rfl, rfl, Or.inl ⟨rfl, rfl, rfl⟩⟩, ?_⟩
    rintro μ pc lv st σ' τ' z ⟨rfl, rfl, rfl, rfl, ⟨rfl, rfl, rfl⟩ | ⟨rfl, i, x, hi, rfl, rfl, hx⟩⟩
    · refine ⟨n, by omega, rfl, rfl, rfl, rfl, Or.inr ⟨rfl, 0, false, Nat.zero_le _, rfl, rfl, ⟨fun q => (by cases q), ?_⟩⟩⟩
      rintro ⟨j, hj, _⟩
      omega
    · refine br_c (fun h => ?_) (fun h => ?_)
      · rw [hd] at h
        have hin : n ≤ i := (nI_leI (by omega) (by omega)).mp h
        have : i = n := by omega
        subst this
        refine ⟨x, rfl, ?_, rfl, rfl⟩
        unfold sd_has
        rw [hd, nI_clamp (by omega)]
        exact hx
      · rw [hd] at h
        have hin : i < n := Nat.not_le.mp fun q => h ((nI_leI (by omega) (by omega)).mpr q)
        have hv : vp_in (nI i) 4 := vp_in_nI (by omega) (by omega)
        have hcl : (nI i).toNatClampNeg = i := nI_clamp (by omega)
        have nx : ∀ y : Bool, (y = true ↔ (x = true ∨ (σ 33 i = b ∧ σ 34 i = c))) → ∃ μ', μ' < n - i ∧ ([] : List Value) = [] ∧ 0 = 0 ∧ τ = τ ∧ σ = σ ∧ ((5 = 0 ∧ μ' = 10 ∧ ([.ref 30, .int b, .int c, .int (cond y 1 0), .int (nI i + 1)] : List Value) = [.ref 30, .int b, .int c, .null, .null]) ∨ (5 = 5 ∧ ∃ (i2 : Nat) (x : Bool), i2 ≤ n ∧ μ' = n - i2 ∧ ([.ref 30, .int b, .int c, .int (cond y 1 0), .int (nI i + 1)] : List Value) = [.ref 30, .int b, .int c, .int (cond x 1 0), .int (nI i2)] ∧ (x = true ↔ ∃ j, j < i2 ∧ σ 33 j = b ∧ σ 34 j = c))) := by
          intro y hy
          refine ⟨n - (i + 1), by omega, rfl, rfl, rfl, rfl, Or.inr ⟨rfl, i + 1, y, by omega, rfl, by rw [← nI_1], ?_⟩⟩
          rw [hy, hx]
          constructor
          · rintro (⟨j, hj, w⟩ | w)
            · exact ⟨j, by omega, w⟩
            · exact ⟨i, by omega, w⟩
          · rintro ⟨j, hj, w⟩
            by_cases hji : j = i
            · subst hji; exact Or.inr w
            · exact Or.inl ⟨j, by omega, w⟩
        refine br_n (fun h1 => ?_) (fun h1 => ?_)
        · exact nx true ⟨fun _ => Or.inl (bnz h1), fun _ => rfl⟩
        · have hxf := bz h1
          refine ⟨hv, br_n (fun h2 => ?_) (fun h2 => ⟨hv, br_n (fun h3 => ?_) (fun h3 => ?_)⟩)⟩
          · refine nx false ⟨fun q => (by cases q), fun q => ?_⟩
            rw [hcl] at h2
            rcases q with q | q
            · rw [hxf] at q; cases q
            · exact absurd q.1 h2
          · refine nx false ⟨fun q => (by cases q), fun q => ?_⟩
            rw [hcl] at h3
            rcases q with q | q
            · rw [hxf] at q; cases q
            · exact absurd q.2 h3
          · refine nx true ⟨fun _ => Or.inr ⟨?_, ?_⟩, fun _ => rfl⟩
            · rw [← hcl]; exact h2
            · rw [← hcl]; exact h3
