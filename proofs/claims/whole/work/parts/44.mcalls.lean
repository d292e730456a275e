/-! the reference: the simple calls -/
theorem ev_u_u (σ : ev_M) (k j : Nat) (x y : Int32) : ev_u (ev_u σ k j x) k j y = ev_u σ k j y := by
  unfold ev_u
  rw [ev_p_p]
  congr 1
  rw [ev_p_k]
  funext i
  unfold upd
  by_cases h : i = j <;> simp [h]
def sd_forget (σ : ev_M) : ev_M := ev_u (ev_u σ 30 7 0) 30 8 0
def y_D_poke : MethodName := ⟨RD, "poke", "(II)V"⟩
def ws_D_poke : List Cond := .code y_D_poke prog_9_method_5_code 3 none :: evW
theorem d_D_poke_0 : decode prog_9_method_5_code 0 = .ok (.aload_n 0, 1) := by decide +kernel
theorem d_D_poke_1 : decode prog_9_method_5_code 1 = .ok (.iload_n 1, 1) := by decide +kernel
theorem d_D_poke_2 : decode prog_9_method_5_code 2 = .ok (.ifCond .lt 9, 3) := by decide +kernel
theorem d_D_poke_5 : decode prog_9_method_5_code 5 = .ok (.iload_n 1, 1) := by decide +kernel
theorem d_D_poke_6 : decode prog_9_method_5_code 6 = .ok (.bipush 96, 2) := by decide +kernel
theorem d_D_poke_8 : decode prog_9_method_5_code 8 = .ok (.if_icmp .lt 7, 3) := by decide +kernel
theorem d_D_poke_11 : decode prog_9_method_5_code 11 = .ok (.iconst 1, 1) := by decide +kernel
theorem d_D_poke_12 : decode prog_9_method_5_code 12 = .ok (.goto 4, 3) := by decide +kernel
theorem d_D_poke_15 : decode prog_9_method_5_code 15 = .ok (.iconst 0, 1) := by decide +kernel
theorem d_D_poke_16 : decode prog_9_method_5_code 16 = .ok (.putfield 63, 3) := by decide +kernel
theorem d_D_poke_19 : decode prog_9_method_5_code 19 = .ok (.aload_n 0, 1) := by decide +kernel
theorem d_D_poke_20 : decode prog_9_method_5_code 20 = .ok (.getfield 63, 3) := by decide +kernel
theorem d_D_poke_23 : decode prog_9_method_5_code 23 = .ok (.ifCond .le 4, 3) := by decide +kernel
theorem d_D_poke_26 : decode prog_9_method_5_code 26 = .ok (.return_, 1) := by decide +kernel
theorem d_D_poke_27 : decode prog_9_method_5_code 27 = .ok (.aload_n 0, 1) := by decide +kernel
theorem d_D_poke_28 : decode prog_9_method_5_code 28 = .ok (.getfield 7, 3) := by decide +kernel
theorem d_D_poke_31 : decode prog_9_method_5_code 31 = .ok (.iload_n 1, 1) := by decide +kernel
theorem d_D_poke_32 : decode prog_9_method_5_code 32 = .ok (.iload_n 2, 1) := by decide +kernel
theorem d_D_poke_33 : decode prog_9_method_5_code 33 = .ok (.sipush 255, 3) := by decide +kernel
theorem d_D_poke_36 : decode prog_9_method_5_code 36 = .ok (.iand, 1) := by decide +kernel
theorem d_D_poke_37 : decode prog_9_method_5_code 37 = .ok (.iastore, 1) := by decide +kernel
theorem d_D_poke_38 : decode prog_9_method_5_code 38 = .ok (.aload_n 0, 1) := by decide +kernel
theorem d_D_poke_39 : decode prog_9_method_5_code 39 = .ok (.invokevirtual 74, 3) := by decide +kernel
theorem d_D_poke_42 : decode prog_9_method_5_code 42 = .ok (.return_, 1) := by decide +kernel
def I_D_poke (P : Unit → ev_M → ev_L → Prop) : List (Nat × ev_T) := [(0, tt_al 0 1),
  (1, tt_il 1 2),
  (2, tt_iflt 11 5),
  (5, tt_il 1 6),
  (6, tt_k 96 8),
  (8, tt_iclt 15 11),
  (11, tt_k 1 12),
  (12, tt_go 16),
  (15, tt_k 0 16),
  (16, tt_pf evLY 7 0 19),
  (19, tt_al 0 20),
  (20, tt_gf evLY 7 0 23),
  (23, tt_ifle 27 26),
  (26, tt_rv P),
  (27, tt_al 0 28),
  (28, tt_gf evLY 7 1 31),
  (31, tt_il 1 32),
  (32, tt_il 2 33),
  (33, tt_k 255 36),
  (36, tt_iand 37),
  (37, tt_ias evLY 38),
  (38, tt_al 0 39),
  (39, tt_cV evLY 7 0 ev_n pre_D_forget post_D_forget 42),
  (42, tt_rv P)]
abbrev rm_D_poke : Room := { frames := 1, cells := 0, slots := 0, locals := 32 }
set_option maxRecDepth 20000 in
theorem ok_D_poke (l : Launch) (J : ev_K) (P : Unit → ev_M → ev_L → Prop) (X : ev_X l rm_D_poke evLY evCl ws_D_poke prog_9_method_5_code 3 y_D_poke.cls J) (Z : ev_Z J prog_9_method_5_code .return_ ev_n P) : ev_oks J (I_D_poke P) :=
  ⟨qq_aln X 0 rfl d_D_poke_0,
  qq_iln X 1 rfl d_D_poke_1,
  qq_iflt X 11 (by decide) d_D_poke_2,
  qq_iln X 1 rfl d_D_poke_5,
  qq_bp X 96 (by decide) d_D_poke_6,
  qq_iclt X 15 (by decide) d_D_poke_8,
  qq_ic X 1 (by decide) d_D_poke_11,
  qq_go X 16 (by decide) d_D_poke_12,
  qq_ic X 0 (by decide) d_D_poke_15,
  qq_pf X 7 0 rfl (fun w h => List.mem_cons_of_mem _ (inE_D w h)) (by decide) tyD tyD_ok nmD rfl (by decide +kernel) (List.mem_cons_of_mem _ mw_754) d_D_poke_16,
  qq_aln X 0 rfl d_D_poke_19,
  qq_gf X 7 0 rfl (fun w h => List.mem_cons_of_mem _ (inE_D w h)) (by decide) (List.mem_cons_of_mem _ mw_754) d_D_poke_20,
  qq_ifle X 27 (by decide) d_D_poke_23,
  qq_rv Z d_D_poke_26,
  qq_aln X 0 rfl d_D_poke_27,
  qq_gf X 7 1 rfl (fun w h => List.mem_cons_of_mem _ (inE_D w h)) (by decide) (List.mem_cons_of_mem _ mw_755) d_D_poke_28,
  qq_iln X 1 rfl d_D_poke_31,
  qq_iln X 2 rfl d_D_poke_32,
  qq_sp X 255 (by decide) d_D_poke_33,
  qq_iand X d_D_poke_36,
  qq_ias X d_D_poke_37,
  qq_aln X 0 rfl d_D_poke_38,
  qq_cV X 7 rfl (c_D_forget l) (fun hts => cwV 0 hts (evGV (mw_853) (mw_855) (mp_26) (mw_8) (mw_856)) rfl rfl rfl (by decide +kernel) ⟨Nat.le_of_ble_eq_true rfl, Nat.le_of_ble_eq_true rfl⟩) d_D_poke_39,
  qq_rv Z d_D_poke_42, trivial⟩
def pre_D_poke : List Value → ev_M → ev_L → Prop := fun as σ τ => ∃ (a v : Int32), as = [.ref 30, .int a, .int v]
def post_D_poke : List Value → ev_M → ev_L → Unit → ev_M → ev_L → Prop := fun as σ τ r σ' τ' => match as with
  | [_, .int a, .int v] => τ' = τ ∧ ((¬ (0 ≤ a ∧ a < 96) ∧ σ' = ev_u σ 30 0 1) ∨ ((0 ≤ a ∧ a < 96) ∧ σ' = sd_forget (ev_u (ev_u σ 30 0 0) 31 a.toNatClampNeg (v &&& 255))))
  | _ => False
set_option maxHeartbeats 4000000 in
set_option maxRecDepth 100000 in
theorem c_D_poke (l : Launch) : ev_C ev_n l y_D_poke ws_D_poke rm_D_poke evLY evCl pre_D_poke post_D_poke := by
  refine ev_meth0 (by decide) rfl ev_rop_v ?_ I_D_poke (ok_D_poke l) 60 ?_
  · rintro _ σ τ ⟨a, v, rfl⟩
    exact Nat.le_of_ble_eq_true rfl
  · rintro _ σ τ ⟨a, v, rfl⟩
    refine br_c (fun h => ?_) (fun h => br_c (fun h2 => ?_) (fun h2 => ?_))
    · refine br_f (show ¬ (1 : Int32) ≤ 0 by decide) ?_
      exact ⟨rfl, Or.inl ⟨fun q => absurd (Int32.not_lt.mpr q.1) (fun w => w h), rfl⟩⟩
    · refine br_t (show (0 : Int32) ≤ 0 by decide) ?_
      have hv : vp_in a 512 := by
        have : vp_in a 96 := i_vin2 (b := 96) rfl (Int32.not_lt.mp h) h2
        rw [vp_in_iff] at this ⊢
        omega
      refine ⟨hv, rfl, ?_⟩
      rintro _ _ _ ⟨rfl, rfl⟩
      exact ⟨rfl, Or.inr ⟨⟨Int32.not_lt.mp h, h2⟩, rfl⟩⟩
    · refine br_f (show ¬ (1 : Int32) ≤ 0 by decide) ?_
      exact ⟨rfl, Or.inl ⟨fun q => h2 q.2, rfl⟩⟩
def sd_okT (b n : Int32) : Prop := 1 ≤ n ∧ n ≤ 96 ∧ 0 ≤ b ∧ b ≤ 96 - n
def sd_tadd (σ : ev_M) (b n : Int32) : ev_M := sd_forget (ev_u (ev_u (ev_u (ev_u σ 30 0 0) 33 (σ 30 3).toNatClampNeg b) 34 (σ 30 3).toNatClampNeg n) 30 3 (σ 30 3 + 1))
def y_D_declare : MethodName := ⟨RD, "declare", "(II)I"⟩
def ws_D_declare : List Cond := .code y_D_declare prog_9_method_6_code 3 (some .int) :: evW
theorem d_D_declare_0 : decode prog_9_method_6_code 0 = .ok (.aload_n 0, 1) := by decide +kernel
theorem d_D_declare_1 : decode prog_9_method_6_code 1 = .ok (.iconst 0, 1) := by decide +kernel
theorem d_D_declare_2 : decode prog_9_method_6_code 2 = .ok (.putfield 63, 3) := by decide +kernel
theorem d_D_declare_5 : decode prog_9_method_6_code 5 = .ok (.iload_n 2, 1) := by decide +kernel
theorem d_D_declare_6 : decode prog_9_method_6_code 6 = .ok (.iconst 1, 1) := by decide +kernel
theorem d_D_declare_7 : decode prog_9_method_6_code 7 = .ok (.if_icmp .lt 21, 3) := by decide +kernel
theorem d_D_declare_10 : decode prog_9_method_6_code 10 = .ok (.iload_n 2, 1) := by decide +kernel
theorem d_D_declare_11 : decode prog_9_method_6_code 11 = .ok (.bipush 96, 2) := by decide +kernel
theorem d_D_declare_13 : decode prog_9_method_6_code 13 = .ok (.if_icmp .gt 15, 3) := by decide +kernel
theorem d_D_declare_16 : decode prog_9_method_6_code 16 = .ok (.iload_n 1, 1) := by decide +kernel
theorem d_D_declare_17 : decode prog_9_method_6_code 17 = .ok (.ifCond .lt 11, 3) := by decide +kernel
theorem d_D_declare_20 : decode prog_9_method_6_code 20 = .ok (.iload_n 1, 1) := by decide +kernel
theorem d_D_declare_21 : decode prog_9_method_6_code 21 = .ok (.bipush 96, 2) := by decide +kernel
theorem d_D_declare_23 : decode prog_9_method_6_code 23 = .ok (.iload_n 2, 1) := by decide +kernel
theorem d_D_declare_24 : decode prog_9_method_6_code 24 = .ok (.isub, 1) := by decide +kernel
theorem d_D_declare_25 : decode prog_9_method_6_code 25 = .ok (.if_icmp .le 9, 3) := by decide +kernel
theorem d_D_declare_28 : decode prog_9_method_6_code 28 = .ok (.aload_n 0, 1) := by decide +kernel
theorem d_D_declare_29 : decode prog_9_method_6_code 29 = .ok (.iconst 1, 1) := by decide +kernel
theorem d_D_declare_30 : decode prog_9_method_6_code 30 = .ok (.invokevirtual 77, 3) := by decide +kernel
theorem d_D_declare_33 : decode prog_9_method_6_code 33 = .ok (.ireturn, 1) := by decide +kernel
theorem d_D_declare_34 : decode prog_9_method_6_code 34 = .ok (.aload_n 0, 1) := by decide +kernel
theorem d_D_declare_35 : decode prog_9_method_6_code 35 = .ok (.getfield 81, 3) := by decide +kernel
theorem d_D_declare_38 : decode prog_9_method_6_code 38 = .ok (.iconst 4, 1) := by decide +kernel
theorem d_D_declare_39 : decode prog_9_method_6_code 39 = .ok (.if_icmp .ne 9, 3) := by decide +kernel
theorem d_D_declare_42 : decode prog_9_method_6_code 42 = .ok (.aload_n 0, 1) := by decide +kernel
theorem d_D_declare_43 : decode prog_9_method_6_code 43 = .ok (.iconst 2, 1) := by decide +kernel
theorem d_D_declare_44 : decode prog_9_method_6_code 44 = .ok (.invokevirtual 77, 3) := by decide +kernel
theorem d_D_declare_47 : decode prog_9_method_6_code 47 = .ok (.ireturn, 1) := by decide +kernel
theorem d_D_declare_48 : decode prog_9_method_6_code 48 = .ok (.aload_n 0, 1) := by decide +kernel
theorem d_D_declare_49 : decode prog_9_method_6_code 49 = .ok (.getfield 16, 3) := by decide +kernel
theorem d_D_declare_52 : decode prog_9_method_6_code 52 = .ok (.aload_n 0, 1) := by decide +kernel
theorem d_D_declare_53 : decode prog_9_method_6_code 53 = .ok (.getfield 81, 3) := by decide +kernel
theorem d_D_declare_56 : decode prog_9_method_6_code 56 = .ok (.iload_n 1, 1) := by decide +kernel
theorem d_D_declare_57 : decode prog_9_method_6_code 57 = .ok (.iastore, 1) := by decide +kernel
theorem d_D_declare_58 : decode prog_9_method_6_code 58 = .ok (.aload_n 0, 1) := by decide +kernel
theorem d_D_declare_59 : decode prog_9_method_6_code 59 = .ok (.getfield 19, 3) := by decide +kernel
theorem d_D_declare_62 : decode prog_9_method_6_code 62 = .ok (.aload_n 0, 1) := by decide +kernel
theorem d_D_declare_63 : decode prog_9_method_6_code 63 = .ok (.getfield 81, 3) := by decide +kernel
theorem d_D_declare_66 : decode prog_9_method_6_code 66 = .ok (.iload_n 2, 1) := by decide +kernel
theorem d_D_declare_67 : decode prog_9_method_6_code 67 = .ok (.iastore, 1) := by decide +kernel
theorem d_D_declare_68 : decode prog_9_method_6_code 68 = .ok (.aload_n 0, 1) := by decide +kernel
theorem d_D_declare_69 : decode prog_9_method_6_code 69 = .ok (.dup, 1) := by decide +kernel
theorem d_D_declare_70 : decode prog_9_method_6_code 70 = .ok (.getfield 81, 3) := by decide +kernel
theorem d_D_declare_73 : decode prog_9_method_6_code 73 = .ok (.iconst 1, 1) := by decide +kernel
theorem d_D_declare_74 : decode prog_9_method_6_code 74 = .ok (.iadd, 1) := by decide +kernel
theorem d_D_declare_75 : decode prog_9_method_6_code 75 = .ok (.putfield 81, 3) := by decide +kernel
theorem d_D_declare_78 : decode prog_9_method_6_code 78 = .ok (.aload_n 0, 1) := by decide +kernel
theorem d_D_declare_79 : decode prog_9_method_6_code 79 = .ok (.invokevirtual 74, 3) := by decide +kernel
theorem d_D_declare_82 : decode prog_9_method_6_code 82 = .ok (.aload_n 0, 1) := by decide +kernel
theorem d_D_declare_83 : decode prog_9_method_6_code 83 = .ok (.getfield 81, 3) := by decide +kernel
theorem d_D_declare_86 : decode prog_9_method_6_code 86 = .ok (.ireturn, 1) := by decide +kernel
def I_D_declare (P : Int32 → ev_M → ev_L → Prop) : List (Nat × ev_T) := [(0, tt_al 0 1),
  (1, tt_k 0 2),
  (2, tt_pf evLY 7 0 5),
  (5, tt_il 2 6),
  (6, tt_k 1 7),
  (7, tt_iclt 28 10),
  (10, tt_il 2 11),
  (11, tt_k 96 13),
  (13, tt_icgt 28 16),
  (16, tt_il 1 17),
  (17, tt_iflt 28 20),
  (20, tt_il 1 21),
  (21, tt_k 96 23),
  (23, tt_il 2 24),
  (24, tt_isub 25),
  (25, tt_icle 34 28),
  (28, tt_al 0 29),
  (29, tt_k 1 30),
  (30, tt_cV evLY 7 1 ev_i pre_D_fail post_D_fail 33),
  (33, tt_ri P),
  (34, tt_al 0 35),
  (35, tt_gf evLY 7 3 38),
  (38, tt_k 4 39),
  (39, tt_icne 48 42),
  (42, tt_al 0 43),
  (43, tt_k 2 44),
  (44, tt_cV evLY 7 1 ev_i pre_D_fail post_D_fail 47),
  (47, tt_ri P),
  (48, tt_al 0 49),
  (49, tt_gf evLY 7 4 52),
  (52, tt_al 0 53),
  (53, tt_gf evLY 7 3 56),
  (56, tt_il 1 57),
  (57, tt_ias evLY 58),
  (58, tt_al 0 59),
  (59, tt_gf evLY 7 5 62),
  (62, tt_al 0 63),
  (63, tt_gf evLY 7 3 66),
  (66, tt_il 2 67),
  (67, tt_ias evLY 68),
  (68, tt_al 0 69),
  (69, tt_dup 70),
  (70, tt_gf evLY 7 3 73),
  (73, tt_k 1 74),
  (74, tt_iadd 75),
  (75, tt_pf evLY 7 3 78),
  (78, tt_al 0 79),
  (79, tt_cV evLY 7 0 ev_n pre_D_forget post_D_forget 82),
  (82, tt_al 0 83),
  (83, tt_gf evLY 7 3 86),
  (86, tt_ri P)]
abbrev rm_D_declare : Room := { frames := 1, cells := 0, slots := 0, locals := 32 }
set_option maxRecDepth 20000 in
theorem ok_D_declare (l : Launch) (J : ev_K) (P : Int32 → ev_M → ev_L → Prop) (X : ev_X l rm_D_declare evLY evCl ws_D_declare prog_9_method_6_code 3 y_D_declare.cls J) (Z : ev_Z J prog_9_method_6_code .ireturn ev_i P) : ev_oks J (I_D_declare P) :=
  ⟨qq_aln X 0 rfl d_D_declare_0,
  qq_ic X 0 (by decide) d_D_declare_1,
  qq_pf X 7 0 rfl (fun w h => List.mem_cons_of_mem _ (inE_D w h)) (by decide) tyD tyD_ok nmD rfl (by decide +kernel) (List.mem_cons_of_mem _ mw_754) d_D_declare_2,
  qq_iln X 2 rfl d_D_declare_5,
  qq_ic X 1 (by decide) d_D_declare_6,
  qq_iclt X 28 (by decide) d_D_declare_7,
  qq_iln X 2 rfl d_D_declare_10,
  qq_bp X 96 (by decide) d_D_declare_11,
  qq_icgt X 28 (by decide) d_D_declare_13,
  qq_iln X 1 rfl d_D_declare_16,
  qq_iflt X 28 (by decide) d_D_declare_17,
  qq_iln X 1 rfl d_D_declare_20,
  qq_bp X 96 (by decide) d_D_declare_21,
  qq_iln X 2 rfl d_D_declare_23,
  qq_isub X d_D_declare_24,
  qq_icle X 34 (by decide) d_D_declare_25,
  qq_aln X 0 rfl d_D_declare_28,
  qq_ic X 1 (by decide) d_D_declare_29,
  qq_cV X 7 rfl (c_D_fail l) (fun hts => cwV 1 hts (evGV (mw_861) (mw_863) (mp_27) (mw_8) (mw_864)) rfl rfl rfl (by decide +kernel) ⟨Nat.le_of_ble_eq_true rfl, Nat.le_of_ble_eq_true rfl⟩) d_D_declare_30,
  qq_ri Z d_D_declare_33,
  qq_aln X 0 rfl d_D_declare_34,
  qq_gf X 7 3 rfl (fun w h => List.mem_cons_of_mem _ (inE_D w h)) (by decide) (List.mem_cons_of_mem _ mw_757) d_D_declare_35,
  qq_ic X 4 (by decide) d_D_declare_38,
  qq_icne X 48 (by decide) d_D_declare_39,
  qq_aln X 0 rfl d_D_declare_42,
  qq_ic X 2 (by decide) d_D_declare_43,
  qq_cV X 7 rfl (c_D_fail l) (fun hts => cwV 1 hts (evGV (mw_861) (mw_863) (mp_27) (mw_8) (mw_864)) rfl rfl rfl (by decide +kernel) ⟨Nat.le_of_ble_eq_true rfl, Nat.le_of_ble_eq_true rfl⟩) d_D_declare_44,
  qq_ri Z d_D_declare_47,
  qq_aln X 0 rfl d_D_declare_48,
  qq_gf X 7 4 rfl (fun w h => List.mem_cons_of_mem _ (inE_D w h)) (by decide) (List.mem_cons_of_mem _ mw_758) d_D_declare_49,
  qq_aln X 0 rfl d_D_declare_52,
  qq_gf X 7 3 rfl (fun w h => List.mem_cons_of_mem _ (inE_D w h)) (by decide) (List.mem_cons_of_mem _ mw_757) d_D_declare_53,
  qq_iln X 1 rfl d_D_declare_56,
  qq_ias X d_D_declare_57,
  qq_aln X 0 rfl d_D_declare_58,
  qq_gf X 7 5 rfl (fun w h => List.mem_cons_of_mem _ (inE_D w h)) (by decide) (List.mem_cons_of_mem _ mw_759) d_D_declare_59,
  qq_aln X 0 rfl d_D_declare_62,
  qq_gf X 7 3 rfl (fun w h => List.mem_cons_of_mem _ (inE_D w h)) (by decide) (List.mem_cons_of_mem _ mw_757) d_D_declare_63,
  qq_iln X 2 rfl d_D_declare_66,
  qq_ias X d_D_declare_67,
  qq_aln X 0 rfl d_D_declare_68,
  qq_dup X d_D_declare_69,
  qq_gf X 7 3 rfl (fun w h => List.mem_cons_of_mem _ (inE_D w h)) (by decide) (List.mem_cons_of_mem _ mw_757) d_D_declare_70,
  qq_ic X 1 (by decide) d_D_declare_73,
  qq_iadd X d_D_declare_74,
  qq_pf X 7 3 rfl (fun w h => List.mem_cons_of_mem _ (inE_D w h)) (by decide) tyD tyD_ok nmD rfl (by decide +kernel) (List.mem_cons_of_mem _ mw_757) d_D_declare_75,
  qq_aln X 0 rfl d_D_declare_78,
  qq_cV X 7 rfl (c_D_forget l) (fun hts => cwV 0 hts (evGV (mw_853) (mw_855) (mp_26) (mw_8) (mw_856)) rfl rfl rfl (by decide +kernel) ⟨Nat.le_of_ble_eq_true rfl, Nat.le_of_ble_eq_true rfl⟩) d_D_declare_79,
  qq_aln X 0 rfl d_D_declare_82,
  qq_gf X 7 3 rfl (fun w h => List.mem_cons_of_mem _ (inE_D w h)) (by decide) (List.mem_cons_of_mem _ mw_757) d_D_declare_83,
  qq_ri Z d_D_declare_86, trivial⟩
def pre_D_declare : List Value → ev_M → ev_L → Prop := fun as σ τ => ∃ (b n : Int32), as = [.ref 30, .int b, .int n] ∧ 0 ≤ (σ 30 3).toInt ∧ (σ 30 3).toInt ≤ 4
def post_D_declare : List Value → ev_M → ev_L → Int32 → ev_M → ev_L → Prop := fun as σ τ r σ' τ' => match as with
  | [_, .int b, .int n] => τ' = τ ∧ ((¬ sd_okT b n ∧ r = 0 ∧ σ' = ev_u σ 30 0 1) ∨ (sd_okT b n ∧ σ 30 3 = 4 ∧ r = 0 ∧ σ' = ev_u σ 30 0 2) ∨ (sd_okT b n ∧ ¬ σ 30 3 = 4 ∧ r = σ 30 3 + 1 ∧ σ' = sd_tadd σ b n))
  | _ => False
set_option maxHeartbeats 4000000 in
set_option maxRecDepth 100000 in
theorem c_D_declare (l : Launch) : ev_C ev_i l y_D_declare ws_D_declare rm_D_declare evLY evCl pre_D_declare post_D_declare := by
  refine ev_meth0 (by decide) rfl ev_rop_i ?_ I_D_declare (ok_D_declare l) 60 ?_
  · rintro _ σ τ ⟨b, n, rfl, hp⟩
    exact Nat.le_of_ble_eq_true rfl
  · rintro _ σ τ ⟨b, n, rfl, hp⟩
    have bad : ¬ sd_okT b n → pre_D_fail [.ref 30, .int 1] (ev_u σ 30 0 0) τ ∧ ∀ (r : Int32) (σ1 : ev_M) (τ1 : ev_L), post_D_fail [.ref 30, .int 1] (ev_u σ 30 0 0) τ r σ1 τ1 → post_D_declare [.ref 30, .int b, .int n] σ τ r σ1 τ1 := by
      intro hn
      refine ⟨⟨_, rfl⟩, ?_⟩
      rintro _ _ _ ⟨rfl, rfl, rfl⟩
      exact ⟨rfl, Or.inl ⟨hn, rfl, ev_u_u _ _ _ _ _⟩⟩
    refine br_c (fun h => ?_) (fun h => br_c (fun h2 => ?_) (fun h2 => br_c (fun h3 => ?_) (fun h3 => br_c (fun h4 => ?_) (fun h4 => ?_))))
    · exact bad fun q => absurd (Int32.not_lt.mpr q.1) (fun w => w h)
    · exact bad fun q => absurd (Int32.not_lt.mpr q.2.1) (fun w => w h2)
    · exact bad fun q => absurd (Int32.not_lt.mpr q.2.2.1) (fun w => w h3)
    · have ok : sd_okT b n := ⟨Int32.not_lt.mp h, Int32.not_lt.mp h2, Int32.not_lt.mp h3, h4⟩
      refine br_n (fun h5 => ?_) (fun h5 => ?_)
      · have h5' : ¬ σ 30 3 = 4 := h5
        have h6 : (σ 30 3).toInt < 4 := by
          rw [← Int32.toInt_inj] at h5'
          have : (4 : Int32).toInt = 4 := rfl
          omega
        have hv : vp_in (σ 30 3) 4 := by rw [vp_in_iff]; omega
        refine ⟨hv, hv, rfl, ?_⟩
        rintro _ _ _ ⟨rfl, rfl⟩
        exact ⟨rfl, Or.inr (Or.inr ⟨ok, h5', rfl, rfl⟩)⟩
      · refine ⟨⟨_, rfl⟩, ?_⟩
        rintro _ _ _ ⟨rfl, rfl, rfl⟩
        exact ⟨rfl, Or.inr (Or.inl ⟨ok, h5, rfl, ev_u_u _ _ _ _ _⟩)⟩
    · exact bad fun q => h4 q.2.2.2
def y_D_data : MethodName := ⟨RD, "data", "(II)V"⟩
def ws_D_data : List Cond := .code y_D_data prog_9_method_7_code 3 none :: evW
theorem d_D_data_0 : decode prog_9_method_7_code 0 = .ok (.aload_n 0, 1) := by decide +kernel
theorem d_D_data_1 : decode prog_9_method_7_code 1 = .ok (.iload_n 1, 1) := by decide +kernel
theorem d_D_data_2 : decode prog_9_method_7_code 2 = .ok (.ifCond .lt 9, 3) := by decide +kernel
theorem d_D_data_5 : decode prog_9_method_7_code 5 = .ok (.iload_n 1, 1) := by decide +kernel
theorem d_D_data_6 : decode prog_9_method_7_code 6 = .ok (.bipush 15, 2) := by decide +kernel
theorem d_D_data_8 : decode prog_9_method_7_code 8 = .ok (.if_icmp .le 7, 3) := by decide +kernel
theorem d_D_data_11 : decode prog_9_method_7_code 11 = .ok (.iconst 1, 1) := by decide +kernel
theorem d_D_data_12 : decode prog_9_method_7_code 12 = .ok (.goto 4, 3) := by decide +kernel
theorem d_D_data_15 : decode prog_9_method_7_code 15 = .ok (.iconst 0, 1) := by decide +kernel
theorem d_D_data_16 : decode prog_9_method_7_code 16 = .ok (.putfield 63, 3) := by decide +kernel
theorem d_D_data_19 : decode prog_9_method_7_code 19 = .ok (.aload_n 0, 1) := by decide +kernel
theorem d_D_data_20 : decode prog_9_method_7_code 20 = .ok (.getfield 63, 3) := by decide +kernel
theorem d_D_data_23 : decode prog_9_method_7_code 23 = .ok (.ifCond .ne 10, 3) := by decide +kernel
theorem d_D_data_26 : decode prog_9_method_7_code 26 = .ok (.aload_n 0, 1) := by decide +kernel
theorem d_D_data_27 : decode prog_9_method_7_code 27 = .ok (.getfield 22, 3) := by decide +kernel
theorem d_D_data_30 : decode prog_9_method_7_code 30 = .ok (.iload_n 1, 1) := by decide +kernel
theorem d_D_data_31 : decode prog_9_method_7_code 31 = .ok (.iload_n 2, 1) := by decide +kernel
theorem d_D_data_32 : decode prog_9_method_7_code 32 = .ok (.iastore, 1) := by decide +kernel
theorem d_D_data_33 : decode prog_9_method_7_code 33 = .ok (.return_, 1) := by decide +kernel
def I_D_data (P : Unit → ev_M → ev_L → Prop) : List (Nat × ev_T) := [(0, tt_al 0 1),
  (1, tt_il 1 2),
  (2, tt_iflt 11 5),
  (5, tt_il 1 6),
  (6, tt_k 15 8),
  (8, tt_icle 15 11),
  (11, tt_k 1 12),
  (12, tt_go 16),
  (15, tt_k 0 16),
  (16, tt_pf evLY 7 0 19),
  (19, tt_al 0 20),
  (20, tt_gf evLY 7 0 23),
  (23, tt_ifne 33 26),
  (26, tt_al 0 27),
  (27, tt_gf evLY 7 6 30),
  (30, tt_il 1 31),
  (31, tt_il 2 32),
  (32, tt_ias evLY 33),
  (33, tt_rv P)]
abbrev rm_D_data : Room := { frames := 0, cells := 0, slots := 0, locals := 0 }
set_option maxRecDepth 20000 in
theorem ok_D_data (l : Launch) (J : ev_K) (P : Unit → ev_M → ev_L → Prop) (X : ev_X l rm_D_data evLY evCl ws_D_data prog_9_method_7_code 3 y_D_data.cls J) (Z : ev_Z J prog_9_method_7_code .return_ ev_n P) : ev_oks J (I_D_data P) :=
  ⟨qq_aln X 0 rfl d_D_data_0,
  qq_iln X 1 rfl d_D_data_1,
  qq_iflt X 11 (by decide) d_D_data_2,
  qq_iln X 1 rfl d_D_data_5,
  qq_bp X 15 (by decide) d_D_data_6,
  qq_icle X 15 (by decide) d_D_data_8,
  qq_ic X 1 (by decide) d_D_data_11,
  qq_go X 16 (by decide) d_D_data_12,
  qq_ic X 0 (by decide) d_D_data_15,
  qq_pf X 7 0 rfl (fun w h => List.mem_cons_of_mem _ (inE_D w h)) (by decide) tyD tyD_ok nmD rfl (by decide +kernel) (List.mem_cons_of_mem _ mw_754) d_D_data_16,
  qq_aln X 0 rfl d_D_data_19,
  qq_gf X 7 0 rfl (fun w h => List.mem_cons_of_mem _ (inE_D w h)) (by decide) (List.mem_cons_of_mem _ mw_754) d_D_data_20,
  qq_ifne X 33 (by decide) d_D_data_23,
  qq_aln X 0 rfl d_D_data_26,
  qq_gf X 7 6 rfl (fun w h => List.mem_cons_of_mem _ (inE_D w h)) (by decide) (List.mem_cons_of_mem _ mw_760) d_D_data_27,
  qq_iln X 1 rfl d_D_data_30,
  qq_iln X 2 rfl d_D_data_31,
  qq_ias X d_D_data_32,
  qq_rv Z d_D_data_33, trivial⟩
def pre_D_data : List Value → ev_M → ev_L → Prop := fun as σ τ => ∃ (a v : Int32), as = [.ref 30, .int a, .int v]
def post_D_data : List Value → ev_M → ev_L → Unit → ev_M → ev_L → Prop := fun as σ τ r σ' τ' => match as with
  | [_, .int a, .int v] => τ' = τ ∧ ((¬ (0 ≤ a ∧ a < 16) ∧ σ' = ev_u σ 30 0 1) ∨ ((0 ≤ a ∧ a < 16) ∧ σ' = ev_u (ev_u σ 30 0 0) 35 a.toNatClampNeg v))
  | _ => False
set_option maxHeartbeats 4000000 in
set_option maxRecDepth 100000 in
theorem c_D_data (l : Launch) : ev_C ev_n l y_D_data ws_D_data rm_D_data evLY evCl pre_D_data post_D_data := by
  refine ev_meth0 (by decide) rfl ev_rop_v ?_ I_D_data (ok_D_data l) 60 ?_
  · rintro _ σ τ ⟨a, v, rfl⟩
    exact Nat.le_of_ble_eq_true rfl
  · rintro _ σ τ ⟨a, v, rfl⟩
    have h16 : (16 : Int32).toInt = 16 := rfl
    have h15 : (15 : Int32).toInt = 15 := rfl
    refine br_c (fun h => ?_) (fun h => br_c (fun h2 => ?_) (fun h2 => ?_))
    · refine br_nt (show ¬ (1 : Int32) = 0 by decide) ?_
      exact ⟨rfl, Or.inl ⟨fun q => absurd (Int32.not_lt.mpr q.1) (fun w => w h), rfl⟩⟩
    · refine br_nf (show (0 : Int32) = 0 from rfl) ?_
      have h3 : a < 16 := by rw [Int32.lt_iff_toInt_lt]; rw [Int32.le_iff_toInt_le] at h2; omega
      exact ⟨i_vin2 (b := 16) rfl (Int32.not_lt.mp h) h3, rfl, Or.inr ⟨⟨Int32.not_lt.mp h, h3⟩, rfl⟩⟩
    · refine br_nt (show ¬ (1 : Int32) = 0 by decide) ?_
      exact ⟨rfl, Or.inl ⟨fun q => h2 (by rw [Int32.le_iff_toInt_le]; have q2 := q.2; rw [Int32.lt_iff_toInt_lt] at q2; omega), rfl⟩⟩
def y_D_block : MethodName := ⟨RD, "block", "(II)I"⟩
def ws_D_block : List Cond := .code y_D_block prog_9_method_22_code 3 (some .int) :: evW
theorem d_D_block_0 : decode prog_9_method_22_code 0 = .ok (.aload_n 0, 1) := by decide +kernel
theorem d_D_block_1 : decode prog_9_method_22_code 1 = .ok (.iconst 0, 1) := by decide +kernel
theorem d_D_block_2 : decode prog_9_method_22_code 2 = .ok (.putfield 63, 3) := by decide +kernel
theorem d_D_block_5 : decode prog_9_method_22_code 5 = .ok (.aload_n 0, 1) := by decide +kernel
theorem d_D_block_6 : decode prog_9_method_22_code 6 = .ok (.getfield 67, 3) := by decide +kernel
theorem d_D_block_9 : decode prog_9_method_22_code 9 = .ok (.ifCond .eq 15, 3) := by decide +kernel
theorem d_D_block_12 : decode prog_9_method_22_code 12 = .ok (.iload_n 1, 1) := by decide +kernel
theorem d_D_block_13 : decode prog_9_method_22_code 13 = .ok (.ifCond .lt 11, 3) := by decide +kernel
theorem d_D_block_16 : decode prog_9_method_22_code 16 = .ok (.iload_n 1, 1) := by decide +kernel
theorem d_D_block_17 : decode prog_9_method_22_code 17 = .ok (.aload_n 0, 1) := by decide +kernel
theorem d_D_block_18 : decode prog_9_method_22_code 18 = .ok (.getfield 121, 3) := by decide +kernel
theorem d_D_block_21 : decode prog_9_method_22_code 21 = .ok (.if_icmp .lt 9, 3) := by decide +kernel
theorem d_D_block_24 : decode prog_9_method_22_code 24 = .ok (.aload_n 0, 1) := by decide +kernel
theorem d_D_block_25 : decode prog_9_method_22_code 25 = .ok (.iconst 1, 1) := by decide +kernel
theorem d_D_block_26 : decode prog_9_method_22_code 26 = .ok (.invokevirtual 77, 3) := by decide +kernel
theorem d_D_block_29 : decode prog_9_method_22_code 29 = .ok (.ireturn, 1) := by decide +kernel
theorem d_D_block_30 : decode prog_9_method_22_code 30 = .ok (.iload_n 2, 1) := by decide +kernel
theorem d_D_block_31 : decode prog_9_method_22_code 31 = .ok (.tableswitch 46 0 2 #[25, 32, 39], 25) := by decide +kernel
theorem d_D_block_56 : decode prog_9_method_22_code 56 = .ok (.aload_n 0, 1) := by decide +kernel
theorem d_D_block_57 : decode prog_9_method_22_code 57 = .ok (.getfield 38, 3) := by decide +kernel
theorem d_D_block_60 : decode prog_9_method_22_code 60 = .ok (.iload_n 1, 1) := by decide +kernel
theorem d_D_block_61 : decode prog_9_method_22_code 61 = .ok (.iaload, 1) := by decide +kernel
theorem d_D_block_62 : decode prog_9_method_22_code 62 = .ok (.ireturn, 1) := by decide +kernel
theorem d_D_block_63 : decode prog_9_method_22_code 63 = .ok (.aload_n 0, 1) := by decide +kernel
theorem d_D_block_64 : decode prog_9_method_22_code 64 = .ok (.getfield 41, 3) := by decide +kernel
theorem d_D_block_67 : decode prog_9_method_22_code 67 = .ok (.iload_n 1, 1) := by decide +kernel
theorem d_D_block_68 : decode prog_9_method_22_code 68 = .ok (.iaload, 1) := by decide +kernel
theorem d_D_block_69 : decode prog_9_method_22_code 69 = .ok (.ireturn, 1) := by decide +kernel
theorem d_D_block_70 : decode prog_9_method_22_code 70 = .ok (.aload_n 0, 1) := by decide +kernel
theorem d_D_block_71 : decode prog_9_method_22_code 71 = .ok (.getfield 44, 3) := by decide +kernel
theorem d_D_block_74 : decode prog_9_method_22_code 74 = .ok (.iload_n 1, 1) := by decide +kernel
theorem d_D_block_75 : decode prog_9_method_22_code 75 = .ok (.iaload, 1) := by decide +kernel
theorem d_D_block_76 : decode prog_9_method_22_code 76 = .ok (.ireturn, 1) := by decide +kernel
theorem d_D_block_77 : decode prog_9_method_22_code 77 = .ok (.aload_n 0, 1) := by decide +kernel
theorem d_D_block_78 : decode prog_9_method_22_code 78 = .ok (.iconst 2, 1) := by decide +kernel
theorem d_D_block_79 : decode prog_9_method_22_code 79 = .ok (.invokevirtual 77, 3) := by decide +kernel
theorem d_D_block_82 : decode prog_9_method_22_code 82 = .ok (.ireturn, 1) := by decide +kernel
def I_D_block (P : Int32 → ev_M → ev_L → Prop) : List (Nat × ev_T) := [(0, tt_al 0 1),
  (1, tt_k 0 2),
  (2, tt_pf evLY 7 0 5),
  (5, tt_al 0 6),
  (6, tt_gf evLY 7 7 9),
  (9, tt_ifeq 24 12),
  (12, tt_il 1 13),
  (13, tt_iflt 24 16),
  (16, tt_il 1 17),
  (17, tt_al 0 18),
  (18, tt_gf evLY 7 15 21),
  (21, tt_iclt 30 24),
  (24, tt_al 0 25),
  (25, tt_k 1 26),
  (26, tt_cV evLY 7 1 ev_i pre_D_fail post_D_fail 29),
  (29, tt_ri P),
  (30, tt_il 2 31),
  (31, tt_sw [(0, 56), (1, 63), (2, 70)] 77),
  (56, tt_al 0 57),
  (57, tt_gf evLY 7 16 60),
  (60, tt_il 1 61),
  (61, tt_ia evLY 62),
  (62, tt_ri P),
  (63, tt_al 0 64),
  (64, tt_gf evLY 7 17 67),
  (67, tt_il 1 68),
  (68, tt_ia evLY 69),
  (69, tt_ri P),
  (70, tt_al 0 71),
  (71, tt_gf evLY 7 18 74),
  (74, tt_il 1 75),
  (75, tt_ia evLY 76),
  (76, tt_ri P),
  (77, tt_al 0 78),
  (78, tt_k 2 79),
  (79, tt_cV evLY 7 1 ev_i pre_D_fail post_D_fail 82),
  (82, tt_ri P)]
abbrev rm_D_block : Room := { frames := 1, cells := 0, slots := 0, locals := 32 }
set_option maxRecDepth 20000 in
theorem ok_D_block (l : Launch) (J : ev_K) (P : Int32 → ev_M → ev_L → Prop) (X : ev_X l rm_D_block evLY evCl ws_D_block prog_9_method_22_code 3 y_D_block.cls J) (Z : ev_Z J prog_9_method_22_code .ireturn ev_i P) : ev_oks J (I_D_block P) :=
  ⟨qq_aln X 0 rfl d_D_block_0,
  qq_ic X 0 (by decide) d_D_block_1,
  qq_pf X 7 0 rfl (fun w h => List.mem_cons_of_mem _ (inE_D w h)) (by decide) tyD tyD_ok nmD rfl (by decide +kernel) (List.mem_cons_of_mem _ mw_754) d_D_block_2,
  qq_aln X 0 rfl d_D_block_5,
  qq_gf X 7 7 rfl (fun w h => List.mem_cons_of_mem _ (inE_D w h)) (by decide) (List.mem_cons_of_mem _ mw_761) d_D_block_6,
  qq_ifeq X 24 (by decide) d_D_block_9,
  qq_iln X 1 rfl d_D_block_12,
  qq_iflt X 24 (by decide) d_D_block_13,
  qq_iln X 1 rfl d_D_block_16,
  qq_aln X 0 rfl d_D_block_17,
  qq_gf X 7 15 rfl (fun w h => List.mem_cons_of_mem _ (inE_D w h)) (by decide) (List.mem_cons_of_mem _ mw_769) d_D_block_18,
  qq_iclt X 30 (by decide) d_D_block_21,
  qq_aln X 0 rfl d_D_block_24,
  qq_ic X 1 (by decide) d_D_block_25,
  qq_cV X 7 rfl (c_D_fail l) (fun hts => cwV 1 hts (evGV (mw_861) (mw_863) (mp_27) (mw_8) (mw_864)) rfl rfl rfl (by decide +kernel) ⟨Nat.le_of_ble_eq_true rfl, Nat.le_of_ble_eq_true rfl⟩) d_D_block_26,
  qq_ri Z d_D_block_29,
  qq_iln X 2 rfl d_D_block_30,
  qq_tsw X [(0, 56), (1, 63), (2, 70)] 77 (by decide) (by simp [ev_tOk]) d_D_block_31,
  qq_aln X 0 rfl d_D_block_56,
  qq_gf X 7 16 rfl (fun w h => List.mem_cons_of_mem _ (inE_D w h)) (by decide) (List.mem_cons_of_mem _ mw_770) d_D_block_57,
  qq_iln X 1 rfl d_D_block_60,
  qq_ia X d_D_block_61,
  qq_ri Z d_D_block_62,
  qq_aln X 0 rfl d_D_block_63,
  qq_gf X 7 17 rfl (fun w h => List.mem_cons_of_mem _ (inE_D w h)) (by decide) (List.mem_cons_of_mem _ mw_771) d_D_block_64,
  qq_iln X 1 rfl d_D_block_67,
  qq_ia X d_D_block_68,
  qq_ri Z d_D_block_69,
  qq_aln X 0 rfl d_D_block_70,
  qq_gf X 7 18 rfl (fun w h => List.mem_cons_of_mem _ (inE_D w h)) (by decide) (List.mem_cons_of_mem _ mw_772) d_D_block_71,
  qq_iln X 1 rfl d_D_block_74,
  qq_ia X d_D_block_75,
  qq_ri Z d_D_block_76,
  qq_aln X 0 rfl d_D_block_77,
  qq_ic X 2 (by decide) d_D_block_78,
  qq_cV X 7 rfl (c_D_fail l) (fun hts => cwV 1 hts (evGV (mw_861) (mw_863) (mp_27) (mw_8) (mw_864)) rfl rfl rfl (by decide +kernel) ⟨Nat.le_of_ble_eq_true rfl, Nat.le_of_ble_eq_true rfl⟩) d_D_block_79,
  qq_ri Z d_D_block_82, trivial⟩
def pre_D_block : List Value → ev_M → ev_L → Prop := fun as σ τ => ∃ (k w : Int32), as = [.ref 30, .int k, .int w] ∧ (σ 30 7 = 0 ∨ σ 30 7 = 1) ∧ (σ 30 15).toInt ≤ 96
def post_D_block : List Value → ev_M → ev_L → Int32 → ev_M → ev_L → Prop := fun as σ τ r σ' τ' => match as with
  | [_, .int k, .int w] => τ' = τ ∧ ((¬ (σ 30 7 = 1 ∧ 0 ≤ k ∧ k < σ 30 15) ∧ r = 0 ∧ σ' = ev_u σ 30 0 1) ∨ ((σ 30 7 = 1 ∧ 0 ≤ k ∧ k < σ 30 15) ∧ ((w = 0 ∧ r = σ 40 k.toNatClampNeg ∧ σ' = ev_u σ 30 0 0) ∨ (w = 1 ∧ r = σ 41 k.toNatClampNeg ∧ σ' = ev_u σ 30 0 0) ∨ (w = 2 ∧ r = σ 42 k.toNatClampNeg ∧ σ' = ev_u σ 30 0 0) ∨ (¬ w = 0 ∧ ¬ w = 1 ∧ ¬ w = 2 ∧ r = 0 ∧ σ' = ev_u σ 30 0 2))))
  | _ => False
set_option maxHeartbeats 4000000 in
set_option maxRecDepth 100000 in
theorem c_D_block (l : Launch) : ev_C ev_i l y_D_block ws_D_block rm_D_block evLY evCl pre_D_block post_D_block := by
  refine ev_meth0 (by decide) rfl ev_rop_i ?_ I_D_block (ok_D_block l) 60 ?_
  · rintro _ σ τ ⟨k, w, rfl, hp⟩
    exact Nat.le_of_ble_eq_true rfl
  · rintro _ σ τ ⟨k, w, rfl, hp⟩
    obtain ⟨hz, h96⟩ := hp
    have bad : ¬ (σ 30 7 = 1 ∧ 0 ≤ k ∧ k < σ 30 15) → pre_D_fail [.ref 30, .int 1] (ev_u σ 30 0 0) τ ∧ ∀ (r : Int32) (σ1 : ev_M) (τ1 : ev_L), post_D_fail [.ref 30, .int 1] (ev_u σ 30 0 0) τ r σ1 τ1 → post_D_block [.ref 30, .int k, .int w] σ τ r σ1 τ1 := by
      intro hn
      refine ⟨⟨_, rfl⟩, ?_⟩
      rintro _ _ _ ⟨rfl, rfl, rfl⟩
      exact ⟨rfl, Or.inl ⟨hn, rfl, ev_u_u _ _ _ _ _⟩⟩
    refine br_c (fun h => ?_) (fun h => br_c (fun h2 => ?_) (fun h2 => br_c (fun h3 => ?_) (fun h3 => ?_)))
    · exact bad fun q => by have h' : σ 30 7 = 0 := h; rw [h'] at q; exact absurd q.1 (by decide)
    · exact bad fun q => absurd (Int32.not_lt.mpr q.2.1) (fun w => w h2)
    · have h1 : σ 30 7 = 1 := hz.resolve_left h
      have h3' : k < σ 30 15 := h3
      have hv : vp_in k 96 := i_vin3 (c := σ 30 15) h96 h2 (Int32.not_le.mpr h3')
      have ok : σ 30 7 = 1 ∧ 0 ≤ k ∧ k < σ 30 15 := ⟨h1, Int32.not_lt.mp h2, h3'⟩
      refine br_c (fun w0 => ?_) (fun w0 => br_c (fun w1 => ?_) (fun w1 => br_c (fun w2 => ?_) (fun w2 => ?_)))
      · exact ⟨hv, rfl, Or.inr ⟨ok, Or.inl ⟨w0, rfl, rfl⟩⟩⟩
      · exact ⟨hv, rfl, Or.inr ⟨ok, Or.inr (Or.inl ⟨w1, rfl, rfl⟩)⟩⟩
      · exact ⟨hv, rfl, Or.inr ⟨ok, Or.inr (Or.inr (Or.inl ⟨w2, rfl, rfl⟩))⟩⟩
      · refine ⟨⟨_, rfl⟩, ?_⟩
        rintro _ _ _ ⟨rfl, rfl, rfl⟩
        exact ⟨rfl, Or.inr ⟨ok, Or.inr (Or.inr (Or.inr ⟨w0, w1, w2, rfl, ev_u_u _ _ _ _ _⟩))⟩⟩
    · exact bad fun q => h3 q.2.2
def y_D_code : MethodName := ⟨RD, "code", "(IZ)I"⟩
def ws_D_code : List Cond := .code y_D_code prog_9_method_29_code 3 (some .int) :: evW
theorem d_D_code_0 : decode prog_9_method_29_code 0 = .ok (.aload_n 0, 1) := by decide +kernel
theorem d_D_code_1 : decode prog_9_method_29_code 1 = .ok (.iload_n 1, 1) := by decide +kernel
theorem d_D_code_2 : decode prog_9_method_29_code 2 = .ok (.ifCond .lt 10, 3) := by decide +kernel
theorem d_D_code_5 : decode prog_9_method_29_code 5 = .ok (.iload_n 1, 1) := by decide +kernel
theorem d_D_code_6 : decode prog_9_method_29_code 6 = .ok (.sipush 256, 3) := by decide +kernel
theorem d_D_code_9 : decode prog_9_method_29_code 9 = .ok (.if_icmp .lt 7, 3) := by decide +kernel
theorem d_D_code_12 : decode prog_9_method_29_code 12 = .ok (.iconst 1, 1) := by decide +kernel
theorem d_D_code_13 : decode prog_9_method_29_code 13 = .ok (.goto 19, 3) := by decide +kernel
theorem d_D_code_16 : decode prog_9_method_29_code 16 = .ok (.iload_n 2, 1) := by decide +kernel
theorem d_D_code_17 : decode prog_9_method_29_code 17 = .ok (.ifCond .eq 14, 3) := by decide +kernel
theorem d_D_code_20 : decode prog_9_method_29_code 20 = .ok (.aload_n 0, 1) := by decide +kernel
theorem d_D_code_21 : decode prog_9_method_29_code 21 = .ok (.getfield 71, 3) := by decide +kernel
theorem d_D_code_24 : decode prog_9_method_29_code 24 = .ok (.ifCond .ne 7, 3) := by decide +kernel
theorem d_D_code_27 : decode prog_9_method_29_code 27 = .ok (.iconst 2, 1) := by decide +kernel
theorem d_D_code_28 : decode prog_9_method_29_code 28 = .ok (.goto 4, 3) := by decide +kernel
theorem d_D_code_31 : decode prog_9_method_29_code 31 = .ok (.iconst 0, 1) := by decide +kernel
theorem d_D_code_32 : decode prog_9_method_29_code 32 = .ok (.putfield 63, 3) := by decide +kernel
theorem d_D_code_35 : decode prog_9_method_29_code 35 = .ok (.aload_n 0, 1) := by decide +kernel
theorem d_D_code_36 : decode prog_9_method_29_code 36 = .ok (.getfield 63, 3) := by decide +kernel
theorem d_D_code_39 : decode prog_9_method_29_code 39 = .ok (.ifCond .le 7, 3) := by decide +kernel
theorem d_D_code_42 : decode prog_9_method_29_code 42 = .ok (.iconst 0, 1) := by decide +kernel
theorem d_D_code_43 : decode prog_9_method_29_code 43 = .ok (.goto 21, 3) := by decide +kernel
theorem d_D_code_46 : decode prog_9_method_29_code 46 = .ok (.aload_n 0, 1) := by decide +kernel
theorem d_D_code_47 : decode prog_9_method_29_code 47 = .ok (.getfield 7, 3) := by decide +kernel
theorem d_D_code_50 : decode prog_9_method_29_code 50 = .ok (.iload_n 2, 1) := by decide +kernel
theorem d_D_code_51 : decode prog_9_method_29_code 51 = .ok (.ifCond .eq 11, 3) := by decide +kernel
theorem d_D_code_54 : decode prog_9_method_29_code 54 = .ok (.sipush 256, 3) := by decide +kernel
theorem d_D_code_57 : decode prog_9_method_29_code 57 = .ok (.iload_n 1, 1) := by decide +kernel
theorem d_D_code_58 : decode prog_9_method_29_code 58 = .ok (.iadd, 1) := by decide +kernel
theorem d_D_code_59 : decode prog_9_method_29_code 59 = .ok (.goto 4, 3) := by decide +kernel
theorem d_D_code_62 : decode prog_9_method_29_code 62 = .ok (.iload_n 1, 1) := by decide +kernel
theorem d_D_code_63 : decode prog_9_method_29_code 63 = .ok (.iaload, 1) := by decide +kernel
theorem d_D_code_64 : decode prog_9_method_29_code 64 = .ok (.ireturn, 1) := by decide +kernel
def I_D_code (P : Int32 → ev_M → ev_L → Prop) : List (Nat × ev_T) := [(0, tt_al 0 1),
  (1, tt_il 1 2),
  (2, tt_iflt 12 5),
  (5, tt_il 1 6),
  (6, tt_k 256 9),
  (9, tt_iclt 16 12),
  (12, tt_k 1 13),
  (13, tt_go 32),
  (16, tt_il 2 17),
  (17, tt_ifeq 31 20),
  (20, tt_al 0 21),
  (21, tt_gf evLY 7 8 24),
  (24, tt_ifne 31 27),
  (27, tt_k 2 28),
  (28, tt_go 32),
  (31, tt_k 0 32),
  (32, tt_pf evLY 7 0 35),
  (35, tt_al 0 36),
  (36, tt_gf evLY 7 0 39),
  (39, tt_ifle 46 42),
  (42, tt_k 0 43),
  (43, tt_go 64),
  (46, tt_al 0 47),
  (47, tt_gf evLY 7 1 50),
  (50, tt_il 2 51),
  (51, tt_ifeq 62 54),
  (54, tt_k 256 57),
  (57, tt_il 1 58),
  (58, tt_iadd 59),
  (59, tt_go 63),
  (62, tt_il 1 63),
  (63, tt_ia evLY 64),
  (64, tt_ri P)]
abbrev rm_D_code : Room := { frames := 0, cells := 0, slots := 0, locals := 0 }
set_option maxRecDepth 20000 in
theorem ok_D_code (l : Launch) (J : ev_K) (P : Int32 → ev_M → ev_L → Prop) (X : ev_X l rm_D_code evLY evCl ws_D_code prog_9_method_29_code 3 y_D_code.cls J) (Z : ev_Z J prog_9_method_29_code .ireturn ev_i P) : ev_oks J (I_D_code P) :=
  ⟨qq_aln X 0 rfl d_D_code_0,
  qq_iln X 1 rfl d_D_code_1,
  qq_iflt X 12 (by decide) d_D_code_2,
  qq_iln X 1 rfl d_D_code_5,
  qq_sp X 256 (by decide) d_D_code_6,
  qq_iclt X 16 (by decide) d_D_code_9,
  qq_ic X 1 (by decide) d_D_code_12,
  qq_go X 32 (by decide) d_D_code_13,
  qq_iln X 2 rfl d_D_code_16,
  qq_ifeq X 31 (by decide) d_D_code_17,
  qq_aln X 0 rfl d_D_code_20,
  qq_gf X 7 8 rfl (fun w h => List.mem_cons_of_mem _ (inE_D w h)) (by decide) (List.mem_cons_of_mem _ mw_762) d_D_code_21,
  qq_ifne X 31 (by decide) d_D_code_24,
  qq_ic X 2 (by decide) d_D_code_27,
  qq_go X 32 (by decide) d_D_code_28,
  qq_ic X 0 (by decide) d_D_code_31,
  qq_pf X 7 0 rfl (fun w h => List.mem_cons_of_mem _ (inE_D w h)) (by decide) tyD tyD_ok nmD rfl (by decide +kernel) (List.mem_cons_of_mem _ mw_754) d_D_code_32,
  qq_aln X 0 rfl d_D_code_35,
  qq_gf X 7 0 rfl (fun w h => List.mem_cons_of_mem _ (inE_D w h)) (by decide) (List.mem_cons_of_mem _ mw_754) d_D_code_36,
  qq_ifle X 46 (by decide) d_D_code_39,
  qq_ic X 0 (by decide) d_D_code_42,
  qq_go X 64 (by decide) d_D_code_43,
  qq_aln X 0 rfl d_D_code_46,
  qq_gf X 7 1 rfl (fun w h => List.mem_cons_of_mem _ (inE_D w h)) (by decide) (List.mem_cons_of_mem _ mw_755) d_D_code_47,
  qq_iln X 2 rfl d_D_code_50,
  qq_ifeq X 62 (by decide) d_D_code_51,
  qq_sp X 256 (by decide) d_D_code_54,
  qq_iln X 1 rfl d_D_code_57,
  qq_iadd X d_D_code_58,
  qq_go X 63 (by decide) d_D_code_59,
  qq_iln X 1 rfl d_D_code_62,
  qq_ia X d_D_code_63,
  qq_ri Z d_D_code_64, trivial⟩
def pre_D_code : List Value → ev_M → ev_L → Prop := fun as σ τ => ∃ (a z : Int32), as = [.ref 30, .int a, .int z]
def post_D_code : List Value → ev_M → ev_L → Int32 → ev_M → ev_L → Prop := fun as σ τ r σ' τ' => match as with
  | [_, .int a, .int z] => τ' = τ ∧ ((¬ (0 ≤ a ∧ a < 256) ∧ r = 0 ∧ σ' = ev_u σ 30 0 1) ∨ ((0 ≤ a ∧ a < 256) ∧ ((¬ z = 0 ∧ σ 30 8 = 0 ∧ r = 0 ∧ σ' = ev_u σ 30 0 2) ∨ (z = 0 ∧ r = σ 31 a.toNatClampNeg ∧ σ' = ev_u σ 30 0 0) ∨ (¬ z = 0 ∧ ¬ σ 30 8 = 0 ∧ r = σ 31 (256 + a).toNatClampNeg ∧ σ' = ev_u σ 30 0 0))))
  | _ => False
set_option maxHeartbeats 4000000 in
set_option maxRecDepth 100000 in
theorem c_D_code (l : Launch) : ev_C ev_i l y_D_code ws_D_code rm_D_code evLY evCl pre_D_code post_D_code := by
  refine ev_meth0 (by decide) rfl ev_rop_i ?_ I_D_code (ok_D_code l) 60 ?_
  · rintro _ σ τ ⟨a, z, rfl⟩
    exact Nat.le_of_ble_eq_true rfl
  · rintro _ σ τ ⟨a, z, rfl⟩
    refine br_c (fun h => ?_) (fun h => br_c (fun h2 => ?_) (fun h2 => ?_))
    · refine br_f (show ¬ (1 : Int32) ≤ 0 by decide) ?_
      exact ⟨rfl, Or.inl ⟨fun q => absurd (Int32.not_lt.mpr q.1) (fun w => w h), rfl, rfl⟩⟩
    · have ok : 0 ≤ a ∧ a < 256 := ⟨Int32.not_lt.mp h, h2⟩
      have h0 : 0 ≤ a.toInt := Int32.le_iff_toInt_le.mp ok.1
      have h9 : a.toInt < 256 := Int32.lt_iff_toInt_lt.mp ok.2
      have e : ((256 : Int32) + a).toInt = 256 + a.toInt := i_add (by decide) (by decide) (by omega) (by omega)
      have hv1 : vp_in a 512 := by rw [vp_in_iff]; omega
      have hv2 : vp_in (256 + a) 512 := by rw [vp_in_iff]; omega
      refine br_c (fun hz => ?_) (fun hz => br_n (fun h3 => ?_) (fun h3 => ?_))
      · refine br_t (show (0 : Int32) ≤ 0 by decide) ?_
        refine br_t hz ?_
        exact ⟨hv1, rfl, Or.inr ⟨ok, Or.inr (Or.inl ⟨hz, rfl, rfl⟩)⟩⟩
      · refine br_t (show (0 : Int32) ≤ 0 by decide) ?_
        refine br_f hz ?_
        exact ⟨hv2, rfl, Or.inr ⟨ok, Or.inr (Or.inr ⟨hz, h3, rfl, rfl⟩)⟩⟩
      · refine br_f (show ¬ (2 : Int32) ≤ 0 by decide) ?_
        exact ⟨rfl, Or.inr ⟨ok, Or.inl ⟨hz, h3, rfl, rfl⟩⟩⟩
    · refine br_f (show ¬ (1 : Int32) ≤ 0 by decide) ?_
      exact ⟨rfl, Or.inl ⟨fun q => h2 q.2, rfl, rfl⟩⟩
def sd_reg (σ : ev_M) (i : Int32) : Int32 := if i < 4 then σ 43 i.toNatClampNeg else if i = 4 then σ 30 22 else if i = 5 then σ 30 23 else σ 30 24
def y_D_register : MethodName := ⟨RD, "register", "(I)I"⟩
def ws_D_register : List Cond := .code y_D_register prog_9_method_41_code 2 (some .int) :: evW
theorem d_D_register_0 : decode prog_9_method_41_code 0 = .ok (.aload_n 0, 1) := by decide +kernel
theorem d_D_register_1 : decode prog_9_method_41_code 1 = .ok (.iconst 0, 1) := by decide +kernel
theorem d_D_register_2 : decode prog_9_method_41_code 2 = .ok (.putfield 63, 3) := by decide +kernel
theorem d_D_register_5 : decode prog_9_method_41_code 5 = .ok (.iload_n 1, 1) := by decide +kernel
theorem d_D_register_6 : decode prog_9_method_41_code 6 = .ok (.ifCond .lt 9, 3) := by decide +kernel
theorem d_D_register_9 : decode prog_9_method_41_code 9 = .ok (.iload_n 1, 1) := by decide +kernel
theorem d_D_register_10 : decode prog_9_method_41_code 10 = .ok (.bipush 6, 2) := by decide +kernel
theorem d_D_register_12 : decode prog_9_method_41_code 12 = .ok (.if_icmp .le 9, 3) := by decide +kernel
theorem d_D_register_15 : decode prog_9_method_41_code 15 = .ok (.aload_n 0, 1) := by decide +kernel
theorem d_D_register_16 : decode prog_9_method_41_code 16 = .ok (.iconst 1, 1) := by decide +kernel
theorem d_D_register_17 : decode prog_9_method_41_code 17 = .ok (.invokevirtual 77, 3) := by decide +kernel
theorem d_D_register_20 : decode prog_9_method_41_code 20 = .ok (.ireturn, 1) := by decide +kernel
theorem d_D_register_21 : decode prog_9_method_41_code 21 = .ok (.iload_n 1, 1) := by decide +kernel
theorem d_D_register_22 : decode prog_9_method_41_code 22 = .ok (.iconst 4, 1) := by decide +kernel
theorem d_D_register_23 : decode prog_9_method_41_code 23 = .ok (.if_icmp .ge 12, 3) := by decide +kernel
theorem d_D_register_26 : decode prog_9_method_41_code 26 = .ok (.aload_n 0, 1) := by decide +kernel
theorem d_D_register_27 : decode prog_9_method_41_code 27 = .ok (.getfield 47, 3) := by decide +kernel
theorem d_D_register_30 : decode prog_9_method_41_code 30 = .ok (.iload_n 1, 1) := by decide +kernel
theorem d_D_register_31 : decode prog_9_method_41_code 31 = .ok (.iaload, 1) := by decide +kernel
theorem d_D_register_32 : decode prog_9_method_41_code 32 = .ok (.goto 31, 3) := by decide +kernel
theorem d_D_register_35 : decode prog_9_method_41_code 35 = .ok (.iload_n 1, 1) := by decide +kernel
theorem d_D_register_36 : decode prog_9_method_41_code 36 = .ok (.iconst 4, 1) := by decide +kernel
theorem d_D_register_37 : decode prog_9_method_41_code 37 = .ok (.if_icmp .ne 10, 3) := by decide +kernel
theorem d_D_register_40 : decode prog_9_method_41_code 40 = .ok (.aload_n 0, 1) := by decide +kernel
theorem d_D_register_41 : decode prog_9_method_41_code 41 = .ok (.getfield 155, 3) := by decide +kernel
theorem d_D_register_44 : decode prog_9_method_41_code 44 = .ok (.goto 19, 3) := by decide +kernel
theorem d_D_register_47 : decode prog_9_method_41_code 47 = .ok (.iload_n 1, 1) := by decide +kernel
theorem d_D_register_48 : decode prog_9_method_41_code 48 = .ok (.iconst 5, 1) := by decide +kernel
theorem d_D_register_49 : decode prog_9_method_41_code 49 = .ok (.if_icmp .ne 10, 3) := by decide +kernel
theorem d_D_register_52 : decode prog_9_method_41_code 52 = .ok (.aload_n 0, 1) := by decide +kernel
theorem d_D_register_53 : decode prog_9_method_41_code 53 = .ok (.getfield 169, 3) := by decide +kernel
theorem d_D_register_56 : decode prog_9_method_41_code 56 = .ok (.goto 7, 3) := by decide +kernel
theorem d_D_register_59 : decode prog_9_method_41_code 59 = .ok (.aload_n 0, 1) := by decide +kernel
theorem d_D_register_60 : decode prog_9_method_41_code 60 = .ok (.getfield 172, 3) := by decide +kernel
theorem d_D_register_63 : decode prog_9_method_41_code 63 = .ok (.ireturn, 1) := by decide +kernel
def I_D_register (P : Int32 → ev_M → ev_L → Prop) : List (Nat × ev_T) := [(0, tt_al 0 1),
  (1, tt_k 0 2),
  (2, tt_pf evLY 7 0 5),
  (5, tt_il 1 6),
  (6, tt_iflt 15 9),
  (9, tt_il 1 10),
  (10, tt_k 6 12),
  (12, tt_icle 21 15),
  (15, tt_al 0 16),
  (16, tt_k 1 17),
  (17, tt_cV evLY 7 1 ev_i pre_D_fail post_D_fail 20),
  (20, tt_ri P),
  (21, tt_il 1 22),
  (22, tt_k 4 23),
  (23, tt_icge 35 26),
  (26, tt_al 0 27),
  (27, tt_gf evLY 7 20 30),
  (30, tt_il 1 31),
  (31, tt_ia evLY 32),
  (32, tt_go 63),
  (35, tt_il 1 36),
  (36, tt_k 4 37),
  (37, tt_icne 47 40),
  (40, tt_al 0 41),
  (41, tt_gf evLY 7 22 44),
  (44, tt_go 63),
  (47, tt_il 1 48),
  (48, tt_k 5 49),
  (49, tt_icne 59 52),
  (52, tt_al 0 53),
  (53, tt_gf evLY 7 23 56),
  (56, tt_go 63),
  (59, tt_al 0 60),
  (60, tt_gf evLY 7 24 63),
  (63, tt_ri P)]
abbrev rm_D_register : Room := { frames := 1, cells := 0, slots := 0, locals := 32 }
set_option maxRecDepth 20000 in
theorem ok_D_register (l : Launch) (J : ev_K) (P : Int32 → ev_M → ev_L → Prop) (X : ev_X l rm_D_register evLY evCl ws_D_register prog_9_method_41_code 2 y_D_register.cls J) (Z : ev_Z J prog_9_method_41_code .ireturn ev_i P) : ev_oks J (I_D_register P) :=
  ⟨qq_aln X 0 rfl d_D_register_0,
  qq_ic X 0 (by decide) d_D_register_1,
  qq_pf X 7 0 rfl (fun w h => List.mem_cons_of_mem _ (inE_D w h)) (by decide) tyD tyD_ok nmD rfl (by decide +kernel) (List.mem_cons_of_mem _ mw_754) d_D_register_2,
  qq_iln X 1 rfl d_D_register_5,
  qq_iflt X 15 (by decide) d_D_register_6,
  qq_iln X 1 rfl d_D_register_9,
  qq_bp X 6 (by decide) d_D_register_10,
  qq_icle X 21 (by decide) d_D_register_12,
  qq_aln X 0 rfl d_D_register_15,
  qq_ic X 1 (by decide) d_D_register_16,
  qq_cV X 7 rfl (c_D_fail l) (fun hts => cwV 1 hts (evGV (mw_861) (mw_863) (mp_27) (mw_8) (mw_864)) rfl rfl rfl (by decide +kernel) ⟨Nat.le_of_ble_eq_true rfl, Nat.le_of_ble_eq_true rfl⟩) d_D_register_17,
  qq_ri Z d_D_register_20,
  qq_iln X 1 rfl d_D_register_21,
  qq_ic X 4 (by decide) d_D_register_22,
  qq_icge X 35 (by decide) d_D_register_23,
  qq_aln X 0 rfl d_D_register_26,
  qq_gf X 7 20 rfl (fun w h => List.mem_cons_of_mem _ (inE_D w h)) (by decide) (List.mem_cons_of_mem _ mw_774) d_D_register_27,
  qq_iln X 1 rfl d_D_register_30,
  qq_ia X d_D_register_31,
  qq_go X 63 (by decide) d_D_register_32,
  qq_iln X 1 rfl d_D_register_35,
  qq_ic X 4 (by decide) d_D_register_36,
  qq_icne X 47 (by decide) d_D_register_37,
  qq_aln X 0 rfl d_D_register_40,
  qq_gf X 7 22 rfl (fun w h => List.mem_cons_of_mem _ (inE_D w h)) (by decide) (List.mem_cons_of_mem _ mw_776) d_D_register_41,
  qq_go X 63 (by decide) d_D_register_44,
  qq_iln X 1 rfl d_D_register_47,
  qq_ic X 5 (by decide) d_D_register_48,
  qq_icne X 59 (by decide) d_D_register_49,
  qq_aln X 0 rfl d_D_register_52,
  qq_gf X 7 23 rfl (fun w h => List.mem_cons_of_mem _ (inE_D w h)) (by decide) (List.mem_cons_of_mem _ mw_777) d_D_register_53,
  qq_go X 63 (by decide) d_D_register_56,
  qq_aln X 0 rfl d_D_register_59,
  qq_gf X 7 24 rfl (fun w h => List.mem_cons_of_mem _ (inE_D w h)) (by decide) (List.mem_cons_of_mem _ mw_778) d_D_register_60,
  qq_ri Z d_D_register_63, trivial⟩
def pre_D_register : List Value → ev_M → ev_L → Prop := fun as σ τ => ∃ (i : Int32), as = [.ref 30, .int i]
def post_D_register : List Value → ev_M → ev_L → Int32 → ev_M → ev_L → Prop := fun as σ τ r σ' τ' => match as with
  | [_, .int i] => τ' = τ ∧ ((¬ (0 ≤ i ∧ i ≤ 6) ∧ r = 0 ∧ σ' = ev_u σ 30 0 1) ∨ ((0 ≤ i ∧ i ≤ 6) ∧ r = sd_reg σ i ∧ σ' = ev_u σ 30 0 0))
  | _ => False
set_option maxHeartbeats 4000000 in
set_option maxRecDepth 100000 in
theorem c_D_register (l : Launch) : ev_C ev_i l y_D_register ws_D_register rm_D_register evLY evCl pre_D_register post_D_register := by
  refine ev_meth0 (by decide) rfl ev_rop_i ?_ I_D_register (ok_D_register l) 60 ?_
  · rintro _ σ τ ⟨i, rfl⟩
    exact Nat.le_of_ble_eq_true rfl
  · rintro _ σ τ ⟨i, rfl⟩
    have bad : ¬ (0 ≤ i ∧ i ≤ 6) → pre_D_fail [.ref 30, .int 1] (ev_u σ 30 0 0) τ ∧ ∀ (r : Int32) (σ1 : ev_M) (τ1 : ev_L), post_D_fail [.ref 30, .int 1] (ev_u σ 30 0 0) τ r σ1 τ1 → post_D_register [.ref 30, .int i] σ τ r σ1 τ1 := by
      intro hn
      refine ⟨⟨_, rfl⟩, ?_⟩
      rintro _ _ _ ⟨rfl, rfl, rfl⟩
      exact ⟨rfl, Or.inl ⟨hn, rfl, ev_u_u _ _ _ _ _⟩⟩
    refine br_c (fun h => ?_) (fun h => br_c (fun h2 => ?_) (fun h2 => ?_))
    · exact bad fun q => absurd (Int32.not_lt.mpr q.1) (fun w => w h)
    · have ok : 0 ≤ i ∧ i ≤ 6 := ⟨Int32.not_lt.mp h, h2⟩
      refine br_c (fun h4 => ?_) (fun h4 => ?_)
      · have h4' := Int32.not_lt.mpr h4
        refine br_n (fun h5 => br_n (fun h6 => ?_) (fun h6 => ?_)) (fun h5 => ?_)
        · exact ⟨rfl, Or.inr ⟨ok, by unfold sd_reg; rw [if_neg h4', if_neg h5, if_neg h6]; rfl, rfl⟩⟩
        · exact ⟨rfl, Or.inr ⟨ok, by unfold sd_reg; rw [if_neg h4', if_neg h5, if_pos h6]; rfl, rfl⟩⟩
        · exact ⟨rfl, Or.inr ⟨ok, by unfold sd_reg; rw [if_neg h4', if_pos h5]; rfl, rfl⟩⟩
      · have h4' := Int32.not_le.mp h4
        exact ⟨i_vin2 (b := 4) rfl ok.1 h4', rfl, Or.inr ⟨ok, by unfold sd_reg; rw [if_pos h4']; rfl, rfl⟩⟩
    · exact bad fun q => h2 q.2
def y_D_cell : MethodName := ⟨RD, "cell", "(I)I"⟩
def ws_D_cell : List Cond := .code y_D_cell prog_9_method_42_code 2 (some .int) :: evW
theorem d_D_cell_0 : decode prog_9_method_42_code 0 = .ok (.aload_n 0, 1) := by decide +kernel
theorem d_D_cell_1 : decode prog_9_method_42_code 1 = .ok (.iconst 0, 1) := by decide +kernel
theorem d_D_cell_2 : decode prog_9_method_42_code 2 = .ok (.putfield 63, 3) := by decide +kernel
theorem d_D_cell_5 : decode prog_9_method_42_code 5 = .ok (.iload_n 1, 1) := by decide +kernel
theorem d_D_cell_6 : decode prog_9_method_42_code 6 = .ok (.ifCond .lt 9, 3) := by decide +kernel
theorem d_D_cell_9 : decode prog_9_method_42_code 9 = .ok (.iload_n 1, 1) := by decide +kernel
theorem d_D_cell_10 : decode prog_9_method_42_code 10 = .ok (.bipush 15, 2) := by decide +kernel
theorem d_D_cell_12 : decode prog_9_method_42_code 12 = .ok (.if_icmp .le 11, 3) := by decide +kernel
theorem d_D_cell_15 : decode prog_9_method_42_code 15 = .ok (.aload_n 0, 1) := by decide +kernel
theorem d_D_cell_16 : decode prog_9_method_42_code 16 = .ok (.iconst 1, 1) := by decide +kernel
theorem d_D_cell_17 : decode prog_9_method_42_code 17 = .ok (.invokevirtual 77, 3) := by decide +kernel
theorem d_D_cell_20 : decode prog_9_method_42_code 20 = .ok (.goto 9, 3) := by decide +kernel
theorem d_D_cell_23 : decode prog_9_method_42_code 23 = .ok (.aload_n 0, 1) := by decide +kernel
theorem d_D_cell_24 : decode prog_9_method_42_code 24 = .ok (.getfield 50, 3) := by decide +kernel
theorem d_D_cell_27 : decode prog_9_method_42_code 27 = .ok (.iload_n 1, 1) := by decide +kernel
theorem d_D_cell_28 : decode prog_9_method_42_code 28 = .ok (.iaload, 1) := by decide +kernel
theorem d_D_cell_29 : decode prog_9_method_42_code 29 = .ok (.ireturn, 1) := by decide +kernel
def I_D_cell (P : Int32 → ev_M → ev_L → Prop) : List (Nat × ev_T) := [(0, tt_al 0 1),
  (1, tt_k 0 2),
  (2, tt_pf evLY 7 0 5),
  (5, tt_il 1 6),
  (6, tt_iflt 15 9),
  (9, tt_il 1 10),
  (10, tt_k 15 12),
  (12, tt_icle 23 15),
  (15, tt_al 0 16),
  (16, tt_k 1 17),
  (17, tt_cV evLY 7 1 ev_i pre_D_fail post_D_fail 20),
  (20, tt_go 29),
  (23, tt_al 0 24),
  (24, tt_gf evLY 7 21 27),
  (27, tt_il 1 28),
  (28, tt_ia evLY 29),
  (29, tt_ri P)]
abbrev rm_D_cell : Room := { frames := 1, cells := 0, slots := 0, locals := 32 }
set_option maxRecDepth 20000 in
theorem ok_D_cell (l : Launch) (J : ev_K) (P : Int32 → ev_M → ev_L → Prop) (X : ev_X l rm_D_cell evLY evCl ws_D_cell prog_9_method_42_code 2 y_D_cell.cls J) (Z : ev_Z J prog_9_method_42_code .ireturn ev_i P) : ev_oks J (I_D_cell P) :=
  ⟨qq_aln X 0 rfl d_D_cell_0,
  qq_ic X 0 (by decide) d_D_cell_1,
  qq_pf X 7 0 rfl (fun w h => List.mem_cons_of_mem _ (inE_D w h)) (by decide) tyD tyD_ok nmD rfl (by decide +kernel) (List.mem_cons_of_mem _ mw_754) d_D_cell_2,
  qq_iln X 1 rfl d_D_cell_5,
  qq_iflt X 15 (by decide) d_D_cell_6,
  qq_iln X 1 rfl d_D_cell_9,
  qq_bp X 15 (by decide) d_D_cell_10,
  qq_icle X 23 (by decide) d_D_cell_12,
  qq_aln X 0 rfl d_D_cell_15,
  qq_ic X 1 (by decide) d_D_cell_16,
  qq_cV X 7 rfl (c_D_fail l) (fun hts => cwV 1 hts (evGV (mw_861) (mw_863) (mp_27) (mw_8) (mw_864)) rfl rfl rfl (by decide +kernel) ⟨Nat.le_of_ble_eq_true rfl, Nat.le_of_ble_eq_true rfl⟩) d_D_cell_17,
  qq_go X 29 (by decide) d_D_cell_20,
  qq_aln X 0 rfl d_D_cell_23,
  qq_gf X 7 21 rfl (fun w h => List.mem_cons_of_mem _ (inE_D w h)) (by decide) (List.mem_cons_of_mem _ mw_775) d_D_cell_24,
  qq_iln X 1 rfl d_D_cell_27,
  qq_ia X d_D_cell_28,
  qq_ri Z d_D_cell_29, trivial⟩
def pre_D_cell : List Value → ev_M → ev_L → Prop := fun as σ τ => ∃ (i : Int32), as = [.ref 30, .int i]
def post_D_cell : List Value → ev_M → ev_L → Int32 → ev_M → ev_L → Prop := fun as σ τ r σ' τ' => match as with
  | [_, .int i] => τ' = τ ∧ ((¬ (0 ≤ i ∧ i < 16) ∧ r = 0 ∧ σ' = ev_u σ 30 0 1) ∨ ((0 ≤ i ∧ i < 16) ∧ r = σ 44 i.toNatClampNeg ∧ σ' = ev_u σ 30 0 0))
  | _ => False
set_option maxHeartbeats 4000000 in
set_option maxRecDepth 100000 in
theorem c_D_cell (l : Launch) : ev_C ev_i l y_D_cell ws_D_cell rm_D_cell evLY evCl pre_D_cell post_D_cell := by
  refine ev_meth0 (by decide) rfl ev_rop_i ?_ I_D_cell (ok_D_cell l) 60 ?_
  · rintro _ σ τ ⟨i, rfl⟩
    exact Nat.le_of_ble_eq_true rfl
  · rintro _ σ τ ⟨i, rfl⟩
    have bad : ¬ (0 ≤ i ∧ i < 16) → pre_D_fail [.ref 30, .int 1] (ev_u σ 30 0 0) τ ∧ ∀ (r : Int32) (σ1 : ev_M) (τ1 : ev_L), post_D_fail [.ref 30, .int 1] (ev_u σ 30 0 0) τ r σ1 τ1 → post_D_cell [.ref 30, .int i] σ τ r σ1 τ1 := by
      intro hn
      refine ⟨⟨_, rfl⟩, ?_⟩
      rintro _ _ _ ⟨rfl, rfl, rfl⟩
      exact ⟨rfl, Or.inl ⟨hn, rfl, ev_u_u _ _ _ _ _⟩⟩
    have hN : (16 : Int32).toInt = 16 := rfl
    have hM : (15 : Int32).toInt = 15 := rfl
    refine br_c (fun h => ?_) (fun h => br_c (fun h2 => ?_) (fun h2 => ?_))
    · exact bad fun q => absurd (Int32.not_lt.mpr q.1) (fun w => w h)
    · have h3 : i < 16 := by rw [Int32.lt_iff_toInt_lt]; rw [Int32.le_iff_toInt_le] at h2; omega
      exact ⟨i_vin2 (b := 16) rfl (Int32.not_lt.mp h) h3, rfl, Or.inr ⟨⟨Int32.not_lt.mp h, h3⟩, rfl, rfl⟩⟩
    · exact bad fun q => h2 (by rw [Int32.le_iff_toInt_le]; have q2 := q.2; rw [Int32.lt_iff_toInt_lt] at q2; omega)
def y_D_counter : MethodName := ⟨RD, "counter", "(I)J"⟩
def ws_D_counter : List Cond := .code y_D_counter prog_9_method_44_code 2 (some .long) :: evW
theorem d_D_counter_0 : decode prog_9_method_44_code 0 = .ok (.aload_n 0, 1) := by decide +kernel
theorem d_D_counter_1 : decode prog_9_method_44_code 1 = .ok (.iconst 0, 1) := by decide +kernel
theorem d_D_counter_2 : decode prog_9_method_44_code 2 = .ok (.putfield 63, 3) := by decide +kernel
theorem d_D_counter_5 : decode prog_9_method_44_code 5 = .ok (.iload_n 1, 1) := by decide +kernel
theorem d_D_counter_6 : decode prog_9_method_44_code 6 = .ok (.ifCond .lt 9, 3) := by decide +kernel
theorem d_D_counter_9 : decode prog_9_method_44_code 9 = .ok (.iload_n 1, 1) := by decide +kernel
theorem d_D_counter_10 : decode prog_9_method_44_code 10 = .ok (.bipush 63, 2) := by decide +kernel
theorem d_D_counter_12 : decode prog_9_method_44_code 12 = .ok (.if_icmp .le 12, 3) := by decide +kernel
theorem d_D_counter_15 : decode prog_9_method_44_code 15 = .ok (.aload_n 0, 1) := by decide +kernel
theorem d_D_counter_16 : decode prog_9_method_44_code 16 = .ok (.iconst 1, 1) := by decide +kernel
theorem d_D_counter_17 : decode prog_9_method_44_code 17 = .ok (.invokevirtual 77, 3) := by decide +kernel
theorem d_D_counter_20 : decode prog_9_method_44_code 20 = .ok (.i2l, 1) := by decide +kernel
theorem d_D_counter_21 : decode prog_9_method_44_code 21 = .ok (.goto 9, 3) := by decide +kernel
theorem d_D_counter_24 : decode prog_9_method_44_code 24 = .ok (.aload_n 0, 1) := by decide +kernel
theorem d_D_counter_25 : decode prog_9_method_44_code 25 = .ok (.getfield 59, 3) := by decide +kernel
theorem d_D_counter_28 : decode prog_9_method_44_code 28 = .ok (.iload_n 1, 1) := by decide +kernel
theorem d_D_counter_29 : decode prog_9_method_44_code 29 = .ok (.laload, 1) := by decide +kernel
theorem d_D_counter_30 : decode prog_9_method_44_code 30 = .ok (.lreturn, 1) := by decide +kernel
def I_D_counter (P : Int64 → ev_M → ev_L → Prop) : List (Nat × ev_T) := [(0, tt_al 0 1),
  (1, tt_k 0 2),
  (2, tt_pf evLY 7 0 5),
  (5, tt_il 1 6),
  (6, tt_iflt 15 9),
  (9, tt_il 1 10),
  (10, tt_k 63 12),
  (12, tt_icle 24 15),
  (15, tt_al 0 16),
  (16, tt_k 1 17),
  (17, tt_cV evLY 7 1 ev_i pre_D_fail post_D_fail 20),
  (20, tt_i2l 21),
  (21, tt_go 30),
  (24, tt_al 0 25),
  (25, tt_gf evLY 7 29 28),
  (28, tt_il 1 29),
  (29, tt_la evLY 30),
  (30, tt_rl P)]
abbrev rm_D_counter : Room := { frames := 1, cells := 0, slots := 0, locals := 32 }
set_option maxRecDepth 20000 in
theorem ok_D_counter (l : Launch) (J : ev_K) (P : Int64 → ev_M → ev_L → Prop) (X : ev_X l rm_D_counter evLY evCl ws_D_counter prog_9_method_44_code 2 y_D_counter.cls J) (Z : ev_Z J prog_9_method_44_code .lreturn ev_l P) : ev_oks J (I_D_counter P) :=
  ⟨qq_aln X 0 rfl d_D_counter_0,
  qq_ic X 0 (by decide) d_D_counter_1,
  qq_pf X 7 0 rfl (fun w h => List.mem_cons_of_mem _ (inE_D w h)) (by decide) tyD tyD_ok nmD rfl (by decide +kernel) (List.mem_cons_of_mem _ mw_754) d_D_counter_2,
  qq_iln X 1 rfl d_D_counter_5,
  qq_iflt X 15 (by decide) d_D_counter_6,
  qq_iln X 1 rfl d_D_counter_9,
  qq_bp X 63 (by decide) d_D_counter_10,
  qq_icle X 24 (by decide) d_D_counter_12,
  qq_aln X 0 rfl d_D_counter_15,
  qq_ic X 1 (by decide) d_D_counter_16,
  qq_cV X 7 rfl (c_D_fail l) (fun hts => cwV 1 hts (evGV (mw_861) (mw_863) (mp_27) (mw_8) (mw_864)) rfl rfl rfl (by decide +kernel) ⟨Nat.le_of_ble_eq_true rfl, Nat.le_of_ble_eq_true rfl⟩) d_D_counter_17,
  qq_i2l X d_D_counter_20,
  qq_go X 30 (by decide) d_D_counter_21,
  qq_aln X 0 rfl d_D_counter_24,
  qq_gf X 7 29 rfl (fun w h => List.mem_cons_of_mem _ (inE_D w h)) (by decide) (List.mem_cons_of_mem _ mw_783) d_D_counter_25,
  qq_iln X 1 rfl d_D_counter_28,
  qq_la X d_D_counter_29,
  qq_rl Z d_D_counter_30, trivial⟩
def pre_D_counter : List Value → ev_M → ev_L → Prop := fun as σ τ => ∃ (i : Int32), as = [.ref 30, .int i]
def post_D_counter : List Value → ev_M → ev_L → Int64 → ev_M → ev_L → Prop := fun as σ τ r σ' τ' => match as with
  | [_, .int i] => τ' = τ ∧ ((¬ (0 ≤ i ∧ i < 64) ∧ r = 0 ∧ σ' = ev_u σ 30 0 1) ∨ ((0 ≤ i ∧ i < 64) ∧ r = τ 47 i.toNatClampNeg ∧ σ' = ev_u σ 30 0 0))
  | _ => False
set_option maxHeartbeats 4000000 in
set_option maxRecDepth 100000 in
theorem c_D_counter (l : Launch) : ev_C ev_l l y_D_counter ws_D_counter rm_D_counter evLY evCl pre_D_counter post_D_counter := by
  refine ev_meth0 (by decide) rfl ev_rop_l ?_ I_D_counter (ok_D_counter l) 60 ?_
  · rintro _ σ τ ⟨i, rfl⟩
    exact Nat.le_of_ble_eq_true rfl
  · rintro _ σ τ ⟨i, rfl⟩
    have bad : ¬ (0 ≤ i ∧ i < 64) → pre_D_fail [.ref 30, .int 1] (ev_u σ 30 0 0) τ ∧ ∀ (r : Int32) (σ1 : ev_M) (τ1 : ev_L), post_D_fail [.ref 30, .int 1] (ev_u σ 30 0 0) τ r σ1 τ1 → post_D_counter [.ref 30, .int i] σ τ r.toInt64 σ1 τ1 := by
      intro hn
      refine ⟨⟨_, rfl⟩, ?_⟩
      rintro _ _ _ ⟨rfl, rfl, rfl⟩
      exact ⟨rfl, Or.inl ⟨hn, rfl, ev_u_u _ _ _ _ _⟩⟩
    have hN : (64 : Int32).toInt = 64 := rfl
    have hM : (63 : Int32).toInt = 63 := rfl
    refine br_c (fun h => ?_) (fun h => br_c (fun h2 => ?_) (fun h2 => ?_))
    · exact bad fun q => absurd (Int32.not_lt.mpr q.1) (fun w => w h)
    · have h3 : i < 64 := by rw [Int32.lt_iff_toInt_lt]; rw [Int32.le_iff_toInt_le] at h2; omega
      exact ⟨i_vin2 (b := 64) rfl (Int32.not_lt.mp h) h3, rfl, Or.inr ⟨⟨Int32.not_lt.mp h, h3⟩, rfl, rfl⟩⟩
    · exact bad fun q => h2 (by rw [Int32.le_iff_toInt_le]; have q2 := q.2; rw [Int32.lt_iff_toInt_lt] at q2; omega)
def y_D_output : MethodName := ⟨RD, "output", "(I)I"⟩
def ws_D_output : List Cond := .code y_D_output prog_9_method_43_code 2 (some .int) :: evW
theorem d_D_output_0 : decode prog_9_method_43_code 0 = .ok (.aload_n 0, 1) := by decide +kernel
theorem d_D_output_1 : decode prog_9_method_43_code 1 = .ok (.iconst 0, 1) := by decide +kernel
theorem d_D_output_2 : decode prog_9_method_43_code 2 = .ok (.putfield 63, 3) := by decide +kernel
theorem d_D_output_5 : decode prog_9_method_43_code 5 = .ok (.iload_n 1, 1) := by decide +kernel
theorem d_D_output_6 : decode prog_9_method_43_code 6 = .ok (.ifCond .lt 11, 3) := by decide +kernel
theorem d_D_output_9 : decode prog_9_method_43_code 9 = .ok (.iload_n 1, 1) := by decide +kernel
theorem d_D_output_10 : decode prog_9_method_43_code 10 = .ok (.aload_n 0, 1) := by decide +kernel
theorem d_D_output_11 : decode prog_9_method_43_code 11 = .ok (.getfield 172, 3) := by decide +kernel
theorem d_D_output_14 : decode prog_9_method_43_code 14 = .ok (.if_icmp .lt 11, 3) := by decide +kernel
theorem d_D_output_17 : decode prog_9_method_43_code 17 = .ok (.aload_n 0, 1) := by decide +kernel
theorem d_D_output_18 : decode prog_9_method_43_code 18 = .ok (.iconst 1, 1) := by decide +kernel
theorem d_D_output_19 : decode prog_9_method_43_code 19 = .ok (.invokevirtual 77, 3) := by decide +kernel
theorem d_D_output_22 : decode prog_9_method_43_code 22 = .ok (.goto 9, 3) := by decide +kernel
theorem d_D_output_25 : decode prog_9_method_43_code 25 = .ok (.aload_n 0, 1) := by decide +kernel
theorem d_D_output_26 : decode prog_9_method_43_code 26 = .ok (.getfield 56, 3) := by decide +kernel
theorem d_D_output_29 : decode prog_9_method_43_code 29 = .ok (.iload_n 1, 1) := by decide +kernel
theorem d_D_output_30 : decode prog_9_method_43_code 30 = .ok (.iaload, 1) := by decide +kernel
theorem d_D_output_31 : decode prog_9_method_43_code 31 = .ok (.ireturn, 1) := by decide +kernel
def I_D_output (P : Int32 → ev_M → ev_L → Prop) : List (Nat × ev_T) := [(0, tt_al 0 1),
  (1, tt_k 0 2),
  (2, tt_pf evLY 7 0 5),
  (5, tt_il 1 6),
  (6, tt_iflt 17 9),
  (9, tt_il 1 10),
  (10, tt_al 0 11),
  (11, tt_gf evLY 7 24 14),
  (14, tt_iclt 25 17),
  (17, tt_al 0 18),
  (18, tt_k 1 19),
  (19, tt_cV evLY 7 1 ev_i pre_D_fail post_D_fail 22),
  (22, tt_go 31),
  (25, tt_al 0 26),
  (26, tt_gf evLY 7 28 29),
  (29, tt_il 1 30),
  (30, tt_ia evLY 31),
  (31, tt_ri P)]
abbrev rm_D_output : Room := { frames := 1, cells := 0, slots := 0, locals := 32 }
set_option maxRecDepth 20000 in
theorem ok_D_output (l : Launch) (J : ev_K) (P : Int32 → ev_M → ev_L → Prop) (X : ev_X l rm_D_output evLY evCl ws_D_output prog_9_method_43_code 2 y_D_output.cls J) (Z : ev_Z J prog_9_method_43_code .ireturn ev_i P) : ev_oks J (I_D_output P) :=
  ⟨qq_aln X 0 rfl d_D_output_0,
  qq_ic X 0 (by decide) d_D_output_1,
  qq_pf X 7 0 rfl (fun w h => List.mem_cons_of_mem _ (inE_D w h)) (by decide) tyD tyD_ok nmD rfl (by decide +kernel) (List.mem_cons_of_mem _ mw_754) d_D_output_2,
  qq_iln X 1 rfl d_D_output_5,
  qq_iflt X 17 (by decide) d_D_output_6,
  qq_iln X 1 rfl d_D_output_9,
  qq_aln X 0 rfl d_D_output_10,
  qq_gf X 7 24 rfl (fun w h => List.mem_cons_of_mem _ (inE_D w h)) (by decide) (List.mem_cons_of_mem _ mw_778) d_D_output_11,
  qq_iclt X 25 (by decide) d_D_output_14,
  qq_aln X 0 rfl d_D_output_17,
  qq_ic X 1 (by decide) d_D_output_18,
  qq_cV X 7 rfl (c_D_fail l) (fun hts => cwV 1 hts (evGV (mw_861) (mw_863) (mp_27) (mw_8) (mw_864)) rfl rfl rfl (by decide +kernel) ⟨Nat.le_of_ble_eq_true rfl, Nat.le_of_ble_eq_true rfl⟩) d_D_output_19,
  qq_go X 31 (by decide) d_D_output_22,
  qq_aln X 0 rfl d_D_output_25,
  qq_gf X 7 28 rfl (fun w h => List.mem_cons_of_mem _ (inE_D w h)) (by decide) (List.mem_cons_of_mem _ mw_782) d_D_output_26,
  qq_iln X 1 rfl d_D_output_29,
  qq_ia X d_D_output_30,
  qq_ri Z d_D_output_31, trivial⟩
def pre_D_output : List Value → ev_M → ev_L → Prop := fun as σ τ => ∃ (i : Int32), as = [.ref 30, .int i] ∧ (σ 30 24).toInt ≤ 40
def post_D_output : List Value → ev_M → ev_L → Int32 → ev_M → ev_L → Prop := fun as σ τ r σ' τ' => match as with
  | [_, .int i] => τ' = τ ∧ ((¬ (0 ≤ i ∧ i < σ 30 24) ∧ r = 0 ∧ σ' = ev_u σ 30 0 1) ∨ ((0 ≤ i ∧ i < σ 30 24) ∧ r = σ 46 i.toNatClampNeg ∧ σ' = ev_u σ 30 0 0))
  | _ => False
set_option maxHeartbeats 4000000 in
set_option maxRecDepth 100000 in
theorem c_D_output (l : Launch) : ev_C ev_i l y_D_output ws_D_output rm_D_output evLY evCl pre_D_output post_D_output := by
  refine ev_meth0 (by decide) rfl ev_rop_i ?_ I_D_output (ok_D_output l) 60 ?_
  · rintro _ σ τ ⟨i, rfl, hp⟩
    exact Nat.le_of_ble_eq_true rfl
  · rintro _ σ τ ⟨i, rfl, hp⟩
    have bad : ¬ (0 ≤ i ∧ i < σ 30 24) → pre_D_fail [.ref 30, .int 1] (ev_u σ 30 0 0) τ ∧ ∀ (r : Int32) (σ1 : ev_M) (τ1 : ev_L), post_D_fail [.ref 30, .int 1] (ev_u σ 30 0 0) τ r σ1 τ1 → post_D_output [.ref 30, .int i] σ τ r σ1 τ1 := by
      intro hn
      refine ⟨⟨_, rfl⟩, ?_⟩
      rintro _ _ _ ⟨rfl, rfl, rfl⟩
      exact ⟨rfl, Or.inl ⟨hn, rfl, ev_u_u _ _ _ _ _⟩⟩
    refine br_c (fun h => ?_) (fun h => br_c (fun h2 => ?_) (fun h2 => ?_))
    · exact bad fun q => absurd (Int32.not_lt.mpr q.1) (fun w => w h)
    · have h2' : i < σ 30 24 := h2
      exact ⟨i_vin3 (c := σ 30 24) hp h (Int32.not_le.mpr h2'), rfl, Or.inr ⟨⟨Int32.not_lt.mp h, h2'⟩, rfl, rfl⟩⟩
    · exact bad fun q => h2 q.2
