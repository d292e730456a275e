/-! the reference's run -/
theorem cpy_0 {α : Type} (f g : Nat → α) : va_cpy f g 0 0 0 = g := by funext j; simp [va_cpy]
theorem cpy_s (f g : Nat → Int32) (n : Nat) : upd (va_cpy f g 0 0 n) n (f n) = va_cpy f g 0 0 (n + 1) := by
  funext j
  unfold upd va_cpy
  by_cases h : j = n
  · simp [h]
  · by_cases h2 : j < n
    · simp [h, h2, show j < n + 1 by omega]
    · simp [h, h2, show ¬ j < n + 1 by omega]
def y_D_begin : MethodName := ⟨RD, "begin", "()V"⟩
def ws_D_begin : List Cond := .code y_D_begin prog_9_method_38_code 2 none :: evW
theorem d_D_begin_0 : decode prog_9_method_38_code 0 = .ok (.iconst 0, 1) := by decide +kernel
theorem d_D_begin_1 : decode prog_9_method_38_code 1 = .ok (.istore_n 1, 1) := by decide +kernel
theorem d_D_begin_2 : decode prog_9_method_38_code 2 = .ok (.iload_n 1, 1) := by decide +kernel
theorem d_D_begin_3 : decode prog_9_method_38_code 3 = .ok (.iconst 4, 1) := by decide +kernel
theorem d_D_begin_4 : decode prog_9_method_38_code 4 = .ok (.if_icmp .ge 16, 3) := by decide +kernel
theorem d_D_begin_7 : decode prog_9_method_38_code 7 = .ok (.aload_n 0, 1) := by decide +kernel
theorem d_D_begin_8 : decode prog_9_method_38_code 8 = .ok (.getfield 47, 3) := by decide +kernel
theorem d_D_begin_11 : decode prog_9_method_38_code 11 = .ok (.iload_n 1, 1) := by decide +kernel
theorem d_D_begin_12 : decode prog_9_method_38_code 12 = .ok (.iconst 0, 1) := by decide +kernel
theorem d_D_begin_13 : decode prog_9_method_38_code 13 = .ok (.iastore, 1) := by decide +kernel
theorem d_D_begin_14 : decode prog_9_method_38_code 14 = .ok (.iinc 1 1, 3) := by decide +kernel
theorem d_D_begin_17 : decode prog_9_method_38_code 17 = .ok (.goto (-15), 3) := by decide +kernel
theorem d_D_begin_20 : decode prog_9_method_38_code 20 = .ok (.iconst 0, 1) := by decide +kernel
theorem d_D_begin_21 : decode prog_9_method_38_code 21 = .ok (.istore_n 1, 1) := by decide +kernel
theorem d_D_begin_22 : decode prog_9_method_38_code 22 = .ok (.iload_n 1, 1) := by decide +kernel
theorem d_D_begin_23 : decode prog_9_method_38_code 23 = .ok (.bipush 16, 2) := by decide +kernel
theorem d_D_begin_25 : decode prog_9_method_38_code 25 = .ok (.if_icmp .ge 21, 3) := by decide +kernel
theorem d_D_begin_28 : decode prog_9_method_38_code 28 = .ok (.aload_n 0, 1) := by decide +kernel
theorem d_D_begin_29 : decode prog_9_method_38_code 29 = .ok (.getfield 50, 3) := by decide +kernel
theorem d_D_begin_32 : decode prog_9_method_38_code 32 = .ok (.iload_n 1, 1) := by decide +kernel
theorem d_D_begin_33 : decode prog_9_method_38_code 33 = .ok (.aload_n 0, 1) := by decide +kernel
theorem d_D_begin_34 : decode prog_9_method_38_code 34 = .ok (.getfield 22, 3) := by decide +kernel
theorem d_D_begin_37 : decode prog_9_method_38_code 37 = .ok (.iload_n 1, 1) := by decide +kernel
theorem d_D_begin_38 : decode prog_9_method_38_code 38 = .ok (.iaload, 1) := by decide +kernel
theorem d_D_begin_39 : decode prog_9_method_38_code 39 = .ok (.iastore, 1) := by decide +kernel
theorem d_D_begin_40 : decode prog_9_method_38_code 40 = .ok (.iinc 1 1, 3) := by decide +kernel
theorem d_D_begin_43 : decode prog_9_method_38_code 43 = .ok (.goto (-21), 3) := by decide +kernel
theorem d_D_begin_46 : decode prog_9_method_38_code 46 = .ok (.iconst 0, 1) := by decide +kernel
theorem d_D_begin_47 : decode prog_9_method_38_code 47 = .ok (.istore_n 1, 1) := by decide +kernel
theorem d_D_begin_48 : decode prog_9_method_38_code 48 = .ok (.iload_n 1, 1) := by decide +kernel
theorem d_D_begin_49 : decode prog_9_method_38_code 49 = .ok (.bipush 64, 2) := by decide +kernel
theorem d_D_begin_51 : decode prog_9_method_38_code 51 = .ok (.if_icmp .ge 16, 3) := by decide +kernel
theorem d_D_begin_54 : decode prog_9_method_38_code 54 = .ok (.aload_n 0, 1) := by decide +kernel
theorem d_D_begin_55 : decode prog_9_method_38_code 55 = .ok (.getfield 59, 3) := by decide +kernel
theorem d_D_begin_58 : decode prog_9_method_38_code 58 = .ok (.iload_n 1, 1) := by decide +kernel
theorem d_D_begin_59 : decode prog_9_method_38_code 59 = .ok (.lconst 0, 1) := by decide +kernel
theorem d_D_begin_60 : decode prog_9_method_38_code 60 = .ok (.lastore, 1) := by decide +kernel
theorem d_D_begin_61 : decode prog_9_method_38_code 61 = .ok (.iinc 1 1, 3) := by decide +kernel
theorem d_D_begin_64 : decode prog_9_method_38_code 64 = .ok (.goto (-16), 3) := by decide +kernel
theorem d_D_begin_67 : decode prog_9_method_38_code 67 = .ok (.aload_n 0, 1) := by decide +kernel
theorem d_D_begin_68 : decode prog_9_method_38_code 68 = .ok (.iconst 0, 1) := by decide +kernel
theorem d_D_begin_69 : decode prog_9_method_38_code 69 = .ok (.putfield 155, 3) := by decide +kernel
theorem d_D_begin_72 : decode prog_9_method_38_code 72 = .ok (.aload_n 0, 1) := by decide +kernel
theorem d_D_begin_73 : decode prog_9_method_38_code 73 = .ok (.iconst 0, 1) := by decide +kernel
theorem d_D_begin_74 : decode prog_9_method_38_code 74 = .ok (.putfield 169, 3) := by decide +kernel
theorem d_D_begin_77 : decode prog_9_method_38_code 77 = .ok (.aload_n 0, 1) := by decide +kernel
theorem d_D_begin_78 : decode prog_9_method_38_code 78 = .ok (.iconst 0, 1) := by decide +kernel
theorem d_D_begin_79 : decode prog_9_method_38_code 79 = .ok (.putfield 172, 3) := by decide +kernel
theorem d_D_begin_82 : decode prog_9_method_38_code 82 = .ok (.aload_n 0, 1) := by decide +kernel
theorem d_D_begin_83 : decode prog_9_method_38_code 83 = .ok (.iconst 0, 1) := by decide +kernel
theorem d_D_begin_84 : decode prog_9_method_38_code 84 = .ok (.putfield 188, 3) := by decide +kernel
theorem d_D_begin_87 : decode prog_9_method_38_code 87 = .ok (.aload_n 0, 1) := by decide +kernel
theorem d_D_begin_88 : decode prog_9_method_38_code 88 = .ok (.iconst 0, 1) := by decide +kernel
theorem d_D_begin_89 : decode prog_9_method_38_code 89 = .ok (.putfield 152, 3) := by decide +kernel
theorem d_D_begin_92 : decode prog_9_method_38_code 92 = .ok (.return_, 1) := by decide +kernel
def I_D_begin (P : Unit → ev_M → ev_L → Prop) : List (Nat × ev_T) := [(0, tt_k 0 1),
  (1, tt_is 1 2),
  (2, tt_il 1 3),
  (3, tt_k 4 4),
  (4, tt_icge 20 7),
  (7, tt_al 0 8),
  (8, tt_gf evLY 7 20 11),
  (11, tt_il 1 12),
  (12, tt_k 0 13),
  (13, tt_ias evLY 14),
  (14, tt_ii 1 1 17),
  (17, tt_go 2),
  (20, tt_k 0 21),
  (21, tt_is 1 22),
  (22, tt_il 1 23),
  (23, tt_k 16 25),
  (25, tt_icge 46 28),
  (28, tt_al 0 29),
  (29, tt_gf evLY 7 21 32),
  (32, tt_il 1 33),
  (33, tt_al 0 34),
  (34, tt_gf evLY 7 6 37),
  (37, tt_il 1 38),
  (38, tt_ia evLY 39),
  (39, tt_ias evLY 40),
  (40, tt_ii 1 1 43),
  (43, tt_go 22),
  (46, tt_k 0 47),
  (47, tt_is 1 48),
  (48, tt_il 1 49),
  (49, tt_k 64 51),
  (51, tt_icge 67 54),
  (54, tt_al 0 55),
  (55, tt_gf evLY 7 29 58),
  (58, tt_il 1 59),
  (59, tt_lk 0 60),
  (60, tt_las evLY 61),
  (61, tt_ii 1 1 64),
  (64, tt_go 48),
  (67, tt_al 0 68),
  (68, tt_k 0 69),
  (69, tt_pf evLY 7 22 72),
  (72, tt_al 0 73),
  (73, tt_k 0 74),
  (74, tt_pf evLY 7 23 77),
  (77, tt_al 0 78),
  (78, tt_k 0 79),
  (79, tt_pf evLY 7 24 82),
  (82, tt_al 0 83),
  (83, tt_k 0 84),
  (84, tt_pf evLY 7 25 87),
  (87, tt_al 0 88),
  (88, tt_k 0 89),
  (89, tt_pf evLY 7 26 92),
  (92, tt_rv P)]
abbrev rm_D_begin : Room := { frames := 0, cells := 0, slots := 0, locals := 0 }
set_option maxRecDepth 20000 in
theorem ok_D_begin (l : Launch) (J : ev_K) (P : Unit → ev_M → ev_L → Prop) (X : ev_X l rm_D_begin evLY evCl ws_D_begin prog_9_method_38_code 2 y_D_begin.cls J) (Z : ev_Z J prog_9_method_38_code .return_ ev_n P) : ev_oks J (I_D_begin P) :=
  ⟨qq_ic X 0 (by decide) d_D_begin_0,
  qq_isn X 1 rfl (by decide) d_D_begin_1,
  qq_iln X 1 rfl d_D_begin_2,
  qq_ic X 4 (by decide) d_D_begin_3,
  qq_icge X 20 (by decide) d_D_begin_4,
  qq_aln X 0 rfl d_D_begin_7,
  qq_gf X 7 20 rfl (fun w h => List.mem_cons_of_mem _ (inE_D w h)) (by decide) (List.mem_cons_of_mem _ mw_774) d_D_begin_8,
  qq_iln X 1 rfl d_D_begin_11,
  qq_ic X 0 (by decide) d_D_begin_12,
  qq_ias X d_D_begin_13,
  qq_ii X 1 1 (by decide) (by decide) d_D_begin_14,
  qq_go X 2 (by decide) d_D_begin_17,
  qq_ic X 0 (by decide) d_D_begin_20,
  qq_isn X 1 rfl (by decide) d_D_begin_21,
  qq_iln X 1 rfl d_D_begin_22,
  qq_bp X 16 (by decide) d_D_begin_23,
  qq_icge X 46 (by decide) d_D_begin_25,
  qq_aln X 0 rfl d_D_begin_28,
  qq_gf X 7 21 rfl (fun w h => List.mem_cons_of_mem _ (inE_D w h)) (by decide) (List.mem_cons_of_mem _ mw_775) d_D_begin_29,
  qq_iln X 1 rfl d_D_begin_32,
  qq_aln X 0 rfl d_D_begin_33,
  qq_gf X 7 6 rfl (fun w h => List.mem_cons_of_mem _ (inE_D w h)) (by decide) (List.mem_cons_of_mem _ mw_760) d_D_begin_34,
  qq_iln X 1 rfl d_D_begin_37,
  qq_ia X d_D_begin_38,
  qq_ias X d_D_begin_39,
  qq_ii X 1 1 (by decide) (by decide) d_D_begin_40,
  qq_go X 22 (by decide) d_D_begin_43,
  qq_ic X 0 (by decide) d_D_begin_46,
  qq_isn X 1 rfl (by decide) d_D_begin_47,
  qq_iln X 1 rfl d_D_begin_48,
  qq_bp X 64 (by decide) d_D_begin_49,
  qq_icge X 67 (by decide) d_D_begin_51,
  qq_aln X 0 rfl d_D_begin_54,
  qq_gf X 7 29 rfl (fun w h => List.mem_cons_of_mem _ (inE_D w h)) (by decide) (List.mem_cons_of_mem _ mw_783) d_D_begin_55,
  qq_iln X 1 rfl d_D_begin_58,
  qq_lc X 0 (by decide) d_D_begin_59,
  qq_las X d_D_begin_60,
  qq_ii X 1 1 (by decide) (by decide) d_D_begin_61,
  qq_go X 48 (by decide) d_D_begin_64,
  qq_aln X 0 rfl d_D_begin_67,
  qq_ic X 0 (by decide) d_D_begin_68,
  qq_pf X 7 22 rfl (fun w h => List.mem_cons_of_mem _ (inE_D w h)) (by decide) tyD tyD_ok nmD rfl (by decide +kernel) (List.mem_cons_of_mem _ mw_776) d_D_begin_69,
  qq_aln X 0 rfl d_D_begin_72,
  qq_ic X 0 (by decide) d_D_begin_73,
  qq_pf X 7 23 rfl (fun w h => List.mem_cons_of_mem _ (inE_D w h)) (by decide) tyD tyD_ok nmD rfl (by decide +kernel) (List.mem_cons_of_mem _ mw_777) d_D_begin_74,
  qq_aln X 0 rfl d_D_begin_77,
  qq_ic X 0 (by decide) d_D_begin_78,
  qq_pf X 7 24 rfl (fun w h => List.mem_cons_of_mem _ (inE_D w h)) (by decide) tyD tyD_ok nmD rfl (by decide +kernel) (List.mem_cons_of_mem _ mw_778) d_D_begin_79,
  qq_aln X 0 rfl d_D_begin_82,
  qq_ic X 0 (by decide) d_D_begin_83,
  qq_pf X 7 25 rfl (fun w h => List.mem_cons_of_mem _ (inE_D w h)) (by decide) tyD tyD_ok nmD rfl (by decide +kernel) (List.mem_cons_of_mem _ mw_779) d_D_begin_84,
  qq_aln X 0 rfl d_D_begin_87,
  qq_ic X 0 (by decide) d_D_begin_88,
  qq_pf X 7 26 rfl (fun w h => List.mem_cons_of_mem _ (inE_D w h)) (by decide) tyD tyD_ok nmD rfl (by decide +kernel) (List.mem_cons_of_mem _ mw_780) d_D_begin_89,
  qq_rv Z d_D_begin_92, trivial⟩
def pre_D_begin : List Value → ev_M → ev_L → Prop := fun as _ _ => as = [.ref 30]
def post_D_begin : List Value → ev_M → ev_L → Unit → ev_M → ev_L → Prop := fun _ σ τ _ σ' τ' => mvD σ' τ' = ms_begin (σ 35) (mvD σ τ) ∧ frD σ σ' τ τ' ∧ σ' 30 26 = 0
set_option maxHeartbeats 4000000 in
set_option maxRecDepth 100000 in
theorem c_D_begin (l : Launch) : ev_C ev_n l y_D_begin ws_D_begin rm_D_begin evLY evCl pre_D_begin post_D_begin := by
  refine ev_methL (by decide) rfl ev_rop_v ?_ I_D_begin (ok_D_begin l) [2, 22, 48] 60 ?_
  · rintro _ σ τ rfl
    exact Nat.le_of_ble_eq_true rfl
  · rintro _ σ τ rfl
    refine ⟨fun μ pc lv st σ' τ' n => st = [] ∧ n = 0 ∧ ((pc = 0 ∧ μ = 500 ∧ lv = [.ref 30, .null] ∧ σ' = σ ∧ τ' = τ) ∨ (pc = 2 ∧ ∃ i : Nat, i ≤ 4 ∧ μ = 300 - i ∧ lv = [.ref 30, .int (nI i)] ∧ τ' = τ ∧ σ' = ev_p σ 43 (sp_fill (σ 43) i 0)) ∨ (pc = 22 ∧ ∃ i : Nat, i ≤ 16 ∧ μ = 200 - i ∧ lv = [.ref 30, .int (nI i)] ∧ τ' = τ ∧ σ' = ev_p (ev_p σ 43 (sp_fill (σ 43) 4 0)) 44 (va_cpy (σ 35) (σ 44) 0 0 i)) ∨ (pc = 48 ∧ ∃ i : Nat, i ≤ 64 ∧ μ = 100 - i ∧ lv = [.ref 30, .int (nI i)] ∧ τ' = ev_p τ 47 (sp_fill (τ 47) i 0) ∧ σ' = ev_p (ev_p σ 43 (sp_fill (σ 43) 4 0)) 44 (va_cpy (σ 35) (σ 44) 0 0 16))), ⟨500, rfl, rfl, Or.inl ⟨rfl, rfl, rfl, rfl, rfl⟩⟩, ?_⟩
    rintro μ pc lv st σ' τ' n ⟨rfl, rfl, ⟨rfl, rfl, rfl, rfl, rfl⟩ | ⟨rfl, i, hi, rfl, rfl, rfl, rfl⟩ | ⟨rfl, i, hi, rfl, rfl, rfl, rfl⟩ | ⟨rfl, i, hi, rfl, rfl, rfl, rfl⟩⟩
    · exact ⟨300, by omega, rfl, rfl, Or.inr (Or.inl ⟨rfl, 0, Nat.zero_le _, rfl, rfl, rfl, by rw [sp_fill_0, ev_p_same]⟩)⟩
    · refine br_c (fun h => ?_) (fun h => ?_)
      · have hin : 4 ≤ i := (nI_leI (a := 4) (by omega) (by omega)).mp h
        have : i = 4 := by omega
        subst this
        refine ⟨200, by omega, rfl, rfl, Or.inr (Or.inr (Or.inl ⟨rfl, 0, Nat.zero_le _, rfl, rfl, rfl, ?_⟩))⟩
        rw [cpy_0]
        exact (ev_p_same (ev_p σ 43 (sp_fill (σ 43) 4 0)) 44).symm
      · have hin : i < 4 := Nat.not_le.mp fun q => h ((nI_leI (a := 4) (by omega) (by omega)).mpr q)
        refine ⟨vp_in_nI hin (by omega), ⟨300 - (i + 1), by omega, rfl, rfl, Or.inr (Or.inl ⟨rfl, i + 1, by omega, rfl, by rw [← nI_1], rfl, ?_⟩)⟩⟩
        show ev_u _ 43 _ _ = _
        unfold ev_u
        rw [ev_p_k, ev_p_p, nI_clamp (by omega), sp_fill_s]
    · refine br_c (fun h => ?_) (fun h => ?_)
      · have hin : 16 ≤ i := (nI_leI (a := 16) (by omega) (by omega)).mp h
        have : i = 16 := by omega
        subst this
        refine ⟨100, by omega, rfl, rfl, Or.inr (Or.inr (Or.inr ⟨rfl, 0, Nat.zero_le _, rfl, rfl, ?_, rfl⟩))⟩
        rw [sp_fill_0, ev_p_same]
      · have hin : i < 16 := Nat.not_le.mp fun q => h ((nI_leI (a := 16) (by omega) (by omega)).mpr q)
        have hv : vp_in (nI i) 16 := vp_in_nI hin (by omega)
        refine ⟨hv, hv, ⟨200 - (i + 1), by omega, rfl, rfl, Or.inr (Or.inr (Or.inl ⟨rfl, i + 1, by omega, rfl, by rw [← nI_1], rfl, ?_⟩))⟩⟩
        show ev_u _ 44 _ (σ 35 (nI i).toNatClampNeg) = _
        unfold ev_u
        rw [ev_p_k, ev_p_p, nI_clamp (by omega), cpy_s]
    · refine br_c (fun h => ?_) (fun h => ?_)
      · have hin : 64 ≤ i := (nI_leI (a := 64) (by omega) (by omega)).mp h
        have : i = 64 := by omega
        subst this
        refine ⟨rfl, ⟨fun k h1 h2 => ?_, fun j hj => ?_, fun k hk => if_neg hk⟩, rfl⟩
        · have h3 : ¬ k = 43 := by omega
          have h4 : ¬ k = 44 := by omega
          simp [ev_u, ev_p, h1, h3, h4]
        · have h3 : ¬ j = 22 := by omega
          have h4 : ¬ j = 23 := by omega
          have h5 : ¬ j = 24 := by omega
          have h6 : ¬ j = 25 := by omega
          have h7 : ¬ j = 26 := by omega
          simp [ev_u, ev_p, upd, h3, h4, h5, h6, h7]
      · have hin : i < 64 := Nat.not_le.mp fun q => h ((nI_leI (a := 64) (by omega) (by omega)).mpr q)
        refine ⟨vp_in_nI hin (by omega), ⟨100 - (i + 1), by omega, rfl, rfl, Or.inr (Or.inr (Or.inr ⟨rfl, i + 1, by omega, rfl, by rw [← nI_1], ?_, rfl⟩))⟩⟩
        show ev_w _ 47 _ _ = _
        unfold ev_w
        rw [ev_p_k, ev_p_p, nI_clamp (by omega), sp_fill_sL]
/-- the last of n blocks that covers an address -/
def sd_last (h b : Nat → Int32) (a : Int32) : Nat → Int32
  | 0 => -1
  | n + 1 => if h n ≤ a ∧ a < h n + b n then nI n else sd_last h b a n
def y_D_blockAt : MethodName := ⟨RD, "blockAt", "(I)I"⟩
def ws_D_blockAt : List Cond := .code y_D_blockAt prog_9_method_23_code 4 (some .int) :: evW
theorem d_D_blockAt_0 : decode prog_9_method_23_code 0 = .ok (.aload_n 0, 1) := by decide +kernel
theorem d_D_blockAt_1 : decode prog_9_method_23_code 1 = .ok (.iconst 0, 1) := by decide +kernel
theorem d_D_blockAt_2 : decode prog_9_method_23_code 2 = .ok (.putfield 63, 3) := by decide +kernel
theorem d_D_blockAt_5 : decode prog_9_method_23_code 5 = .ok (.iconst (-1), 1) := by decide +kernel
theorem d_D_blockAt_6 : decode prog_9_method_23_code 6 = .ok (.istore_n 2, 1) := by decide +kernel
theorem d_D_blockAt_7 : decode prog_9_method_23_code 7 = .ok (.iconst 0, 1) := by decide +kernel
theorem d_D_blockAt_8 : decode prog_9_method_23_code 8 = .ok (.istore_n 3, 1) := by decide +kernel
theorem d_D_blockAt_9 : decode prog_9_method_23_code 9 = .ok (.iload_n 3, 1) := by decide +kernel
theorem d_D_blockAt_10 : decode prog_9_method_23_code 10 = .ok (.aload_n 0, 1) := by decide +kernel
theorem d_D_blockAt_11 : decode prog_9_method_23_code 11 = .ok (.getfield 121, 3) := by decide +kernel
theorem d_D_blockAt_14 : decode prog_9_method_23_code 14 = .ok (.if_icmp .ge 49, 3) := by decide +kernel
theorem d_D_blockAt_17 : decode prog_9_method_23_code 17 = .ok (.aload_n 0, 1) := by decide +kernel
theorem d_D_blockAt_18 : decode prog_9_method_23_code 18 = .ok (.getfield 67, 3) := by decide +kernel
theorem d_D_blockAt_21 : decode prog_9_method_23_code 21 = .ok (.ifCond .eq 42, 3) := by decide +kernel
theorem d_D_blockAt_24 : decode prog_9_method_23_code 24 = .ok (.iload_n 1, 1) := by decide +kernel
theorem d_D_blockAt_25 : decode prog_9_method_23_code 25 = .ok (.aload_n 0, 1) := by decide +kernel
theorem d_D_blockAt_26 : decode prog_9_method_23_code 26 = .ok (.getfield 38, 3) := by decide +kernel
theorem d_D_blockAt_29 : decode prog_9_method_23_code 29 = .ok (.iload_n 3, 1) := by decide +kernel
theorem d_D_blockAt_30 : decode prog_9_method_23_code 30 = .ok (.iaload, 1) := by decide +kernel
theorem d_D_blockAt_31 : decode prog_9_method_23_code 31 = .ok (.if_icmp .lt 24, 3) := by decide +kernel
theorem d_D_blockAt_34 : decode prog_9_method_23_code 34 = .ok (.iload_n 1, 1) := by decide +kernel
theorem d_D_blockAt_35 : decode prog_9_method_23_code 35 = .ok (.aload_n 0, 1) := by decide +kernel
theorem d_D_blockAt_36 : decode prog_9_method_23_code 36 = .ok (.getfield 38, 3) := by decide +kernel
theorem d_D_blockAt_39 : decode prog_9_method_23_code 39 = .ok (.iload_n 3, 1) := by decide +kernel
theorem d_D_blockAt_40 : decode prog_9_method_23_code 40 = .ok (.iaload, 1) := by decide +kernel
theorem d_D_blockAt_41 : decode prog_9_method_23_code 41 = .ok (.aload_n 0, 1) := by decide +kernel
theorem d_D_blockAt_42 : decode prog_9_method_23_code 42 = .ok (.getfield 41, 3) := by decide +kernel
theorem d_D_blockAt_45 : decode prog_9_method_23_code 45 = .ok (.iload_n 3, 1) := by decide +kernel
theorem d_D_blockAt_46 : decode prog_9_method_23_code 46 = .ok (.iaload, 1) := by decide +kernel
theorem d_D_blockAt_47 : decode prog_9_method_23_code 47 = .ok (.iadd, 1) := by decide +kernel
theorem d_D_blockAt_48 : decode prog_9_method_23_code 48 = .ok (.if_icmp .ge 7, 3) := by decide +kernel
theorem d_D_blockAt_51 : decode prog_9_method_23_code 51 = .ok (.iload_n 3, 1) := by decide +kernel
theorem d_D_blockAt_52 : decode prog_9_method_23_code 52 = .ok (.goto 4, 3) := by decide +kernel
theorem d_D_blockAt_55 : decode prog_9_method_23_code 55 = .ok (.iload_n 2, 1) := by decide +kernel
theorem d_D_blockAt_56 : decode prog_9_method_23_code 56 = .ok (.istore_n 2, 1) := by decide +kernel
theorem d_D_blockAt_57 : decode prog_9_method_23_code 57 = .ok (.iinc 3 1, 3) := by decide +kernel
theorem d_D_blockAt_60 : decode prog_9_method_23_code 60 = .ok (.goto (-51), 3) := by decide +kernel
theorem d_D_blockAt_63 : decode prog_9_method_23_code 63 = .ok (.iload_n 2, 1) := by decide +kernel
theorem d_D_blockAt_64 : decode prog_9_method_23_code 64 = .ok (.ireturn, 1) := by decide +kernel
def I_D_blockAt (P : Int32 → ev_M → ev_L → Prop) : List (Nat × ev_T) := [(0, tt_al 0 1),
  (1, tt_k 0 2),
  (2, tt_pf evLY 7 0 5),
  (5, tt_k (-1) 6),
  (6, tt_is 2 7),
  (7, tt_k 0 8),
  (8, tt_is 3 9),
  (9, tt_il 3 10),
  (10, tt_al 0 11),
  (11, tt_gf evLY 7 15 14),
  (14, tt_icge 63 17),
  (17, tt_al 0 18),
  (18, tt_gf evLY 7 7 21),
  (21, tt_ifeq 63 24),
  (24, tt_il 1 25),
  (25, tt_al 0 26),
  (26, tt_gf evLY 7 16 29),
  (29, tt_il 3 30),
  (30, tt_ia evLY 31),
  (31, tt_iclt 55 34),
  (34, tt_il 1 35),
  (35, tt_al 0 36),
  (36, tt_gf evLY 7 16 39),
  (39, tt_il 3 40),
  (40, tt_ia evLY 41),
  (41, tt_al 0 42),
  (42, tt_gf evLY 7 17 45),
  (45, tt_il 3 46),
  (46, tt_ia evLY 47),
  (47, tt_iadd 48),
  (48, tt_icge 55 51),
  (51, tt_il 3 52),
  (52, tt_go 56),
  (55, tt_il 2 56),
  (56, tt_is 2 57),
  (57, tt_ii 3 1 60),
  (60, tt_go 9),
  (63, tt_il 2 64),
  (64, tt_ri P)]
abbrev rm_D_blockAt : Room := { frames := 0, cells := 0, slots := 0, locals := 0 }
set_option maxRecDepth 20000 in
theorem ok_D_blockAt (l : Launch) (J : ev_K) (P : Int32 → ev_M → ev_L → Prop) (X : ev_X l rm_D_blockAt evLY evCl ws_D_blockAt prog_9_method_23_code 4 y_D_blockAt.cls J) (Z : ev_Z J prog_9_method_23_code .ireturn ev_i P) : ev_oks J (I_D_blockAt P) :=
  ⟨qq_aln X 0 rfl d_D_blockAt_0,
  qq_ic X 0 (by decide) d_D_blockAt_1,
  qq_pf X 7 0 rfl (fun w h => List.mem_cons_of_mem _ (inE_D w h)) (by decide) tyD tyD_ok nmD rfl (by decide +kernel) (List.mem_cons_of_mem _ mw_754) d_D_blockAt_2,
  qq_ic X (-1) (by decide) d_D_blockAt_5,
  qq_isn X 2 rfl (by decide) d_D_blockAt_6,
  qq_ic X 0 (by decide) d_D_blockAt_7,
  qq_isn X 3 rfl (by decide) d_D_blockAt_8,
  qq_iln X 3 rfl d_D_blockAt_9,
  qq_aln X 0 rfl d_D_blockAt_10,
  qq_gf X 7 15 rfl (fun w h => List.mem_cons_of_mem _ (inE_D w h)) (by decide) (List.mem_cons_of_mem _ mw_769) d_D_blockAt_11,
  qq_icge X 63 (by decide) d_D_blockAt_14,
  qq_aln X 0 rfl d_D_blockAt_17,
  qq_gf X 7 7 rfl (fun w h => List.mem_cons_of_mem _ (inE_D w h)) (by decide) (List.mem_cons_of_mem _ mw_761) d_D_blockAt_18,
  qq_ifeq X 63 (by decide) d_D_blockAt_21,
  qq_iln X 1 rfl d_D_blockAt_24,
  qq_aln X 0 rfl d_D_blockAt_25,
  qq_gf X 7 16 rfl (fun w h => List.mem_cons_of_mem _ (inE_D w h)) (by decide) (List.mem_cons_of_mem _ mw_770) d_D_blockAt_26,
  qq_iln X 3 rfl d_D_blockAt_29,
  qq_ia X d_D_blockAt_30,
  qq_iclt X 55 (by decide) d_D_blockAt_31,
  qq_iln X 1 rfl d_D_blockAt_34,
  qq_aln X 0 rfl d_D_blockAt_35,
  qq_gf X 7 16 rfl (fun w h => List.mem_cons_of_mem _ (inE_D w h)) (by decide) (List.mem_cons_of_mem _ mw_770) d_D_blockAt_36,
  qq_iln X 3 rfl d_D_blockAt_39,
  qq_ia X d_D_blockAt_40,
  qq_aln X 0 rfl d_D_blockAt_41,
  qq_gf X 7 17 rfl (fun w h => List.mem_cons_of_mem _ (inE_D w h)) (by decide) (List.mem_cons_of_mem _ mw_771) d_D_blockAt_42,
  qq_iln X 3 rfl d_D_blockAt_45,
  qq_ia X d_D_blockAt_46,
  qq_iadd X d_D_blockAt_47,
  qq_icge X 55 (by decide) d_D_blockAt_48,
  qq_iln X 3 rfl d_D_blockAt_51,
  qq_go X 56 (by decide) d_D_blockAt_52,
  qq_iln X 2 rfl d_D_blockAt_55,
  qq_isn X 2 rfl (by decide) d_D_blockAt_56,
  qq_ii X 3 1 (by decide) (by decide) d_D_blockAt_57,
  qq_go X 9 (by decide) d_D_blockAt_60,
  qq_iln X 2 rfl d_D_blockAt_63,
  qq_ri Z d_D_blockAt_64, trivial⟩
def pre_D_blockAt : List Value → ev_M → ev_L → Prop := fun as σ _ => ∃ (a : Int32) (n : Nat), as = [.ref 30, .int a] ∧ σ 30 15 = nI n ∧ n ≤ 96
def post_D_blockAt : List Value → ev_M → ev_L → Int32 → ev_M → ev_L → Prop := fun as σ τ r σ' τ' => match as with
  | [_, .int a] => r = (if σ 30 7 = 0 then -1 else sd_last (σ 40) (σ 41) a (σ 30 15).toNatClampNeg) ∧ σ' = ev_u σ 30 0 0 ∧ τ' = τ
  | _ => False
set_option maxHeartbeats 4000000 in
set_option maxRecDepth 100000 in
theorem c_D_blockAt (l : Launch) : ev_C ev_i l y_D_blockAt ws_D_blockAt rm_D_blockAt evLY evCl pre_D_blockAt post_D_blockAt := by
  refine ev_methL (by decide) rfl ev_rop_i ?_ I_D_blockAt (ok_D_blockAt l) [9] 60 ?_
  · rintro _ σ τ ⟨a, n, rfl, h⟩
    exact Nat.le_of_ble_eq_true rfl
  · rintro _ σ τ ⟨a, n, rfl, hn, h96⟩
    have hcl : (σ 30 15).toNatClampNeg = n := by rw [hn]; exact nI_clamp (by omega)
    refine ⟨fun μ pc lv st σ' τ' z => st = [] ∧ z = 0 ∧ τ' = τ ∧ ((pc = 0 ∧ μ = 500 ∧ lv = [.ref 30, .int a, .null, .null] ∧ σ' = σ) ∨ (pc = 9 ∧ ∃ i : Nat, i ≤ n ∧ μ = n - i ∧ lv = [.ref 30, .int a, .int (sd_last (σ 40) (σ 41) a i), .int (nI i)] ∧ (σ 30 7 = 0 → i = 0) ∧ σ' = ev_u σ 30 0 0)), ⟨500, rfl, rfl, rfl, Or.inl ⟨rfl, rfl, rfl, rfl⟩⟩, ?_⟩
    rintro μ pc lv st σ' τ' z ⟨rfl, rfl, rfl, ⟨rfl, rfl, rfl, rfl⟩ | ⟨rfl, i, hi, rfl, rfl, h7, rfl⟩⟩
    · exact ⟨n, by omega, rfl, rfl, rfl, Or.inr ⟨rfl, 0, Nat.zero_le _, rfl, rfl, fun _ => rfl, rfl⟩⟩
    · refine br_c (fun h => ?_) (fun h => ?_)
      · have h' : σ 30 15 ≤ nI i := h
        rw [hn] at h'
        have hin : n ≤ i := (nI_leI (by omega) (by omega)).mp h'
        have : i = n := by omega
        subst this
        refine ⟨?_, rfl, rfl⟩
        rw [hcl]
        by_cases h8 : σ 30 7 = 0
        · rw [if_pos h8, h7 h8]; rfl
        · rw [if_neg h8]
      · have h' : ¬ σ 30 15 ≤ nI i := h
        rw [hn] at h'
        have hin : i < n := Nat.not_le.mp fun q => h' ((nI_leI (by omega) (by omega)).mpr q)
        refine br_c (fun h8 => ?_) (fun h8 => ?_)
        · have h8' : σ 30 7 = 0 := h8
          refine ⟨?_, rfl, rfl⟩
          rw [if_pos h8', h7 h8']; rfl
        · have h8' : ¬ σ 30 7 = 0 := h8
          have hv : vp_in (nI i) 96 := vp_in_nI (by omega) (by omega)
          have hci : (nI i).toNatClampNeg = i := nI_clamp (by omega)
          have stp : ∀ v : Int32, v = sd_last (σ 40) (σ 41) a (i + 1) → ∃ μ', μ' < n - i ∧ ([] : List Value) = [] ∧ 0 = 0 ∧ τ' = τ' ∧ ((9 = 0 ∧ μ' = 500 ∧ ([.ref 30, .int a, .int v, .int (nI i + 1)] : List Value) = [.ref 30, .int a, .null, .null] ∧ ev_u σ 30 0 0 = σ) ∨ (9 = 9 ∧ ∃ i2 : Nat, i2 ≤ n ∧ μ' = n - i2 ∧ ([.ref 30, .int a, .int v, .int (nI i + 1)] : List Value) = [.ref 30, .int a, .int (sd_last (σ 40) (σ 41) a i2), .int (nI i2)] ∧ (σ 30 7 = 0 → i2 = 0) ∧ ev_u σ 30 0 0 = ev_u σ 30 0 0)) := by
            rintro _ rfl
            exact ⟨n - (i + 1), by omega, rfl, rfl, rfl, Or.inr ⟨rfl, i + 1, by omega, rfl, by rw [← nI_1], fun q => absurd q h8', rfl⟩⟩
          refine ⟨hv, br_c (fun h9 => ?_) (fun h9 => ⟨hv, hv, br_c (fun h10 => ?_) (fun h10 => ?_)⟩)⟩
          · refine stp _ ?_
            have h9' : a < σ 40 (nI i).toNatClampNeg := h9
            rw [hci] at h9'
            exact (if_neg fun q => absurd (Int32.not_lt.mpr q.1) (fun w => w h9')).symm
          · refine stp _ ?_
            have h10' : σ 40 (nI i).toNatClampNeg + σ 41 (nI i).toNatClampNeg ≤ a := h10
            rw [hci] at h10'
            exact (if_neg fun q => absurd (Int32.not_le.mpr q.2) (fun w => w h10')).symm
          · refine stp _ ?_
            have h9' : ¬ a < σ 40 (nI i).toNatClampNeg := h9
            have h10' : ¬ σ 40 (nI i).toNatClampNeg + σ 41 (nI i).toNatClampNeg ≤ a := h10
            rw [hci] at h9' h10'
            exact (if_pos ⟨Int32.not_lt.mp h9', Int32.not_le.mp h10'⟩).symm
