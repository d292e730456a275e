/-! the reference's rewrite -/
theorem cpyA_0 (f : Nat → Int32) : va_cpy f f 0 256 0 = f := by
  funext j
  unfold va_cpy
  rw [if_neg (by omega)]
theorem cpyA_s (f : Nat → Int32) (n : Nat) (hn : n < 256) : upd (va_cpy f f 0 256 n) (256 + n) (va_cpy f f 0 256 n n) = va_cpy f f 0 256 (n + 1) := by
  funext j
  unfold upd va_cpy
  by_cases h : j = 256 + n
  · subst h
    have e : 0 + (256 + n - 256) = n := by omega
    simp [hn, e]
    omega
  · rw [if_neg h]
    by_cases h2 : 256 ≤ j ∧ j < 256 + n
    · rw [if_pos h2, if_pos (by omega)]
    · rw [if_neg h2, if_neg (by omega)]
theorem vbD_sp {f g : Nat → Int32} (h : sp_at f = sp_at g) {a s : Int32} (hv : vbD f a s) : vbD g a s := by
  obtain ⟨⟨b0, b1, b2, b3, b4, b5⟩, t1, t2⟩ := hv
  rw [h] at b5 t2
  exact ⟨⟨b0, b1, b2, b3, okR_sp h b4, fun q1 q2 => okR_sp h (b5 q1 q2)⟩, tgOK_sp h t1, fun q1 q2 => tgOK_sp h (t2 q1 q2)⟩
theorem rw_blk_sp {f g : Nat → Int32} (h : sp_at f = sp_at g) (k a s : Int32) (x : rws) : rw_blk f k a s x = rw_blk g k a s x := by
  unfold rw_blk
  rw [rw_first_sp h]
def frC0 (σ σ' : ev_M) : Prop := (∀ k, ¬ k = 30 → ¬ k = 31 → ¬ k = 32 → σ' k = σ k) ∧ (∀ j, ¬ j = 19 → ¬ j = 0 → σ' 30 j = σ 30 j) ∧ (∀ i, i < 256 → σ' 31 i = σ 31 i) ∧ σ' 30 0 = 0
theorem frC0_sp {σ σ' : ev_M} (h : frC0 σ σ') : sp_at (σ' 31) = sp_at (σ 31) := by
  funext a
  unfold sp_at
  by_cases hc : 0 ≤ a ∧ a < 256
  · rw [if_pos hc, if_pos hc]
    refine h.2.2.1 _ ?_
    have := i_clt hc.1 hc.2
    have h2 : (256 : Int32).toInt = 256 := rfl
    omega
  · rw [if_neg hc, if_neg hc]
def y_D_rewrite : MethodName := ⟨RD, "rewrite", "()I"⟩
def ws_D_rewrite : List Cond := .code y_D_rewrite prog_9_method_28_code 2 (some .int) :: evW
theorem d_D_rewrite_0 : decode prog_9_method_28_code 0 = .ok (.aload_n 0, 1) := by decide +kernel
theorem d_D_rewrite_1 : decode prog_9_method_28_code 1 = .ok (.iconst 0, 1) := by decide +kernel
theorem d_D_rewrite_2 : decode prog_9_method_28_code 2 = .ok (.putfield 63, 3) := by decide +kernel
theorem d_D_rewrite_5 : decode prog_9_method_28_code 5 = .ok (.aload_n 0, 1) := by decide +kernel
theorem d_D_rewrite_6 : decode prog_9_method_28_code 6 = .ok (.getfield 67, 3) := by decide +kernel
theorem d_D_rewrite_9 : decode prog_9_method_28_code 9 = .ok (.ifCond .ne 9, 3) := by decide +kernel
theorem d_D_rewrite_12 : decode prog_9_method_28_code 12 = .ok (.aload_n 0, 1) := by decide +kernel
theorem d_D_rewrite_13 : decode prog_9_method_28_code 13 = .ok (.iconst 1, 1) := by decide +kernel
theorem d_D_rewrite_14 : decode prog_9_method_28_code 14 = .ok (.invokevirtual 77, 3) := by decide +kernel
theorem d_D_rewrite_17 : decode prog_9_method_28_code 17 = .ok (.ireturn, 1) := by decide +kernel
theorem d_D_rewrite_18 : decode prog_9_method_28_code 18 = .ok (.iconst 0, 1) := by decide +kernel
theorem d_D_rewrite_19 : decode prog_9_method_28_code 19 = .ok (.istore_n 1, 1) := by decide +kernel
theorem d_D_rewrite_20 : decode prog_9_method_28_code 20 = .ok (.iload_n 1, 1) := by decide +kernel
theorem d_D_rewrite_21 : decode prog_9_method_28_code 21 = .ok (.sipush 256, 3) := by decide +kernel
theorem d_D_rewrite_24 : decode prog_9_method_28_code 24 = .ok (.if_icmp .ge 25, 3) := by decide +kernel
theorem d_D_rewrite_27 : decode prog_9_method_28_code 27 = .ok (.aload_n 0, 1) := by decide +kernel
theorem d_D_rewrite_28 : decode prog_9_method_28_code 28 = .ok (.getfield 7, 3) := by decide +kernel
theorem d_D_rewrite_31 : decode prog_9_method_28_code 31 = .ok (.sipush 256, 3) := by decide +kernel
theorem d_D_rewrite_34 : decode prog_9_method_28_code 34 = .ok (.iload_n 1, 1) := by decide +kernel
theorem d_D_rewrite_35 : decode prog_9_method_28_code 35 = .ok (.iadd, 1) := by decide +kernel
theorem d_D_rewrite_36 : decode prog_9_method_28_code 36 = .ok (.aload_n 0, 1) := by decide +kernel
theorem d_D_rewrite_37 : decode prog_9_method_28_code 37 = .ok (.getfield 7, 3) := by decide +kernel
theorem d_D_rewrite_40 : decode prog_9_method_28_code 40 = .ok (.iload_n 1, 1) := by decide +kernel
theorem d_D_rewrite_41 : decode prog_9_method_28_code 41 = .ok (.iaload, 1) := by decide +kernel
theorem d_D_rewrite_42 : decode prog_9_method_28_code 42 = .ok (.iastore, 1) := by decide +kernel
theorem d_D_rewrite_43 : decode prog_9_method_28_code 43 = .ok (.iinc 1 1, 3) := by decide +kernel
theorem d_D_rewrite_46 : decode prog_9_method_28_code 46 = .ok (.goto (-26), 3) := by decide +kernel
theorem d_D_rewrite_49 : decode prog_9_method_28_code 49 = .ok (.iconst 0, 1) := by decide +kernel
theorem d_D_rewrite_50 : decode prog_9_method_28_code 50 = .ok (.istore_n 1, 1) := by decide +kernel
theorem d_D_rewrite_51 : decode prog_9_method_28_code 51 = .ok (.iload_n 1, 1) := by decide +kernel
theorem d_D_rewrite_52 : decode prog_9_method_28_code 52 = .ok (.bipush 96, 2) := by decide +kernel
theorem d_D_rewrite_54 : decode prog_9_method_28_code 54 = .ok (.if_icmp .ge 16, 3) := by decide +kernel
theorem d_D_rewrite_57 : decode prog_9_method_28_code 57 = .ok (.aload_n 0, 1) := by decide +kernel
theorem d_D_rewrite_58 : decode prog_9_method_28_code 58 = .ok (.getfield 13, 3) := by decide +kernel
theorem d_D_rewrite_61 : decode prog_9_method_28_code 61 = .ok (.iload_n 1, 1) := by decide +kernel
theorem d_D_rewrite_62 : decode prog_9_method_28_code 62 = .ok (.iconst (-1), 1) := by decide +kernel
theorem d_D_rewrite_63 : decode prog_9_method_28_code 63 = .ok (.iastore, 1) := by decide +kernel
theorem d_D_rewrite_64 : decode prog_9_method_28_code 64 = .ok (.iinc 1 1, 3) := by decide +kernel
theorem d_D_rewrite_67 : decode prog_9_method_28_code 67 = .ok (.goto (-16), 3) := by decide +kernel
theorem d_D_rewrite_70 : decode prog_9_method_28_code 70 = .ok (.aload_n 0, 1) := by decide +kernel
theorem d_D_rewrite_71 : decode prog_9_method_28_code 71 = .ok (.bipush 96, 2) := by decide +kernel
theorem d_D_rewrite_73 : decode prog_9_method_28_code 73 = .ok (.putfield 137, 3) := by decide +kernel
theorem d_D_rewrite_76 : decode prog_9_method_28_code 76 = .ok (.iconst 0, 1) := by decide +kernel
theorem d_D_rewrite_77 : decode prog_9_method_28_code 77 = .ok (.istore_n 1, 1) := by decide +kernel
theorem d_D_rewrite_78 : decode prog_9_method_28_code 78 = .ok (.iload_n 1, 1) := by decide +kernel
theorem d_D_rewrite_79 : decode prog_9_method_28_code 79 = .ok (.aload_n 0, 1) := by decide +kernel
theorem d_D_rewrite_80 : decode prog_9_method_28_code 80 = .ok (.getfield 121, 3) := by decide +kernel
theorem d_D_rewrite_83 : decode prog_9_method_28_code 83 = .ok (.if_icmp .ge 14, 3) := by decide +kernel
theorem d_D_rewrite_86 : decode prog_9_method_28_code 86 = .ok (.aload_n 0, 1) := by decide +kernel
theorem d_D_rewrite_87 : decode prog_9_method_28_code 87 = .ok (.iload_n 1, 1) := by decide +kernel
theorem d_D_rewrite_88 : decode prog_9_method_28_code 88 = .ok (.invokevirtual 149, 3) := by decide +kernel
theorem d_D_rewrite_91 : decode prog_9_method_28_code 91 = .ok (.iinc 1 1, 3) := by decide +kernel
theorem d_D_rewrite_94 : decode prog_9_method_28_code 94 = .ok (.goto (-16), 3) := by decide +kernel
theorem d_D_rewrite_97 : decode prog_9_method_28_code 97 = .ok (.aload_n 0, 1) := by decide +kernel
theorem d_D_rewrite_98 : decode prog_9_method_28_code 98 = .ok (.aload_n 0, 1) := by decide +kernel
theorem d_D_rewrite_99 : decode prog_9_method_28_code 99 = .ok (.getfield 137, 3) := by decide +kernel
theorem d_D_rewrite_102 : decode prog_9_method_28_code 102 = .ok (.sipush 256, 3) := by decide +kernel
theorem d_D_rewrite_105 : decode prog_9_method_28_code 105 = .ok (.if_icmp .gt 7, 3) := by decide +kernel
theorem d_D_rewrite_108 : decode prog_9_method_28_code 108 = .ok (.iconst 1, 1) := by decide +kernel
theorem d_D_rewrite_109 : decode prog_9_method_28_code 109 = .ok (.goto 4, 3) := by decide +kernel
theorem d_D_rewrite_112 : decode prog_9_method_28_code 112 = .ok (.iconst 0, 1) := by decide +kernel
theorem d_D_rewrite_113 : decode prog_9_method_28_code 113 = .ok (.putfield 71, 3) := by decide +kernel
theorem d_D_rewrite_116 : decode prog_9_method_28_code 116 = .ok (.aload_n 0, 1) := by decide +kernel
theorem d_D_rewrite_117 : decode prog_9_method_28_code 117 = .ok (.getfield 71, 3) := by decide +kernel
theorem d_D_rewrite_120 : decode prog_9_method_28_code 120 = .ok (.ifCond .eq 13, 3) := by decide +kernel
theorem d_D_rewrite_123 : decode prog_9_method_28_code 123 = .ok (.aload_n 0, 1) := by decide +kernel
theorem d_D_rewrite_124 : decode prog_9_method_28_code 124 = .ok (.getfield 137, 3) := by decide +kernel
theorem d_D_rewrite_127 : decode prog_9_method_28_code 127 = .ok (.bipush 96, 2) := by decide +kernel
theorem d_D_rewrite_129 : decode prog_9_method_28_code 129 = .ok (.isub, 1) := by decide +kernel
theorem d_D_rewrite_130 : decode prog_9_method_28_code 130 = .ok (.goto 8, 3) := by decide +kernel
theorem d_D_rewrite_133 : decode prog_9_method_28_code 133 = .ok (.aload_n 0, 1) := by decide +kernel
theorem d_D_rewrite_134 : decode prog_9_method_28_code 134 = .ok (.iconst 2, 1) := by decide +kernel
theorem d_D_rewrite_135 : decode prog_9_method_28_code 135 = .ok (.invokevirtual 77, 3) := by decide +kernel
theorem d_D_rewrite_138 : decode prog_9_method_28_code 138 = .ok (.ireturn, 1) := by decide +kernel
def I_D_rewrite (P : Int32 → ev_M → ev_L → Prop) : List (Nat × ev_T) := [(0, tt_al 0 1),
  (1, tt_k 0 2),
  (2, tt_pf evLY 7 0 5),
  (5, tt_al 0 6),
  (6, tt_gf evLY 7 7 9),
  (9, tt_ifne 18 12),
  (12, tt_al 0 13),
  (13, tt_k 1 14),
  (14, tt_cV evLY 7 1 ev_i pre_D_fail post_D_fail 17),
  (17, tt_ri P),
  (18, tt_k 0 19),
  (19, tt_is 1 20),
  (20, tt_il 1 21),
  (21, tt_k 256 24),
  (24, tt_icge 49 27),
  (27, tt_al 0 28),
  (28, tt_gf evLY 7 1 31),
  (31, tt_k 256 34),
  (34, tt_il 1 35),
  (35, tt_iadd 36),
  (36, tt_al 0 37),
  (37, tt_gf evLY 7 1 40),
  (40, tt_il 1 41),
  (41, tt_ia evLY 42),
  (42, tt_ias evLY 43),
  (43, tt_ii 1 1 46),
  (46, tt_go 20),
  (49, tt_k 0 50),
  (50, tt_is 1 51),
  (51, tt_il 1 52),
  (52, tt_k 96 54),
  (54, tt_icge 70 57),
  (57, tt_al 0 58),
  (58, tt_gf evLY 7 2 61),
  (61, tt_il 1 62),
  (62, tt_k (-1) 63),
  (63, tt_ias evLY 64),
  (64, tt_ii 1 1 67),
  (67, tt_go 51),
  (70, tt_al 0 71),
  (71, tt_k 96 73),
  (73, tt_pf evLY 7 19 76),
  (76, tt_k 0 77),
  (77, tt_is 1 78),
  (78, tt_il 1 79),
  (79, tt_al 0 80),
  (80, tt_gf evLY 7 15 83),
  (83, tt_icge 97 86),
  (86, tt_al 0 87),
  (87, tt_il 1 88),
  (88, tt_cV evLY 7 1 ev_n pre_D_renewBlock post_D_renewBlock 91),
  (91, tt_ii 1 1 94),
  (94, tt_go 78),
  (97, tt_al 0 98),
  (98, tt_al 0 99),
  (99, tt_gf evLY 7 19 102),
  (102, tt_k 256 105),
  (105, tt_icgt 112 108),
  (108, tt_k 1 109),
  (109, tt_go 113),
  (112, tt_k 0 113),
  (113, tt_pz evLY 7 8 116),
  (116, tt_al 0 117),
  (117, tt_gf evLY 7 8 120),
  (120, tt_ifeq 133 123),
  (123, tt_al 0 124),
  (124, tt_gf evLY 7 19 127),
  (127, tt_k 96 129),
  (129, tt_isub 130),
  (130, tt_go 138),
  (133, tt_al 0 134),
  (134, tt_k 2 135),
  (135, tt_cV evLY 7 1 ev_i pre_D_fail post_D_fail 138),
  (138, tt_ri P)]
abbrev rm_D_rewrite : Room := { frames := 4, cells := 0, slots := 0, locals := 128 }
set_option maxRecDepth 20000 in
theorem ok_D_rewrite (l : Launch) (J : ev_K) (P : Int32 → ev_M → ev_L → Prop) (X : ev_X l rm_D_rewrite evLY evCl ws_D_rewrite prog_9_method_28_code 2 y_D_rewrite.cls J) (Z : ev_Z J prog_9_method_28_code .ireturn ev_i P) : ev_oks J (I_D_rewrite P) :=
  ⟨qq_aln X 0 rfl d_D_rewrite_0,
  qq_ic X 0 (by decide) d_D_rewrite_1,
  qq_pf X 7 0 rfl (fun w h => List.mem_cons_of_mem _ (inE_D w h)) (by decide) tyD tyD_ok nmD rfl (by decide +kernel) (List.mem_cons_of_mem _ mw_754) d_D_rewrite_2,
  qq_aln X 0 rfl d_D_rewrite_5,
  qq_gf X 7 7 rfl (fun w h => List.mem_cons_of_mem _ (inE_D w h)) (by decide) (List.mem_cons_of_mem _ mw_761) d_D_rewrite_6,
  qq_ifne X 18 (by decide) d_D_rewrite_9,
  qq_aln X 0 rfl d_D_rewrite_12,
  qq_ic X 1 (by decide) d_D_rewrite_13,
  qq_cV X 7 rfl (c_D_fail l) (fun hts => cwV 1 hts (evGV (mw_861) (mw_863) (mp_27) (mw_8) (mw_864)) rfl rfl rfl (by decide +kernel) ⟨Nat.le_of_ble_eq_true rfl, Nat.le_of_ble_eq_true rfl⟩) d_D_rewrite_14,
  qq_ri Z d_D_rewrite_17,
  qq_ic X 0 (by decide) d_D_rewrite_18,
  qq_isn X 1 rfl (by decide) d_D_rewrite_19,
  qq_iln X 1 rfl d_D_rewrite_20,
  qq_sp X 256 (by decide) d_D_rewrite_21,
  qq_icge X 49 (by decide) d_D_rewrite_24,
  qq_aln X 0 rfl d_D_rewrite_27,
  qq_gf X 7 1 rfl (fun w h => List.mem_cons_of_mem _ (inE_D w h)) (by decide) (List.mem_cons_of_mem _ mw_755) d_D_rewrite_28,
  qq_sp X 256 (by decide) d_D_rewrite_31,
  qq_iln X 1 rfl d_D_rewrite_34,
  qq_iadd X d_D_rewrite_35,
  qq_aln X 0 rfl d_D_rewrite_36,
  qq_gf X 7 1 rfl (fun w h => List.mem_cons_of_mem _ (inE_D w h)) (by decide) (List.mem_cons_of_mem _ mw_755) d_D_rewrite_37,
  qq_iln X 1 rfl d_D_rewrite_40,
  qq_ia X d_D_rewrite_41,
  qq_ias X d_D_rewrite_42,
  qq_ii X 1 1 (by decide) (by decide) d_D_rewrite_43,
  qq_go X 20 (by decide) d_D_rewrite_46,
  qq_ic X 0 (by decide) d_D_rewrite_49,
  qq_isn X 1 rfl (by decide) d_D_rewrite_50,
  qq_iln X 1 rfl d_D_rewrite_51,
  qq_bp X 96 (by decide) d_D_rewrite_52,
  qq_icge X 70 (by decide) d_D_rewrite_54,
  qq_aln X 0 rfl d_D_rewrite_57,
  qq_gf X 7 2 rfl (fun w h => List.mem_cons_of_mem _ (inE_D w h)) (by decide) (List.mem_cons_of_mem _ mw_756) d_D_rewrite_58,
  qq_iln X 1 rfl d_D_rewrite_61,
  qq_ic X (-1) (by decide) d_D_rewrite_62,
  qq_ias X d_D_rewrite_63,
  qq_ii X 1 1 (by decide) (by decide) d_D_rewrite_64,
  qq_go X 51 (by decide) d_D_rewrite_67,
  qq_aln X 0 rfl d_D_rewrite_70,
  qq_bp X 96 (by decide) d_D_rewrite_71,
  qq_pf X 7 19 rfl (fun w h => List.mem_cons_of_mem _ (inE_D w h)) (by decide) tyD tyD_ok nmD rfl (by decide +kernel) (List.mem_cons_of_mem _ mw_773) d_D_rewrite_73,
  qq_ic X 0 (by decide) d_D_rewrite_76,
  qq_isn X 1 rfl (by decide) d_D_rewrite_77,
  qq_iln X 1 rfl d_D_rewrite_78,
  qq_aln X 0 rfl d_D_rewrite_79,
  qq_gf X 7 15 rfl (fun w h => List.mem_cons_of_mem _ (inE_D w h)) (by decide) (List.mem_cons_of_mem _ mw_769) d_D_rewrite_80,
  qq_icge X 97 (by decide) d_D_rewrite_83,
  qq_aln X 0 rfl d_D_rewrite_86,
  qq_iln X 1 rfl d_D_rewrite_87,
  qq_cV X 7 rfl (c_D_renewBlock l) (fun hts => cwV 1 hts (evGV (mw_931) (mw_933) (mp_35) (mw_8) (mw_934)) rfl rfl rfl (by decide +kernel) ⟨Nat.le_of_ble_eq_true rfl, Nat.le_of_ble_eq_true rfl⟩) d_D_rewrite_88,
  qq_ii X 1 1 (by decide) (by decide) d_D_rewrite_91,
  qq_go X 78 (by decide) d_D_rewrite_94,
  qq_aln X 0 rfl d_D_rewrite_97,
  qq_aln X 0 rfl d_D_rewrite_98,
  qq_gf X 7 19 rfl (fun w h => List.mem_cons_of_mem _ (inE_D w h)) (by decide) (List.mem_cons_of_mem _ mw_773) d_D_rewrite_99,
  qq_sp X 256 (by decide) d_D_rewrite_102,
  qq_icgt X 112 (by decide) d_D_rewrite_105,
  qq_ic X 1 (by decide) d_D_rewrite_108,
  qq_go X 113 (by decide) d_D_rewrite_109,
  qq_ic X 0 (by decide) d_D_rewrite_112,
  qq_pz X 7 8 rfl (fun w h => List.mem_cons_of_mem _ (inE_D w h)) (by decide) tyD tyD_ok nmD rfl (by decide +kernel) (List.mem_cons_of_mem _ mw_762) d_D_rewrite_113,
  qq_aln X 0 rfl d_D_rewrite_116,
  qq_gf X 7 8 rfl (fun w h => List.mem_cons_of_mem _ (inE_D w h)) (by decide) (List.mem_cons_of_mem _ mw_762) d_D_rewrite_117,
  qq_ifeq X 133 (by decide) d_D_rewrite_120,
  qq_aln X 0 rfl d_D_rewrite_123,
  qq_gf X 7 19 rfl (fun w h => List.mem_cons_of_mem _ (inE_D w h)) (by decide) (List.mem_cons_of_mem _ mw_773) d_D_rewrite_124,
  qq_bp X 96 (by decide) d_D_rewrite_127,
  qq_isub X d_D_rewrite_129,
  qq_go X 138 (by decide) d_D_rewrite_130,
  qq_aln X 0 rfl d_D_rewrite_133,
  qq_ic X 2 (by decide) d_D_rewrite_134,
  qq_cV X 7 rfl (c_D_fail l) (fun hts => cwV 1 hts (evGV (mw_861) (mw_863) (mp_27) (mw_8) (mw_864)) rfl rfl rfl (by decide +kernel) ⟨Nat.le_of_ble_eq_true rfl, Nat.le_of_ble_eq_true rfl⟩) d_D_rewrite_135,
  qq_ri Z d_D_rewrite_138, trivial⟩
def pre_D_rewrite : List Value → ev_M → ev_L → Prop := fun as σ _ => ∃ n : Nat, as = [.ref 30] ∧ σ 30 15 = nI n ∧ n ≤ 96 ∧ (¬ σ 30 7 = 0 → byF (σ 31) ∧ ∀ k, k < n → vbD (σ 31) (σ 40 k) (σ 41 k))
def post_D_rewrite : List Value → ev_M → ev_L → Int32 → ev_M → ev_L → Prop := fun _ σ τ r σ' τ' => τ' = τ ∧ ((σ 30 7 = 0 ∧ r = 0 ∧ σ' = ev_u σ 30 0 1) ∨ (¬ σ 30 7 = 0 ∧ rvD σ' = rw_all (σ 31) (σ 40) (σ 41) (σ 30 15).toNatClampNeg ∧ (∀ k, ¬ k = 30 → ¬ k = 31 → ¬ k = 32 → σ' k = σ k) ∧ (∀ j, ¬ j = 19 → ¬ j = 0 → ¬ j = 8 → σ' 30 j = σ 30 j) ∧ (∀ i, i < 256 → σ' 31 i = σ 31 i) ∧ ((σ' 30 19 ≤ 256 ∧ r = σ' 30 19 - 96 ∧ σ' 30 0 = 0 ∧ σ' 30 8 = 1) ∨ (¬ σ' 30 19 ≤ 256 ∧ r = 0 ∧ σ' 30 0 = 2 ∧ σ' 30 8 = 0))))
set_option maxHeartbeats 4000000 in
set_option maxRecDepth 100000 in
theorem c_D_rewrite (l : Launch) : ev_C ev_i l y_D_rewrite ws_D_rewrite rm_D_rewrite evLY evCl pre_D_rewrite post_D_rewrite := by
  refine ev_methL (by decide) rfl ev_rop_i ?_ I_D_rewrite (ok_D_rewrite l) [20, 51, 78] 100 ?_
  · rintro _ σ τ ⟨n, rfl, h⟩
    exact Nat.le_of_ble_eq_true rfl
  · rintro _ σ τ ⟨n, rfl, hn, h96, hV⟩
    have hcl : (σ 30 15).toNatClampNeg = n := by rw [hn]; exact nI_clamp (by omega)
    refine ⟨fun μ pc lv st σ' τ' z => st = [] ∧ z = 0 ∧ τ = τ' ∧ ((pc = 0 ∧ μ = 9000 ∧ lv = [.ref 30, .null] ∧ σ = σ') ∨ (¬ σ 30 7 = 0 ∧ ((pc = 20 ∧ ∃ i : Nat, i ≤ 256 ∧ μ = 2000 - i ∧ lv = [.ref 30, .int (nI i)] ∧ σ' = ev_p (ev_u σ 30 0 0) 31 (va_cpy (σ 31) (σ 31) 0 256 i)) ∨ (pc = 51 ∧ ∃ i : Nat, i ≤ 96 ∧ μ = 1000 - i ∧ lv = [.ref 30, .int (nI i)] ∧ σ' = ev_p (ev_p (ev_u σ 30 0 0) 31 (va_cpy (σ 31) (σ 31) 0 256 256)) 32 (sp_fill (σ 32) i (-1))) ∨ (pc = 78 ∧ ∃ i : Nat, i ≤ n ∧ μ = 500 - i ∧ lv = [.ref 30, .int (nI i)] ∧ rvD σ' = rw_all (σ 31) (σ 40) (σ 41) i ∧ frC0 σ σ')))), ⟨9000, rfl, rfl, rfl, Or.inl ⟨rfl, rfl, rfl, rfl⟩⟩, ?_⟩
    rintro μ pc lv st σ' τ' z ⟨rfl, rfl, rfl, ⟨rfl, rfl, rfl, rfl⟩ | ⟨h7, ⟨rfl, i, hi, rfl, rfl, rfl⟩ | ⟨rfl, i, hi, rfl, rfl, rfl⟩ | ⟨rfl, i, hi, rfl, rfl, hv, hfr⟩⟩⟩
    · refine br_n (fun h => ?_) (fun h => ?_)
      · refine ⟨2000, by omega, rfl, rfl, rfl, Or.inr ⟨h, Or.inl ⟨rfl, 0, Nat.zero_le _, rfl, rfl, ?_⟩⟩⟩
        rw [cpyA_0]
        exact (ev_p_same (ev_u σ 30 0 0) 31).symm
      · refine ⟨⟨_, rfl⟩, ?_⟩
        rintro _ _ _ ⟨rfl, rfl, rfl⟩
        exact ⟨rfl, Or.inl ⟨h, rfl, ev_u_u _ _ _ _ _⟩⟩
    · refine br_c (fun h => ?_) (fun h => ?_)
      · have hin : 256 ≤ i := (nI_leI (a := 256) (by omega) (by omega)).mp h
        have : i = 256 := by omega
        subst this
        refine ⟨1000, by omega, rfl, rfl, rfl, Or.inr ⟨h7, Or.inr (Or.inl ⟨rfl, 0, Nat.zero_le _, rfl, rfl, ?_⟩)⟩⟩
        rw [sp_fill_0]
        exact (ev_p_same (ev_p (ev_u σ 30 0 0) 31 (va_cpy (σ 31) (σ 31) 0 256 256)) 32).symm
      · have hin : i < 256 := Nat.not_le.mp fun q => h ((nI_leI (a := 256) (by omega) (by omega)).mpr q)
        have hii : (nI i).toInt = i := nI_toInt (by omega)
        have ea : ((256 : Int32) + nI i).toInt = 256 + i := by rw [i_add (by decide) (by decide) (by omega) (by omega), hii]; rfl
        have c1 := i_cl (x := 256 + nI i) (by omega)
        have c2 : (nI i).toNatClampNeg = i := nI_clamp (by omega)
        have c3 : ((256 : Int32) + nI i).toNatClampNeg = 256 + i := by omega
        refine ⟨by rw [vp_in_iff]; omega, by rw [vp_in_iff]; omega, ⟨2000 - (i + 1), by omega, rfl, rfl, rfl, Or.inr ⟨h7, Or.inl ⟨rfl, i + 1, by omega, rfl, by rw [← nI_1], ?_⟩⟩⟩⟩
        show ev_u (ev_p (ev_u σ 30 0 0) 31 (va_cpy (σ 31) (σ 31) 0 256 i)) 31 (256 + nI i).toNatClampNeg (va_cpy (σ 31) (σ 31) 0 256 i (nI i).toNatClampNeg) = _
        unfold ev_u
        rw [ev_p_k, ev_p_p, c3, c2, cpyA_s _ _ hin]
    · refine br_c (fun h => ?_) (fun h => ?_)
      · have hin : 96 ≤ i := (nI_leI (a := 96) (by omega) (by omega)).mp h
        have : i = 96 := by omega
        subst this
        refine ⟨500, by omega, rfl, rfl, rfl, Or.inr ⟨h7, Or.inr (Or.inr ⟨rfl, 0, Nat.zero_le _, rfl, rfl, ?_, fun k h1 h2 h3 => ?_, fun j h1 h2 => ?_, fun j hj => ?_, rfl⟩)⟩⟩
        · show ((cutF (fun j => va_cpy (σ 31) (σ 31) 0 256 256 (256 + j)), ntD (sp_fill (σ 32) 96 (-1)), 96) : rws) = (cutF (σ 31), fun _ => -1, 96)
          have c1 : cutF (fun j => va_cpy (σ 31) (σ 31) 0 256 256 (256 + j)) = cutF (σ 31) := by
            funext j
            unfold cutF va_cpy
            by_cases hj : j < 256
            · have e : 0 + (256 + j - 256) = j := by omega
              simp only [if_pos hj, e]
              rw [if_pos (by omega)]
            · simp only [if_neg hj]
          have c2 : ntD (sp_fill (σ 32) 96 (-1)) = fun _ => -1 := by
            funext j
            unfold ntD sp_fill
            by_cases hj : j < 96 <;> simp [hj]
          rw [c1, c2]
        · simp [ev_u, ev_p, h1, h2, h3]
        · simp [ev_u, ev_p, upd, h1, h2]
        · show va_cpy (σ 31) (σ 31) 0 256 256 j = σ 31 j
          unfold va_cpy
          rw [if_neg (by omega)]
      · have hin : i < 96 := Nat.not_le.mp fun q => h ((nI_leI (a := 96) (by omega) (by omega)).mpr q)
        refine ⟨vp_in_nI hin (by omega), ⟨1000 - (i + 1), by omega, rfl, rfl, rfl, Or.inr ⟨h7, Or.inr (Or.inl ⟨rfl, i + 1, by omega, rfl, by rw [← nI_1], ?_⟩)⟩⟩⟩
        show ev_u _ 32 _ _ = _
        unfold ev_u
        rw [ev_p_k, ev_p_p, nI_clamp (by omega), sp_fill_s]
    · have e15 : σ' 30 15 = nI n := by rw [hfr.2.1 15 (by decide) (by decide)]; exact hn
      have fin : ∀ (r : Int32) (σ9 : ev_M), i = n → (∀ k, ¬ k = 30 → σ9 k = σ' k) → (∀ j, ¬ j = 8 → ¬ j = 0 → σ9 30 j = σ' 30 j) → ((σ' 30 19 ≤ 256 ∧ r = σ' 30 19 - 96 ∧ σ9 30 0 = 0 ∧ σ9 30 8 = 1) ∨ (¬ σ' 30 19 ≤ 256 ∧ r = 0 ∧ σ9 30 0 = 2 ∧ σ9 30 8 = 0)) → post_D_rewrite [.ref 30] σ τ r σ9 τ := by
        rintro r σ9 rfl g1 g2 g3
        have e19 : σ9 30 19 = σ' 30 19 := g2 19 (by decide) (by decide)
        refine ⟨rfl, Or.inr ⟨h7, ?_, fun k a b c => (g1 k a).trans (hfr.1 k a b c), fun j a b c => (g2 j c b).trans (hfr.2.1 j a b), fun j hj => ?_, by rw [e19]; exact g3⟩⟩
        · rw [hcl, ← hv]
          unfold rvD
          rw [g1 31 (by decide), g1 32 (by decide), e19]
        · rw [g1 31 (by decide)]
          exact hfr.2.2.1 j hj
      refine br_c (fun h => ?_) (fun h => ?_)
      · have h' : nI n ≤ nI i := by rw [← e15]; exact h
        have hin : n ≤ i := (nI_leI (by omega) (by omega)).mp h'
        have hin2 : i = n := by omega
        refine br_c (fun h9 => ?_) (fun h9 => ?_)
        · refine ⟨Or.inl rfl, br_t (show (0 : Int32) = 0 from rfl) ?_⟩
          refine ⟨⟨_, rfl⟩, ?_⟩
          rintro _ _ _ ⟨rfl, rfl, rfl⟩
          refine fin _ _ hin2 (fun k hk => by simp [ev_u, ev_p, hk]) (fun j a b => by simp [ev_u, ev_p, upd, a, b]) (Or.inr ⟨Int32.not_le.mpr h9, rfl, rfl, rfl⟩)
        · refine ⟨Or.inr rfl, br_f (show ¬ (1 : Int32) = 0 by decide) ?_⟩
          refine fin _ _ hin2 (fun k hk => by simp [ev_u, ev_p, hk]) (fun j a b => by simp [ev_u, ev_p, upd, a]) (Or.inl ⟨Int32.not_lt.mp h9, rfl, hfr.2.2.2, rfl⟩)
      · have h' : ¬ nI n ≤ nI i := by rw [← e15]; exact h
        have hin : i < n := Nat.not_le.mp fun q => h' ((nI_leI (by omega) (by omega)).mpr q)
        obtain ⟨hf, hvb⟩ := hV h7
        have es := frC0_sp hfr
        have e40 : σ' 40 = σ 40 := hfr.1 40 (by decide) (by decide) (by decide)
        have e41 : σ' 41 = σ 41 := hfr.1 41 (by decide) (by decide) (by decide)
        have free := rw_free (σ 31) (σ 40) (σ 41) (k := i) (by omega)
        rw [← hv] at free
        have fr1 : 96 ≤ (σ' 30 19).toInt := free.1
        have fr2 : (σ' 30 19).toInt ≤ 1632 := free.2
        refine ⟨⟨i, rfl, by omega, fun j hj => by rw [hfr.2.2.1 j hj]; exact hf j hj, ?_, fr1, by omega⟩, ?_⟩
        · rw [e40, e41]
          exact vbD_sp es.symm (hvb i hin)
        · rintro _ σ2 τ2 ⟨w, q, rfl⟩
          refine ⟨500 - (i + 1), by omega, rfl, rfl, rfl, Or.inr ⟨h7, Or.inr (Or.inr ⟨rfl, i + 1, by omega, rfl, by rw [← nI_1], ?_, fun k a b c => (q.1 k a b c).trans (hfr.1 k a b c), fun j a b => (q.2.1 j a).trans (hfr.2.1 j a b), fun j hj => (q.2.2 j hj).trans (hfr.2.2.1 j hj), (q.2.1 0 (by decide)).trans hfr.2.2.2⟩)⟩⟩
          rw [w, rw_blk_sp es, nI_clamp (by omega), e40, e41, hv]
          rfl
