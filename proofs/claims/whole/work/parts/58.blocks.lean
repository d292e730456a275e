/-! blocks: Analysis.addBlock, findBlocks -/
/-- from a head on: where the block ends, how many instructions it has -/
def wk (f H : Nat → Int32) : Nat → Nat → Nat → Nat × Nat
  | 0, a, c => (a, c)
  | n + 1, a, c => if sp_ends (sp_kind (sp_at f (nI a))) = true ∨ 96 ≤ a + lenN f a ∨ ¬ H (a + lenN f a) = 0 then (a + lenN f a, c + 1) else wk f H n (a + lenN f a) (c + 1)
/-- a set of instructions that can be walked -/
def wkS (f : Nat → Int32) (S : Nat → Prop) : Prop := ∀ x, S x → x < 96 ∧ sp_okR f (nI x) 96 ∧ (¬ sp_ends (sp_kind (sp_at f (nI x))) = true → S (x + lenN f x))
theorem wk_R {f H : Nat → Int32} {S : Nat → Prop} (hS : wkS f S) : ∀ (n a c : Nat), 96 ≤ n + a → S a → a < (wk f H n a c).1 ∧ (wk f H n a c).1 ≤ 96 ∧ c < (wk f H n a c).2 ∧ (wk f H n a c).2 + a ≤ c + (wk f H n a c).1
  | 0, a, c, h, hs => by have := (hS a hs).1; omega
  | n + 1, a, c, h, hs => by
    obtain ⟨h1, h2, h3⟩ := hS a hs
    have hl := lenN_c f a
    have hle := okR_len h1 h2
    unfold wk
    by_cases hc : sp_ends (sp_kind (sp_at f (nI a))) = true ∨ 96 ≤ a + lenN f a ∨ ¬ H (a + lenN f a) = 0
    · rw [if_pos hc]
      exact ⟨by show a < a + lenN f a; omega, hle, by show c < c + 1; omega, by show c + 1 + a ≤ c + (a + lenN f a); omega⟩
    · rw [if_neg hc]
      have ih := wk_R (H := H) hS n (a + lenN f a) (c + 1) (by omega) (h3 (fun q => hc (Or.inl q)))
      omega
def fillR (g : Nat → Int32) (lo hi : Nat) (v : Int32) : Nat → Int32 := fun j => if lo ≤ j ∧ j < hi then v else g j
theorem fillR_0 (g : Nat → Int32) (lo : Nat) (v : Int32) : fillR g lo lo v = g := by funext j; unfold fillR; rw [if_neg (by omega)]
theorem fillR_s (g : Nat → Int32) (lo n : Nat) (h : lo ≤ n) (v : Int32) : upd (fillR g lo n v) n v = fillR g lo (n + 1) v := by
  funext j
  unfold upd fillR
  by_cases hj : j = n
  · rw [if_pos hj, if_pos (by omega)]
  · rw [if_neg hj]
    by_cases h2 : lo ≤ j ∧ j < n
    · rw [if_pos h2, if_pos (by omega)]
    · rw [if_neg h2, if_neg (by omega)]
/-- what a new block leaves -/
def anA (σ σ' : ev_M) (bc hd e c : Nat) : Prop := (∀ k, ¬ k = 8 → ¬ k = 9 → (k < 14 ∨ 17 < k) → σ' k = σ k) ∧ σ' 8 9 = σ 8 9 ∧ σ' 8 10 = nI (bc + 1) ∧ σ' 14 = fillR (σ 14) hd e (nI bc) ∧ σ' 15 = upd (σ 15) bc (nI hd) ∧ σ' 16 = upd (σ 16) bc (nI (e - hd)) ∧ σ' 17 = upd (σ 17) bc (nI c)
def y_A_addBlock : MethodName := ⟨RX0, "addBlock", "(LBlockCounter$Program;I)V"⟩
def ws_A_addBlock : List Cond := .code y_A_addBlock prog_2_method_18_code 7 none :: evW
theorem d_A_addBlock_0 : decode prog_2_method_18_code 0 = .ok (.iload_n 2, 1) := by decide +kernel
theorem d_A_addBlock_1 : decode prog_2_method_18_code 1 = .ok (.istore_n 3, 1) := by decide +kernel
theorem d_A_addBlock_2 : decode prog_2_method_18_code 2 = .ok (.iconst 0, 1) := by decide +kernel
theorem d_A_addBlock_3 : decode prog_2_method_18_code 3 = .ok (.istore 4, 2) := by decide +kernel
theorem d_A_addBlock_5 : decode prog_2_method_18_code 5 = .ok (.iconst 1, 1) := by decide +kernel
theorem d_A_addBlock_6 : decode prog_2_method_18_code 6 = .ok (.istore 5, 2) := by decide +kernel
theorem d_A_addBlock_8 : decode prog_2_method_18_code 8 = .ok (.iload 5, 2) := by decide +kernel
theorem d_A_addBlock_10 : decode prog_2_method_18_code 10 = .ok (.ifCond .eq 70, 3) := by decide +kernel
theorem d_A_addBlock_13 : decode prog_2_method_18_code 13 = .ok (.iload 4, 2) := by decide +kernel
theorem d_A_addBlock_15 : decode prog_2_method_18_code 15 = .ok (.bipush 96, 2) := by decide +kernel
theorem d_A_addBlock_17 : decode prog_2_method_18_code 17 = .ok (.if_icmp .ge 63, 3) := by decide +kernel
theorem d_A_addBlock_20 : decode prog_2_method_18_code 20 = .ok (.aload_n 0, 1) := by decide +kernel
theorem d_A_addBlock_21 : decode prog_2_method_18_code 21 = .ok (.getfield 12, 3) := by decide +kernel
theorem d_A_addBlock_24 : decode prog_2_method_18_code 24 = .ok (.aload_n 1, 1) := by decide +kernel
theorem d_A_addBlock_25 : decode prog_2_method_18_code 25 = .ok (.iload_n 3, 1) := by decide +kernel
theorem d_A_addBlock_26 : decode prog_2_method_18_code 26 = .ok (.bipush 96, 2) := by decide +kernel
theorem d_A_addBlock_28 : decode prog_2_method_18_code 28 = .ok (.invokevirtual 90, 3) := by decide +kernel
theorem d_A_addBlock_31 : decode prog_2_method_18_code 31 = .ok (.ifCond .eq 49, 3) := by decide +kernel
theorem d_A_addBlock_34 : decode prog_2_method_18_code 34 = .ok (.aload_n 0, 1) := by decide +kernel
theorem d_A_addBlock_35 : decode prog_2_method_18_code 35 = .ok (.getfield 12, 3) := by decide +kernel
theorem d_A_addBlock_38 : decode prog_2_method_18_code 38 = .ok (.invokevirtual 100, 3) := by decide +kernel
theorem d_A_addBlock_41 : decode prog_2_method_18_code 41 = .ok (.istore_n 3, 1) := by decide +kernel
theorem d_A_addBlock_42 : decode prog_2_method_18_code 42 = .ok (.iinc 4 1, 3) := by decide +kernel
theorem d_A_addBlock_45 : decode prog_2_method_18_code 45 = .ok (.aload_n 0, 1) := by decide +kernel
theorem d_A_addBlock_46 : decode prog_2_method_18_code 46 = .ok (.getfield 12, 3) := by decide +kernel
theorem d_A_addBlock_49 : decode prog_2_method_18_code 49 = .ok (.invokevirtual 131, 3) := by decide +kernel
theorem d_A_addBlock_52 : decode prog_2_method_18_code 52 = .ok (.ifCond .ne 22, 3) := by decide +kernel
theorem d_A_addBlock_55 : decode prog_2_method_18_code 55 = .ok (.iload_n 3, 1) := by decide +kernel
theorem d_A_addBlock_56 : decode prog_2_method_18_code 56 = .ok (.bipush 96, 2) := by decide +kernel
theorem d_A_addBlock_58 : decode prog_2_method_18_code 58 = .ok (.if_icmp .ge 16, 3) := by decide +kernel
theorem d_A_addBlock_61 : decode prog_2_method_18_code 61 = .ok (.aload_n 0, 1) := by decide +kernel
theorem d_A_addBlock_62 : decode prog_2_method_18_code 62 = .ok (.getfield 26, 3) := by decide +kernel
theorem d_A_addBlock_65 : decode prog_2_method_18_code 65 = .ok (.iload_n 3, 1) := by decide +kernel
theorem d_A_addBlock_66 : decode prog_2_method_18_code 66 = .ok (.baload, 1) := by decide +kernel
theorem d_A_addBlock_67 : decode prog_2_method_18_code 67 = .ok (.ifCond .ne 7, 3) := by decide +kernel
theorem d_A_addBlock_70 : decode prog_2_method_18_code 70 = .ok (.iconst 1, 1) := by decide +kernel
theorem d_A_addBlock_71 : decode prog_2_method_18_code 71 = .ok (.goto 4, 3) := by decide +kernel
theorem d_A_addBlock_74 : decode prog_2_method_18_code 74 = .ok (.iconst 0, 1) := by decide +kernel
theorem d_A_addBlock_75 : decode prog_2_method_18_code 75 = .ok (.istore 5, 2) := by decide +kernel
theorem d_A_addBlock_77 : decode prog_2_method_18_code 77 = .ok (.goto (-69), 3) := by decide +kernel
theorem d_A_addBlock_80 : decode prog_2_method_18_code 80 = .ok (.iload_n 2, 1) := by decide +kernel
theorem d_A_addBlock_81 : decode prog_2_method_18_code 81 = .ok (.istore 6, 2) := by decide +kernel
theorem d_A_addBlock_83 : decode prog_2_method_18_code 83 = .ok (.iload 6, 2) := by decide +kernel
theorem d_A_addBlock_85 : decode prog_2_method_18_code 85 = .ok (.iload_n 3, 1) := by decide +kernel
theorem d_A_addBlock_86 : decode prog_2_method_18_code 86 = .ok (.if_icmp .ge 27, 3) := by decide +kernel
theorem d_A_addBlock_89 : decode prog_2_method_18_code 89 = .ok (.iload 6, 2) := by decide +kernel
theorem d_A_addBlock_91 : decode prog_2_method_18_code 91 = .ok (.bipush 96, 2) := by decide +kernel
theorem d_A_addBlock_93 : decode prog_2_method_18_code 93 = .ok (.if_icmp .ge 20, 3) := by decide +kernel
theorem d_A_addBlock_96 : decode prog_2_method_18_code 96 = .ok (.aload_n 0, 1) := by decide +kernel
theorem d_A_addBlock_97 : decode prog_2_method_18_code 97 = .ok (.getfield 32, 3) := by decide +kernel
theorem d_A_addBlock_100 : decode prog_2_method_18_code 100 = .ok (.iload 6, 2) := by decide +kernel
theorem d_A_addBlock_102 : decode prog_2_method_18_code 102 = .ok (.aload_n 0, 1) := by decide +kernel
theorem d_A_addBlock_103 : decode prog_2_method_18_code 103 = .ok (.getfield 44, 3) := by decide +kernel
theorem d_A_addBlock_106 : decode prog_2_method_18_code 106 = .ok (.iastore, 1) := by decide +kernel
theorem d_A_addBlock_107 : decode prog_2_method_18_code 107 = .ok (.iinc 6 1, 3) := by decide +kernel
theorem d_A_addBlock_110 : decode prog_2_method_18_code 110 = .ok (.goto (-27), 3) := by decide +kernel
theorem d_A_addBlock_113 : decode prog_2_method_18_code 113 = .ok (.aload_n 0, 1) := by decide +kernel
theorem d_A_addBlock_114 : decode prog_2_method_18_code 114 = .ok (.getfield 35, 3) := by decide +kernel
theorem d_A_addBlock_117 : decode prog_2_method_18_code 117 = .ok (.aload_n 0, 1) := by decide +kernel
theorem d_A_addBlock_118 : decode prog_2_method_18_code 118 = .ok (.getfield 44, 3) := by decide +kernel
theorem d_A_addBlock_121 : decode prog_2_method_18_code 121 = .ok (.iload_n 2, 1) := by decide +kernel
theorem d_A_addBlock_122 : decode prog_2_method_18_code 122 = .ok (.iastore, 1) := by decide +kernel
theorem d_A_addBlock_123 : decode prog_2_method_18_code 123 = .ok (.aload_n 0, 1) := by decide +kernel
theorem d_A_addBlock_124 : decode prog_2_method_18_code 124 = .ok (.getfield 38, 3) := by decide +kernel
theorem d_A_addBlock_127 : decode prog_2_method_18_code 127 = .ok (.aload_n 0, 1) := by decide +kernel
theorem d_A_addBlock_128 : decode prog_2_method_18_code 128 = .ok (.getfield 44, 3) := by decide +kernel
theorem d_A_addBlock_131 : decode prog_2_method_18_code 131 = .ok (.iload_n 3, 1) := by decide +kernel
theorem d_A_addBlock_132 : decode prog_2_method_18_code 132 = .ok (.iload_n 2, 1) := by decide +kernel
theorem d_A_addBlock_133 : decode prog_2_method_18_code 133 = .ok (.isub, 1) := by decide +kernel
theorem d_A_addBlock_134 : decode prog_2_method_18_code 134 = .ok (.iastore, 1) := by decide +kernel
theorem d_A_addBlock_135 : decode prog_2_method_18_code 135 = .ok (.aload_n 0, 1) := by decide +kernel
theorem d_A_addBlock_136 : decode prog_2_method_18_code 136 = .ok (.getfield 41, 3) := by decide +kernel
theorem d_A_addBlock_139 : decode prog_2_method_18_code 139 = .ok (.aload_n 0, 1) := by decide +kernel
theorem d_A_addBlock_140 : decode prog_2_method_18_code 140 = .ok (.getfield 44, 3) := by decide +kernel
theorem d_A_addBlock_143 : decode prog_2_method_18_code 143 = .ok (.iload 4, 2) := by decide +kernel
theorem d_A_addBlock_145 : decode prog_2_method_18_code 145 = .ok (.iastore, 1) := by decide +kernel
theorem d_A_addBlock_146 : decode prog_2_method_18_code 146 = .ok (.aload_n 0, 1) := by decide +kernel
theorem d_A_addBlock_147 : decode prog_2_method_18_code 147 = .ok (.dup, 1) := by decide +kernel
theorem d_A_addBlock_148 : decode prog_2_method_18_code 148 = .ok (.getfield 44, 3) := by decide +kernel
theorem d_A_addBlock_151 : decode prog_2_method_18_code 151 = .ok (.iconst 1, 1) := by decide +kernel
theorem d_A_addBlock_152 : decode prog_2_method_18_code 152 = .ok (.iadd, 1) := by decide +kernel
theorem d_A_addBlock_153 : decode prog_2_method_18_code 153 = .ok (.putfield 44, 3) := by decide +kernel
theorem d_A_addBlock_156 : decode prog_2_method_18_code 156 = .ok (.return_, 1) := by decide +kernel
def I_A_addBlock (P : Unit → ev_M → ev_L → Prop) : List (Nat × ev_T) := [(0, tt_il 2 1),
  (1, tt_is 3 2),
  (2, tt_k 0 3),
  (3, tt_is 4 5),
  (5, tt_k 1 6),
  (6, tt_is 5 8),
  (8, tt_il 5 10),
  (10, tt_ifeq 80 13),
  (13, tt_il 4 15),
  (15, tt_k 96 17),
  (17, tt_icge 80 20),
  (20, tt_al 0 21),
  (21, tt_gf evLY 0 0 24),
  (24, tt_al 1 25),
  (25, tt_il 3 26),
  (26, tt_k 96 28),
  (28, tt_cV evLY 1 3 ev_b pre_I_read post_I_read 31),
  (31, tt_ifeq 80 34),
  (34, tt_al 0 35),
  (35, tt_gf evLY 0 0 38),
  (38, tt_cV evLY 1 0 ev_i pre_I_behind post_I_behind 41),
  (41, tt_is 3 42),
  (42, tt_ii 4 1 45),
  (45, tt_al 0 46),
  (46, tt_gf evLY 0 0 49),
  (49, tt_cV evLY 1 0 ev_b pre_I_endsBlock post_I_endsBlock 52),
  (52, tt_ifne 74 55),
  (55, tt_il 3 56),
  (56, tt_k 96 58),
  (58, tt_icge 74 61),
  (61, tt_al 0 62),
  (62, tt_gf evLY 0 3 65),
  (65, tt_il 3 66),
  (66, tt_za evLY 67),
  (67, tt_ifne 74 70),
  (70, tt_k 1 71),
  (71, tt_go 75),
  (74, tt_k 0 75),
  (75, tt_is 5 77),
  (77, tt_go 8),
  (80, tt_il 2 81),
  (81, tt_is 6 83),
  (83, tt_il 6 85),
  (85, tt_il 3 86),
  (86, tt_icge 113 89),
  (89, tt_il 6 91),
  (91, tt_k 96 93),
  (93, tt_icge 113 96),
  (96, tt_al 0 97),
  (97, tt_gf evLY 0 5 100),
  (100, tt_il 6 102),
  (102, tt_al 0 103),
  (103, tt_gf evLY 0 10 106),
  (106, tt_ias evLY 107),
  (107, tt_ii 6 1 110),
  (110, tt_go 83),
  (113, tt_al 0 114),
  (114, tt_gf evLY 0 6 117),
  (117, tt_al 0 118),
  (118, tt_gf evLY 0 10 121),
  (121, tt_il 2 122),
  (122, tt_ias evLY 123),
  (123, tt_al 0 124),
  (124, tt_gf evLY 0 7 127),
  (127, tt_al 0 128),
  (128, tt_gf evLY 0 10 131),
  (131, tt_il 3 132),
  (132, tt_il 2 133),
  (133, tt_isub 134),
  (134, tt_ias evLY 135),
  (135, tt_al 0 136),
  (136, tt_gf evLY 0 8 139),
  (139, tt_al 0 140),
  (140, tt_gf evLY 0 10 143),
  (143, tt_il 4 145),
  (145, tt_ias evLY 146),
  (146, tt_al 0 147),
  (147, tt_dup 148),
  (148, tt_gf evLY 0 10 151),
  (151, tt_k 1 152),
  (152, tt_iadd 153),
  (153, tt_pf evLY 0 10 156),
  (156, tt_rv P)]
abbrev rm_A_addBlock : Room := { frames := 3, cells := 0, slots := 0, locals := 96 }
set_option maxRecDepth 20000 in
theorem ok_A_addBlock (l : Launch) (J : ev_K) (P : Unit → ev_M → ev_L → Prop) (X : ev_X l rm_A_addBlock evLY evCl ws_A_addBlock prog_2_method_18_code 7 y_A_addBlock.cls J) (Z : ev_Z J prog_2_method_18_code .return_ ev_n P) : ev_oks J (I_A_addBlock P) :=
  ⟨qq_iln X 2 rfl d_A_addBlock_0,
  qq_isn X 3 rfl (by decide) d_A_addBlock_1,
  qq_ic X 0 (by decide) d_A_addBlock_2,
  qq_is X 4 (by decide) d_A_addBlock_3,
  qq_ic X 1 (by decide) d_A_addBlock_5,
  qq_is X 5 (by decide) d_A_addBlock_6,
  qq_il X 5 d_A_addBlock_8,
  qq_ifeq X 80 (by decide) d_A_addBlock_10,
  qq_il X 4 d_A_addBlock_13,
  qq_bp X 96 (by decide) d_A_addBlock_15,
  qq_icge X 80 (by decide) d_A_addBlock_17,
  qq_aln X 0 rfl d_A_addBlock_20,
  qq_gf X 0 0 rfl (fun w h => List.mem_cons_of_mem _ (inE_A w h)) (by decide) (List.mem_cons_of_mem _ mw_95) d_A_addBlock_21,
  qq_aln X 1 rfl d_A_addBlock_24,
  qq_iln X 3 rfl d_A_addBlock_25,
  qq_bp X 96 (by decide) d_A_addBlock_26,
  qq_cV X 1 rfl (c_I_read l) (fun hts => cwV 3 hts (evGV (mw_418) (mw_419) (mw_420) (mw_5) (mw_421)) rfl rfl rfl (by decide +kernel) ⟨Nat.le_of_ble_eq_true rfl, Nat.le_of_ble_eq_true rfl⟩) d_A_addBlock_28,
  qq_ifeq X 80 (by decide) d_A_addBlock_31,
  qq_aln X 0 rfl d_A_addBlock_34,
  qq_gf X 0 0 rfl (fun w h => List.mem_cons_of_mem _ (inE_A w h)) (by decide) (List.mem_cons_of_mem _ mw_95) d_A_addBlock_35,
  qq_cV X 1 rfl (c_I_behind l) (fun hts => cwV 0 hts (evGV (mw_441) (mw_430) (mw_431) (mw_5) (mw_432)) rfl rfl rfl (by decide +kernel) ⟨Nat.le_of_ble_eq_true rfl, Nat.le_of_ble_eq_true rfl⟩) d_A_addBlock_38,
  qq_isn X 3 rfl (by decide) d_A_addBlock_41,
  qq_ii X 4 1 (by decide) (by decide) d_A_addBlock_42,
  qq_aln X 0 rfl d_A_addBlock_45,
  qq_gf X 0 0 rfl (fun w h => List.mem_cons_of_mem _ (inE_A w h)) (by decide) (List.mem_cons_of_mem _ mw_95) d_A_addBlock_46,
  qq_cV X 1 rfl (c_I_endsBlock l) (fun hts => cwV 0 hts (evGV (mw_467) (mw_468) (mw_469) (mw_5) (mw_470)) rfl rfl rfl (by decide +kernel) ⟨Nat.le_of_ble_eq_true rfl, Nat.le_of_ble_eq_true rfl⟩) d_A_addBlock_49,
  qq_ifne X 74 (by decide) d_A_addBlock_52,
  qq_iln X 3 rfl d_A_addBlock_55,
  qq_bp X 96 (by decide) d_A_addBlock_56,
  qq_icge X 74 (by decide) d_A_addBlock_58,
  qq_aln X 0 rfl d_A_addBlock_61,
  qq_gf X 0 3 rfl (fun w h => List.mem_cons_of_mem _ (inE_A w h)) (by decide) (List.mem_cons_of_mem _ mw_98) d_A_addBlock_62,
  qq_iln X 3 rfl d_A_addBlock_65,
  qq_za X d_A_addBlock_66,
  qq_ifne X 74 (by decide) d_A_addBlock_67,
  qq_ic X 1 (by decide) d_A_addBlock_70,
  qq_go X 75 (by decide) d_A_addBlock_71,
  qq_ic X 0 (by decide) d_A_addBlock_74,
  qq_is X 5 (by decide) d_A_addBlock_75,
  qq_go X 8 (by decide) d_A_addBlock_77,
  qq_iln X 2 rfl d_A_addBlock_80,
  qq_is X 6 (by decide) d_A_addBlock_81,
  qq_il X 6 d_A_addBlock_83,
  qq_iln X 3 rfl d_A_addBlock_85,
  qq_icge X 113 (by decide) d_A_addBlock_86,
  qq_il X 6 d_A_addBlock_89,
  qq_bp X 96 (by decide) d_A_addBlock_91,
  qq_icge X 113 (by decide) d_A_addBlock_93,
  qq_aln X 0 rfl d_A_addBlock_96,
  qq_gf X 0 5 rfl (fun w h => List.mem_cons_of_mem _ (inE_A w h)) (by decide) (List.mem_cons_of_mem _ mw_100) d_A_addBlock_97,
  qq_il X 6 d_A_addBlock_100,
  qq_aln X 0 rfl d_A_addBlock_102,
  qq_gf X 0 10 rfl (fun w h => List.mem_cons_of_mem _ (inE_A w h)) (by decide) (List.mem_cons_of_mem _ mw_105) d_A_addBlock_103,
  qq_ias X d_A_addBlock_106,
  qq_ii X 6 1 (by decide) (by decide) d_A_addBlock_107,
  qq_go X 83 (by decide) d_A_addBlock_110,
  qq_aln X 0 rfl d_A_addBlock_113,
  qq_gf X 0 6 rfl (fun w h => List.mem_cons_of_mem _ (inE_A w h)) (by decide) (List.mem_cons_of_mem _ mw_101) d_A_addBlock_114,
  qq_aln X 0 rfl d_A_addBlock_117,
  qq_gf X 0 10 rfl (fun w h => List.mem_cons_of_mem _ (inE_A w h)) (by decide) (List.mem_cons_of_mem _ mw_105) d_A_addBlock_118,
  qq_iln X 2 rfl d_A_addBlock_121,
  qq_ias X d_A_addBlock_122,
  qq_aln X 0 rfl d_A_addBlock_123,
  qq_gf X 0 7 rfl (fun w h => List.mem_cons_of_mem _ (inE_A w h)) (by decide) (List.mem_cons_of_mem _ mw_102) d_A_addBlock_124,
  qq_aln X 0 rfl d_A_addBlock_127,
  qq_gf X 0 10 rfl (fun w h => List.mem_cons_of_mem _ (inE_A w h)) (by decide) (List.mem_cons_of_mem _ mw_105) d_A_addBlock_128,
  qq_iln X 3 rfl d_A_addBlock_131,
  qq_iln X 2 rfl d_A_addBlock_132,
  qq_isub X d_A_addBlock_133,
  qq_ias X d_A_addBlock_134,
  qq_aln X 0 rfl d_A_addBlock_135,
  qq_gf X 0 8 rfl (fun w h => List.mem_cons_of_mem _ (inE_A w h)) (by decide) (List.mem_cons_of_mem _ mw_103) d_A_addBlock_136,
  qq_aln X 0 rfl d_A_addBlock_139,
  qq_gf X 0 10 rfl (fun w h => List.mem_cons_of_mem _ (inE_A w h)) (by decide) (List.mem_cons_of_mem _ mw_105) d_A_addBlock_140,
  qq_il X 4 d_A_addBlock_143,
  qq_ias X d_A_addBlock_145,
  qq_aln X 0 rfl d_A_addBlock_146,
  qq_dup X d_A_addBlock_147,
  qq_gf X 0 10 rfl (fun w h => List.mem_cons_of_mem _ (inE_A w h)) (by decide) (List.mem_cons_of_mem _ mw_105) d_A_addBlock_148,
  qq_ic X 1 (by decide) d_A_addBlock_151,
  qq_iadd X d_A_addBlock_152,
  qq_pf X 0 10 rfl (fun w h => List.mem_cons_of_mem _ (inE_A w h)) (by decide) tyX0 tyX0_ok nmX0 rfl (by decide +kernel) (List.mem_cons_of_mem _ mw_105) d_A_addBlock_153,
  qq_rv Z d_A_addBlock_156, trivial⟩
def pre_A_addBlock : List Value → ev_M → ev_L → Prop := fun as σ _ => ∃ (hd bc : Nat) (S : Nat → Prop), as = [.ref 8, .ref 1, .int (nI hd)] ∧ σ 8 10 = nI bc ∧ bc < 96 ∧ wkS (σ 2) S ∧ S hd
def post_A_addBlock : List Value → ev_M → ev_L → Unit → ev_M → ev_L → Prop := fun as σ τ _ σ' τ' => match as with
  | [_, _, .int h] => τ' = τ ∧ anA σ σ' (σ 8 10).toNatClampNeg h.toNatClampNeg (wk (σ 2) (σ 12) 96 h.toNatClampNeg 0).1 (wk (σ 2) (σ 12) 96 h.toNatClampNeg 0).2
  | _ => False
set_option maxHeartbeats 4000000 in
set_option maxRecDepth 100000 in
theorem c_A_addBlock (l : Launch) : ev_C ev_n l y_A_addBlock ws_A_addBlock rm_A_addBlock evLY evCl pre_A_addBlock post_A_addBlock := by
  refine ev_methL (by decide) rfl ev_rop_v ?_ I_A_addBlock (ok_A_addBlock l) [8, 83] 60 ?_
  · rintro _ σ τ ⟨hd, bc, S, rfl, h⟩
    exact Nat.le_of_ble_eq_true rfl
  · rintro _ σ τ ⟨hd, bc, S, rfl, hbc, hb96, hS, hSh⟩
    have hd96 := (hS hd hSh).1
    have hch : (nI hd).toNatClampNeg = hd := nI_clamp (by omega)
    have hcb : (σ 8 10).toNatClampNeg = bc := by rw [hbc]; exact nI_clamp (by omega)
    obtain ⟨r1, r2, r3, r4⟩ := wk_R (H := σ 12) hS 96 hd 0 (by omega) hSh
    refine ⟨fun μ pc lv st σ' τ' z => st = [] ∧ z = 0 ∧ τ = τ' ∧ ((pc = 0 ∧ μ = 900 ∧ lv = [.ref 8, .ref 1, .int (nI hd), .null, .null, .null, .null] ∧ σ = σ') ∨ (pc = 8 ∧ (∀ k, ¬ k = 9 → σ' k = σ k) ∧ ∃ e c : Nat, lv = [.ref 8, .ref 1, .int (nI hd), .int (nI e), .int (nI c), .int 1, .null] ∧ μ = 600 - e ∧ e < 96 ∧ S e ∧ hd ≤ e ∧ c + hd ≤ e ∧ ∃ n, 96 ≤ n + e ∧ wk (σ 2) (σ 12) n e c = wk (σ 2) (σ 12) 96 hd 0) ∨ (pc = 8 ∧ (∀ k, ¬ k = 9 → σ' k = σ k) ∧ lv = [.ref 8, .ref 1, .int (nI hd), .int (nI (wk (σ 2) (σ 12) 96 hd 0).1), .int (nI (wk (σ 2) (σ 12) 96 hd 0).2), .int 0, .null] ∧ μ = 400) ∨ (pc = 83 ∧ ∃ (i : Nat) (v5 : Value), i ≤ (wk (σ 2) (σ 12) 96 hd 0).1 ∧ hd ≤ i ∧ μ = 200 - i ∧ lv = [.ref 8, .ref 1, .int (nI hd), .int (nI (wk (σ 2) (σ 12) 96 hd 0).1), .int (nI (wk (σ 2) (σ 12) 96 hd 0).2), .int 0, .int (nI i)] ∧ (∀ k, ¬ k = 9 → ¬ k = 14 → σ' k = σ k) ∧ σ' 14 = fillR (σ 14) hd i (nI bc))), ⟨900, rfl, rfl, rfl, Or.inl ⟨rfl, rfl, rfl, rfl⟩⟩, ?_⟩
    rintro μ pc lv st σ' τ' z ⟨rfl, rfl, rfl, ⟨rfl, rfl, rfl, rfl⟩ | ⟨rfl, hF, e, c, rfl, rfl, he, hSe, hde, hce, n, hn, hwk⟩ | ⟨rfl, hF, rfl, rfl⟩ | ⟨rfl, i, v5, hi, hdi, rfl, rfl, hF, h14⟩⟩
    · exact ⟨600 - hd, by omega, rfl, rfl, rfl, Or.inr (Or.inl ⟨rfl, fun _ _ => rfl, hd, 0, rfl, rfl, hd96, hSh, Nat.le_refl _, by omega, 96, by omega, rfl⟩)⟩
    · -- one instruction more
      have e2 : σ' 2 = σ 2 := hF 2 (by decide)
      have e12 : σ' 12 = σ 12 := hF 12 (by decide)
      obtain ⟨s1, s2, s3⟩ := hS e hSe
      have hl := lenN_c (σ 2) e
      have hle := okR_len s1 s2
      refine br_f (by decide) ?_
      refine br_f (by rw [Int32.le_iff_toInt_le, nI_toInt (by omega)]; have : (96 : Int32).toInt = 96 := rfl; omega) ?_
      refine ⟨⟨_, _, _, _, rfl, by decide⟩, ?_⟩
      rintro _ σ2 τ ⟨rfl, ⟨rfl, _, rfl⟩ | ⟨rfl, hno, _⟩⟩
      · refine br_f (by decide) ?_
        have hF2 : ∀ k, ¬ k = 9 → sp_rd2 σ' 9 (σ' (1 + 1)) (nI e) k = σ k := fun k hk => by
          have : sp_rd2 σ' 9 (σ' (1 + 1)) (nI e) k = σ' k := by simp [sp_rd2, sp_rd1, ev_u, ev_p, hk]
          rw [this]; exact hF k hk
        have hbh : (sp_rd2 σ' 9 (σ' (1 + 1)) (nI e)) 9 0 + sp_len ((sp_rd2 σ' 9 (σ' (1 + 1)) (nI e)) 9 2) = nI (e + lenN (σ 2) e) := by
          show nI e + sp_len (sp_kind (sp_at (σ' 2) (nI e))) = _
          rw [e2, lenN_I, nI_add]
        have hk9 : (sp_rd2 σ' 9 (σ' (1 + 1)) (nI e)) 9 2 = sp_kind (sp_at (σ 2) (nI e)) := by
          show sp_kind (sp_at (σ' 2) (nI e)) = _
          rw [e2]
        generalize sp_rd2 σ' 9 (σ' (1 + 1)) (nI e) = σ2 at *
        obtain ⟨n', rfl⟩ : ∃ n', n = n' + 1 := ⟨n - 1, by omega⟩
        have stop : (sp_ends (sp_kind (sp_at (σ 2) (nI e))) = true ∨ 96 ≤ e + lenN (σ 2) e ∨ ¬ σ 12 (e + lenN (σ 2) e) = 0) → (wk (σ 2) (σ 12) 96 hd 0).1 = e + lenN (σ 2) e ∧ (wk (σ 2) (σ 12) 96 hd 0).2 = c + 1 := by
          intro hc
          rw [← hwk]
          unfold wk
          rw [if_pos hc]
          exact ⟨rfl, rfl⟩
        have done : (sp_ends (sp_kind (sp_at (σ 2) (nI e))) = true ∨ 96 ≤ e + lenN (σ 2) e ∨ ¬ σ 12 (e + lenN (σ 2) e) = 0) → ([.ref 8, .ref 1, .int (nI hd), .int (nI (e + lenN (σ 2) e)), .int (nI c + 1), .int 0, .null] : List Value) = [.ref 8, .ref 1, .int (nI hd), .int (nI (wk (σ 2) (σ 12) 96 hd 0).1), .int (nI (wk (σ 2) (σ 12) 96 hd 0).2), .int 0, .null] := by
          intro hc
          obtain ⟨p1, p2⟩ := stop hc
          rw [p1, p2, nI_1]
        refine ⟨⟨_, rfl, by decide⟩, ?_⟩
        rintro _ σ2 τ ⟨rfl, rfl, rfl⟩
        rw [hbh]
        refine ⟨⟨_, rfl, by decide⟩, ?_⟩
        rintro _ σ2 τ ⟨rfl, rfl, rfl⟩
        rw [hk9]
        refine br_n (fun hen => ?_) (fun hen => ?_)
        · exact ⟨400, by omega, rfl, rfl, rfl, Or.inr (Or.inr (Or.inl ⟨rfl, hF2, done (Or.inl (bnz hen)), rfl⟩))⟩
        · have hen' : ¬ sp_ends (sp_kind (sp_at (σ 2) (nI e))) = true := by rw [bz hen]; decide
          refine br_c (fun hge => ?_) (fun hge => ?_)
          · have hge' : 96 ≤ e + lenN (σ 2) e := (nI_leI (a := 96) (by omega) (by omega)).mp hge
            exact ⟨400, by omega, rfl, rfl, rfl, Or.inr (Or.inr (Or.inl ⟨rfl, hF2, done (Or.inr (Or.inl hge')), rfl⟩))⟩
          · have hlt : e + lenN (σ 2) e < 96 := Nat.not_le.mp fun q => hge ((nI_leI (a := 96) (by omega) (by omega)).mpr q)
            have hce2 : (nI (e + lenN (σ 2) e)).toNatClampNeg = e + lenN (σ 2) e := nI_clamp (by omega)
            refine ⟨vp_in_nI hlt (by omega), ?_⟩
            rw [hce2, hF2 12 (by decide)]
            refine br_n (fun hh => ?_) (fun hh => ?_)
            · exact ⟨400, by omega, rfl, rfl, rfl, Or.inr (Or.inr (Or.inl ⟨rfl, hF2, done (Or.inr (Or.inr hh)), rfl⟩))⟩
            · refine ⟨600 - (e + lenN (σ 2) e), by omega, rfl, rfl, rfl, Or.inr (Or.inl ⟨rfl, hF2, e + lenN (σ 2) e, c + 1, by rw [← nI_1], rfl, hlt, s3 hen', by omega, by omega, n', by omega, ?_⟩)⟩
              rw [← hwk]
              show _ = ite _ _ _
              rw [if_neg]
              rintro (q | q | q)
              · exact hen' q
              · omega
              · exact q hh
      · exact absurd (by rw [show σ' (1 + 1) = σ 2 from e2]; exact s2) hno
    · -- behind the loop
      refine br_t rfl ?_
      exact ⟨200 - hd, by omega, rfl, rfl, rfl, Or.inr (Or.inr (Or.inr ⟨rfl, hd, .null, by omega, Nat.le_refl _, rfl, rfl, fun k a _ => hF k a, by rw [fillR_0]; exact hF 14 (by decide)⟩))⟩
    · -- the numbers
      generalize hE : (wk (σ 2) (σ 12) 96 hd 0).1 = E at *
      generalize hC : (wk (σ 2) (σ 12) 96 hd 0).2 = C at *
      have e8 : σ' 8 = σ 8 := hF 8 (by decide) (by decide)
      have e15 : σ' 15 = σ 15 := hF 15 (by decide) (by decide)
      have e16 : σ' 16 = σ 16 := hF 16 (by decide) (by decide)
      have e17 : σ' 17 = σ 17 := hF 17 (by decide) (by decide)
      have e810 : σ' 8 10 = nI bc := by rw [e8]; exact hbc
      have hvb : vp_in (nI bc) 96 := vp_in_nI hb96 (by omega)
      have hcbc : (nI bc).toNatClampNeg = bc := nI_clamp (by omega)
      have fin : i = E → vp_in (σ' 8 10) 96 ∧ vp_in (σ' 8 10) 96 ∧ vp_in (σ' 8 10) 96 ∧ post_A_addBlock [.ref 8, .ref 1, .int (nI hd)] σ τ () (ev_u (ev_u (ev_u (ev_u σ' 15 (σ' 8 10).toNatClampNeg (nI hd)) 16 (σ' 8 10).toNatClampNeg (nI E - nI hd)) 17 (σ' 8 10).toNatClampNeg (nI C)) 8 10 (σ' 8 10 + 1)) τ := by
        intro hq
        rw [e810]
        refine ⟨hvb, hvb, hvb, rfl, ?_⟩
        rw [hcbc, hcb, hch, hE, hC, pk_sub (by omega)]
        refine ⟨fun k h8 h9 hk => ?_, ?_, ?_, ?_, ?_, ?_, ?_⟩
        · have k15 : ¬ k = 15 := by omega
          have k16 : ¬ k = 16 := by omega
          have k17 : ¬ k = 17 := by omega
          have k14 : ¬ k = 14 := by omega
          have : (ev_u (ev_u (ev_u (ev_u σ' 15 bc (nI hd)) 16 bc (nI (E - hd))) 17 bc (nI C)) 8 10 (nI bc + 1)) k = σ' k := by simp [ev_u, ev_p, h8, k15, k16, k17]
          rw [this]; exact hF k h9 k14
        · show σ' 8 9 = _
          rw [e8]
        · show nI bc + 1 = _
          rw [nI_1]
        · show σ' 14 = _
          rw [h14, hq]
        · show upd (σ' 15) bc (nI hd) = _
          rw [e15]
        · show upd (σ' 16) bc (nI (E - hd)) = _
          rw [e16]
        · show upd (σ' 17) bc (nI C) = _
          rw [e17]
      refine br_c (fun h => ?_) (fun h => br_c (fun h2 => ?_) (fun h2 => ?_))
      · have : E ≤ i := (nI_leI (by omega) (by omega)).mp h
        exact fin (by omega)
      · have : 96 ≤ i := (nI_leI (a := 96) (by omega) (by omega)).mp h2
        exact fin (by omega)
      · have hlt : i < 96 := Nat.not_le.mp fun q => h2 ((nI_leI (a := 96) (by omega) (by omega)).mpr q)
        have hlt2 : i < E := Nat.not_le.mp fun q => h ((nI_leI (by omega) (by omega)).mpr q)
        have hci : (nI i).toNatClampNeg = i := nI_clamp (by omega)
        refine ⟨vp_in_nI hlt (by omega), ⟨200 - (i + 1), by omega, rfl, rfl, rfl, Or.inr (Or.inr (Or.inr ⟨rfl, i + 1, .null, by omega, by omega, rfl, by rw [← nI_1], fun k a b => ?_, ?_⟩))⟩⟩
        · have : ev_u σ' 14 (nI i).toNatClampNeg (σ' 8 10) k = σ' k := if_neg b
          rw [this]; exact hF k a b
        · show upd (σ' 14) (nI i).toNatClampNeg (σ' 8 10) = _
          rw [hci, e810, h14, fillR_s _ _ _ hdi]
