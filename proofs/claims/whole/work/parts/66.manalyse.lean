/-! the reference's analyse -/
def daF (σ σ' : ev_M) : Prop := (∀ k, ¬ k = 30 → (k < 36 ∨ 39 < k) → σ' k = σ k) ∧ (∀ j, ¬ j = 0 → ¬ j = 7 → ¬ j = 8 → ¬ j = 13 → ¬ j = 14 → σ' 30 j = σ 30 j) ∧ σ' 30 0 = 0 ∧ σ' 30 7 = 0 ∧ σ' 30 8 = 0
def daS (σ σ' : ev_M) : Prop := (∀ x, x < 96 → (¬ σ' 36 x = 0 → anR (σ 31) x) ∧ (¬ σ' 37 x = 0 → anH (σ 31) x) ∧ (¬ σ' 39 x = 0 → anX (σ 31) x)) ∧ ¬ σ' 36 0 = 0 ∧ ¬ σ' 37 0 = 0 ∧ ∀ x, x < 96 → σ' 38 x = 0
def daC (σ σ' : ev_M) (a : Nat) : Prop := ¬ an_bad (σ 31) (sd_has σ) (nI a) ∧ ∀ t, t < 96 → (∀ h, an_sc (σ 31) (nI a) (nI t) h → ¬ σ' 36 t = 0) ∧ (an_sc (σ 31) (nI a) (nI t) true → ¬ σ' 37 t = 0) ∧ (an_tb (σ 31) (nI a) t → ¬ σ' 39 t = 0)
theorem daF_dF {σ σ1 σ2 : ev_M} (h : daF σ σ1) (h2 : dF σ1 σ2) : daF σ σ2 := by
  obtain ⟨a, b, c, d, e⟩ := h
  exact ⟨fun k p q => (h2.1 k p (by omega) (by omega) (by omega)).trans (a k p q), fun j p1 p2 p3 p4 p5 => (h2.2 j p4 p5).trans (b j p1 p2 p3 p4 p5), (h2.2 0 (by decide) (by decide)).trans c, (h2.2 7 (by decide) (by decide)).trans d, (h2.2 8 (by decide) (by decide)).trans e⟩
theorem daS_G {σ σ1 σ2 : ev_M} {a : Nat} (ha : a < 96) (hm : ¬ σ1 36 a = 0) (hF : dF σ1 σ2) (h : daS σ σ1) (hg : dG σ1 σ2 (fun x => ∃ h, an_sc (σ 31) (nI a) (nI x) h) (fun x => an_sc (σ 31) (nI a) (nI x) true) (fun x => an_tb (σ 31) (nI a) x)) : daS σ σ2 := by
  obtain ⟨s, s0, s1, s38⟩ := h
  obtain ⟨_, m, _⟩ := hg
  have hRa := (s a ha).1 hm
  refine ⟨fun x hx => ⟨fun q => ?_, fun q => ?_, fun q => ?_⟩, fun q => s0 ((m 0 (by omega)).1.mp q).1, fun q => s1 ((m 0 (by omega)).2.1.mp q).1, fun x hx => by rw [hF.1 38 (by decide) (by decide) (by decide) (by decide)]; exact s38 x hx⟩
  · by_cases w : σ1 36 x = 0
    · have : ∃ h, an_sc (σ 31) (nI a) (nI x) h := Classical.byContradiction fun z => q ((m x hx).1.mpr ⟨w, z⟩)
      obtain ⟨h, hs⟩ := this
      exact anR_s ha hRa hx hs
    · exact (s x hx).1 w
  · by_cases w : σ1 37 x = 0
    · exact Or.inr ⟨a, ha, hRa, Classical.byContradiction fun z => q ((m x hx).2.1.mpr ⟨w, z⟩)⟩
    · exact (s x hx).2.1 w
  · by_cases w : σ1 39 x = 0
    · exact ⟨a, ha, hRa, Classical.byContradiction fun z => q ((m x hx).2.2.mpr ⟨w, z⟩)⟩
    · exact (s x hx).2.2 w
theorem daC_G {σ σ1 σ2 : ev_M} {F H T : Nat → Prop} {a : Nat} (h : daC σ σ1 a) (hg : dG σ1 σ2 F H T) : daC σ σ2 a := by
  obtain ⟨_, m, _⟩ := hg
  exact ⟨h.1, fun t ht => ⟨fun hh q w => ((h.2 t ht).1 hh q) ((m t ht).1.mp w).1, fun q w => ((h.2 t ht).2.1 q) ((m t ht).2.1.mp w).1, fun q w => ((h.2 t ht).2.2 q) ((m t ht).2.2.mp w).1⟩⟩
theorem daE {σ σ1 : ev_M} (h : daS σ σ1) (hc : ∀ a, a < 96 → ¬ σ1 36 a = 0 → daC σ σ1 a) : anAc (σ 31) (sd_has σ) ∧ ∀ x, x < 96 → (¬ σ1 36 x = 0 ↔ anR (σ 31) x) ∧ (¬ σ1 37 x = 0 ↔ anH (σ 31) x) ∧ (¬ σ1 39 x = 0 ↔ anX (σ 31) x) := by
  obtain ⟨s, s0, s1, s38⟩ := h
  have hR : ∀ x, x < 96 → anR (σ 31) x → ¬ σ1 36 x = 0 := by
    intro x hx hr
    exact (hr (fun y => y < 96 → ¬ σ1 36 y = 0) (fun _ => s0) (fun a t h ha hs ht q _ => ((hc a ha (hs ha)).2 t ht).1 h q)) hx
  refine ⟨fun a ha hr => (hc a ha (hR a ha hr)).1, fun x hx => ⟨⟨(s x hx).1, hR x hx⟩, ⟨(s x hx).2.1, ?_⟩, ⟨(s x hx).2.2, ?_⟩⟩⟩
  · rintro (rfl | ⟨a, ha, hr, hs⟩)
    · exact s1
    · exact ((hc a ha (hR a ha hr)).2 x hx).2.1 hs
  · rintro ⟨a, ha, hr, hs⟩
    exact ((hc a ha (hR a ha hr)).2 x hx).2.2 hs
/-- what analyse leaves -/
def dzF (σ σ' : ev_M) : Prop := (∀ k, ¬ k = 30 → (k < 36 ∨ 42 < k) → σ' k = σ k) ∧ (∀ j, ¬ j = 0 → ¬ j = 7 → ¬ j = 8 → ¬ j = 13 → ¬ j = 14 → ¬ j = 15 → σ' 30 j = σ 30 j) ∧ σ' 30 8 = 0
def dzT (σ σ' : ev_M) : Prop := anAl (σ 31) (sd_has σ) ∧ σ' 30 0 = 0 ∧ σ' 30 7 = 1 ∧ (∀ x, x < 96 → (σ' 37 x = 0 ↔ ¬ anH (σ 31) x)) ∧ σ' 30 15 = nI (bkN (σ' 37) 96) ∧ σ' 40 = bkH (σ' 37) (σ 40) 96 ∧ σ' 41 = bkB (σ 31) (σ' 37) (σ 41) 96 ∧ σ' 42 = bkC (σ 31) (σ' 37) (σ 42) 96
def dzN (σ σ' : ev_M) : Prop := ¬ anAl (σ 31) (sd_has σ) ∧ σ' 30 0 = 1 ∧ σ' 30 7 = 0 ∧ σ' 30 15 = σ 30 15 ∧ σ' 40 = σ 40 ∧ σ' 41 = σ 41 ∧ σ' 42 = σ 42
def y_D_analyse : MethodName := ⟨RD, "analyse", "()I"⟩
def ws_D_analyse : List Cond := .code y_D_analyse prog_9_method_21_code 2 (some .int) :: evW
theorem d_D_analyse_0 : decode prog_9_method_21_code 0 = .ok (.aload_n 0, 1) := by decide +kernel
theorem d_D_analyse_1 : decode prog_9_method_21_code 1 = .ok (.iconst 0, 1) := by decide +kernel
theorem d_D_analyse_2 : decode prog_9_method_21_code 2 = .ok (.putfield 63, 3) := by decide +kernel
theorem d_D_analyse_5 : decode prog_9_method_21_code 5 = .ok (.aload_n 0, 1) := by decide +kernel
theorem d_D_analyse_6 : decode prog_9_method_21_code 6 = .ok (.invokevirtual 74, 3) := by decide +kernel
theorem d_D_analyse_9 : decode prog_9_method_21_code 9 = .ok (.aload_n 0, 1) := by decide +kernel
theorem d_D_analyse_10 : decode prog_9_method_21_code 10 = .ok (.iconst 0, 1) := by decide +kernel
theorem d_D_analyse_11 : decode prog_9_method_21_code 11 = .ok (.putfield 91, 3) := by decide +kernel
theorem d_D_analyse_14 : decode prog_9_method_21_code 14 = .ok (.iconst 0, 1) := by decide +kernel
theorem d_D_analyse_15 : decode prog_9_method_21_code 15 = .ok (.istore_n 1, 1) := by decide +kernel
theorem d_D_analyse_16 : decode prog_9_method_21_code 16 = .ok (.iload_n 1, 1) := by decide +kernel
theorem d_D_analyse_17 : decode prog_9_method_21_code 17 = .ok (.bipush 96, 2) := by decide +kernel
theorem d_D_analyse_19 : decode prog_9_method_21_code 19 = .ok (.if_icmp .ge 37, 3) := by decide +kernel
theorem d_D_analyse_22 : decode prog_9_method_21_code 22 = .ok (.aload_n 0, 1) := by decide +kernel
theorem d_D_analyse_23 : decode prog_9_method_21_code 23 = .ok (.getfield 25, 3) := by decide +kernel
theorem d_D_analyse_26 : decode prog_9_method_21_code 26 = .ok (.iload_n 1, 1) := by decide +kernel
theorem d_D_analyse_27 : decode prog_9_method_21_code 27 = .ok (.iconst 0, 1) := by decide +kernel
theorem d_D_analyse_28 : decode prog_9_method_21_code 28 = .ok (.bastore, 1) := by decide +kernel
theorem d_D_analyse_29 : decode prog_9_method_21_code 29 = .ok (.aload_n 0, 1) := by decide +kernel
theorem d_D_analyse_30 : decode prog_9_method_21_code 30 = .ok (.getfield 29, 3) := by decide +kernel
theorem d_D_analyse_33 : decode prog_9_method_21_code 33 = .ok (.iload_n 1, 1) := by decide +kernel
theorem d_D_analyse_34 : decode prog_9_method_21_code 34 = .ok (.iconst 0, 1) := by decide +kernel
theorem d_D_analyse_35 : decode prog_9_method_21_code 35 = .ok (.bastore, 1) := by decide +kernel
theorem d_D_analyse_36 : decode prog_9_method_21_code 36 = .ok (.aload_n 0, 1) := by decide +kernel
theorem d_D_analyse_37 : decode prog_9_method_21_code 37 = .ok (.getfield 32, 3) := by decide +kernel
theorem d_D_analyse_40 : decode prog_9_method_21_code 40 = .ok (.iload_n 1, 1) := by decide +kernel
theorem d_D_analyse_41 : decode prog_9_method_21_code 41 = .ok (.iconst 0, 1) := by decide +kernel
theorem d_D_analyse_42 : decode prog_9_method_21_code 42 = .ok (.bastore, 1) := by decide +kernel
theorem d_D_analyse_43 : decode prog_9_method_21_code 43 = .ok (.aload_n 0, 1) := by decide +kernel
theorem d_D_analyse_44 : decode prog_9_method_21_code 44 = .ok (.getfield 35, 3) := by decide +kernel
theorem d_D_analyse_47 : decode prog_9_method_21_code 47 = .ok (.iload_n 1, 1) := by decide +kernel
theorem d_D_analyse_48 : decode prog_9_method_21_code 48 = .ok (.iconst 0, 1) := by decide +kernel
theorem d_D_analyse_49 : decode prog_9_method_21_code 49 = .ok (.bastore, 1) := by decide +kernel
theorem d_D_analyse_50 : decode prog_9_method_21_code 50 = .ok (.iinc 1 1, 3) := by decide +kernel
theorem d_D_analyse_53 : decode prog_9_method_21_code 53 = .ok (.goto (-37), 3) := by decide +kernel
theorem d_D_analyse_56 : decode prog_9_method_21_code 56 = .ok (.aload_n 0, 1) := by decide +kernel
theorem d_D_analyse_57 : decode prog_9_method_21_code 57 = .ok (.iconst 0, 1) := by decide +kernel
theorem d_D_analyse_58 : decode prog_9_method_21_code 58 = .ok (.iconst 1, 1) := by decide +kernel
theorem d_D_analyse_59 : decode prog_9_method_21_code 59 = .ok (.invokevirtual 103, 3) := by decide +kernel
theorem d_D_analyse_62 : decode prog_9_method_21_code 62 = .ok (.aload_n 0, 1) := by decide +kernel
theorem d_D_analyse_63 : decode prog_9_method_21_code 63 = .ok (.iconst 1, 1) := by decide +kernel
theorem d_D_analyse_64 : decode prog_9_method_21_code 64 = .ok (.putfield 94, 3) := by decide +kernel
theorem d_D_analyse_67 : decode prog_9_method_21_code 67 = .ok (.aload_n 0, 1) := by decide +kernel
theorem d_D_analyse_68 : decode prog_9_method_21_code 68 = .ok (.getfield 94, 3) := by decide +kernel
theorem d_D_analyse_71 : decode prog_9_method_21_code 71 = .ok (.ifCond .eq 53, 3) := by decide +kernel
theorem d_D_analyse_74 : decode prog_9_method_21_code 74 = .ok (.aload_n 0, 1) := by decide +kernel
theorem d_D_analyse_75 : decode prog_9_method_21_code 75 = .ok (.getfield 91, 3) := by decide +kernel
theorem d_D_analyse_78 : decode prog_9_method_21_code 78 = .ok (.ifCond .ne 46, 3) := by decide +kernel
theorem d_D_analyse_81 : decode prog_9_method_21_code 81 = .ok (.aload_n 0, 1) := by decide +kernel
theorem d_D_analyse_82 : decode prog_9_method_21_code 82 = .ok (.iconst 0, 1) := by decide +kernel
theorem d_D_analyse_83 : decode prog_9_method_21_code 83 = .ok (.putfield 94, 3) := by decide +kernel
theorem d_D_analyse_86 : decode prog_9_method_21_code 86 = .ok (.iconst 0, 1) := by decide +kernel
theorem d_D_analyse_87 : decode prog_9_method_21_code 87 = .ok (.istore_n 1, 1) := by decide +kernel
theorem d_D_analyse_88 : decode prog_9_method_21_code 88 = .ok (.iload_n 1, 1) := by decide +kernel
theorem d_D_analyse_89 : decode prog_9_method_21_code 89 = .ok (.bipush 96, 2) := by decide +kernel
theorem d_D_analyse_91 : decode prog_9_method_21_code 91 = .ok (.if_icmp .ge 30, 3) := by decide +kernel
theorem d_D_analyse_94 : decode prog_9_method_21_code 94 = .ok (.aload_n 0, 1) := by decide +kernel
theorem d_D_analyse_95 : decode prog_9_method_21_code 95 = .ok (.getfield 91, 3) := by decide +kernel
theorem d_D_analyse_98 : decode prog_9_method_21_code 98 = .ok (.ifCond .ne 23, 3) := by decide +kernel
theorem d_D_analyse_101 : decode prog_9_method_21_code 101 = .ok (.aload_n 0, 1) := by decide +kernel
theorem d_D_analyse_102 : decode prog_9_method_21_code 102 = .ok (.getfield 25, 3) := by decide +kernel
theorem d_D_analyse_105 : decode prog_9_method_21_code 105 = .ok (.iload_n 1, 1) := by decide +kernel
theorem d_D_analyse_106 : decode prog_9_method_21_code 106 = .ok (.baload, 1) := by decide +kernel
theorem d_D_analyse_107 : decode prog_9_method_21_code 107 = .ok (.ifCond .eq 8, 3) := by decide +kernel
theorem d_D_analyse_110 : decode prog_9_method_21_code 110 = .ok (.aload_n 0, 1) := by decide +kernel
theorem d_D_analyse_111 : decode prog_9_method_21_code 111 = .ok (.iload_n 1, 1) := by decide +kernel
theorem d_D_analyse_112 : decode prog_9_method_21_code 112 = .ok (.invokevirtual 127, 3) := by decide +kernel
theorem d_D_analyse_115 : decode prog_9_method_21_code 115 = .ok (.iinc 1 1, 3) := by decide +kernel
theorem d_D_analyse_118 : decode prog_9_method_21_code 118 = .ok (.goto (-30), 3) := by decide +kernel
theorem d_D_analyse_121 : decode prog_9_method_21_code 121 = .ok (.goto (-54), 3) := by decide +kernel
theorem d_D_analyse_124 : decode prog_9_method_21_code 124 = .ok (.aload_n 0, 1) := by decide +kernel
theorem d_D_analyse_125 : decode prog_9_method_21_code 125 = .ok (.getfield 91, 3) := by decide +kernel
theorem d_D_analyse_128 : decode prog_9_method_21_code 128 = .ok (.ifCond .ne 7, 3) := by decide +kernel
theorem d_D_analyse_131 : decode prog_9_method_21_code 131 = .ok (.aload_n 0, 1) := by decide +kernel
theorem d_D_analyse_132 : decode prog_9_method_21_code 132 = .ok (.invokevirtual 131, 3) := by decide +kernel
theorem d_D_analyse_135 : decode prog_9_method_21_code 135 = .ok (.aload_n 0, 1) := by decide +kernel
theorem d_D_analyse_136 : decode prog_9_method_21_code 136 = .ok (.getfield 91, 3) := by decide +kernel
theorem d_D_analyse_139 : decode prog_9_method_21_code 139 = .ok (.ifCond .eq 9, 3) := by decide +kernel
theorem d_D_analyse_142 : decode prog_9_method_21_code 142 = .ok (.aload_n 0, 1) := by decide +kernel
theorem d_D_analyse_143 : decode prog_9_method_21_code 143 = .ok (.iconst 1, 1) := by decide +kernel
theorem d_D_analyse_144 : decode prog_9_method_21_code 144 = .ok (.invokevirtual 77, 3) := by decide +kernel
theorem d_D_analyse_147 : decode prog_9_method_21_code 147 = .ok (.ireturn, 1) := by decide +kernel
theorem d_D_analyse_148 : decode prog_9_method_21_code 148 = .ok (.aload_n 0, 1) := by decide +kernel
theorem d_D_analyse_149 : decode prog_9_method_21_code 149 = .ok (.invokevirtual 134, 3) := by decide +kernel
theorem d_D_analyse_152 : decode prog_9_method_21_code 152 = .ok (.aload_n 0, 1) := by decide +kernel
theorem d_D_analyse_153 : decode prog_9_method_21_code 153 = .ok (.iconst 1, 1) := by decide +kernel
theorem d_D_analyse_154 : decode prog_9_method_21_code 154 = .ok (.putfield 67, 3) := by decide +kernel
theorem d_D_analyse_157 : decode prog_9_method_21_code 157 = .ok (.aload_n 0, 1) := by decide +kernel
theorem d_D_analyse_158 : decode prog_9_method_21_code 158 = .ok (.getfield 121, 3) := by decide +kernel
theorem d_D_analyse_161 : decode prog_9_method_21_code 161 = .ok (.ireturn, 1) := by decide +kernel
def I_D_analyse (P : Int32 → ev_M → ev_L → Prop) : List (Nat × ev_T) := [(0, tt_al 0 1),
  (1, tt_k 0 2),
  (2, tt_pf evLY 7 0 5),
  (5, tt_al 0 6),
  (6, tt_cV evLY 7 0 ev_n pre_D_forget post_D_forget 9),
  (9, tt_al 0 10),
  (10, tt_k 0 11),
  (11, tt_pz evLY 7 13 14),
  (14, tt_k 0 15),
  (15, tt_is 1 16),
  (16, tt_il 1 17),
  (17, tt_k 96 19),
  (19, tt_icge 56 22),
  (22, tt_al 0 23),
  (23, tt_gf evLY 7 9 26),
  (26, tt_il 1 27),
  (27, tt_k 0 28),
  (28, tt_zas evLY 29),
  (29, tt_al 0 30),
  (30, tt_gf evLY 7 10 33),
  (33, tt_il 1 34),
  (34, tt_k 0 35),
  (35, tt_zas evLY 36),
  (36, tt_al 0 37),
  (37, tt_gf evLY 7 11 40),
  (40, tt_il 1 41),
  (41, tt_k 0 42),
  (42, tt_zas evLY 43),
  (43, tt_al 0 44),
  (44, tt_gf evLY 7 12 47),
  (47, tt_il 1 48),
  (48, tt_k 0 49),
  (49, tt_zas evLY 50),
  (50, tt_ii 1 1 53),
  (53, tt_go 16),
  (56, tt_al 0 57),
  (57, tt_k 0 58),
  (58, tt_k 1 59),
  (59, tt_cV evLY 7 2 ev_n pre_D_come post_D_come 62),
  (62, tt_al 0 63),
  (63, tt_k 1 64),
  (64, tt_pz evLY 7 14 67),
  (67, tt_al 0 68),
  (68, tt_gf evLY 7 14 71),
  (71, tt_ifeq 124 74),
  (74, tt_al 0 75),
  (75, tt_gf evLY 7 13 78),
  (78, tt_ifne 124 81),
  (81, tt_al 0 82),
  (82, tt_k 0 83),
  (83, tt_pz evLY 7 14 86),
  (86, tt_k 0 87),
  (87, tt_is 1 88),
  (88, tt_il 1 89),
  (89, tt_k 96 91),
  (91, tt_icge 121 94),
  (94, tt_al 0 95),
  (95, tt_gf evLY 7 13 98),
  (98, tt_ifne 121 101),
  (101, tt_al 0 102),
  (102, tt_gf evLY 7 9 105),
  (105, tt_il 1 106),
  (106, tt_za evLY 107),
  (107, tt_ifeq 115 110),
  (110, tt_al 0 111),
  (111, tt_il 1 112),
  (112, tt_cV evLY 7 1 ev_n pre_D_follow post_D_follow 115),
  (115, tt_ii 1 1 118),
  (118, tt_go 88),
  (121, tt_go 67),
  (124, tt_al 0 125),
  (125, tt_gf evLY 7 13 128),
  (128, tt_ifne 135 131),
  (131, tt_al 0 132),
  (132, tt_cV evLY 7 0 ev_n pre_D_occupy post_D_occupy 135),
  (135, tt_al 0 136),
  (136, tt_gf evLY 7 13 139),
  (139, tt_ifeq 148 142),
  (142, tt_al 0 143),
  (143, tt_k 1 144),
  (144, tt_cV evLY 7 1 ev_i pre_D_fail post_D_fail 147),
  (147, tt_ri P),
  (148, tt_al 0 149),
  (149, tt_cV evLY 7 0 ev_n pre_D_cut post_D_cut 152),
  (152, tt_al 0 153),
  (153, tt_k 1 154),
  (154, tt_pz evLY 7 7 157),
  (157, tt_al 0 158),
  (158, tt_gf evLY 7 15 161),
  (161, tt_ri P)]
abbrev rm_D_analyse : Room := { frames := 3, cells := 0, slots := 0, locals := 96 }
set_option maxRecDepth 20000 in
theorem ok_D_analyse (l : Launch) (J : ev_K) (P : Int32 → ev_M → ev_L → Prop) (X : ev_X l rm_D_analyse evLY evCl ws_D_analyse prog_9_method_21_code 2 y_D_analyse.cls J) (Z : ev_Z J prog_9_method_21_code .ireturn ev_i P) : ev_oks J (I_D_analyse P) :=
  ⟨qq_aln X 0 rfl d_D_analyse_0,
  qq_ic X 0 (by decide) d_D_analyse_1,
  qq_pf X 7 0 rfl (fun w h => List.mem_cons_of_mem _ (inE_D w h)) (by decide) tyD tyD_ok nmD rfl (by decide +kernel) (List.mem_cons_of_mem _ mw_754) d_D_analyse_2,
  qq_aln X 0 rfl d_D_analyse_5,
  qq_cV X 7 rfl (c_D_forget l) (fun hts => cwV 0 hts (evGV (mw_853) (mw_855) (mp_26) (mw_8) (mw_856)) rfl rfl rfl (by decide +kernel) ⟨Nat.le_of_ble_eq_true rfl, Nat.le_of_ble_eq_true rfl⟩) d_D_analyse_6,
  qq_aln X 0 rfl d_D_analyse_9,
  qq_ic X 0 (by decide) d_D_analyse_10,
  qq_pz X 7 13 rfl (fun w h => List.mem_cons_of_mem _ (inE_D w h)) (by decide) tyD tyD_ok nmD rfl (by decide +kernel) (List.mem_cons_of_mem _ mw_767) d_D_analyse_11,
  qq_ic X 0 (by decide) d_D_analyse_14,
  qq_isn X 1 rfl (by decide) d_D_analyse_15,
  qq_iln X 1 rfl d_D_analyse_16,
  qq_bp X 96 (by decide) d_D_analyse_17,
  qq_icge X 56 (by decide) d_D_analyse_19,
  qq_aln X 0 rfl d_D_analyse_22,
  qq_gf X 7 9 rfl (fun w h => List.mem_cons_of_mem _ (inE_D w h)) (by decide) (List.mem_cons_of_mem _ mw_763) d_D_analyse_23,
  qq_iln X 1 rfl d_D_analyse_26,
  qq_ic X 0 (by decide) d_D_analyse_27,
  qq_zas X d_D_analyse_28,
  qq_aln X 0 rfl d_D_analyse_29,
  qq_gf X 7 10 rfl (fun w h => List.mem_cons_of_mem _ (inE_D w h)) (by decide) (List.mem_cons_of_mem _ mw_764) d_D_analyse_30,
  qq_iln X 1 rfl d_D_analyse_33,
  qq_ic X 0 (by decide) d_D_analyse_34,
  qq_zas X d_D_analyse_35,
  qq_aln X 0 rfl d_D_analyse_36,
  qq_gf X 7 11 rfl (fun w h => List.mem_cons_of_mem _ (inE_D w h)) (by decide) (List.mem_cons_of_mem _ mw_765) d_D_analyse_37,
  qq_iln X 1 rfl d_D_analyse_40,
  qq_ic X 0 (by decide) d_D_analyse_41,
  qq_zas X d_D_analyse_42,
  qq_aln X 0 rfl d_D_analyse_43,
  qq_gf X 7 12 rfl (fun w h => List.mem_cons_of_mem _ (inE_D w h)) (by decide) (List.mem_cons_of_mem _ mw_766) d_D_analyse_44,
  qq_iln X 1 rfl d_D_analyse_47,
  qq_ic X 0 (by decide) d_D_analyse_48,
  qq_zas X d_D_analyse_49,
  qq_ii X 1 1 (by decide) (by decide) d_D_analyse_50,
  qq_go X 16 (by decide) d_D_analyse_53,
  qq_aln X 0 rfl d_D_analyse_56,
  qq_ic X 0 (by decide) d_D_analyse_57,
  qq_ic X 1 (by decide) d_D_analyse_58,
  qq_cV X 7 rfl (c_D_come l) (fun hts => cwV 2 hts (evGV (mw_873) (mw_875) (mp_28) (mw_8) (mw_876)) rfl rfl rfl (by decide +kernel) ⟨Nat.le_of_ble_eq_true rfl, Nat.le_of_ble_eq_true rfl⟩) d_D_analyse_59,
  qq_aln X 0 rfl d_D_analyse_62,
  qq_ic X 1 (by decide) d_D_analyse_63,
  qq_pz X 7 14 rfl (fun w h => List.mem_cons_of_mem _ (inE_D w h)) (by decide) tyD tyD_ok nmD rfl (by decide +kernel) (List.mem_cons_of_mem _ mw_768) d_D_analyse_64,
  qq_aln X 0 rfl d_D_analyse_67,
  qq_gf X 7 14 rfl (fun w h => List.mem_cons_of_mem _ (inE_D w h)) (by decide) (List.mem_cons_of_mem _ mw_768) d_D_analyse_68,
  qq_ifeq X 124 (by decide) d_D_analyse_71,
  qq_aln X 0 rfl d_D_analyse_74,
  qq_gf X 7 13 rfl (fun w h => List.mem_cons_of_mem _ (inE_D w h)) (by decide) (List.mem_cons_of_mem _ mw_767) d_D_analyse_75,
  qq_ifne X 124 (by decide) d_D_analyse_78,
  qq_aln X 0 rfl d_D_analyse_81,
  qq_ic X 0 (by decide) d_D_analyse_82,
  qq_pz X 7 14 rfl (fun w h => List.mem_cons_of_mem _ (inE_D w h)) (by decide) tyD tyD_ok nmD rfl (by decide +kernel) (List.mem_cons_of_mem _ mw_768) d_D_analyse_83,
  qq_ic X 0 (by decide) d_D_analyse_86,
  qq_isn X 1 rfl (by decide) d_D_analyse_87,
  qq_iln X 1 rfl d_D_analyse_88,
  qq_bp X 96 (by decide) d_D_analyse_89,
  qq_icge X 121 (by decide) d_D_analyse_91,
  qq_aln X 0 rfl d_D_analyse_94,
  qq_gf X 7 13 rfl (fun w h => List.mem_cons_of_mem _ (inE_D w h)) (by decide) (List.mem_cons_of_mem _ mw_767) d_D_analyse_95,
  qq_ifne X 121 (by decide) d_D_analyse_98,
  qq_aln X 0 rfl d_D_analyse_101,
  qq_gf X 7 9 rfl (fun w h => List.mem_cons_of_mem _ (inE_D w h)) (by decide) (List.mem_cons_of_mem _ mw_763) d_D_analyse_102,
  qq_iln X 1 rfl d_D_analyse_105,
  qq_za X d_D_analyse_106,
  qq_ifeq X 115 (by decide) d_D_analyse_107,
  qq_aln X 0 rfl d_D_analyse_110,
  qq_iln X 1 rfl d_D_analyse_111,
  qq_cV X 7 rfl (c_D_follow l) (fun hts => cwV 1 hts (evGV (mw_877) (mw_879) (mp_29) (mw_8) (mw_880)) rfl rfl rfl (by decide +kernel) ⟨Nat.le_of_ble_eq_true rfl, Nat.le_of_ble_eq_true rfl⟩) d_D_analyse_112,
  qq_ii X 1 1 (by decide) (by decide) d_D_analyse_115,
  qq_go X 88 (by decide) d_D_analyse_118,
  qq_go X 67 (by decide) d_D_analyse_121,
  qq_aln X 0 rfl d_D_analyse_124,
  qq_gf X 7 13 rfl (fun w h => List.mem_cons_of_mem _ (inE_D w h)) (by decide) (List.mem_cons_of_mem _ mw_767) d_D_analyse_125,
  qq_ifne X 135 (by decide) d_D_analyse_128,
  qq_aln X 0 rfl d_D_analyse_131,
  qq_cV X 7 rfl (c_D_occupy l) (fun hts => cwV 0 hts (evGV (mw_908) (mw_910) (mp_33) (mw_8) (mw_911)) rfl rfl rfl (by decide +kernel) ⟨Nat.le_of_ble_eq_true rfl, Nat.le_of_ble_eq_true rfl⟩) d_D_analyse_132,
  qq_aln X 0 rfl d_D_analyse_135,
  qq_gf X 7 13 rfl (fun w h => List.mem_cons_of_mem _ (inE_D w h)) (by decide) (List.mem_cons_of_mem _ mw_767) d_D_analyse_136,
  qq_ifeq X 148 (by decide) d_D_analyse_139,
  qq_aln X 0 rfl d_D_analyse_142,
  qq_ic X 1 (by decide) d_D_analyse_143,
  qq_cV X 7 rfl (c_D_fail l) (fun hts => cwV 1 hts (evGV (mw_861) (mw_863) (mp_27) (mw_8) (mw_864)) rfl rfl rfl (by decide +kernel) ⟨Nat.le_of_ble_eq_true rfl, Nat.le_of_ble_eq_true rfl⟩) d_D_analyse_144,
  qq_ri Z d_D_analyse_147,
  qq_aln X 0 rfl d_D_analyse_148,
  qq_cV X 7 rfl (c_D_cut l) (fun hts => cwV 0 hts (evGV (mw_912) (mw_914) (mp_34) (mw_8) (mw_915)) rfl rfl rfl (by decide +kernel) ⟨Nat.le_of_ble_eq_true rfl, Nat.le_of_ble_eq_true rfl⟩) d_D_analyse_149,
  qq_aln X 0 rfl d_D_analyse_152,
  qq_ic X 1 (by decide) d_D_analyse_153,
  qq_pz X 7 7 rfl (fun w h => List.mem_cons_of_mem _ (inE_D w h)) (by decide) tyD tyD_ok nmD rfl (by decide +kernel) (List.mem_cons_of_mem _ mw_761) d_D_analyse_154,
  qq_aln X 0 rfl d_D_analyse_157,
  qq_gf X 7 15 rfl (fun w h => List.mem_cons_of_mem _ (inE_D w h)) (by decide) (List.mem_cons_of_mem _ mw_769) d_D_analyse_158,
  qq_ri Z d_D_analyse_161, trivial⟩
def pre_D_analyse : List Value → ev_M → ev_L → Prop := fun as σ _ => as = [.ref 30] ∧ dD σ ∧ byF (σ 31)
def post_D_analyse : List Value → ev_M → ev_L → Int32 → ev_M → ev_L → Prop := fun _ σ τ r σ' τ' => τ' = τ ∧ dzF σ σ' ∧ ((r = σ' 30 15 ∧ dzT σ σ') ∨ (r = 0 ∧ dzN σ σ'))
set_option maxHeartbeats 4000000 in
set_option maxRecDepth 100000 in
theorem c_D_analyse (l : Launch) : ev_C ev_i l y_D_analyse ws_D_analyse rm_D_analyse evLY evCl pre_D_analyse post_D_analyse := by
  refine ev_methL (by decide) rfl ev_rop_i ?_ I_D_analyse (ok_D_analyse l) [16, 67, 88] 60 ?_
  · rintro _ σ τ ⟨rfl, h⟩
    exact Nat.le_of_ble_eq_true rfl
  · rintro _ σ τ ⟨rfl, hD, hby⟩
    refine ⟨fun μ pc lv st σ' τ' z => st = [] ∧ z = 0 ∧ τ = τ' ∧ ((pc = 0 ∧ μ = 200000 ∧ lv = [.ref 30, .null] ∧ σ = σ') ∨ (pc = 16 ∧ ∃ i : Nat, i ≤ 96 ∧ μ = 150000 - i ∧ lv = [.ref 30, .int (nI i)] ∧ daF σ σ' ∧ σ' 30 13 = 0 ∧ (∀ x, x < i → σ' 36 x = 0 ∧ σ' 37 x = 0 ∧ σ' 38 x = 0 ∧ σ' 39 x = 0)) ∨ (pc = 67 ∧ daF σ σ' ∧ ∃ v : Value, lv = [.ref 30, v] ∧ ((μ = 50 ∧ ¬ σ' 30 13 = 0 ∧ ¬ anAc (σ 31) (sd_has σ)) ∨ (μ = 400 * (200 - dM σ') + 300 ∧ σ' 30 13 = 0 ∧ ¬ σ' 30 14 = 0 ∧ daS σ σ') ∨ (μ = 50 ∧ σ' 30 13 = 0 ∧ σ' 30 14 = 0 ∧ daS σ σ' ∧ ∀ a, a < 96 → ¬ σ' 36 a = 0 → daC σ σ' a))) ∨ (pc = 88 ∧ daF σ σ' ∧ ((μ = 60 ∧ ¬ σ' 30 13 = 0 ∧ ¬ anAc (σ 31) (sd_has σ) ∧ ∃ x : Int32, lv = [.ref 30, .int x]) ∨ (∃ i m0 : Nat, lv = [.ref 30, .int (nI i)] ∧ i ≤ 96 ∧ μ = 400 * (200 - m0) + 200 - i ∧ m0 ≤ dM σ' ∧ (¬ σ' 30 14 = 0 → m0 < dM σ') ∧ σ' 30 13 = 0 ∧ daS σ σ' ∧ (σ' 30 14 = 0 → ∀ a, a < i → ¬ σ' 36 a = 0 → daC σ σ' a))))), ⟨200000, rfl, rfl, rfl, Or.inl ⟨rfl, rfl, rfl, rfl⟩⟩, ?_⟩
    rintro μ pc lv st σ' τ' z ⟨rfl, rfl, rfl, ⟨rfl, rfl, rfl, rfl⟩ | ⟨rfl, i, hi, rfl, rfl, hF, h13, hz⟩ | ⟨rfl, hF, v, rfl, ⟨rfl, h13, hnA⟩ | ⟨rfl, h13, h14, hS⟩ | ⟨rfl, h13, h14, hS, hC⟩⟩ | ⟨rfl, hF, ⟨rfl, h13, hnA, x, rfl⟩ | ⟨i, m0, rfl, hi, rfl, hm0, hm1, h13, hS, hC⟩⟩⟩
    · refine ⟨rfl, ?_⟩
      rintro _ σ1 τ ⟨rfl, rfl⟩
      refine ⟨Or.inl rfl, ⟨150000, by omega, rfl, rfl, rfl, Or.inr (Or.inl ⟨rfl, 0, by omega, rfl, rfl, ⟨fun k a b => ?_, fun j a b c d e => ?_, rfl, rfl, rfl⟩, rfl, fun x hx => by omega⟩)⟩⟩
      · simp [ev_u, ev_p, a]
      · simp [ev_u, ev_p, upd, a, b, c, d]
    · refine br_c (fun h => ?_) (fun h => ?_)
      · have : 96 ≤ i := (nI_leI (a := 96) (by omega) (by omega)).mp h
        have : i = 96 := by omega
        subst this
        refine ⟨⟨_, _, rfl⟩, ?_⟩
        rintro _ σ1 τ ⟨rfl, hc⟩
        have p := d_come hc
        obtain ⟨p1, ⟨_, pg⟩ | ⟨pn, _⟩⟩ := p
        · obtain ⟨g13, gm, _⟩ := pg
          have e13 : σ1 30 13 = 0 := g13.trans h13
          have hF1 := daF_dF hF p1
          have e38 : σ1 38 = σ' 38 := p1.1 38 (by decide) (by decide) (by decide) (by decide)
          have hS1 : daS σ σ1 := by
            refine ⟨fun x hx => ⟨fun q => ?_, fun q => ?_, fun q => ?_⟩, fun q => ((gm 0 (by omega)).1.mp q).2 rfl, fun q => ((gm 0 (by omega)).2.1.mp q).2 ⟨by decide, rfl⟩, fun x hx => by rw [e38]; exact (hz x hx).2.2.1⟩
            · have : nI x = 0 := Classical.byContradiction fun w => q ((gm x hx).1.mpr ⟨(hz x hx).1, w⟩)
              rw [nI_inj (y := 0) hx (by omega) this]
              exact anR_0 _
            · have : ¬ (1 : Int32) = 0 ∧ nI x = 0 := Classical.byContradiction fun w => q ((gm x hx).2.1.mpr ⟨(hz x hx).2.1, w⟩)
              exact Or.inl (nI_inj (y := 0) hx (by omega) this.2)
            · exact absurd ((gm x hx).2.2.mpr ⟨(hz x hx).2.2.2, fun w => w⟩) q
          refine ⟨Or.inr rfl, ?_⟩
          have xF : daF σ (ev_u σ1 30 14 1) := ⟨fun k a b => by
            have : ev_u σ1 30 14 1 k = σ1 k := if_neg a
            rw [this]; exact hF1.1 k a b, fun j a b c d e => by
            have : ev_u σ1 30 14 1 30 j = σ1 30 j := if_neg e
            rw [this]; exact hF1.2.1 j a b c d e, hF1.2.2⟩
          have x13 : (ev_u σ1 30 14 1) 30 13 = 0 := e13
          have x14 : ¬ (ev_u σ1 30 14 1) 30 14 = 0 := by show ¬ (1 : Int32) = 0; decide
          have xS : daS σ (ev_u σ1 30 14 1) := hS1
          show ∃ μ', _ ∧ _
          have hM := dM_le (ev_u σ1 30 14 1)
          exact ⟨400 * (200 - dM (ev_u σ1 30 14 1)) + 300, by omega, rfl, rfl, rfl, Or.inr (Or.inr (Or.inl ⟨rfl, xF, _, rfl, Or.inr (Or.inl ⟨rfl, x13, x14, xS⟩)⟩))⟩
        · exact absurd (by decide) pn
      · have hin : i < 96 := Nat.not_le.mp fun q => h ((nI_leI (a := 96) (by omega) (by omega)).mpr q)
        have hv : vp_in (nI i) 96 := vp_in_nI hin (by omega)
        have hci : (nI i).toNatClampNeg = i := nI_clamp (by omega)
        refine ⟨hv, hv, hv, hv, ?_⟩
        rw [hci]
        refine ⟨150000 - (i + 1), by omega, rfl, rfl, rfl, Or.inr (Or.inl ⟨rfl, i + 1, by omega, rfl, by rw [← nI_1], ⟨fun k a b => ?_, fun j a b c d e => ?_, hF.2.2⟩, h13, fun x hx => ?_⟩)⟩
        · have k36 : ¬ k = 36 := by omega
          have k37 : ¬ k = 37 := by omega
          have k38 : ¬ k = 38 := by omega
          have k39 : ¬ k = 39 := by omega
          rw [← hF.1 k a b]
          simp [ev_u, ev_p, k36, k37, k38, k39]
        · exact hF.2.1 j a b c d e
        · have key : ∀ g : Nat → Int32, (x < i → g x = 0) → upd g i (vp_nar FieldType.boolean 0) x = 0 := fun g hg => by
            unfold upd
            by_cases q : x = i
            · rw [if_pos q]; decide
            · rw [if_neg q]; exact hg (by omega)
          exact ⟨key (σ' 36) (fun w => (hz x w).1), key (σ' 37) (fun w => (hz x w).2.1), key (σ' 38) (fun w => (hz x w).2.2.1), key (σ' 39) (fun w => (hz x w).2.2.2)⟩
    · -- refused
      have fin : pre_D_fail [.ref 30, .int 1] σ' τ ∧ ∀ (r : Int32) (σ1 : ev_M) (τ1 : ev_L), post_D_fail [.ref 30, .int 1] σ' τ r σ1 τ1 → post_D_analyse [.ref 30] σ τ r σ1 τ1 := by
        refine ⟨⟨_, rfl⟩, ?_⟩
        rintro _ _ _ ⟨rfl, rfl, rfl⟩
        have g40 : ∀ k, ¬ k = 30 → (k < 36 ∨ 39 < k) → ev_u σ' 30 0 1 k = σ k := fun k a b => by
          have : ev_u σ' 30 0 1 k = σ' k := if_neg a
          rw [this]; exact hF.1 k a b
        have gj : ∀ j, ¬ j = 0 → ¬ j = 7 → ¬ j = 8 → ¬ j = 13 → ¬ j = 14 → ev_u σ' 30 0 1 30 j = σ 30 j := fun j a b c d e => by
          have : ev_u σ' 30 0 1 30 j = σ' 30 j := if_neg a
          rw [this]; exact hF.2.1 j a b c d e
        exact ⟨rfl, ⟨fun k a b => g40 k a (by omega), fun j a b c d e _ => gj j a b c d e, hF.2.2.2.2⟩, Or.inr ⟨rfl, fun q => hnA q.1, rfl, hF.2.2.2.1, gj 15 (by decide) (by decide) (by decide) (by decide) (by decide), g40 40 (by decide) (by decide), g40 41 (by decide) (by decide), g40 42 (by decide) (by decide)⟩⟩
      refine br_c (fun h => ?_) (fun h => ?_)
      · refine br_nt h13 ?_
        refine br_f h13 ?_
        exact fin
      · refine br_nt h13 ?_
        refine br_nt h13 ?_
        refine br_f h13 ?_
        exact fin
    · -- one more pass
      refine br_f h14 ?_
      refine br_nf h13 ?_
      refine ⟨Or.inl rfl, ?_⟩
      have hM := dM_le σ'
      have xF : daF σ (ev_u σ' 30 14 0) := ⟨fun k a b => by
        have : ev_u σ' 30 14 0 k = σ' k := if_neg a
        rw [this]; exact hF.1 k a b, fun j a b c d e => by
        have : ev_u σ' 30 14 0 30 j = σ' 30 j := if_neg e
        rw [this]; exact hF.2.1 j a b c d e, hF.2.2⟩
      have xM : dM (ev_u σ' 30 14 0) = dM σ' := rfl
      have x13 : (ev_u σ' 30 14 0) 30 13 = 0 := h13
      have x14 : (ev_u σ' 30 14 0) 30 14 = 0 := rfl
      have xS : daS σ (ev_u σ' 30 14 0) := hS
      show ∃ μ', _ ∧ _
      exact ⟨400 * (200 - dM σ') + 200 - 0, by omega, rfl, rfl, rfl, Or.inr (Or.inr (Or.inr ⟨rfl, xF, Or.inr ⟨0, dM σ', rfl, by omega, rfl, Nat.le_of_eq xM.symm, fun q => absurd x14 q, x13, xS, fun _ a ha => by omega⟩⟩))⟩
    · -- nothing new
      obtain ⟨hac, hm⟩ := daE hS hC
      have e31 : σ' 31 = σ 31 := hF.1 31 (by decide) (by decide)
      have hws := an_wkS hac
      refine br_t h14 ?_
      refine br_nf h13 ?_
      refine ⟨⟨rfl, h13, hS.2.2.2, by rw [e31]; exact hby, fun x hx hx1 => by rw [e31]; exact (hws x ⟨hx, (hm x hx).1.mp hx1⟩).2.1⟩, ?_⟩
      rintro _ σ1 τ ⟨rfl, oF, o13⟩
      have ho : σ1 30 13 = 0 ↔ anAl (σ 31) (sd_has σ) := by
        rw [o13]
        unfold ocO
        rw [e31]
        constructor
        · intro q
          exact ⟨hac, anO_eq (fun x => ⟨fun ⟨a, b⟩ => ⟨(hm x b).1.mp a, b⟩, fun ⟨a, b⟩ => ⟨(hm x b).1.mpr a, b⟩⟩) (fun x hx => (hm x hx).2.2) q⟩
        · intro q
          exact anO_eq (fun x => ⟨fun ⟨a, b⟩ => ⟨(hm x b).1.mpr a, b⟩, fun ⟨a, b⟩ => ⟨(hm x b).1.mp a, b⟩⟩) (fun x hx => (hm x hx).2.2.symm) q.2
      have g40 : ∀ k, ¬ k = 30 → (k < 36 ∨ 39 < k) → σ1 k = σ k := fun k a b => (oF.1 k a (by omega)).trans (hF.1 k a b)
      have gj : ∀ j, ¬ j = 0 → ¬ j = 7 → ¬ j = 8 → ¬ j = 13 → ¬ j = 14 → σ1 30 j = σ 30 j := fun j a b c d e => (oF.2 j d).trans (hF.2.1 j a b c d e)
      have g0 : σ1 30 0 = 0 := (oF.2 0 (by decide)).trans hF.2.2.1
      have g7 : σ1 30 7 = 0 := (oF.2 7 (by decide)).trans hF.2.2.2.1
      have g8 : σ1 30 8 = 0 := (oF.2 8 (by decide)).trans hF.2.2.2.2
      have g37 : σ1 37 = σ' 37 := oF.1 37 (by decide) (by decide)
      refine br_c (fun h => ?_) (fun h => ?_)
      · -- the blocks
        have hal := ho.mp h
        have f31 : σ1 31 = σ 31 := g40 31 (by decide) (by decide)
        refine ⟨⟨fun x => x < 96 ∧ anR (σ 31) x, rfl, by rw [f31]; exact hws, fun x hx hx1 => ⟨hx, anH_R hx ((hm x hx).2.1.mp (by rw [← g37]; exact hx1))⟩, by rw [f31]; exact hby⟩, ?_⟩
        rintro _ σ2 τ ⟨rfl, ⟨cF, c15, c41, c42⟩, c40⟩
        have e37 : σ2 37 = σ1 37 := cF.1 37 (by decide) (by decide)
        rw [f31, g40 41 (by decide) (by decide), ← e37] at c41
        rw [f31, g40 42 (by decide) (by decide), ← e37] at c42
        rw [g40 40 (by decide) (by decide), ← e37] at c40
        rw [← e37] at c15
        refine ⟨Or.inr rfl, ?_⟩
        refine ⟨rfl, ⟨fun k a b => ?_, fun j a b c d e f => ?_, ?_⟩, Or.inl ⟨rfl, hal, ?_, rfl, fun x hx => ?_, c15, c40, c41, c42⟩⟩
        · have : ev_u σ2 30 7 1 k = σ2 k := if_neg a
          rw [this]
          exact (cF.1 k a (by omega)).trans (g40 k a (by omega))
        · have : ev_u σ2 30 7 1 30 j = σ2 30 j := if_neg b
          rw [this]
          exact (cF.2 j f).trans (gj j a b c d e)
        · show σ2 30 8 = 0
          rw [cF.2 8 (by decide)]; exact g8
        · show σ2 30 0 = 0
          rw [cF.2 0 (by decide)]; exact g0
        · show σ2 37 x = 0 ↔ _
          rw [e37, g37, ← (hm x hx).2.1, Classical.not_not]
      · refine ⟨⟨_, rfl⟩, ?_⟩
        rintro _ _ τ ⟨rfl, rfl, rfl⟩
        have x40 : ∀ k, ¬ k = 30 → (k < 36 ∨ 39 < k) → ev_u σ1 30 0 1 k = σ k := fun k a b => by
          have : ev_u σ1 30 0 1 k = σ1 k := if_neg a
          rw [this]; exact g40 k a b
        have xj : ∀ j, ¬ j = 0 → ¬ j = 7 → ¬ j = 8 → ¬ j = 13 → ¬ j = 14 → ev_u σ1 30 0 1 30 j = σ 30 j := fun j a b c d e => by
          have : ev_u σ1 30 0 1 30 j = σ1 30 j := if_neg a
          rw [this]; exact gj j a b c d e
        exact ⟨rfl, ⟨fun k a b => x40 k a (by omega), fun j a b c d e _ => xj j a b c d e, g8⟩, Or.inr ⟨rfl, fun q => h (ho.mpr q), rfl, g7, xj 15 (by decide) (by decide) (by decide) (by decide) (by decide), x40 40 (by decide) (by decide), x40 41 (by decide) (by decide), x40 42 (by decide) (by decide)⟩⟩
    · -- refused in a pass
      refine br_c (fun h => ?_) (fun h => ?_)
      · exact ⟨50, by omega, rfl, rfl, rfl, Or.inr (Or.inr (Or.inl ⟨rfl, hF, _, rfl, Or.inl ⟨rfl, h13, hnA⟩⟩))⟩
      · refine br_nt h13 ?_
        exact ⟨50, by omega, rfl, rfl, rfl, Or.inr (Or.inr (Or.inl ⟨rfl, hF, _, rfl, Or.inl ⟨rfl, h13, hnA⟩⟩))⟩
    · have hM := dM_le σ'
      refine br_c (fun h => ?_) (fun h => ?_)
      · have : 96 ≤ i := (nI_leI (a := 96) (by omega) (by omega)).mp h
        have : i = 96 := by omega
        subst this
        by_cases q : σ' 30 14 = 0
        · exact ⟨50, by omega, rfl, rfl, rfl, Or.inr (Or.inr (Or.inl ⟨rfl, hF, _, rfl, Or.inr (Or.inr ⟨rfl, h13, q, hS, hC q⟩)⟩))⟩
        · have := hm1 q
          exact ⟨400 * (200 - dM σ') + 300, by omega, rfl, rfl, rfl, Or.inr (Or.inr (Or.inl ⟨rfl, hF, _, rfl, Or.inr (Or.inl ⟨rfl, h13, q, hS⟩)⟩))⟩
      · have hin : i < 96 := Nat.not_le.mp fun q => h ((nI_leI (a := 96) (by omega) (by omega)).mpr q)
        have hv : vp_in (nI i) 96 := vp_in_nI hin (by omega)
        have hci : (nI i).toNatClampNeg = i := nI_clamp (by omega)
        refine br_nf h13 ?_
        refine ⟨hv, ?_⟩
        rw [hci]
        refine br_c (fun hz => ?_) (fun hz => ?_)
        · refine ⟨400 * (200 - m0) + 200 - (i + 1), by omega, rfl, rfl, rfl, Or.inr (Or.inr (Or.inr ⟨rfl, hF, Or.inr ⟨i + 1, m0, by rw [← nI_1], by omega, rfl, hm0, hm1, h13, hS, fun q a ha hma => ?_⟩⟩))⟩
          by_cases hai : a = i
          · rw [hai] at hma; exact absurd hz hma
          · exact hC q a (by omega) hma
        · have e31 : σ' 31 = σ 31 := hF.1 31 (by decide) (by decide)
          have e33 : σ' 33 = σ 33 := hF.1 33 (by decide) (by decide)
          have e34 : σ' 34 = σ 34 := hF.1 34 (by decide) (by decide)
          have e3 : σ' 30 3 = σ 30 3 := hF.2.1 3 (by decide) (by decide) (by decide) (by decide) (by decide)
          have eh : sd_has σ' = sd_has σ := by unfold sd_has; rw [e3, e33, e34]
          have hD' : dD σ' := by unfold dD; rw [e3, e33, e34]; exact hD
          refine ⟨⟨_, rfl, hin, hD', by rw [e31]; exact hby⟩, ?_⟩
          rintro _ σ1 τ ⟨rfl, p1, ⟨pnb, pg⟩ | ⟨pb, p13⟩⟩
          · rw [e31, eh] at pnb
            rw [e31] at pg
            obtain ⟨g13, gm, gle, gmo, gup⟩ := id pg
            have hS1 := daS_G hin hz p1 hS pg
            refine ⟨400 * (200 - m0) + 200 - (i + 1), by omega, rfl, rfl, rfl, Or.inr (Or.inr (Or.inr ⟨rfl, daF_dF hF p1, Or.inr ⟨i + 1, m0, by rw [← nI_1], by omega, rfl, by omega, fun q => ?_, g13.trans h13, hS1, fun q a ha hma => ?_⟩⟩))⟩
            · by_cases w : σ' 30 14 = 0
              · have := gup w q
                omega
              · have := hm1 w
                omega
            · obtain ⟨w, w2⟩ := gmo q
              by_cases hai : a = i
              · rw [hai]
                exact ⟨pnb, fun t ht => ⟨fun hh y z => ((gm t ht).1.mp z).2 ⟨hh, y⟩, fun y z => ((gm t ht).2.1.mp z).2 y, fun y z => ((gm t ht).2.2.mp z).2 y⟩⟩
              · exact daC_G (hC w a (by omega) (fun z => hma ((w2 a (by omega)).mpr z))) pg
          · rw [e31, eh] at pb
            refine ⟨60, by omega, rfl, rfl, rfl, Or.inr (Or.inr (Or.inr ⟨rfl, daF_dF hF p1, Or.inl ⟨rfl, p13, fun q => pb (q i hin ((hS.1 i hin).1 hz)), _, rfl⟩⟩))⟩
