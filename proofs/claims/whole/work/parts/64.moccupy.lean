/-! the reference's occupy and cut -/
theorem len_sz {f : Nat → Int32} {x : Nat} (hf : byF f) (hk : ¬ sp_kind (sp_at f (nI x)) = -1) : sd_size (sp_at f (nI x)) = nI (lenN f x) := by
  have hop := sp_at_by hf (nI x)
  rw [(opF hop.1 hop.2 hk).2.2.2.1, lenN_I]
def ocF (σ σ' : ev_M) : Prop := (∀ k, ¬ k = 30 → ¬ k = 38 → σ' k = σ k) ∧ ∀ j, ¬ j = 13 → σ' 30 j = σ 30 j
abbrev ocO (σ : ev_M) : Prop := anO (σ 31) (fun x => ¬ σ 36 x = 0 ∧ x < 96) (fun x => ¬ σ 39 x = 0)
def ocC (σ : ev_M) (i j : Nat) : Prop := ∃ x, x < i ∧ ¬ σ 36 x = 0 ∧ x ≤ j ∧ j < x + lenN (σ 31) x
def ocA (σ : ev_M) (i : Nat) : Prop := (∀ x y, x < y → y < i → ¬ σ 36 x = 0 → ¬ σ 36 y = 0 → x + lenN (σ 31) x ≤ y) ∧ ∀ j, j < 96 → ocC σ i j → σ 39 j = 0
def y_D_occupy : MethodName := ⟨RD, "occupy", "()V"⟩
def ws_D_occupy : List Cond := .code y_D_occupy prog_9_method_19_code 3 none :: evW
theorem d_D_occupy_0 : decode prog_9_method_19_code 0 = .ok (.iconst 0, 1) := by decide +kernel
theorem d_D_occupy_1 : decode prog_9_method_19_code 1 = .ok (.istore_n 1, 1) := by decide +kernel
theorem d_D_occupy_2 : decode prog_9_method_19_code 2 = .ok (.iload_n 1, 1) := by decide +kernel
theorem d_D_occupy_3 : decode prog_9_method_19_code 3 = .ok (.bipush 96, 2) := by decide +kernel
theorem d_D_occupy_5 : decode prog_9_method_19_code 5 = .ok (.if_icmp .ge 89, 3) := by decide +kernel
theorem d_D_occupy_8 : decode prog_9_method_19_code 8 = .ok (.aload_n 0, 1) := by decide +kernel
theorem d_D_occupy_9 : decode prog_9_method_19_code 9 = .ok (.getfield 91, 3) := by decide +kernel
theorem d_D_occupy_12 : decode prog_9_method_19_code 12 = .ok (.ifCond .ne 82, 3) := by decide +kernel
theorem d_D_occupy_15 : decode prog_9_method_19_code 15 = .ok (.iload_n 1, 1) := by decide +kernel
theorem d_D_occupy_16 : decode prog_9_method_19_code 16 = .ok (.istore_n 2, 1) := by decide +kernel
theorem d_D_occupy_17 : decode prog_9_method_19_code 17 = .ok (.aload_n 0, 1) := by decide +kernel
theorem d_D_occupy_18 : decode prog_9_method_19_code 18 = .ok (.getfield 25, 3) := by decide +kernel
theorem d_D_occupy_21 : decode prog_9_method_19_code 21 = .ok (.iload_n 1, 1) := by decide +kernel
theorem d_D_occupy_22 : decode prog_9_method_19_code 22 = .ok (.baload, 1) := by decide +kernel
theorem d_D_occupy_23 : decode prog_9_method_19_code 23 = .ok (.ifCond .eq 65, 3) := by decide +kernel
theorem d_D_occupy_26 : decode prog_9_method_19_code 26 = .ok (.iload_n 2, 1) := by decide +kernel
theorem d_D_occupy_27 : decode prog_9_method_19_code 27 = .ok (.iload_n 1, 1) := by decide +kernel
theorem d_D_occupy_28 : decode prog_9_method_19_code 28 = .ok (.aload_n 0, 1) := by decide +kernel
theorem d_D_occupy_29 : decode prog_9_method_19_code 29 = .ok (.getfield 7, 3) := by decide +kernel
theorem d_D_occupy_32 : decode prog_9_method_19_code 32 = .ok (.iload_n 1, 1) := by decide +kernel
theorem d_D_occupy_33 : decode prog_9_method_19_code 33 = .ok (.iaload, 1) := by decide +kernel
theorem d_D_occupy_34 : decode prog_9_method_19_code 34 = .ok (.invokestatic 97, 3) := by decide +kernel
theorem d_D_occupy_37 : decode prog_9_method_19_code 37 = .ok (.iadd, 1) := by decide +kernel
theorem d_D_occupy_38 : decode prog_9_method_19_code 38 = .ok (.if_icmp .ge 50, 3) := by decide +kernel
theorem d_D_occupy_41 : decode prog_9_method_19_code 41 = .ok (.aload_n 0, 1) := by decide +kernel
theorem d_D_occupy_42 : decode prog_9_method_19_code 42 = .ok (.aload_n 0, 1) := by decide +kernel
theorem d_D_occupy_43 : decode prog_9_method_19_code 43 = .ok (.getfield 91, 3) := by decide +kernel
theorem d_D_occupy_46 : decode prog_9_method_19_code 46 = .ok (.ifCond .ne 21, 3) := by decide +kernel
theorem d_D_occupy_49 : decode prog_9_method_19_code 49 = .ok (.aload_n 0, 1) := by decide +kernel
theorem d_D_occupy_50 : decode prog_9_method_19_code 50 = .ok (.getfield 32, 3) := by decide +kernel
theorem d_D_occupy_53 : decode prog_9_method_19_code 53 = .ok (.iload_n 2, 1) := by decide +kernel
theorem d_D_occupy_54 : decode prog_9_method_19_code 54 = .ok (.baload, 1) := by decide +kernel
theorem d_D_occupy_55 : decode prog_9_method_19_code 55 = .ok (.ifCond .ne 12, 3) := by decide +kernel
theorem d_D_occupy_58 : decode prog_9_method_19_code 58 = .ok (.aload_n 0, 1) := by decide +kernel
theorem d_D_occupy_59 : decode prog_9_method_19_code 59 = .ok (.getfield 35, 3) := by decide +kernel
theorem d_D_occupy_62 : decode prog_9_method_19_code 62 = .ok (.iload_n 2, 1) := by decide +kernel
theorem d_D_occupy_63 : decode prog_9_method_19_code 63 = .ok (.baload, 1) := by decide +kernel
theorem d_D_occupy_64 : decode prog_9_method_19_code 64 = .ok (.ifCond .eq 7, 3) := by decide +kernel
theorem d_D_occupy_67 : decode prog_9_method_19_code 67 = .ok (.iconst 1, 1) := by decide +kernel
theorem d_D_occupy_68 : decode prog_9_method_19_code 68 = .ok (.goto 4, 3) := by decide +kernel
theorem d_D_occupy_71 : decode prog_9_method_19_code 71 = .ok (.iconst 0, 1) := by decide +kernel
theorem d_D_occupy_72 : decode prog_9_method_19_code 72 = .ok (.putfield 91, 3) := by decide +kernel
theorem d_D_occupy_75 : decode prog_9_method_19_code 75 = .ok (.aload_n 0, 1) := by decide +kernel
theorem d_D_occupy_76 : decode prog_9_method_19_code 76 = .ok (.getfield 32, 3) := by decide +kernel
theorem d_D_occupy_79 : decode prog_9_method_19_code 79 = .ok (.iload_n 2, 1) := by decide +kernel
theorem d_D_occupy_80 : decode prog_9_method_19_code 80 = .ok (.iconst 1, 1) := by decide +kernel
theorem d_D_occupy_81 : decode prog_9_method_19_code 81 = .ok (.bastore, 1) := by decide +kernel
theorem d_D_occupy_82 : decode prog_9_method_19_code 82 = .ok (.iinc 2 1, 3) := by decide +kernel
theorem d_D_occupy_85 : decode prog_9_method_19_code 85 = .ok (.goto (-68), 3) := by decide +kernel
theorem d_D_occupy_88 : decode prog_9_method_19_code 88 = .ok (.iinc 1 1, 3) := by decide +kernel
theorem d_D_occupy_91 : decode prog_9_method_19_code 91 = .ok (.goto (-89), 3) := by decide +kernel
theorem d_D_occupy_94 : decode prog_9_method_19_code 94 = .ok (.return_, 1) := by decide +kernel
def I_D_occupy (P : Unit → ev_M → ev_L → Prop) : List (Nat × ev_T) := [(0, tt_k 0 1),
  (1, tt_is 1 2),
  (2, tt_il 1 3),
  (3, tt_k 96 5),
  (5, tt_icge 94 8),
  (8, tt_al 0 9),
  (9, tt_gf evLY 7 13 12),
  (12, tt_ifne 94 15),
  (15, tt_il 1 16),
  (16, tt_is 2 17),
  (17, tt_al 0 18),
  (18, tt_gf evLY 7 9 21),
  (21, tt_il 1 22),
  (22, tt_za evLY 23),
  (23, tt_ifeq 88 26),
  (26, tt_il 2 27),
  (27, tt_il 1 28),
  (28, tt_al 0 29),
  (29, tt_gf evLY 7 1 32),
  (32, tt_il 1 33),
  (33, tt_ia evLY 34),
  (34, tt_cS 1 ev_i pre_D_sizeOf post_D_sizeOf 37),
  (37, tt_iadd 38),
  (38, tt_icge 88 41),
  (41, tt_al 0 42),
  (42, tt_al 0 43),
  (43, tt_gf evLY 7 13 46),
  (46, tt_ifne 67 49),
  (49, tt_al 0 50),
  (50, tt_gf evLY 7 11 53),
  (53, tt_il 2 54),
  (54, tt_za evLY 55),
  (55, tt_ifne 67 58),
  (58, tt_al 0 59),
  (59, tt_gf evLY 7 12 62),
  (62, tt_il 2 63),
  (63, tt_za evLY 64),
  (64, tt_ifeq 71 67),
  (67, tt_k 1 68),
  (68, tt_go 72),
  (71, tt_k 0 72),
  (72, tt_pz evLY 7 13 75),
  (75, tt_al 0 76),
  (76, tt_gf evLY 7 11 79),
  (79, tt_il 2 80),
  (80, tt_k 1 81),
  (81, tt_zas evLY 82),
  (82, tt_ii 2 1 85),
  (85, tt_go 17),
  (88, tt_ii 1 1 91),
  (91, tt_go 2),
  (94, tt_rv P)]
abbrev rm_D_occupy : Room := { frames := 1, cells := 0, slots := 0, locals := 32 }
set_option maxRecDepth 20000 in
theorem ok_D_occupy (l : Launch) (J : ev_K) (P : Unit → ev_M → ev_L → Prop) (X : ev_X l rm_D_occupy evLY evCl ws_D_occupy prog_9_method_19_code 3 y_D_occupy.cls J) (Z : ev_Z J prog_9_method_19_code .return_ ev_n P) : ev_oks J (I_D_occupy P) :=
  ⟨qq_ic X 0 (by decide) d_D_occupy_0,
  qq_isn X 1 rfl (by decide) d_D_occupy_1,
  qq_iln X 1 rfl d_D_occupy_2,
  qq_bp X 96 (by decide) d_D_occupy_3,
  qq_icge X 94 (by decide) d_D_occupy_5,
  qq_aln X 0 rfl d_D_occupy_8,
  qq_gf X 7 13 rfl (fun w h => List.mem_cons_of_mem _ (inE_D w h)) (by decide) (List.mem_cons_of_mem _ mw_767) d_D_occupy_9,
  qq_ifne X 94 (by decide) d_D_occupy_12,
  qq_iln X 1 rfl d_D_occupy_15,
  qq_isn X 2 rfl (by decide) d_D_occupy_16,
  qq_aln X 0 rfl d_D_occupy_17,
  qq_gf X 7 9 rfl (fun w h => List.mem_cons_of_mem _ (inE_D w h)) (by decide) (List.mem_cons_of_mem _ mw_763) d_D_occupy_18,
  qq_iln X 1 rfl d_D_occupy_21,
  qq_za X d_D_occupy_22,
  qq_ifeq X 88 (by decide) d_D_occupy_23,
  qq_iln X 2 rfl d_D_occupy_26,
  qq_iln X 1 rfl d_D_occupy_27,
  qq_aln X 0 rfl d_D_occupy_28,
  qq_gf X 7 1 rfl (fun w h => List.mem_cons_of_mem _ (inE_D w h)) (by decide) (List.mem_cons_of_mem _ mw_755) d_D_occupy_29,
  qq_iln X 1 rfl d_D_occupy_32,
  qq_ia X d_D_occupy_33,
  qq_cS X (c_D_sizeOf l) (fun hts => va_cwS 1 hts (evGS (mw_881) (mw_882) (mw_8) (mw_883)) rfl rfl rfl (by decide +kernel) ⟨Nat.le_of_ble_eq_true rfl, Nat.le_of_ble_eq_true rfl⟩) d_D_occupy_34,
  qq_iadd X d_D_occupy_37,
  qq_icge X 88 (by decide) d_D_occupy_38,
  qq_aln X 0 rfl d_D_occupy_41,
  qq_aln X 0 rfl d_D_occupy_42,
  qq_gf X 7 13 rfl (fun w h => List.mem_cons_of_mem _ (inE_D w h)) (by decide) (List.mem_cons_of_mem _ mw_767) d_D_occupy_43,
  qq_ifne X 67 (by decide) d_D_occupy_46,
  qq_aln X 0 rfl d_D_occupy_49,
  qq_gf X 7 11 rfl (fun w h => List.mem_cons_of_mem _ (inE_D w h)) (by decide) (List.mem_cons_of_mem _ mw_765) d_D_occupy_50,
  qq_iln X 2 rfl d_D_occupy_53,
  qq_za X d_D_occupy_54,
  qq_ifne X 67 (by decide) d_D_occupy_55,
  qq_aln X 0 rfl d_D_occupy_58,
  qq_gf X 7 12 rfl (fun w h => List.mem_cons_of_mem _ (inE_D w h)) (by decide) (List.mem_cons_of_mem _ mw_766) d_D_occupy_59,
  qq_iln X 2 rfl d_D_occupy_62,
  qq_za X d_D_occupy_63,
  qq_ifeq X 71 (by decide) d_D_occupy_64,
  qq_ic X 1 (by decide) d_D_occupy_67,
  qq_go X 72 (by decide) d_D_occupy_68,
  qq_ic X 0 (by decide) d_D_occupy_71,
  qq_pz X 7 13 rfl (fun w h => List.mem_cons_of_mem _ (inE_D w h)) (by decide) tyD tyD_ok nmD rfl (by decide +kernel) (List.mem_cons_of_mem _ mw_767) d_D_occupy_72,
  qq_aln X 0 rfl d_D_occupy_75,
  qq_gf X 7 11 rfl (fun w h => List.mem_cons_of_mem _ (inE_D w h)) (by decide) (List.mem_cons_of_mem _ mw_765) d_D_occupy_76,
  qq_iln X 2 rfl d_D_occupy_79,
  qq_ic X 1 (by decide) d_D_occupy_80,
  qq_zas X d_D_occupy_81,
  qq_ii X 2 1 (by decide) (by decide) d_D_occupy_82,
  qq_go X 17 (by decide) d_D_occupy_85,
  qq_ii X 1 1 (by decide) (by decide) d_D_occupy_88,
  qq_go X 2 (by decide) d_D_occupy_91,
  qq_rv Z d_D_occupy_94, trivial⟩
def pre_D_occupy : List Value → ev_M → ev_L → Prop := fun as σ _ => as = [.ref 30] ∧ σ 30 13 = 0 ∧ (∀ x, x < 96 → σ 38 x = 0) ∧ byF (σ 31) ∧ ∀ x, x < 96 → ¬ σ 36 x = 0 → sp_okR (σ 31) (nI x) 96
def post_D_occupy : List Value → ev_M → ev_L → Unit → ev_M → ev_L → Prop := fun _ σ τ _ σ' τ' => τ' = τ ∧ ocF σ σ' ∧ (σ' 30 13 = 0 ↔ ocO σ)
set_option maxHeartbeats 4000000 in
set_option maxRecDepth 100000 in
theorem c_D_occupy (l : Launch) : ev_C ev_n l y_D_occupy ws_D_occupy rm_D_occupy evLY evCl pre_D_occupy post_D_occupy := by
  refine ev_methL (by decide) rfl ev_rop_v ?_ I_D_occupy (ok_D_occupy l) [2, 17] 60 ?_
  · rintro _ σ τ ⟨rfl, h⟩
    exact Nat.le_of_ble_eq_true rfl
  · rintro _ σ τ ⟨rfl, h13, h38, hby, hok⟩
    refine ⟨fun μ pc lv st σ' τ' z => st = [] ∧ z = 0 ∧ τ = τ' ∧ ((pc = 0 ∧ μ = 90000 ∧ lv = [.ref 30, .null, .null] ∧ σ = σ') ∨ (pc = 2 ∧ ocF σ σ' ∧ ∃ (i : Nat) (v2 : Value), i ≤ 96 ∧ μ = 300 * (96 - i) + 200 ∧ lv = [.ref 30, .int (nI i), v2] ∧ ((σ' 30 13 = 0 ∧ (∀ j, j < 96 → (σ' 38 j = 0 ↔ ¬ ocC σ i j)) ∧ ocA σ i) ∨ (¬ σ' 30 13 = 0 ∧ ¬ ocO σ))) ∨ (pc = 17 ∧ ocF σ σ' ∧ ∃ (i k : Nat), i < 96 ∧ i ≤ k ∧ (¬ σ 36 i = 0 → k ≤ i + lenN (σ 31) i) ∧ (σ 36 i = 0 → k = i) ∧ μ = 300 * (96 - i) + 100 - (k - i) ∧ lv = [.ref 30, .int (nI i), .int (nI k)] ∧ ((σ' 30 13 = 0 ∧ (∀ j, j < 96 → (σ' 38 j = 0 ↔ ¬ (ocC σ i j ∨ (i ≤ j ∧ j < k)))) ∧ ocA σ i ∧ ∀ j, i ≤ j → j < k → ¬ ocC σ i j ∧ σ 39 j = 0) ∨ (¬ σ' 30 13 = 0 ∧ ¬ ocO σ)))), ⟨90000, rfl, rfl, rfl, Or.inl ⟨rfl, rfl, rfl, rfl⟩⟩, ?_⟩
    rintro μ pc lv st σ' τ' z ⟨rfl, rfl, rfl, ⟨rfl, rfl, rfl, rfl⟩ | ⟨rfl, hF, i, v2, hi, rfl, rfl, hS⟩ | ⟨rfl, hF, i, k, hi, hik, hk1, hk0, rfl, rfl, hS⟩⟩
    · refine ⟨300 * 96 + 200, by omega, rfl, rfl, rfl, Or.inr (Or.inl ⟨rfl, ⟨fun _ _ _ => rfl, fun _ _ => rfl⟩, 0, _, by omega, rfl, rfl, Or.inl ⟨h13, fun j hj => ⟨fun _ ⟨x, hx, _⟩ => by omega, fun _ => h38 j hj⟩, fun x y _ hy => by omega, fun j _ ⟨x, hx, _⟩ => by omega⟩⟩)⟩
    · refine br_c (fun h => ?_) (fun h => ?_)
      · have : 96 ≤ i := (nI_leI (a := 96) (by omega) (by omega)).mp h
        have : i = 96 := by omega
        subst this
        refine ⟨rfl, hF, ?_⟩
        rcases hS with ⟨q1, q2, q3, q4⟩ | ⟨q1, q2⟩
        · refine ⟨fun _ => ⟨fun x y a b c d => q3 x y a b c.1 d.1, fun x j a b c d e => e (q4 j a ⟨x, b.2, b.1, c, d⟩)⟩, fun _ => q1⟩
        · exact ⟨fun q => absurd q q1, fun q => absurd q q2⟩
      · have hin : i < 96 := Nat.not_le.mp fun q => h ((nI_leI (a := 96) (by omega) (by omega)).mpr q)
        refine br_n (fun hr => ?_) (fun hr => ?_)
        · refine ⟨rfl, hF, ?_⟩
          rcases hS with ⟨q1, q2⟩ | ⟨q1, q2⟩
          · exact absurd q1 hr
          · exact ⟨fun q => absurd q q1, fun q => absurd q q2⟩
        · refine ⟨300 * (96 - i) + 100 - (i - i), by omega, rfl, rfl, rfl, Or.inr (Or.inr ⟨rfl, hF, i, i, hin, Nat.le_refl _, fun _ => by omega, fun _ => rfl, rfl, rfl, ?_⟩)⟩
          rcases hS with ⟨q1, q2, q3⟩ | ⟨q1, q2⟩
          · exact Or.inl ⟨q1, fun j hj => by rw [q2 j hj]; exact not_congr ⟨Or.inl, fun w => w.elim id (fun w => by omega)⟩, q3, fun j a b => by omega⟩
          · exact absurd hr q1
    · have e36 : σ' 36 = σ 36 := hF.1 36 (by decide) (by decide)
      have e39 : σ' 39 = σ 39 := hF.1 39 (by decide) (by decide)
      have e31 : σ' 31 = σ 31 := hF.1 31 (by decide) (by decide)
      have hci : (nI i).toNatClampNeg = i := nI_clamp (by omega)
      refine ⟨vp_in_nI hi (by omega), ?_⟩
      rw [hci, e36]
      refine br_c (fun hz => ?_) (fun hz => ?_)
      · -- nothing begins here
        have hki := hk0 hz
        subst hki
        refine ⟨300 * (96 - (k + 1)) + 200, by omega, rfl, rfl, rfl, Or.inr (Or.inl ⟨rfl, hF, k + 1, _, by omega, rfl, by rw [← nI_1], ?_⟩)⟩
        have cc : ∀ j, ocC σ (k + 1) j ↔ ocC σ k j := fun j => by
          constructor
          · rintro ⟨x, a, b, c⟩
            have : ¬ x = k := fun q => b (by rw [q]; exact hz)
            exact ⟨x, by omega, b, c⟩
          · rintro ⟨x, a, b, c⟩
            exact ⟨x, by omega, b, c⟩
        rcases hS with ⟨q1, q2, q3, q4⟩ | ⟨q1, q2⟩
        · refine Or.inl ⟨q1, fun j hj => by rw [q2 j hj, cc]; exact not_congr ⟨fun w => w.elim id (fun w => by omega), Or.inl⟩, fun x y a b c d => ?_, fun j hj w => q3.2 j hj ((cc j).mp w)⟩
          by_cases hy : y = k
          · rw [hy] at d; exact absurd hz d
          · exact q3.1 x y a (by omega) c d
        · exact Or.inr ⟨q1, q2⟩
      · obtain ⟨v1, m1⟩ := m_at (σ := σ') (a := nI i) (by rw [nI_toInt (by omega)]; omega) (by rw [nI_toInt (by omega)]; omega)
        refine ⟨v1, ?_⟩
        rw [m1, e31]
        refine ⟨⟨_, rfl⟩, ?_⟩
        rintro _ σ' τ ⟨rfl, rfl, rfl⟩
        have oki := hok i hi hz
        have hle := okR_len hi oki
        have hl := lenN_c (σ 31) i
        have hkl := hk1 hz
        rw [len_sz hby oki.2.2.1]
        refine br_c (fun h => ?_) (fun h => ?_)
        · rw [nI_add] at h
          have hke : i + lenN (σ 31) i ≤ k := (nI_leI (by omega) (by omega)).mp h
          have hke2 : k = i + lenN (σ 31) i := by omega
          refine ⟨300 * (96 - (i + 1)) + 200, by omega, rfl, rfl, rfl, Or.inr (Or.inl ⟨rfl, hF, i + 1, _, by omega, rfl, by rw [← nI_1], ?_⟩)⟩
          have cc : ∀ j, ocC σ (i + 1) j ↔ ocC σ i j ∨ (i ≤ j ∧ j < k) := fun j => by
            constructor
            · rintro ⟨x, a, b, c, d⟩
              by_cases hx : x = i
              · subst hx; exact Or.inr ⟨c, by omega⟩
              · exact Or.inl ⟨x, by omega, b, c, d⟩
            · rintro (⟨x, a, b, c⟩ | ⟨a, b⟩)
              · exact ⟨x, by omega, b, c⟩
              · exact ⟨i, by omega, hz, a, by omega⟩
          rcases hS with ⟨q1, q2, q3, q4⟩ | ⟨q1, q2⟩
          · refine Or.inl ⟨q1, fun j hj => by rw [q2 j hj, cc], fun x y a b c d => ?_, fun j hj w => ?_⟩
            · by_cases hy : y = i
              · subst hy
                rcases Nat.lt_or_ge y (x + lenN (σ 31) x) with w | w
                · exact absurd ⟨x, a, c, by omega, w⟩ (q4 y (Nat.le_refl _) (by omega)).1
                · exact w
              · exact q3.1 x y a (by omega) c d
            · rcases (cc j).mp w with w | w
              · exact q3.2 j hj w
              · exact (q4 j w.1 w.2).2
          · exact Or.inr ⟨q1, q2⟩
        · rw [nI_add] at h
          have hlt : k < i + lenN (σ 31) i := Nat.not_le.mp fun q => h ((nI_leI (by omega) (by omega)).mpr q)
          have hck : (nI k).toNatClampNeg = k := nI_clamp (by omega)
          have hvk : vp_in (nI k) 96 := vp_in_nI (by omega) (by omega)
          -- the next place
          have nx : ∀ r : Int32, (r = 0 ∨ r = 1) → (r = 0 → σ' 30 13 = 0 ∧ σ' 38 k = 0 ∧ σ 39 k = 0) → (¬ r = 0 → ¬ σ' 30 13 = 0 ∨ ¬ σ' 38 k = 0 ∨ ¬ σ 39 k = 0) → ∃ μ', μ' < 300 * (96 - i) + 100 - (k - i) ∧ ([] : List Value) = [] ∧ 0 = 0 ∧ τ = τ ∧ ((17 = 0 ∧ μ' = 90000 ∧ ([.ref 30, .int (nI i), .int (nI k + 1)] : List Value) = [.ref 30, .null, .null] ∧ σ = ev_u (ev_u σ' 30 13 r) 38 k 1) ∨ (17 = 2 ∧ ocF σ (ev_u (ev_u σ' 30 13 r) 38 k 1) ∧ ∃ (i2 : Nat) (v2 : Value), i2 ≤ 96 ∧ μ' = 300 * (96 - i2) + 200 ∧ ([.ref 30, .int (nI i), .int (nI k + 1)] : List Value) = [.ref 30, .int (nI i2), v2] ∧ (((ev_u (ev_u σ' 30 13 r) 38 k 1) 30 13 = 0 ∧ (∀ j, j < 96 → ((ev_u (ev_u σ' 30 13 r) 38 k 1) 38 j = 0 ↔ ¬ ocC σ i2 j)) ∧ ocA σ i2) ∨ (¬ (ev_u (ev_u σ' 30 13 r) 38 k 1) 30 13 = 0 ∧ ¬ ocO σ))) ∨ (17 = 17 ∧ ocF σ (ev_u (ev_u σ' 30 13 r) 38 k 1) ∧ ∃ (i2 k2 : Nat), i2 < 96 ∧ i2 ≤ k2 ∧ (¬ σ 36 i2 = 0 → k2 ≤ i2 + lenN (σ 31) i2) ∧ (σ 36 i2 = 0 → k2 = i2) ∧ μ' = 300 * (96 - i2) + 100 - (k2 - i2) ∧ ([.ref 30, .int (nI i), .int (nI k + 1)] : List Value) = [.ref 30, .int (nI i2), .int (nI k2)] ∧ (((ev_u (ev_u σ' 30 13 r) 38 k 1) 30 13 = 0 ∧ (∀ j, j < 96 → ((ev_u (ev_u σ' 30 13 r) 38 k 1) 38 j = 0 ↔ ¬ (ocC σ i2 j ∨ (i2 ≤ j ∧ j < k2)))) ∧ ocA σ i2 ∧ ∀ j, i2 ≤ j → j < k2 → ¬ ocC σ i2 j ∧ σ 39 j = 0) ∨ (¬ (ev_u (ev_u σ' 30 13 r) 38 k 1) 30 13 = 0 ∧ ¬ ocO σ)))) := by
            intro r hr r0 r1
            have x13 : (ev_u (ev_u σ' 30 13 r) 38 k 1) 30 13 = r := rfl
            have x38 : ∀ j, (ev_u (ev_u σ' 30 13 r) 38 k 1) 38 j = if j = k then 1 else σ' 38 j := fun j => rfl
            have xF : ocF σ (ev_u (ev_u σ' 30 13 r) 38 k 1) := ⟨fun q a b => by
              have : (ev_u (ev_u σ' 30 13 r) 38 k 1) q = σ' q := by simp [ev_u, ev_p, a, b]
              rw [this]; exact hF.1 q a b, fun j a => by
              have : (ev_u (ev_u σ' 30 13 r) 38 k 1) 30 j = σ' 30 j := if_neg a
              rw [this]; exact hF.2 j a⟩
            generalize ev_u (ev_u σ' 30 13 r) 38 k 1 = X at *
            refine ⟨300 * (96 - i) + 100 - (k + 1 - i), by omega, rfl, rfl, rfl, Or.inr (Or.inr ⟨rfl, xF, i, k + 1, hi, by omega, fun _ => by omega, fun q => absurd q hz, rfl, by rw [← nI_1], ?_⟩)⟩
            rcases hS with ⟨q1, q2, q3, q4⟩ | ⟨q1, q2⟩
            · by_cases hr0 : r = 0
              · obtain ⟨s1, s2, s3⟩ := r0 hr0
                refine Or.inl ⟨x13.trans hr0, fun j hj => ?_, q3, fun j a b => ?_⟩
                · rw [x38]
                  by_cases hjk : j = k
                  · rw [if_pos hjk]
                    exact ⟨fun w => absurd w (by decide), fun w => absurd (Or.inr ⟨by omega, by omega⟩) w⟩
                  · rw [if_neg hjk, q2 j hj]
                    exact not_congr ⟨fun w => w.elim Or.inl (fun w => Or.inr ⟨w.1, by omega⟩), fun w => w.elim Or.inl (fun w => Or.inr ⟨w.1, by omega⟩)⟩
                · by_cases hjk : j = k
                  · rw [hjk]
                    exact ⟨fun w => (q2 k (by omega)).mp s2 (Or.inl w), s3⟩
                  · exact q4 j a (by omega)
              · refine Or.inr ⟨fun w => hr0 (x13.symm.trans w), fun w => ?_⟩
                rcases r1 hr0 with s | s | s
                · exact s q1
                · have hc : ocC σ i k ∨ (i ≤ k ∧ k < k) := Classical.byContradiction fun z => s ((q2 k (by omega)).mpr z)
                  rcases hc with ⟨x, a, b, c, d⟩ | hc
                  · have := w.1 x i a hi ⟨b, by omega⟩ ⟨hz, hi⟩
                    omega
                  · omega
                · exact w.2 i k (by omega) ⟨hz, hi⟩ hik hlt s
            · have hr1 : ¬ r = 0 := fun q => q1 (r0 q).1
              exact Or.inr ⟨fun w => hr1 (x13.symm.trans w), q2⟩
          refine br_n (fun h1 => ?_) (fun h1 => ⟨hvk, ?_⟩)
          · refine ⟨Or.inr rfl, hvk, ?_⟩
            rw [hck]
            exact nx 1 (Or.inr rfl) (fun q => absurd q (by decide)) (fun _ => Or.inl h1)
          · rw [hck]
            refine br_n (fun h2 => ?_) (fun h2 => ⟨hvk, ?_⟩)
            · refine ⟨Or.inr rfl, hvk, ?_⟩
              rw [hck]
              exact nx 1 (Or.inr rfl) (fun q => absurd q (by decide)) (fun _ => Or.inr (Or.inl h2))
            · rw [e39, hck]
              refine br_c (fun h3 => ?_) (fun h3 => ?_)
              · refine ⟨Or.inl rfl, hvk, ?_⟩
                rw [hck]
                exact nx 0 (Or.inl rfl) (fun _ => ⟨h1, h2, h3⟩) (fun q => absurd rfl q)
              · refine ⟨Or.inr rfl, hvk, ?_⟩
                rw [hck]
                exact nx 1 (Or.inr rfl) (fun q => absurd q (by decide)) (fun _ => Or.inr (Or.inr h3))
