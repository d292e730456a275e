/-! Machine.executeWatched -/
def ms_cnt (k : Int32) (x : mst) : mst := match x with
  | (r, c, s, o, t, pc, h, sh, dn) => (r, c, s, o, vp_updL t (k &&& 63).toNatClampNeg (t (k &&& 63).toNatClampNeg + 1), pc, h, sh, dn)
/-- a head is counted as its turn comes -/
def ms_w (c : Int32) (f g : Nat → Int32) (x : mst) : mst := if sp_nhd c f g (ms_pc x) = -1 then x else ms_cnt (sp_nhd c f g (ms_pc x)) x
theorem ms_cnt_R {k : Int32} {x : mst} (h : msR x) : msR (ms_cnt k x) := by
  obtain ⟨r, c, s, o, t, pc, h9, sh, dn⟩ := x
  exact h
theorem ms_w_R {c : Int32} {f g : Nat → Int32} {x : mst} (h : msR x) : msR (ms_w c f g x) := by
  unfold ms_w
  split
  · exact h
  · exact ms_cnt_R h
def y_M_executeWatched : MethodName := ⟨RX2, "executeWatched", "(LBlockCounter$Program;ILBlockCounter$Analysis;)I"⟩
def ws_M_executeWatched : List Cond := .code y_M_executeWatched prog_4_method_12_code 7 (some .int) :: evW
theorem d_M_executeWatched_0 : decode prog_4_method_12_code 0 = .ok (.iconst 0, 1) := by decide +kernel
theorem d_M_executeWatched_1 : decode prog_4_method_12_code 1 = .ok (.istore 4, 2) := by decide +kernel
theorem d_M_executeWatched_3 : decode prog_4_method_12_code 3 = .ok (.iconst 0, 1) := by decide +kernel
theorem d_M_executeWatched_4 : decode prog_4_method_12_code 4 = .ok (.istore 5, 2) := by decide +kernel
theorem d_M_executeWatched_6 : decode prog_4_method_12_code 6 = .ok (.iload 5, 2) := by decide +kernel
theorem d_M_executeWatched_8 : decode prog_4_method_12_code 8 = .ok (.iload_n 2, 1) := by decide +kernel
theorem d_M_executeWatched_9 : decode prog_4_method_12_code 9 = .ok (.if_icmp .ge 43, 3) := by decide +kernel
theorem d_M_executeWatched_12 : decode prog_4_method_12_code 12 = .ok (.iload 4, 2) := by decide +kernel
theorem d_M_executeWatched_14 : decode prog_4_method_12_code 14 = .ok (.ifCond .ne 38, 3) := by decide +kernel
theorem d_M_executeWatched_17 : decode prog_4_method_12_code 17 = .ok (.aload_n 3, 1) := by decide +kernel
theorem d_M_executeWatched_18 : decode prog_4_method_12_code 18 = .ok (.aload_n 0, 1) := by decide +kernel
theorem d_M_executeWatched_19 : decode prog_4_method_12_code 19 = .ok (.getfield 42, 3) := by decide +kernel
theorem d_M_executeWatched_22 : decode prog_4_method_12_code 22 = .ok (.invokevirtual 67, 3) := by decide +kernel
theorem d_M_executeWatched_25 : decode prog_4_method_12_code 25 = .ok (.istore 6, 2) := by decide +kernel
theorem d_M_executeWatched_27 : decode prog_4_method_12_code 27 = .ok (.iload 6, 2) := by decide +kernel
theorem d_M_executeWatched_29 : decode prog_4_method_12_code 29 = .ok (.iconst (-1), 1) := by decide +kernel
theorem d_M_executeWatched_30 : decode prog_4_method_12_code 30 = .ok (.if_icmp .eq 9, 3) := by decide +kernel
theorem d_M_executeWatched_33 : decode prog_4_method_12_code 33 = .ok (.aload_n 0, 1) := by decide +kernel
theorem d_M_executeWatched_34 : decode prog_4_method_12_code 34 = .ok (.iload 6, 2) := by decide +kernel
theorem d_M_executeWatched_36 : decode prog_4_method_12_code 36 = .ok (.invokevirtual 73, 3) := by decide +kernel
theorem d_M_executeWatched_39 : decode prog_4_method_12_code 39 = .ok (.aload_n 0, 1) := by decide +kernel
theorem d_M_executeWatched_40 : decode prog_4_method_12_code 40 = .ok (.aload_n 1, 1) := by decide +kernel
theorem d_M_executeWatched_41 : decode prog_4_method_12_code 41 = .ok (.invokevirtual 63, 3) := by decide +kernel
theorem d_M_executeWatched_44 : decode prog_4_method_12_code 44 = .ok (.istore 4, 2) := by decide +kernel
theorem d_M_executeWatched_46 : decode prog_4_method_12_code 46 = .ok (.iinc 5 1, 3) := by decide +kernel
theorem d_M_executeWatched_49 : decode prog_4_method_12_code 49 = .ok (.goto (-43), 3) := by decide +kernel
theorem d_M_executeWatched_52 : decode prog_4_method_12_code 52 = .ok (.iload 4, 2) := by decide +kernel
theorem d_M_executeWatched_54 : decode prog_4_method_12_code 54 = .ok (.ireturn, 1) := by decide +kernel
def I_M_executeWatched (P : Int32 → ev_M → ev_L → Prop) : List (Nat × ev_T) := [(0, tt_k 0 1),
  (1, tt_is 4 3),
  (3, tt_k 0 4),
  (4, tt_is 5 6),
  (6, tt_il 5 8),
  (8, tt_il 2 9),
  (9, tt_icge 52 12),
  (12, tt_il 4 14),
  (14, tt_ifne 52 17),
  (17, tt_al 3 18),
  (18, tt_al 0 19),
  (19, tt_gf evLY 2 6 22),
  (22, tt_cV evLY 0 1 ev_i pre_A_numberOfHead post_A_numberOfHead 25),
  (25, tt_is 6 27),
  (27, tt_il 6 29),
  (29, tt_k (-1) 30),
  (30, tt_iceq 39 33),
  (33, tt_al 0 34),
  (34, tt_il 6 36),
  (36, tt_cV evLY 2 1 ev_n pre_M_grow post_M_grow 39),
  (39, tt_al 0 40),
  (40, tt_al 1 41),
  (41, tt_cV evLY 2 1 ev_i pre_M_step post_M_step 44),
  (44, tt_is 4 46),
  (46, tt_ii 5 1 49),
  (49, tt_go 6),
  (52, tt_il 4 54),
  (54, tt_ri P)]
abbrev rm_M_executeWatched : Room := { frames := 6, cells := 0, slots := 0, locals := 192 }
set_option maxRecDepth 20000 in
theorem ok_M_executeWatched (l : Launch) (J : ev_K) (P : Int32 → ev_M → ev_L → Prop) (X : ev_X l rm_M_executeWatched evLY evCl ws_M_executeWatched prog_4_method_12_code 7 y_M_executeWatched.cls J) (Z : ev_Z J prog_4_method_12_code .ireturn ev_i P) : ev_oks J (I_M_executeWatched P) :=
  ⟨qq_ic X 0 (by decide) d_M_executeWatched_0,
  qq_is X 4 (by decide) d_M_executeWatched_1,
  qq_ic X 0 (by decide) d_M_executeWatched_3,
  qq_is X 5 (by decide) d_M_executeWatched_4,
  qq_il X 5 d_M_executeWatched_6,
  qq_iln X 2 rfl d_M_executeWatched_8,
  qq_icge X 52 (by decide) d_M_executeWatched_9,
  qq_il X 4 d_M_executeWatched_12,
  qq_ifne X 52 (by decide) d_M_executeWatched_14,
  qq_aln X 3 rfl d_M_executeWatched_17,
  qq_aln X 0 rfl d_M_executeWatched_18,
  qq_gf X 2 6 rfl (fun w h => List.mem_cons_of_mem _ (inE_M w h)) (by decide) (List.mem_cons_of_mem _ mw_167) d_M_executeWatched_19,
  qq_cV X 0 rfl (c_A_numberOfHead l) (fun hts => cwV 1 hts (evGV (mw_683) (mw_684) (mw_685) (mw_4) (mw_686)) rfl rfl rfl (by decide +kernel) ⟨Nat.le_of_ble_eq_true rfl, Nat.le_of_ble_eq_true rfl⟩) d_M_executeWatched_22,
  qq_is X 6 (by decide) d_M_executeWatched_25,
  qq_il X 6 d_M_executeWatched_27,
  qq_ic X (-1) (by decide) d_M_executeWatched_29,
  qq_iceq X 39 (by decide) d_M_executeWatched_30,
  qq_aln X 0 rfl d_M_executeWatched_33,
  qq_il X 6 d_M_executeWatched_34,
  qq_cV X 2 rfl (c_M_grow l) (fun hts => cwV 1 hts (evGV (mw_675) (mw_677) (mp_25) (mw_7) (mw_678)) rfl rfl rfl (by decide +kernel) ⟨Nat.le_of_ble_eq_true rfl, Nat.le_of_ble_eq_true rfl⟩) d_M_executeWatched_36,
  qq_aln X 0 rfl d_M_executeWatched_39,
  qq_aln X 1 rfl d_M_executeWatched_40,
  qq_cV X 2 rfl (c_M_step l) (fun hts => cwV 1 hts (evGV (mw_620) (mw_622) (mp_16) (mw_7) (mw_623)) rfl rfl rfl (by decide +kernel) ⟨Nat.le_of_ble_eq_true rfl, Nat.le_of_ble_eq_true rfl⟩) d_M_executeWatched_41,
  qq_is X 4 (by decide) d_M_executeWatched_44,
  qq_ii X 5 1 (by decide) (by decide) d_M_executeWatched_46,
  qq_go X 6 (by decide) d_M_executeWatched_49,
  qq_il X 4 d_M_executeWatched_52,
  qq_ri Z d_M_executeWatched_54, trivial⟩
def pre_M_executeWatched : List Value → ev_M → ev_L → Prop := fun as σ τ => ∃ (z : Nat), as = [.ref 23, .ref 1, .int (nI z), .ref 8] ∧ z ≤ 3000 ∧ byF (σ 2) ∧ trF (sp_trap (σ 3)) ∧ msR (mvC σ τ) ∧ (σ 8 10).toInt ≤ 96
def post_M_executeWatched : List Value → ev_M → ev_L → Int32 → ev_M → ev_L → Prop := fun as σ τ r σ' τ' => match as with
  | [_, _, .int z, _] => (r, mvC σ' τ') = ms_run (σ 2) (sp_trap (σ 3)) (ms_w (σ 8 10) (σ 14) (σ 15)) z.toNatClampNeg (mvC σ τ) ∧ frC σ σ' τ τ'
  | _ => False
set_option maxHeartbeats 4000000 in
set_option maxRecDepth 100000 in
theorem c_M_executeWatched (l : Launch) : ev_C ev_i l y_M_executeWatched ws_M_executeWatched rm_M_executeWatched evLY evCl pre_M_executeWatched post_M_executeWatched := by
  refine ev_methL (by decide) rfl ev_rop_i ?_ I_M_executeWatched (ok_M_executeWatched l) [6] 40 ?_
  · rintro _ σ τ ⟨z, rfl, h⟩
    exact Nat.le_of_ble_eq_true rfl
  · rintro _ σ τ ⟨z, rfl, hz, hf, ht, hR, hbc⟩
    refine ⟨fun μ pc lv st σ' τ' n => st = [] ∧ n = 0 ∧ ((pc = 0 ∧ μ = 5000 ∧ lv = [.ref 23, .ref 1, .int (nI z), .ref 8, .null, .null, .null] ∧ σ' = σ ∧ τ' = τ) ∨ (pc = 6 ∧ ∃ (i : Nat) (o : Int32) (j : Value), i ≤ z ∧ μ = z - i ∧ lv = [.ref 23, .ref 1, .int (nI z), .ref 8, .int o, .int (nI i), j] ∧ (j = .null ∨ ∃ jj : Int32, j = .int jj) ∧ frC σ σ' τ τ' ∧ msR (mvC σ' τ') ∧ ((o = 0 ∧ ms_run (σ 2) (sp_trap (σ 3)) (ms_w (σ 8 10) (σ 14) (σ 15)) (z - i) (mvC σ' τ') = ms_run (σ 2) (sp_trap (σ 3)) (ms_w (σ 8 10) (σ 14) (σ 15)) z (mvC σ τ)) ∨ (¬ o = 0 ∧ (o, mvC σ' τ') = ms_run (σ 2) (sp_trap (σ 3)) (ms_w (σ 8 10) (σ 14) (σ 15)) z (mvC σ τ))))), ⟨5000, rfl, rfl, Or.inl ⟨rfl, rfl, rfl, rfl, rfl⟩⟩, ?_⟩
    rintro μ pc lv st σ' τ' n ⟨rfl, rfl, ⟨rfl, rfl, rfl, rfl, rfl⟩ | ⟨rfl, i, o, j, hi, rfl, rfl, hj, hfr, hR', hres⟩⟩
    · exact ⟨z, by omega, rfl, rfl, Or.inr ⟨rfl, 0, 0, _, Nat.zero_le _, rfl, rfl, Or.inl rfl, frC_rf _ _, hR, Or.inl ⟨rfl, rfl⟩⟩⟩
    · have hcl : (nI z).toNatClampNeg = z := nI_clamp (by omega)
      refine br_c (fun h => ?_) (fun h => br_n (fun h2 => ?_) (fun h2 => ?_))
      · have hiz : z ≤ i := (nI_leI (by omega) (by omega)).mp h
        have e0 : z - i = 0 := by omega
        refine ⟨?_, hfr⟩
        rw [hcl]
        rcases hres with ⟨rfl, h3⟩ | ⟨_, h3⟩
        · rw [← h3, e0]; rfl
        · exact h3
      · refine ⟨?_, hfr⟩
        rw [hcl]
        rcases hres with ⟨h3, _⟩ | ⟨_, h3⟩
        · exact absurd h3 h2
        · exact h3
      · have hiz : i < z := Nat.not_le.mp fun q => h ((nI_leI (by omega) (by omega)).mpr q)
        have hres2 := (hres.resolve_right (fun w => w.1 h2)).2
        have e1 : z - i = (z - (i + 1)) + 1 := by omega
        have e8 : σ' 8 = σ 8 := hfr.1 8 (by omega)
        have e14 : σ' 14 = σ 14 := hfr.1 14 (by omega)
        have e15 : σ' 15 = σ 15 := hfr.1 15 (by omega)
        have eq1 : σ' 2 = σ 2 := hfr.1 _ (by omega)
        have eq2 : σ' 3 = σ 3 := hfr.1 _ (by omega)
        -- the step behind the count
        have fin : ∀ (j2 : Value) (σ1 : ev_M) (τ1 : ev_L), (j2 = .null ∨ ∃ jj : Int32, j2 = .int jj) → frC σ σ1 τ τ1 → mvC σ1 τ1 = ms_w (σ 8 10) (σ 14) (σ 15) (mvC σ' τ') → pre_M_step [.ref 23, .ref 1] σ1 τ1 ∧ ∀ (r : Int32) (σ2 : ev_M) (τ2 : ev_L), post_M_step [.ref 23, .ref 1] σ1 τ1 r σ2 τ2 → ∃ μ', μ' < z - i ∧ ([] : List Value) = [] ∧ 0 = 0 ∧ ((6 = 0 ∧ μ' = 5000 ∧ ([.ref 23, .ref 1, .int (nI z), .ref 8, .int r, .int (nI i + 1), j2] : List Value) = [.ref 23, .ref 1, .int (nI z), .ref 8, .null, .null, .null] ∧ σ2 = σ ∧ τ2 = τ) ∨ (6 = 6 ∧ ∃ (i2 : Nat) (o : Int32) (j : Value), i2 ≤ z ∧ μ' = z - i2 ∧ ([.ref 23, .ref 1, .int (nI z), .ref 8, .int r, .int (nI i + 1), j2] : List Value) = [.ref 23, .ref 1, .int (nI z), .ref 8, .int o, .int (nI i2), j] ∧ (j = .null ∨ ∃ jj : Int32, j = .int jj) ∧ frC σ σ2 τ τ2 ∧ msR (mvC σ2 τ2) ∧ ((o = 0 ∧ ms_run (σ 2) (sp_trap (σ 3)) (ms_w (σ 8 10) (σ 14) (σ 15)) (z - i2) (mvC σ2 τ2) = ms_run (σ 2) (sp_trap (σ 3)) (ms_w (σ 8 10) (σ 14) (σ 15)) z (mvC σ τ)) ∨ (¬ o = 0 ∧ (o, mvC σ2 τ2) = ms_run (σ 2) (sp_trap (σ 3)) (ms_w (σ 8 10) (σ 14) (σ 15)) z (mvC σ τ))))) := by
          intro j2 σ1 τ1 hj2 hfr1 hv1
          have hR1 : msR (mvC σ1 τ1) := by rw [hv1]; exact ms_w_R hR'
          have eq1 : σ1 2 = σ 2 := hfr1.1 _ (by omega)
          have eq2 : σ1 3 = σ 3 := hfr1.1 _ (by omega)
          refine ⟨⟨1, rfl, Or.inl rfl, Int32.le_iff_toInt_le.mpr hR1.2.1.1, hR1.2.1.2, Int32.le_iff_toInt_le.mpr hR1.2.2.1.1⟩, ?_⟩
          rintro r σ2 τ2 ⟨hs, hf2⟩
          rw [eq1, eq2, hv1] at hs
          have hs1 : (ms_step (σ 2) (sp_trap (σ 3)) (ms_w (σ 8 10) (σ 14) (σ 15) (mvC σ' τ'))).1 = r := by rw [← hs]
          have hs2 : (ms_step (σ 2) (sp_trap (σ 3)) (ms_w (σ 8 10) (σ 14) (σ 15) (mvC σ' τ'))).2 = mvC σ2 τ2 := by rw [← hs]
          refine ⟨z - (i + 1), by omega, rfl, rfl, Or.inr ⟨rfl, i + 1, r, j2, by omega, rfl, by rw [← nI_1], hj2, frC_tr hfr1 hf2, by rw [← hs2]; exact ms_step_R hf ht (ms_w_R hR'), ?_⟩⟩
          rw [e1] at hres2
          rw [← hres2]
          by_cases hr0 : r = 0
          · refine Or.inl ⟨hr0, ?_⟩
            show _ = ite _ _ _
            rw [if_pos (by rw [hs1]; exact hr0), hs2]
          · refine Or.inr ⟨hr0, ?_⟩
            show _ = ite _ _ _
            rw [if_neg (by rw [hs1]; exact hr0)]
            exact hs
        refine ⟨⟨_, rfl, by rw [e8]; exact hbc⟩, ?_⟩
        rintro _ σ' τ' ⟨rfl, rfl, rfl⟩
        have enh : sp_nhd (σ' 8 10) (σ' 14) (σ' 15) (σ' 23 6) = sp_nhd (σ 8 10) (σ 14) (σ 15) (ms_pc (mvC σ' τ')) := by rw [e8, e14, e15]; rfl
        rcases hj with rfl | ⟨jj, rfl⟩
        · refine br_c (fun h3 => ?_) (fun h3 => ⟨⟨_, rfl⟩, ?_⟩)
          · exact fin _ _ _ (Or.inr ⟨_, rfl⟩) hfr (by rw [enh] at h3; exact (if_pos h3).symm)
          · rintro _ _ _ ⟨rfl, rfl⟩
            refine fin _ _ _ (Or.inr ⟨_, rfl⟩) (frC_tr hfr (frC_w _ _)) ?_
            rw [enh] at h3
            refine Eq.trans ?_ (if_neg h3).symm
            rw [enh]
            rfl
        · refine br_c (fun h3 => ?_) (fun h3 => ⟨⟨_, rfl⟩, ?_⟩)
          · exact fin _ _ _ (Or.inr ⟨_, rfl⟩) hfr (by rw [enh] at h3; exact (if_pos h3).symm)
          · rintro _ _ _ ⟨rfl, rfl⟩
            refine fin _ _ _ (Or.inr ⟨_, rfl⟩) (frC_tr hfr (frC_w _ _)) ?_
            rw [enh] at h3
            refine Eq.trans ?_ (if_neg h3).symm
            rw [enh]
            rfl
