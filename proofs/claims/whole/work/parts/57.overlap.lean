/-! Analysis.isWithoutOverlap -/
def lenN (f : Nat → Int32) (x : Nat) : Nat := (sp_len (sp_kind (sp_at f (nI x)))).toNatClampNeg
theorem lenN_c (f : Nat → Int32) (x : Nat) : lenN f x = 1 ∨ lenN f x = 2 ∨ lenN f x = 3 := by
  unfold lenN
  rcases len_cases (sp_kind (sp_at f (nI x))) with h | h | h <;> rw [h]
  · exact Or.inl rfl
  · exact Or.inr (Or.inl rfl)
  · exact Or.inr (Or.inr rfl)
theorem lenN_I (f : Nat → Int32) (x : Nat) : sp_len (sp_kind (sp_at f (nI x))) = nI (lenN f x) := by
  unfold lenN
  rcases len_cases (sp_kind (sp_at f (nI x))) with h | h | h <;> rw [h] <;> rfl
theorem okR_len {f : Nat → Int32} {x : Nat} (hx : x < 96) (h : sp_okR f (nI x) 96) : x + lenN f x ≤ 96 := by
  have h4 := h.2.2.2
  rw [lenN_I, nI_add] at h4
  have hl := lenN_c f x
  exact (nI_leI (b := 96) (by omega) (by omega)).mp h4
/-- no two found instructions share a byte, none lies in a table -/
def anO (f : Nat → Int32) (F T : Nat → Prop) : Prop := (∀ x y, x < y → y < 96 → F x → F y → x + lenN f x ≤ y) ∧ ∀ x j, j < 96 → F x → x ≤ j → j < x + lenN f x → ¬ T j
def y_A_isWithoutOverlap : MethodName := ⟨RX0, "isWithoutOverlap", "(LBlockCounter$Program;)Z"⟩
def ws_A_isWithoutOverlap : List Cond := .code y_A_isWithoutOverlap prog_2_method_16_code 4 (some .boolean) :: evW
theorem d_A_isWithoutOverlap_0 : decode prog_2_method_16_code 0 = .ok (.iconst 0, 1) := by decide +kernel
theorem d_A_isWithoutOverlap_1 : decode prog_2_method_16_code 1 = .ok (.istore_n 2, 1) := by decide +kernel
theorem d_A_isWithoutOverlap_2 : decode prog_2_method_16_code 2 = .ok (.iconst 0, 1) := by decide +kernel
theorem d_A_isWithoutOverlap_3 : decode prog_2_method_16_code 3 = .ok (.istore_n 3, 1) := by decide +kernel
theorem d_A_isWithoutOverlap_4 : decode prog_2_method_16_code 4 = .ok (.iload_n 3, 1) := by decide +kernel
theorem d_A_isWithoutOverlap_5 : decode prog_2_method_16_code 5 = .ok (.bipush 96, 2) := by decide +kernel
theorem d_A_isWithoutOverlap_7 : decode prog_2_method_16_code 7 = .ok (.if_icmp .ge 63, 3) := by decide +kernel
theorem d_A_isWithoutOverlap_10 : decode prog_2_method_16_code 10 = .ok (.aload_n 0, 1) := by decide +kernel
theorem d_A_isWithoutOverlap_11 : decode prog_2_method_16_code 11 = .ok (.getfield 22, 3) := by decide +kernel
theorem d_A_isWithoutOverlap_14 : decode prog_2_method_16_code 14 = .ok (.iload_n 3, 1) := by decide +kernel
theorem d_A_isWithoutOverlap_15 : decode prog_2_method_16_code 15 = .ok (.baload, 1) := by decide +kernel
theorem d_A_isWithoutOverlap_16 : decode prog_2_method_16_code 16 = .ok (.ifCond .eq 32, 3) := by decide +kernel
theorem d_A_isWithoutOverlap_19 : decode prog_2_method_16_code 19 = .ok (.iload_n 3, 1) := by decide +kernel
theorem d_A_isWithoutOverlap_20 : decode prog_2_method_16_code 20 = .ok (.iload_n 2, 1) := by decide +kernel
theorem d_A_isWithoutOverlap_21 : decode prog_2_method_16_code 21 = .ok (.if_icmp .lt 17, 3) := by decide +kernel
theorem d_A_isWithoutOverlap_24 : decode prog_2_method_16_code 24 = .ok (.aload_n 0, 1) := by decide +kernel
theorem d_A_isWithoutOverlap_25 : decode prog_2_method_16_code 25 = .ok (.getfield 12, 3) := by decide +kernel
theorem d_A_isWithoutOverlap_28 : decode prog_2_method_16_code 28 = .ok (.aload_n 1, 1) := by decide +kernel
theorem d_A_isWithoutOverlap_29 : decode prog_2_method_16_code 29 = .ok (.iload_n 3, 1) := by decide +kernel
theorem d_A_isWithoutOverlap_30 : decode prog_2_method_16_code 30 = .ok (.bipush 96, 2) := by decide +kernel
theorem d_A_isWithoutOverlap_32 : decode prog_2_method_16_code 32 = .ok (.invokevirtual 90, 3) := by decide +kernel
theorem d_A_isWithoutOverlap_35 : decode prog_2_method_16_code 35 = .ok (.ifCond .ne 5, 3) := by decide +kernel
theorem d_A_isWithoutOverlap_38 : decode prog_2_method_16_code 38 = .ok (.iconst 0, 1) := by decide +kernel
theorem d_A_isWithoutOverlap_39 : decode prog_2_method_16_code 39 = .ok (.ireturn, 1) := by decide +kernel
theorem d_A_isWithoutOverlap_40 : decode prog_2_method_16_code 40 = .ok (.aload_n 0, 1) := by decide +kernel
theorem d_A_isWithoutOverlap_41 : decode prog_2_method_16_code 41 = .ok (.getfield 12, 3) := by decide +kernel
theorem d_A_isWithoutOverlap_44 : decode prog_2_method_16_code 44 = .ok (.invokevirtual 100, 3) := by decide +kernel
theorem d_A_isWithoutOverlap_47 : decode prog_2_method_16_code 47 = .ok (.istore_n 2, 1) := by decide +kernel
theorem d_A_isWithoutOverlap_48 : decode prog_2_method_16_code 48 = .ok (.iload_n 3, 1) := by decide +kernel
theorem d_A_isWithoutOverlap_49 : decode prog_2_method_16_code 49 = .ok (.iload_n 2, 1) := by decide +kernel
theorem d_A_isWithoutOverlap_50 : decode prog_2_method_16_code 50 = .ok (.if_icmp .ge 14, 3) := by decide +kernel
theorem d_A_isWithoutOverlap_53 : decode prog_2_method_16_code 53 = .ok (.aload_n 0, 1) := by decide +kernel
theorem d_A_isWithoutOverlap_54 : decode prog_2_method_16_code 54 = .ok (.getfield 29, 3) := by decide +kernel
theorem d_A_isWithoutOverlap_57 : decode prog_2_method_16_code 57 = .ok (.iload_n 3, 1) := by decide +kernel
theorem d_A_isWithoutOverlap_58 : decode prog_2_method_16_code 58 = .ok (.baload, 1) := by decide +kernel
theorem d_A_isWithoutOverlap_59 : decode prog_2_method_16_code 59 = .ok (.ifCond .eq 5, 3) := by decide +kernel
theorem d_A_isWithoutOverlap_62 : decode prog_2_method_16_code 62 = .ok (.iconst 0, 1) := by decide +kernel
theorem d_A_isWithoutOverlap_63 : decode prog_2_method_16_code 63 = .ok (.ireturn, 1) := by decide +kernel
theorem d_A_isWithoutOverlap_64 : decode prog_2_method_16_code 64 = .ok (.iinc 3 1, 3) := by decide +kernel
theorem d_A_isWithoutOverlap_67 : decode prog_2_method_16_code 67 = .ok (.goto (-63), 3) := by decide +kernel
theorem d_A_isWithoutOverlap_70 : decode prog_2_method_16_code 70 = .ok (.iconst 1, 1) := by decide +kernel
theorem d_A_isWithoutOverlap_71 : decode prog_2_method_16_code 71 = .ok (.ireturn, 1) := by decide +kernel
def I_A_isWithoutOverlap (P : Bool → ev_M → ev_L → Prop) : List (Nat × ev_T) := [(0, tt_k 0 1),
  (1, tt_is 2 2),
  (2, tt_k 0 3),
  (3, tt_is 3 4),
  (4, tt_il 3 5),
  (5, tt_k 96 7),
  (7, tt_icge 70 10),
  (10, tt_al 0 11),
  (11, tt_gf evLY 0 2 14),
  (14, tt_il 3 15),
  (15, tt_za evLY 16),
  (16, tt_ifeq 48 19),
  (19, tt_il 3 20),
  (20, tt_il 2 21),
  (21, tt_iclt 38 24),
  (24, tt_al 0 25),
  (25, tt_gf evLY 0 0 28),
  (28, tt_al 1 29),
  (29, tt_il 3 30),
  (30, tt_k 96 32),
  (32, tt_cV evLY 1 3 ev_b pre_I_read post_I_read 35),
  (35, tt_ifne 40 38),
  (38, tt_k 0 39),
  (39, tt_rz P),
  (40, tt_al 0 41),
  (41, tt_gf evLY 0 0 44),
  (44, tt_cV evLY 1 0 ev_i pre_I_behind post_I_behind 47),
  (47, tt_is 2 48),
  (48, tt_il 3 49),
  (49, tt_il 2 50),
  (50, tt_icge 64 53),
  (53, tt_al 0 54),
  (54, tt_gf evLY 0 4 57),
  (57, tt_il 3 58),
  (58, tt_za evLY 59),
  (59, tt_ifeq 64 62),
  (62, tt_k 0 63),
  (63, tt_rz P),
  (64, tt_ii 3 1 67),
  (67, tt_go 4),
  (70, tt_k 1 71),
  (71, tt_rz P)]
abbrev rm_A_isWithoutOverlap : Room := { frames := 3, cells := 0, slots := 0, locals := 96 }
set_option maxRecDepth 20000 in
theorem ok_A_isWithoutOverlap (l : Launch) (J : ev_K) (P : Bool → ev_M → ev_L → Prop) (X : ev_X l rm_A_isWithoutOverlap evLY evCl ws_A_isWithoutOverlap prog_2_method_16_code 4 y_A_isWithoutOverlap.cls J) (Z : ev_Z J prog_2_method_16_code .ireturn ev_b P) : ev_oks J (I_A_isWithoutOverlap P) :=
  ⟨qq_ic X 0 (by decide) d_A_isWithoutOverlap_0,
  qq_isn X 2 rfl (by decide) d_A_isWithoutOverlap_1,
  qq_ic X 0 (by decide) d_A_isWithoutOverlap_2,
  qq_isn X 3 rfl (by decide) d_A_isWithoutOverlap_3,
  qq_iln X 3 rfl d_A_isWithoutOverlap_4,
  qq_bp X 96 (by decide) d_A_isWithoutOverlap_5,
  qq_icge X 70 (by decide) d_A_isWithoutOverlap_7,
  qq_aln X 0 rfl d_A_isWithoutOverlap_10,
  qq_gf X 0 2 rfl (fun w h => List.mem_cons_of_mem _ (inE_A w h)) (by decide) (List.mem_cons_of_mem _ mw_97) d_A_isWithoutOverlap_11,
  qq_iln X 3 rfl d_A_isWithoutOverlap_14,
  qq_za X d_A_isWithoutOverlap_15,
  qq_ifeq X 48 (by decide) d_A_isWithoutOverlap_16,
  qq_iln X 3 rfl d_A_isWithoutOverlap_19,
  qq_iln X 2 rfl d_A_isWithoutOverlap_20,
  qq_iclt X 38 (by decide) d_A_isWithoutOverlap_21,
  qq_aln X 0 rfl d_A_isWithoutOverlap_24,
  qq_gf X 0 0 rfl (fun w h => List.mem_cons_of_mem _ (inE_A w h)) (by decide) (List.mem_cons_of_mem _ mw_95) d_A_isWithoutOverlap_25,
  qq_aln X 1 rfl d_A_isWithoutOverlap_28,
  qq_iln X 3 rfl d_A_isWithoutOverlap_29,
  qq_bp X 96 (by decide) d_A_isWithoutOverlap_30,
  qq_cV X 1 rfl (c_I_read l) (fun hts => cwV 3 hts (evGV (mw_418) (mw_419) (mw_420) (mw_5) (mw_421)) rfl rfl rfl (by decide +kernel) ⟨Nat.le_of_ble_eq_true rfl, Nat.le_of_ble_eq_true rfl⟩) d_A_isWithoutOverlap_32,
  qq_ifne X 40 (by decide) d_A_isWithoutOverlap_35,
  qq_ic X 0 (by decide) d_A_isWithoutOverlap_38,
  qq_rz Z d_A_isWithoutOverlap_39,
  qq_aln X 0 rfl d_A_isWithoutOverlap_40,
  qq_gf X 0 0 rfl (fun w h => List.mem_cons_of_mem _ (inE_A w h)) (by decide) (List.mem_cons_of_mem _ mw_95) d_A_isWithoutOverlap_41,
  qq_cV X 1 rfl (c_I_behind l) (fun hts => cwV 0 hts (evGV (mw_441) (mw_430) (mw_431) (mw_5) (mw_432)) rfl rfl rfl (by decide +kernel) ⟨Nat.le_of_ble_eq_true rfl, Nat.le_of_ble_eq_true rfl⟩) d_A_isWithoutOverlap_44,
  qq_isn X 2 rfl (by decide) d_A_isWithoutOverlap_47,
  qq_iln X 3 rfl d_A_isWithoutOverlap_48,
  qq_iln X 2 rfl d_A_isWithoutOverlap_49,
  qq_icge X 64 (by decide) d_A_isWithoutOverlap_50,
  qq_aln X 0 rfl d_A_isWithoutOverlap_53,
  qq_gf X 0 4 rfl (fun w h => List.mem_cons_of_mem _ (inE_A w h)) (by decide) (List.mem_cons_of_mem _ mw_99) d_A_isWithoutOverlap_54,
  qq_iln X 3 rfl d_A_isWithoutOverlap_57,
  qq_za X d_A_isWithoutOverlap_58,
  qq_ifeq X 64 (by decide) d_A_isWithoutOverlap_59,
  qq_ic X 0 (by decide) d_A_isWithoutOverlap_62,
  qq_rz Z d_A_isWithoutOverlap_63,
  qq_ii X 3 1 (by decide) (by decide) d_A_isWithoutOverlap_64,
  qq_go X 4 (by decide) d_A_isWithoutOverlap_67,
  qq_ic X 1 (by decide) d_A_isWithoutOverlap_70,
  qq_rz Z d_A_isWithoutOverlap_71, trivial⟩
def pre_A_isWithoutOverlap : List Value → ev_M → ev_L → Prop := fun as σ _ => ∃ c : Nat, as = [.ref 8, .ref 1] ∧ anW σ c ∧ ∀ x, x < 96 → σ 11 x = 1 → sp_okR (σ 2) (nI x) 96
def post_A_isWithoutOverlap : List Value → ev_M → ev_L → Bool → ev_M → ev_L → Prop := fun _ σ τ r σ' τ' => τ' = τ ∧ (∀ k, ¬ k = 9 → σ' k = σ k) ∧ (r = true ↔ anO (σ 2) (fun x => σ 11 x = 1 ∧ x < 96) (fun x => σ 13 x = 1))
set_option maxHeartbeats 4000000 in
set_option maxRecDepth 100000 in
theorem c_A_isWithoutOverlap (l : Launch) : ev_C ev_b l y_A_isWithoutOverlap ws_A_isWithoutOverlap rm_A_isWithoutOverlap evLY evCl pre_A_isWithoutOverlap post_A_isWithoutOverlap := by
  refine ev_methL (by decide) rfl ev_rop_b ?_ I_A_isWithoutOverlap (ok_A_isWithoutOverlap l) [4] 60 ?_
  · rintro _ σ τ ⟨c, rfl, h⟩
    exact Nat.le_of_ble_eq_true rfl
  · rintro _ σ τ ⟨c, rfl, hw, hok⟩
    have hb := hw.2.2.1
    refine ⟨fun μ pc lv st σ' τ' z => st = [] ∧ z = 0 ∧ τ = τ' ∧ ((pc = 0 ∧ μ = 500 ∧ lv = [.ref 8, .ref 1, .null, .null] ∧ σ = σ') ∨ (pc = 4 ∧ ∃ i fr : Nat, i ≤ 96 ∧ fr ≤ 96 ∧ μ = 96 - i ∧ lv = [.ref 8, .ref 1, .int (nI fr), .int (nI i)] ∧ (∀ k, ¬ k = 9 → σ' k = σ k) ∧ (∀ x, x < i → σ 11 x = 1 → x + lenN (σ 2) x ≤ fr) ∧ (fr = 0 ∨ ∃ x, x < i ∧ σ 11 x = 1 ∧ x + lenN (σ 2) x = fr) ∧ (∀ x y, x < y → y < i → σ 11 x = 1 → σ 11 y = 1 → x + lenN (σ 2) x ≤ y) ∧ (∀ x j, j < i → σ 11 x = 1 → x ≤ j → j < x + lenN (σ 2) x → ¬ σ 13 j = 1))), ⟨500, rfl, rfl, rfl, Or.inl ⟨rfl, rfl, rfl, rfl⟩⟩, ?_⟩
    rintro μ pc lv st σ' τ' z ⟨rfl, rfl, rfl, ⟨rfl, rfl, rfl, rfl⟩ | ⟨rfl, i, fr, hi, hfr, rfl, rfl, hF, h1, h2, h3, h4⟩⟩
    · exact ⟨96, by omega, rfl, rfl, rfl, Or.inr ⟨rfl, 0, 0, by omega, by omega, rfl, rfl, fun _ _ => rfl, fun x hx => by omega, Or.inl rfl, fun x y _ hy => by omega, fun x j hj => by omega⟩⟩
    · have e11 : σ' 11 = σ 11 := hF 11 (by decide)
      have e13 : σ' 13 = σ 13 := hF 13 (by decide)
      have e2 : σ' 2 = σ 2 := hF 2 (by decide)
      refine br_c (fun h => ?_) (fun h => ?_)
      · have hin : 96 ≤ i := (nI_leI (a := 96) (by omega) (by omega)).mp h
        have : i = 96 := by omega
        subst this
        refine ⟨true, rfl, rfl, hF, ⟨fun _ => ⟨fun x y a b c d => h3 x y a b c.1 d.1, fun x j a b c d => h4 x j a b.1 c d⟩, fun _ => rfl⟩⟩
      · have hin : i < 96 := Nat.not_le.mp fun q => h ((nI_leI (a := 96) (by omega) (by omega)).mpr q)
        have hv : vp_in (nI i) 96 := vp_in_nI hin (by omega)
        have hci : (nI i).toNatClampNeg = i := nI_clamp (by omega)
        -- behind the first half: the place that is free next
        have nx : ∀ (σ2 : ev_M) (f2 : Nat), f2 ≤ 96 → (∀ k, ¬ k = 9 → σ2 k = σ k) → (∀ x, x < i + 1 → σ 11 x = 1 → x + lenN (σ 2) x ≤ f2) → (f2 = 0 ∨ ∃ x, x < i + 1 ∧ σ 11 x = 1 ∧ x + lenN (σ 2) x = f2) → (∀ x y, x < y → y < i + 1 → σ 11 x = 1 → σ 11 y = 1 → x + lenN (σ 2) x ≤ y) → (nI f2 ≤ nI i → ∃ μ', μ' < 96 - i ∧ ([] : List Value) = [] ∧ 0 = 0 ∧ τ = τ ∧ ((4 = 0 ∧ μ' = 500 ∧ ([.ref 8, .ref 1, .int (nI f2), .int (nI i + 1)] : List Value) = [.ref 8, .ref 1, .null, .null] ∧ σ = σ2) ∨ (4 = 4 ∧ ∃ i2 fr : Nat, i2 ≤ 96 ∧ fr ≤ 96 ∧ μ' = 96 - i2 ∧ ([.ref 8, .ref 1, .int (nI f2), .int (nI i + 1)] : List Value) = [.ref 8, .ref 1, .int (nI fr), .int (nI i2)] ∧ (∀ k, ¬ k = 9 → σ2 k = σ k) ∧ (∀ x, x < i2 → σ 11 x = 1 → x + lenN (σ 2) x ≤ fr) ∧ (fr = 0 ∨ ∃ x, x < i2 ∧ σ 11 x = 1 ∧ x + lenN (σ 2) x = fr) ∧ (∀ x y, x < y → y < i2 → σ 11 x = 1 → σ 11 y = 1 → x + lenN (σ 2) x ≤ y) ∧ (∀ x j, j < i2 → σ 11 x = 1 → x ≤ j → j < x + lenN (σ 2) x → ¬ σ 13 j = 1)))) ∧ (¬ nI f2 ≤ nI i → vp_in (nI i) 96 ∧ ((σ2 13 (nI i).toNatClampNeg = 0 → ∃ μ', μ' < 96 - i ∧ ([] : List Value) = [] ∧ 0 = 0 ∧ τ = τ ∧ ((4 = 0 ∧ μ' = 500 ∧ ([.ref 8, .ref 1, .int (nI f2), .int (nI i + 1)] : List Value) = [.ref 8, .ref 1, .null, .null] ∧ σ = σ2) ∨ (4 = 4 ∧ ∃ i2 fr : Nat, i2 ≤ 96 ∧ fr ≤ 96 ∧ μ' = 96 - i2 ∧ ([.ref 8, .ref 1, .int (nI f2), .int (nI i + 1)] : List Value) = [.ref 8, .ref 1, .int (nI fr), .int (nI i2)] ∧ (∀ k, ¬ k = 9 → σ2 k = σ k) ∧ (∀ x, x < i2 → σ 11 x = 1 → x + lenN (σ 2) x ≤ fr) ∧ (fr = 0 ∨ ∃ x, x < i2 ∧ σ 11 x = 1 ∧ x + lenN (σ 2) x = fr) ∧ (∀ x y, x < y → y < i2 → σ 11 x = 1 → σ 11 y = 1 → x + lenN (σ 2) x ≤ y) ∧ (∀ x j, j < i2 → σ 11 x = 1 → x ≤ j → j < x + lenN (σ 2) x → ¬ σ 13 j = 1)))) ∧ (¬ σ2 13 (nI i).toNatClampNeg = 0 → ∃ b : Bool, (0 : Int32) = cond b 1 0 ∧ post_A_isWithoutOverlap [.ref 8, .ref 1] σ τ b σ2 τ))) := by
          intro σ2 f2 q1 q2 q3 q4 q5
          have goon : (∀ x, σ 11 x = 1 → x ≤ i → i < x + lenN (σ 2) x → ¬ σ 13 i = 1) → ∃ μ', μ' < 96 - i ∧ ([] : List Value) = [] ∧ 0 = 0 ∧ τ = τ ∧ ((4 = 0 ∧ μ' = 500 ∧ ([.ref 8, .ref 1, .int (nI f2), .int (nI i + 1)] : List Value) = [.ref 8, .ref 1, .null, .null] ∧ σ = σ2) ∨ (4 = 4 ∧ ∃ i2 fr : Nat, i2 ≤ 96 ∧ fr ≤ 96 ∧ μ' = 96 - i2 ∧ ([.ref 8, .ref 1, .int (nI f2), .int (nI i + 1)] : List Value) = [.ref 8, .ref 1, .int (nI fr), .int (nI i2)] ∧ (∀ k, ¬ k = 9 → σ2 k = σ k) ∧ (∀ x, x < i2 → σ 11 x = 1 → x + lenN (σ 2) x ≤ fr) ∧ (fr = 0 ∨ ∃ x, x < i2 ∧ σ 11 x = 1 ∧ x + lenN (σ 2) x = fr) ∧ (∀ x y, x < y → y < i2 → σ 11 x = 1 → σ 11 y = 1 → x + lenN (σ 2) x ≤ y) ∧ (∀ x j, j < i2 → σ 11 x = 1 → x ≤ j → j < x + lenN (σ 2) x → ¬ σ 13 j = 1))) := by
            intro hq
            refine ⟨96 - (i + 1), by omega, rfl, rfl, rfl, Or.inr ⟨rfl, i + 1, f2, by omega, q1, rfl, by rw [← nI_1], q2, q3, q4, q5, fun x j a b c d => ?_⟩⟩
            by_cases hji : j = i
            · subst hji; exact hq x b c d
            · exact h4 x j (by omega) b c d
          refine ⟨fun q => goon fun x a b d => ?_, fun q => ⟨hv, fun w => goon fun x a b d => ?_, fun w => ?_⟩⟩
          · have q' := (nI_leI (by omega) (by omega)).mp q
            have := q3 x (by omega) a
            omega
          · rw [hci, q2 13 (by decide)] at w
            rw [w]; decide
          · refine ⟨false, rfl, rfl, q2, ⟨fun r => (by cases r), fun r => ?_⟩⟩
            have q' : i < f2 := Nat.not_le.mp fun e => q ((nI_leI (by omega) (by omega)).mpr e)
            rw [hci, q2 13 (by decide)] at w
            have w1 : σ 13 i = 1 := (hb i hin).2.2.resolve_left w
            rcases q4 with q4 | ⟨x, x1, x2, x3⟩
            · omega
            · exact absurd w1 (r.2 x i hin ⟨x2, by omega⟩ (by omega) (by omega))
        refine ⟨hv, ?_⟩
        rw [hci, e11]
        refine br_c (fun hz => ?_) (fun hz => ?_)
        · -- nothing begins here
          have hz' : ¬ σ 11 i = 1 := by rw [hz]; decide
          refine nx σ' fr hfr hF (fun x hx hx1 => ?_) ?_ (fun x y a b c d => ?_)
          · by_cases hxi : x = i
            · subst hxi; exact absurd hx1 hz'
            · exact h1 x (by omega) hx1
          · rcases h2 with h2 | ⟨x, x1, x2, x3⟩
            · exact Or.inl h2
            · exact Or.inr ⟨x, by omega, x2, x3⟩
          · by_cases hyi : y = i
            · subst hyi; exact absurd d hz'
            · exact h3 x y a (by omega) c d
        · have hz1 : σ 11 i = 1 := (hb i hin).1.resolve_left hz
          refine br_c (fun hlt => ?_) (fun hlt => ?_)
          · -- an overlap
            have hlt' : i < fr := (nI_ltI (by omega) (by omega)).mp hlt
            refine ⟨false, rfl, rfl, hF, ⟨fun r => (by cases r), fun r => ?_⟩⟩
            rcases h2 with h2 | ⟨x, x1, x2, x3⟩
            · omega
            · have := r.1 x i (by omega) hin ⟨x2, by omega⟩ ⟨hz1, hin⟩
              omega
          · have hge : fr ≤ i := Nat.not_lt.mp fun q => hlt ((nI_ltI (by omega) (by omega)).mpr q)
            refine ⟨⟨_, _, _, _, rfl, by decide⟩, ?_⟩
            rintro _ σ2 τ ⟨rfl, ⟨rfl, _, rfl⟩ | ⟨rfl, hno, _⟩⟩
            · refine br_nt (by decide) ?_
              refine ⟨⟨_, rfl, by decide⟩, ?_⟩
              rintro _ _ τ ⟨rfl, rfl, rfl⟩
              have hbh : (sp_rd2 σ' 9 (σ' (1 + 1)) (nI i)) 9 0 + sp_len ((sp_rd2 σ' 9 (σ' (1 + 1)) (nI i)) 9 2) = nI (i + lenN (σ 2) i) := by
                show nI i + sp_len (sp_kind (sp_at (σ' 2) (nI i))) = _
                rw [e2, lenN_I, nI_add]
              rw [hbh]
              have hfr2 : ∀ k, ¬ k = 9 → sp_rd2 σ' 9 (σ' (1 + 1)) (nI i) k = σ k := fun k hk => by
                have : sp_rd2 σ' 9 (σ' (1 + 1)) (nI i) k = σ' k := by simp [sp_rd2, sp_rd1, ev_u, ev_p, hk]
                rw [this]; exact hF k hk
              have hle := okR_len hin (hok i hin hz1)
              have hl := lenN_c (σ 2) i
              refine nx _ (i + lenN (σ 2) i) hle hfr2 (fun x hx hx1 => ?_) (Or.inr ⟨i, by omega, hz1, rfl⟩) (fun x y a b c d => ?_)
              · by_cases hxi : x = i
                · subst hxi; exact Nat.le_refl _
                · have := h1 x (by omega) hx1
                  omega
              · by_cases hyi : y = i
                · subst hyi
                  have := h1 x (by omega) c
                  omega
                · exact h3 x y a (by omega) c d
            · exact absurd (by rw [show σ' (1 + 1) = σ 2 from e2]; exact hok i hin hz1) hno
