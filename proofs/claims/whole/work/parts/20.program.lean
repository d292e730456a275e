/-! Program -/
def sp_at (f : Nat → Int32) (a : Int32) : Int32 := if 0 ≤ a ∧ a < 256 then f a.toNatClampNeg else 0
def y_P_at : MethodName := ⟨RX3, "at", "(I)I"⟩
def ws_P_at : List Cond := .code y_P_at prog_5_method_2_code 2 (some .int) :: evW
theorem d_P_at_0 : decode prog_5_method_2_code 0 = .ok (.iload_n 1, 1) := by decide +kernel
theorem d_P_at_1 : decode prog_5_method_2_code 1 = .ok (.ifCond .lt 19, 3) := by decide +kernel
theorem d_P_at_4 : decode prog_5_method_2_code 4 = .ok (.iload_n 1, 1) := by decide +kernel
theorem d_P_at_5 : decode prog_5_method_2_code 5 = .ok (.sipush 256, 3) := by decide +kernel
theorem d_P_at_8 : decode prog_5_method_2_code 8 = .ok (.if_icmp .ge 12, 3) := by decide +kernel
theorem d_P_at_11 : decode prog_5_method_2_code 11 = .ok (.aload_n 0, 1) := by decide +kernel
theorem d_P_at_12 : decode prog_5_method_2_code 12 = .ok (.getfield 9, 3) := by decide +kernel
theorem d_P_at_15 : decode prog_5_method_2_code 15 = .ok (.iload_n 1, 1) := by decide +kernel
theorem d_P_at_16 : decode prog_5_method_2_code 16 = .ok (.iaload, 1) := by decide +kernel
theorem d_P_at_17 : decode prog_5_method_2_code 17 = .ok (.goto 4, 3) := by decide +kernel
theorem d_P_at_20 : decode prog_5_method_2_code 20 = .ok (.iconst 0, 1) := by decide +kernel
theorem d_P_at_21 : decode prog_5_method_2_code 21 = .ok (.ireturn, 1) := by decide +kernel
def I_P_at (P : Int32 → ev_M → ev_L → Prop) : List (Nat × ev_T) := [(0, tt_il 1 1),
  (1, tt_iflt 20 4),
  (4, tt_il 1 5),
  (5, tt_k 256 8),
  (8, tt_icge 20 11),
  (11, tt_al 0 12),
  (12, tt_gf evLY 3 0 15),
  (15, tt_il 1 16),
  (16, tt_ia evLY 17),
  (17, tt_go 21),
  (20, tt_k 0 21),
  (21, tt_ri P)]
abbrev rm_P_at : Room := { frames := 0, cells := 0, slots := 0, locals := 0 }
set_option maxRecDepth 20000 in
theorem ok_P_at (l : Launch) (J : ev_K) (P : Int32 → ev_M → ev_L → Prop) (X : ev_X l rm_P_at evLY evCl ws_P_at prog_5_method_2_code 2 y_P_at.cls J) (Z : ev_Z J prog_5_method_2_code .ireturn ev_i P) : ev_oks J (I_P_at P) :=
  ⟨qq_iln X 1 rfl d_P_at_0,
  qq_iflt X 20 (by decide) d_P_at_1,
  qq_iln X 1 rfl d_P_at_4,
  qq_sp X 256 (by decide) d_P_at_5,
  qq_icge X 20 (by decide) d_P_at_8,
  qq_aln X 0 rfl d_P_at_11,
  qq_gf X 3 0 rfl (fun w h => List.mem_cons_of_mem _ (inE_P w h)) (by decide) (List.mem_cons_of_mem _ mw_33) d_P_at_12,
  qq_iln X 1 rfl d_P_at_15,
  qq_ia X d_P_at_16,
  qq_go X 21 (by decide) d_P_at_17,
  qq_ic X 0 (by decide) d_P_at_20,
  qq_ri Z d_P_at_21, trivial⟩
def pre_P_at : List Value → ev_M → ev_L → Prop := fun as _ _ => ∃ (k : Nat) (a : Int32), as = [.ref k, .int a] ∧ (k = 1 ∨ k = 20)
def post_P_at : List Value → ev_M → ev_L → Int32 → ev_M → ev_L → Prop := fun as σ τ r σ' τ' => match as with
  | [.ref k, .int a] => r = sp_at (σ (k + 1)) a ∧ σ' = σ ∧ τ' = τ
  | _ => False
theorem c_P_at (l : Launch) : ev_C ev_i l y_P_at ws_P_at rm_P_at evLY evCl pre_P_at post_P_at := by
  refine ev_meth0 (by decide) rfl ev_rop_i ?_ I_P_at (ok_P_at l) 30 ?_
  · rintro _ σ τ ⟨k, a, rfl, hk⟩
    exact Nat.le_refl _
  · rintro _ σ τ ⟨k, a, rfl, rfl | rfl⟩
    · refine ⟨fun h => ?_, fun h => ⟨fun h2 => ?_, fun h2 => ?_⟩⟩
      all_goals sorry
    · sorry
