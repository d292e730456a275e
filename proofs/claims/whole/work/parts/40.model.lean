/-! the reference: small methods -/
def sd_size (x : Int32) : Int32 := if x < 48 then 1 else if x < 71 then 2 else if x = 71 ∨ 77 < x then 0 else if x = 76 then 2 else 3
def y_D_sizeOf : MethodName := ⟨RD, "sizeOf", "(I)I"⟩
def ws_D_sizeOf : List Cond := .code y_D_sizeOf prog_9_method_8_code 1 (some .int) :: evW
theorem d_D_sizeOf_0 : decode prog_9_method_8_code 0 = .ok (.iload_n 0, 1) := by decide +kernel
theorem d_D_sizeOf_1 : decode prog_9_method_8_code 1 = .ok (.bipush 48, 2) := by decide +kernel
theorem d_D_sizeOf_3 : decode prog_9_method_8_code 3 = .ok (.if_icmp .ge 5, 3) := by decide +kernel
theorem d_D_sizeOf_6 : decode prog_9_method_8_code 6 = .ok (.iconst 1, 1) := by decide +kernel
theorem d_D_sizeOf_7 : decode prog_9_method_8_code 7 = .ok (.ireturn, 1) := by decide +kernel
theorem d_D_sizeOf_8 : decode prog_9_method_8_code 8 = .ok (.iload_n 0, 1) := by decide +kernel
theorem d_D_sizeOf_9 : decode prog_9_method_8_code 9 = .ok (.bipush 71, 2) := by decide +kernel
theorem d_D_sizeOf_11 : decode prog_9_method_8_code 11 = .ok (.if_icmp .ge 5, 3) := by decide +kernel
theorem d_D_sizeOf_14 : decode prog_9_method_8_code 14 = .ok (.iconst 2, 1) := by decide +kernel
theorem d_D_sizeOf_15 : decode prog_9_method_8_code 15 = .ok (.ireturn, 1) := by decide +kernel
theorem d_D_sizeOf_16 : decode prog_9_method_8_code 16 = .ok (.iload_n 0, 1) := by decide +kernel
theorem d_D_sizeOf_17 : decode prog_9_method_8_code 17 = .ok (.bipush 71, 2) := by decide +kernel
theorem d_D_sizeOf_19 : decode prog_9_method_8_code 19 = .ok (.if_icmp .eq 9, 3) := by decide +kernel
theorem d_D_sizeOf_22 : decode prog_9_method_8_code 22 = .ok (.iload_n 0, 1) := by decide +kernel
theorem d_D_sizeOf_23 : decode prog_9_method_8_code 23 = .ok (.bipush 77, 2) := by decide +kernel
theorem d_D_sizeOf_25 : decode prog_9_method_8_code 25 = .ok (.if_icmp .le 5, 3) := by decide +kernel
theorem d_D_sizeOf_28 : decode prog_9_method_8_code 28 = .ok (.iconst 0, 1) := by decide +kernel
theorem d_D_sizeOf_29 : decode prog_9_method_8_code 29 = .ok (.ireturn, 1) := by decide +kernel
theorem d_D_sizeOf_30 : decode prog_9_method_8_code 30 = .ok (.iload_n 0, 1) := by decide +kernel
theorem d_D_sizeOf_31 : decode prog_9_method_8_code 31 = .ok (.bipush 76, 2) := by decide +kernel
theorem d_D_sizeOf_33 : decode prog_9_method_8_code 33 = .ok (.if_icmp .ne 7, 3) := by decide +kernel
theorem d_D_sizeOf_36 : decode prog_9_method_8_code 36 = .ok (.iconst 2, 1) := by decide +kernel
theorem d_D_sizeOf_37 : decode prog_9_method_8_code 37 = .ok (.goto 4, 3) := by decide +kernel
theorem d_D_sizeOf_40 : decode prog_9_method_8_code 40 = .ok (.iconst 3, 1) := by decide +kernel
theorem d_D_sizeOf_41 : decode prog_9_method_8_code 41 = .ok (.ireturn, 1) := by decide +kernel
def I_D_sizeOf (P : Int32 → ev_M → ev_L → Prop) : List (Nat × ev_T) := [(0, tt_il 0 1),
  (1, tt_k 48 3),
  (3, tt_icge 8 6),
  (6, tt_k 1 7),
  (7, tt_ri P),
  (8, tt_il 0 9),
  (9, tt_k 71 11),
  (11, tt_icge 16 14),
  (14, tt_k 2 15),
  (15, tt_ri P),
  (16, tt_il 0 17),
  (17, tt_k 71 19),
  (19, tt_iceq 28 22),
  (22, tt_il 0 23),
  (23, tt_k 77 25),
  (25, tt_icle 30 28),
  (28, tt_k 0 29),
  (29, tt_ri P),
  (30, tt_il 0 31),
  (31, tt_k 76 33),
  (33, tt_icne 40 36),
  (36, tt_k 2 37),
  (37, tt_go 41),
  (40, tt_k 3 41),
  (41, tt_ri P)]
abbrev rm_D_sizeOf : Room := { frames := 0, cells := 0, slots := 0, locals := 0 }
set_option maxRecDepth 20000 in
theorem ok_D_sizeOf (l : Launch) (J : ev_K) (P : Int32 → ev_M → ev_L → Prop) (X : ev_X l rm_D_sizeOf evLY evCl ws_D_sizeOf prog_9_method_8_code 1 y_D_sizeOf.cls J) (Z : ev_Z J prog_9_method_8_code .ireturn ev_i P) : ev_oks J (I_D_sizeOf P) :=
  ⟨qq_iln X 0 rfl d_D_sizeOf_0,
  qq_bp X 48 (by decide) d_D_sizeOf_1,
  qq_icge X 8 (by decide) d_D_sizeOf_3,
  qq_ic X 1 (by decide) d_D_sizeOf_6,
  qq_ri Z d_D_sizeOf_7,
  qq_iln X 0 rfl d_D_sizeOf_8,
  qq_bp X 71 (by decide) d_D_sizeOf_9,
  qq_icge X 16 (by decide) d_D_sizeOf_11,
  qq_ic X 2 (by decide) d_D_sizeOf_14,
  qq_ri Z d_D_sizeOf_15,
  qq_iln X 0 rfl d_D_sizeOf_16,
  qq_bp X 71 (by decide) d_D_sizeOf_17,
  qq_iceq X 28 (by decide) d_D_sizeOf_19,
  qq_iln X 0 rfl d_D_sizeOf_22,
  qq_bp X 77 (by decide) d_D_sizeOf_23,
  qq_icle X 30 (by decide) d_D_sizeOf_25,
  qq_ic X 0 (by decide) d_D_sizeOf_28,
  qq_ri Z d_D_sizeOf_29,
  qq_iln X 0 rfl d_D_sizeOf_30,
  qq_bp X 76 (by decide) d_D_sizeOf_31,
  qq_icne X 40 (by decide) d_D_sizeOf_33,
  qq_ic X 2 (by decide) d_D_sizeOf_36,
  qq_go X 41 (by decide) d_D_sizeOf_37,
  qq_ic X 3 (by decide) d_D_sizeOf_40,
  qq_ri Z d_D_sizeOf_41, trivial⟩
def pre_D_sizeOf : List Value → ev_M → ev_L → Prop := fun as σ τ => ∃ (x : Int32), as = [.int x]
def post_D_sizeOf : List Value → ev_M → ev_L → Int32 → ev_M → ev_L → Prop := fun as σ τ r σ' τ' => match as with
  | [.int x] => r = sd_size x ∧ σ' = σ ∧ τ' = τ
  | _ => False
set_option maxHeartbeats 4000000 in
set_option maxRecDepth 100000 in
theorem c_D_sizeOf (l : Launch) : ev_C ev_i l y_D_sizeOf ws_D_sizeOf rm_D_sizeOf evLY evCl pre_D_sizeOf post_D_sizeOf := by
  refine ev_meth0 (by decide) rfl ev_rop_i ?_ I_D_sizeOf (ok_D_sizeOf l) 60 ?_
  · rintro _ σ τ ⟨x, rfl⟩
    exact Nat.le_of_ble_eq_true rfl
  · rintro _ σ τ ⟨x, rfl⟩
    repeat' first | refine br_c (fun _ => ?_) (fun _ => ?_) | refine br_n (fun _ => ?_) (fun _ => ?_)
    all_goals
      refine ⟨?_, rfl, rfl⟩
      unfold sd_size
      repeat' split
      all_goals first | rfl | (exfalso; simp only [Int32.lt_iff_toInt_lt, Int32.le_iff_toInt_le, ← Int32.toInt_inj, Int32.reduceToInt] at *; omega)
def sd_br (x : Int32) : Bool := decide (60 ≤ x ∧ x ≤ 68)
def sd_cond (x : Int32) : Bool := decide (60 ≤ x ∧ x < 68)
def sd_sw (x : Int32) : Bool := decide (72 ≤ x ∧ x < 76)
def y_D_branches : MethodName := ⟨RD, "branches", "(I)Z"⟩
def ws_D_branches : List Cond := .code y_D_branches prog_9_method_9_code 1 (some .boolean) :: evW
theorem d_D_branches_0 : decode prog_9_method_9_code 0 = .ok (.iload_n 0, 1) := by decide +kernel
theorem d_D_branches_1 : decode prog_9_method_9_code 1 = .ok (.bipush 60, 2) := by decide +kernel
theorem d_D_branches_3 : decode prog_9_method_9_code 3 = .ok (.if_icmp .lt 13, 3) := by decide +kernel
theorem d_D_branches_6 : decode prog_9_method_9_code 6 = .ok (.iload_n 0, 1) := by decide +kernel
theorem d_D_branches_7 : decode prog_9_method_9_code 7 = .ok (.bipush 68, 2) := by decide +kernel
theorem d_D_branches_9 : decode prog_9_method_9_code 9 = .ok (.if_icmp .gt 7, 3) := by decide +kernel
theorem d_D_branches_12 : decode prog_9_method_9_code 12 = .ok (.iconst 1, 1) := by decide +kernel
theorem d_D_branches_13 : decode prog_9_method_9_code 13 = .ok (.goto 4, 3) := by decide +kernel
theorem d_D_branches_16 : decode prog_9_method_9_code 16 = .ok (.iconst 0, 1) := by decide +kernel
theorem d_D_branches_17 : decode prog_9_method_9_code 17 = .ok (.ireturn, 1) := by decide +kernel
def I_D_branches (P : Bool → ev_M → ev_L → Prop) : List (Nat × ev_T) := [(0, tt_il 0 1),
  (1, tt_k 60 3),
  (3, tt_iclt 16 6),
  (6, tt_il 0 7),
  (7, tt_k 68 9),
  (9, tt_icgt 16 12),
  (12, tt_k 1 13),
  (13, tt_go 17),
  (16, tt_k 0 17),
  (17, tt_rz P)]
abbrev rm_D_branches : Room := { frames := 0, cells := 0, slots := 0, locals := 0 }
set_option maxRecDepth 20000 in
theorem ok_D_branches (l : Launch) (J : ev_K) (P : Bool → ev_M → ev_L → Prop) (X : ev_X l rm_D_branches evLY evCl ws_D_branches prog_9_method_9_code 1 y_D_branches.cls J) (Z : ev_Z J prog_9_method_9_code .ireturn ev_b P) : ev_oks J (I_D_branches P) :=
  ⟨qq_iln X 0 rfl d_D_branches_0,
  qq_bp X 60 (by decide) d_D_branches_1,
  qq_iclt X 16 (by decide) d_D_branches_3,
  qq_iln X 0 rfl d_D_branches_6,
  qq_bp X 68 (by decide) d_D_branches_7,
  qq_icgt X 16 (by decide) d_D_branches_9,
  qq_ic X 1 (by decide) d_D_branches_12,
  qq_go X 17 (by decide) d_D_branches_13,
  qq_ic X 0 (by decide) d_D_branches_16,
  qq_rz Z d_D_branches_17, trivial⟩
def pre_D_branches : List Value → ev_M → ev_L → Prop := fun as σ τ => ∃ (x : Int32), as = [.int x]
def post_D_branches : List Value → ev_M → ev_L → Bool → ev_M → ev_L → Prop := fun as σ τ r σ' τ' => match as with
  | [.int x] => r = sd_br x ∧ σ' = σ ∧ τ' = τ
  | _ => False
set_option maxHeartbeats 4000000 in
set_option maxRecDepth 100000 in
theorem c_D_branches (l : Launch) : ev_C ev_b l y_D_branches ws_D_branches rm_D_branches evLY evCl pre_D_branches post_D_branches := by
  refine ev_meth0 (by decide) rfl ev_rop_b ?_ I_D_branches (ok_D_branches l) 60 ?_
  · rintro _ σ τ ⟨x, rfl⟩
    exact Nat.le_of_ble_eq_true rfl
  · rintro _ σ τ ⟨x, rfl⟩
    repeat' first | refine br_c (fun _ => ?_) (fun _ => ?_) | refine br_n (fun _ => ?_) (fun _ => ?_)
    all_goals
      first
      | exact ⟨true, rfl, (decide_eq_true (by simp only [Int32.lt_iff_toInt_lt, Int32.le_iff_toInt_le, ← Int32.toInt_inj, Int32.reduceToInt] at *; omega)).symm, rfl, rfl⟩
      | exact ⟨false, rfl, (decide_eq_false (by simp only [Int32.lt_iff_toInt_lt, Int32.le_iff_toInt_le, ← Int32.toInt_inj, Int32.reduceToInt] at *; omega)).symm, rfl, rfl⟩
def y_D_isConditional : MethodName := ⟨RD, "isConditional", "(I)Z"⟩
def ws_D_isConditional : List Cond := .code y_D_isConditional prog_9_method_10_code 1 (some .boolean) :: evW
theorem d_D_isConditional_0 : decode prog_9_method_10_code 0 = .ok (.iload_n 0, 1) := by decide +kernel
theorem d_D_isConditional_1 : decode prog_9_method_10_code 1 = .ok (.bipush 60, 2) := by decide +kernel
theorem d_D_isConditional_3 : decode prog_9_method_10_code 3 = .ok (.if_icmp .lt 13, 3) := by decide +kernel
theorem d_D_isConditional_6 : decode prog_9_method_10_code 6 = .ok (.iload_n 0, 1) := by decide +kernel
theorem d_D_isConditional_7 : decode prog_9_method_10_code 7 = .ok (.bipush 68, 2) := by decide +kernel
theorem d_D_isConditional_9 : decode prog_9_method_10_code 9 = .ok (.if_icmp .ge 7, 3) := by decide +kernel
theorem d_D_isConditional_12 : decode prog_9_method_10_code 12 = .ok (.iconst 1, 1) := by decide +kernel
theorem d_D_isConditional_13 : decode prog_9_method_10_code 13 = .ok (.goto 4, 3) := by decide +kernel
theorem d_D_isConditional_16 : decode prog_9_method_10_code 16 = .ok (.iconst 0, 1) := by decide +kernel
theorem d_D_isConditional_17 : decode prog_9_method_10_code 17 = .ok (.ireturn, 1) := by decide +kernel
def I_D_isConditional (P : Bool → ev_M → ev_L → Prop) : List (Nat × ev_T) := [(0, tt_il 0 1),
  (1, tt_k 60 3),
  (3, tt_iclt 16 6),
  (6, tt_il 0 7),
  (7, tt_k 68 9),
  (9, tt_icge 16 12),
  (12, tt_k 1 13),
  (13, tt_go 17),
  (16, tt_k 0 17),
  (17, tt_rz P)]
abbrev rm_D_isConditional : Room := { frames := 0, cells := 0, slots := 0, locals := 0 }
set_option maxRecDepth 20000 in
theorem ok_D_isConditional (l : Launch) (J : ev_K) (P : Bool → ev_M → ev_L → Prop) (X : ev_X l rm_D_isConditional evLY evCl ws_D_isConditional prog_9_method_10_code 1 y_D_isConditional.cls J) (Z : ev_Z J prog_9_method_10_code .ireturn ev_b P) : ev_oks J (I_D_isConditional P) :=
  ⟨qq_iln X 0 rfl d_D_isConditional_0,
  qq_bp X 60 (by decide) d_D_isConditional_1,
  qq_iclt X 16 (by decide) d_D_isConditional_3,
  qq_iln X 0 rfl d_D_isConditional_6,
  qq_bp X 68 (by decide) d_D_isConditional_7,
  qq_icge X 16 (by decide) d_D_isConditional_9,
  qq_ic X 1 (by decide) d_D_isConditional_12,
  qq_go X 17 (by decide) d_D_isConditional_13,
  qq_ic X 0 (by decide) d_D_isConditional_16,
  qq_rz Z d_D_isConditional_17, trivial⟩
def pre_D_isConditional : List Value → ev_M → ev_L → Prop := fun as σ τ => ∃ (x : Int32), as = [.int x]
def post_D_isConditional : List Value → ev_M → ev_L → Bool → ev_M → ev_L → Prop := fun as σ τ r σ' τ' => match as with
  | [.int x] => r = sd_cond x ∧ σ' = σ ∧ τ' = τ
  | _ => False
set_option maxHeartbeats 4000000 in
set_option maxRecDepth 100000 in
theorem c_D_isConditional (l : Launch) : ev_C ev_b l y_D_isConditional ws_D_isConditional rm_D_isConditional evLY evCl pre_D_isConditional post_D_isConditional := by
  refine ev_meth0 (by decide) rfl ev_rop_b ?_ I_D_isConditional (ok_D_isConditional l) 60 ?_
  · rintro _ σ τ ⟨x, rfl⟩
    exact Nat.le_of_ble_eq_true rfl
  · rintro _ σ τ ⟨x, rfl⟩
    repeat' first | refine br_c (fun _ => ?_) (fun _ => ?_) | refine br_n (fun _ => ?_) (fun _ => ?_)
    all_goals
      first
      | exact ⟨true, rfl, (decide_eq_true (by simp only [Int32.lt_iff_toInt_lt, Int32.le_iff_toInt_le, ← Int32.toInt_inj, Int32.reduceToInt] at *; omega)).symm, rfl, rfl⟩
      | exact ⟨false, rfl, (decide_eq_false (by simp only [Int32.lt_iff_toInt_lt, Int32.le_iff_toInt_le, ← Int32.toInt_inj, Int32.reduceToInt] at *; omega)).symm, rfl, rfl⟩
def y_D_isSwitch : MethodName := ⟨RD, "isSwitch", "(I)Z"⟩
def ws_D_isSwitch : List Cond := .code y_D_isSwitch prog_9_method_11_code 1 (some .boolean) :: evW
theorem d_D_isSwitch_0 : decode prog_9_method_11_code 0 = .ok (.iload_n 0, 1) := by decide +kernel
theorem d_D_isSwitch_1 : decode prog_9_method_11_code 1 = .ok (.bipush 72, 2) := by decide +kernel
theorem d_D_isSwitch_3 : decode prog_9_method_11_code 3 = .ok (.if_icmp .lt 13, 3) := by decide +kernel
theorem d_D_isSwitch_6 : decode prog_9_method_11_code 6 = .ok (.iload_n 0, 1) := by decide +kernel
theorem d_D_isSwitch_7 : decode prog_9_method_11_code 7 = .ok (.bipush 76, 2) := by decide +kernel
theorem d_D_isSwitch_9 : decode prog_9_method_11_code 9 = .ok (.if_icmp .ge 7, 3) := by decide +kernel
theorem d_D_isSwitch_12 : decode prog_9_method_11_code 12 = .ok (.iconst 1, 1) := by decide +kernel
theorem d_D_isSwitch_13 : decode prog_9_method_11_code 13 = .ok (.goto 4, 3) := by decide +kernel
theorem d_D_isSwitch_16 : decode prog_9_method_11_code 16 = .ok (.iconst 0, 1) := by decide +kernel
theorem d_D_isSwitch_17 : decode prog_9_method_11_code 17 = .ok (.ireturn, 1) := by decide +kernel
def I_D_isSwitch (P : Bool → ev_M → ev_L → Prop) : List (Nat × ev_T) := [(0, tt_il 0 1),
  (1, tt_k 72 3),
  (3, tt_iclt 16 6),
  (6, tt_il 0 7),
  (7, tt_k 76 9),
  (9, tt_icge 16 12),
  (12, tt_k 1 13),
  (13, tt_go 17),
  (16, tt_k 0 17),
  (17, tt_rz P)]
abbrev rm_D_isSwitch : Room := { frames := 0, cells := 0, slots := 0, locals := 0 }
set_option maxRecDepth 20000 in
theorem ok_D_isSwitch (l : Launch) (J : ev_K) (P : Bool → ev_M → ev_L → Prop) (X : ev_X l rm_D_isSwitch evLY evCl ws_D_isSwitch prog_9_method_11_code 1 y_D_isSwitch.cls J) (Z : ev_Z J prog_9_method_11_code .ireturn ev_b P) : ev_oks J (I_D_isSwitch P) :=
  ⟨qq_iln X 0 rfl d_D_isSwitch_0,
  qq_bp X 72 (by decide) d_D_isSwitch_1,
  qq_iclt X 16 (by decide) d_D_isSwitch_3,
  qq_iln X 0 rfl d_D_isSwitch_6,
  qq_bp X 76 (by decide) d_D_isSwitch_7,
  qq_icge X 16 (by decide) d_D_isSwitch_9,
  qq_ic X 1 (by decide) d_D_isSwitch_12,
  qq_go X 17 (by decide) d_D_isSwitch_13,
  qq_ic X 0 (by decide) d_D_isSwitch_16,
  qq_rz Z d_D_isSwitch_17, trivial⟩
def pre_D_isSwitch : List Value → ev_M → ev_L → Prop := fun as σ τ => ∃ (x : Int32), as = [.int x]
def post_D_isSwitch : List Value → ev_M → ev_L → Bool → ev_M → ev_L → Prop := fun as σ τ r σ' τ' => match as with
  | [.int x] => r = sd_sw x ∧ σ' = σ ∧ τ' = τ
  | _ => False
set_option maxHeartbeats 4000000 in
set_option maxRecDepth 100000 in
theorem c_D_isSwitch (l : Launch) : ev_C ev_b l y_D_isSwitch ws_D_isSwitch rm_D_isSwitch evLY evCl pre_D_isSwitch post_D_isSwitch := by
  refine ev_meth0 (by decide) rfl ev_rop_b ?_ I_D_isSwitch (ok_D_isSwitch l) 60 ?_
  · rintro _ σ τ ⟨x, rfl⟩
    exact Nat.le_of_ble_eq_true rfl
  · rintro _ σ τ ⟨x, rfl⟩
    repeat' first | refine br_c (fun _ => ?_) (fun _ => ?_) | refine br_n (fun _ => ?_) (fun _ => ?_)
    all_goals
      first
      | exact ⟨true, rfl, (decide_eq_true (by simp only [Int32.lt_iff_toInt_lt, Int32.le_iff_toInt_le, ← Int32.toInt_inj, Int32.reduceToInt] at *; omega)).symm, rfl, rfl⟩
      | exact ⟨false, rfl, (decide_eq_false (by simp only [Int32.lt_iff_toInt_lt, Int32.le_iff_toInt_le, ← Int32.toInt_inj, Int32.reduceToInt] at *; omega)).symm, rfl, rfl⟩
def y_D_thrown : MethodName := ⟨RD, "thrown", "()I"⟩
def ws_D_thrown : List Cond := .code y_D_thrown prog_9_method_2_code 1 (some .int) :: evW
theorem d_D_thrown_0 : decode prog_9_method_2_code 0 = .ok (.aload_n 0, 1) := by decide +kernel
theorem d_D_thrown_1 : decode prog_9_method_2_code 1 = .ok (.getfield 63, 3) := by decide +kernel
theorem d_D_thrown_4 : decode prog_9_method_2_code 4 = .ok (.ireturn, 1) := by decide +kernel
def I_D_thrown (P : Int32 → ev_M → ev_L → Prop) : List (Nat × ev_T) := [(0, tt_al 0 1),
  (1, tt_gf evLY 7 0 4),
  (4, tt_ri P)]
abbrev rm_D_thrown : Room := { frames := 0, cells := 0, slots := 0, locals := 0 }
set_option maxRecDepth 20000 in
theorem ok_D_thrown (l : Launch) (J : ev_K) (P : Int32 → ev_M → ev_L → Prop) (X : ev_X l rm_D_thrown evLY evCl ws_D_thrown prog_9_method_2_code 1 y_D_thrown.cls J) (Z : ev_Z J prog_9_method_2_code .ireturn ev_i P) : ev_oks J (I_D_thrown P) :=
  ⟨qq_aln X 0 rfl d_D_thrown_0,
  qq_gf X 7 0 rfl (fun w h => List.mem_cons_of_mem _ (inE_D w h)) (by decide) (List.mem_cons_of_mem _ mw_754) d_D_thrown_1,
  qq_ri Z d_D_thrown_4, trivial⟩
def pre_D_thrown : List Value → ev_M → ev_L → Prop := fun as σ τ => as = [.ref 30]
def post_D_thrown : List Value → ev_M → ev_L → Int32 → ev_M → ev_L → Prop := fun as σ τ r σ' τ' => match as with
  | [_] => r = σ 30 0 ∧ σ' = σ ∧ τ' = τ
  | _ => False
set_option maxHeartbeats 4000000 in
set_option maxRecDepth 100000 in
theorem c_D_thrown (l : Launch) : ev_C ev_i l y_D_thrown ws_D_thrown rm_D_thrown evLY evCl pre_D_thrown post_D_thrown := by
  refine ev_meth0 (by decide) rfl ev_rop_i ?_ I_D_thrown (ok_D_thrown l) 60 ?_
  · rintro _ σ τ rfl
    exact Nat.le_of_ble_eq_true rfl
  · rintro _ σ τ rfl
    exact ⟨rfl, rfl, rfl⟩
def y_D_fail : MethodName := ⟨RD, "fail", "(I)I"⟩
def ws_D_fail : List Cond := .code y_D_fail prog_9_method_3_code 2 (some .int) :: evW
theorem d_D_fail_0 : decode prog_9_method_3_code 0 = .ok (.aload_n 0, 1) := by decide +kernel
theorem d_D_fail_1 : decode prog_9_method_3_code 1 = .ok (.iload_n 1, 1) := by decide +kernel
theorem d_D_fail_2 : decode prog_9_method_3_code 2 = .ok (.putfield 63, 3) := by decide +kernel
theorem d_D_fail_5 : decode prog_9_method_3_code 5 = .ok (.iconst 0, 1) := by decide +kernel
theorem d_D_fail_6 : decode prog_9_method_3_code 6 = .ok (.ireturn, 1) := by decide +kernel
def I_D_fail (P : Int32 → ev_M → ev_L → Prop) : List (Nat × ev_T) := [(0, tt_al 0 1),
  (1, tt_il 1 2),
  (2, tt_pf evLY 7 0 5),
  (5, tt_k 0 6),
  (6, tt_ri P)]
abbrev rm_D_fail : Room := { frames := 0, cells := 0, slots := 0, locals := 0 }
set_option maxRecDepth 20000 in
theorem ok_D_fail (l : Launch) (J : ev_K) (P : Int32 → ev_M → ev_L → Prop) (X : ev_X l rm_D_fail evLY evCl ws_D_fail prog_9_method_3_code 2 y_D_fail.cls J) (Z : ev_Z J prog_9_method_3_code .ireturn ev_i P) : ev_oks J (I_D_fail P) :=
  ⟨qq_aln X 0 rfl d_D_fail_0,
  qq_iln X 1 rfl d_D_fail_1,
  qq_pf X 7 0 rfl (fun w h => List.mem_cons_of_mem _ (inE_D w h)) (by decide) tyD tyD_ok nmD rfl (by decide +kernel) (List.mem_cons_of_mem _ mw_754) d_D_fail_2,
  qq_ic X 0 (by decide) d_D_fail_5,
  qq_ri Z d_D_fail_6, trivial⟩
def pre_D_fail : List Value → ev_M → ev_L → Prop := fun as σ τ => ∃ (x : Int32), as = [.ref 30, .int x]
def post_D_fail : List Value → ev_M → ev_L → Int32 → ev_M → ev_L → Prop := fun as σ τ r σ' τ' => match as with
  | [_, .int x] => r = 0 ∧ σ' = ev_u σ 30 0 x ∧ τ' = τ
  | _ => False
set_option maxHeartbeats 4000000 in
set_option maxRecDepth 100000 in
theorem c_D_fail (l : Launch) : ev_C ev_i l y_D_fail ws_D_fail rm_D_fail evLY evCl pre_D_fail post_D_fail := by
  refine ev_meth0 (by decide) rfl ev_rop_i ?_ I_D_fail (ok_D_fail l) 60 ?_
  · rintro _ σ τ ⟨x, rfl⟩
    exact Nat.le_of_ble_eq_true rfl
  · rintro _ σ τ ⟨x, rfl⟩
    exact ⟨rfl, rfl, rfl⟩
def y_D_forget : MethodName := ⟨RD, "forget", "()V"⟩
def ws_D_forget : List Cond := .code y_D_forget prog_9_method_4_code 1 none :: evW
theorem d_D_forget_0 : decode prog_9_method_4_code 0 = .ok (.aload_n 0, 1) := by decide +kernel
theorem d_D_forget_1 : decode prog_9_method_4_code 1 = .ok (.iconst 0, 1) := by decide +kernel
theorem d_D_forget_2 : decode prog_9_method_4_code 2 = .ok (.putfield 67, 3) := by decide +kernel
theorem d_D_forget_5 : decode prog_9_method_4_code 5 = .ok (.aload_n 0, 1) := by decide +kernel
theorem d_D_forget_6 : decode prog_9_method_4_code 6 = .ok (.iconst 0, 1) := by decide +kernel
theorem d_D_forget_7 : decode prog_9_method_4_code 7 = .ok (.putfield 71, 3) := by decide +kernel
theorem d_D_forget_10 : decode prog_9_method_4_code 10 = .ok (.return_, 1) := by decide +kernel
def I_D_forget (P : Unit → ev_M → ev_L → Prop) : List (Nat × ev_T) := [(0, tt_al 0 1),
  (1, tt_k 0 2),
  (2, tt_pz evLY 7 7 5),
  (5, tt_al 0 6),
  (6, tt_k 0 7),
  (7, tt_pz evLY 7 8 10),
  (10, tt_rv P)]
abbrev rm_D_forget : Room := { frames := 0, cells := 0, slots := 0, locals := 0 }
set_option maxRecDepth 20000 in
theorem ok_D_forget (l : Launch) (J : ev_K) (P : Unit → ev_M → ev_L → Prop) (X : ev_X l rm_D_forget evLY evCl ws_D_forget prog_9_method_4_code 1 y_D_forget.cls J) (Z : ev_Z J prog_9_method_4_code .return_ ev_n P) : ev_oks J (I_D_forget P) :=
  ⟨qq_aln X 0 rfl d_D_forget_0,
  qq_ic X 0 (by decide) d_D_forget_1,
  qq_pz X 7 7 rfl (fun w h => List.mem_cons_of_mem _ (inE_D w h)) (by decide) tyD tyD_ok nmD rfl (by decide +kernel) (List.mem_cons_of_mem _ mw_761) d_D_forget_2,
  qq_aln X 0 rfl d_D_forget_5,
  qq_ic X 0 (by decide) d_D_forget_6,
  qq_pz X 7 8 rfl (fun w h => List.mem_cons_of_mem _ (inE_D w h)) (by decide) tyD tyD_ok nmD rfl (by decide +kernel) (List.mem_cons_of_mem _ mw_762) d_D_forget_7,
  qq_rv Z d_D_forget_10, trivial⟩
def pre_D_forget : List Value → ev_M → ev_L → Prop := fun as σ τ => as = [.ref 30]
def post_D_forget : List Value → ev_M → ev_L → Unit → ev_M → ev_L → Prop := fun as σ τ r σ' τ' => match as with
  | [_] => σ' = ev_u (ev_u σ 30 7 0) 30 8 0 ∧ τ' = τ
  | _ => False
set_option maxHeartbeats 4000000 in
set_option maxRecDepth 100000 in
theorem c_D_forget (l : Launch) : ev_C ev_n l y_D_forget ws_D_forget rm_D_forget evLY evCl pre_D_forget post_D_forget := by
  refine ev_meth0 (by decide) rfl ev_rop_v ?_ I_D_forget (ok_D_forget l) 60 ?_
  · rintro _ σ τ rfl
    exact Nat.le_of_ble_eq_true rfl
  · rintro _ σ τ rfl
    exact ⟨Or.inl rfl, Or.inl rfl, rfl, rfl⟩
def y_D_fault : MethodName := ⟨RD, "fault", "()Z"⟩
def ws_D_fault : List Cond := .code y_D_fault prog_9_method_31_code 1 (some .boolean) :: evW
theorem d_D_fault_0 : decode prog_9_method_31_code 0 = .ok (.aload_n 0, 1) := by decide +kernel
theorem d_D_fault_1 : decode prog_9_method_31_code 1 = .ok (.iconst 2, 1) := by decide +kernel
theorem d_D_fault_2 : decode prog_9_method_31_code 2 = .ok (.putfield 152, 3) := by decide +kernel
theorem d_D_fault_5 : decode prog_9_method_31_code 5 = .ok (.iconst 0, 1) := by decide +kernel
theorem d_D_fault_6 : decode prog_9_method_31_code 6 = .ok (.ireturn, 1) := by decide +kernel
def I_D_fault (P : Bool → ev_M → ev_L → Prop) : List (Nat × ev_T) := [(0, tt_al 0 1),
  (1, tt_k 2 2),
  (2, tt_pf evLY 7 26 5),
  (5, tt_k 0 6),
  (6, tt_rz P)]
abbrev rm_D_fault : Room := { frames := 0, cells := 0, slots := 0, locals := 0 }
set_option maxRecDepth 20000 in
theorem ok_D_fault (l : Launch) (J : ev_K) (P : Bool → ev_M → ev_L → Prop) (X : ev_X l rm_D_fault evLY evCl ws_D_fault prog_9_method_31_code 1 y_D_fault.cls J) (Z : ev_Z J prog_9_method_31_code .ireturn ev_b P) : ev_oks J (I_D_fault P) :=
  ⟨qq_aln X 0 rfl d_D_fault_0,
  qq_ic X 2 (by decide) d_D_fault_1,
  qq_pf X 7 26 rfl (fun w h => List.mem_cons_of_mem _ (inE_D w h)) (by decide) tyD tyD_ok nmD rfl (by decide +kernel) (List.mem_cons_of_mem _ mw_780) d_D_fault_2,
  qq_ic X 0 (by decide) d_D_fault_5,
  qq_rz Z d_D_fault_6, trivial⟩
def pre_D_fault : List Value → ev_M → ev_L → Prop := fun as σ τ => as = [.ref 30]
def post_D_fault : List Value → ev_M → ev_L → Bool → ev_M → ev_L → Prop := fun as σ τ r σ' τ' => match as with
  | [_] => r = false ∧ σ' = ev_u σ 30 26 2 ∧ τ' = τ
  | _ => False
set_option maxHeartbeats 4000000 in
set_option maxRecDepth 100000 in
theorem c_D_fault (l : Launch) : ev_C ev_b l y_D_fault ws_D_fault rm_D_fault evLY evCl pre_D_fault post_D_fault := by
  refine ev_meth0 (by decide) rfl ev_rop_b ?_ I_D_fault (ok_D_fault l) 60 ?_
  · rintro _ σ τ rfl
    exact Nat.le_of_ble_eq_true rfl
  · rintro _ σ τ rfl
    exact ⟨false, rfl, rfl, rfl, rfl⟩
def y_D_go : MethodName := ⟨RD, "go", "(I)Z"⟩
def ws_D_go : List Cond := .code y_D_go prog_9_method_32_code 2 (some .boolean) :: evW
theorem d_D_go_0 : decode prog_9_method_32_code 0 = .ok (.aload_n 0, 1) := by decide +kernel
theorem d_D_go_1 : decode prog_9_method_32_code 1 = .ok (.iload_n 1, 1) := by decide +kernel
theorem d_D_go_2 : decode prog_9_method_32_code 2 = .ok (.putfield 155, 3) := by decide +kernel
theorem d_D_go_5 : decode prog_9_method_32_code 5 = .ok (.iconst 1, 1) := by decide +kernel
theorem d_D_go_6 : decode prog_9_method_32_code 6 = .ok (.ireturn, 1) := by decide +kernel
def I_D_go (P : Bool → ev_M → ev_L → Prop) : List (Nat × ev_T) := [(0, tt_al 0 1),
  (1, tt_il 1 2),
  (2, tt_pf evLY 7 22 5),
  (5, tt_k 1 6),
  (6, tt_rz P)]
abbrev rm_D_go : Room := { frames := 0, cells := 0, slots := 0, locals := 0 }
set_option maxRecDepth 20000 in
theorem ok_D_go (l : Launch) (J : ev_K) (P : Bool → ev_M → ev_L → Prop) (X : ev_X l rm_D_go evLY evCl ws_D_go prog_9_method_32_code 2 y_D_go.cls J) (Z : ev_Z J prog_9_method_32_code .ireturn ev_b P) : ev_oks J (I_D_go P) :=
  ⟨qq_aln X 0 rfl d_D_go_0,
  qq_iln X 1 rfl d_D_go_1,
  qq_pf X 7 22 rfl (fun w h => List.mem_cons_of_mem _ (inE_D w h)) (by decide) tyD tyD_ok nmD rfl (by decide +kernel) (List.mem_cons_of_mem _ mw_776) d_D_go_2,
  qq_ic X 1 (by decide) d_D_go_5,
  qq_rz Z d_D_go_6, trivial⟩
def pre_D_go : List Value → ev_M → ev_L → Prop := fun as σ τ => ∃ (x : Int32), as = [.ref 30, .int x]
def post_D_go : List Value → ev_M → ev_L → Bool → ev_M → ev_L → Prop := fun as σ τ r σ' τ' => match as with
  | [_, .int x] => r = true ∧ σ' = ev_u σ 30 22 x ∧ τ' = τ
  | _ => False
set_option maxHeartbeats 4000000 in
set_option maxRecDepth 100000 in
theorem c_D_go (l : Launch) : ev_C ev_b l y_D_go ws_D_go rm_D_go evLY evCl pre_D_go post_D_go := by
  refine ev_meth0 (by decide) rfl ev_rop_b ?_ I_D_go (ok_D_go l) 60 ?_
  · rintro _ σ τ ⟨x, rfl⟩
    exact Nat.le_of_ble_eq_true rfl
  · rintro _ σ τ ⟨x, rfl⟩
    exact ⟨true, rfl, rfl, rfl, rfl⟩
def y_D_at : MethodName := ⟨RD, "at", "(II)I"⟩
def ws_D_at : List Cond := .code y_D_at prog_9_method_30_code 3 (some .int) :: evW
theorem d_D_at_0 : decode prog_9_method_30_code 0 = .ok (.aload_n 0, 1) := by decide +kernel
theorem d_D_at_1 : decode prog_9_method_30_code 1 = .ok (.getfield 7, 3) := by decide +kernel
theorem d_D_at_4 : decode prog_9_method_30_code 4 = .ok (.iload_n 1, 1) := by decide +kernel
theorem d_D_at_5 : decode prog_9_method_30_code 5 = .ok (.iload_n 2, 1) := by decide +kernel
theorem d_D_at_6 : decode prog_9_method_30_code 6 = .ok (.iadd, 1) := by decide +kernel
theorem d_D_at_7 : decode prog_9_method_30_code 7 = .ok (.iaload, 1) := by decide +kernel
theorem d_D_at_8 : decode prog_9_method_30_code 8 = .ok (.ireturn, 1) := by decide +kernel
def I_D_at (P : Int32 → ev_M → ev_L → Prop) : List (Nat × ev_T) := [(0, tt_al 0 1),
  (1, tt_gf evLY 7 1 4),
  (4, tt_il 1 5),
  (5, tt_il 2 6),
  (6, tt_iadd 7),
  (7, tt_ia evLY 8),
  (8, tt_ri P)]
abbrev rm_D_at : Room := { frames := 0, cells := 0, slots := 0, locals := 0 }
set_option maxRecDepth 20000 in
theorem ok_D_at (l : Launch) (J : ev_K) (P : Int32 → ev_M → ev_L → Prop) (X : ev_X l rm_D_at evLY evCl ws_D_at prog_9_method_30_code 3 y_D_at.cls J) (Z : ev_Z J prog_9_method_30_code .ireturn ev_i P) : ev_oks J (I_D_at P) :=
  ⟨qq_aln X 0 rfl d_D_at_0,
  qq_gf X 7 1 rfl (fun w h => List.mem_cons_of_mem _ (inE_D w h)) (by decide) (List.mem_cons_of_mem _ mw_755) d_D_at_1,
  qq_iln X 1 rfl d_D_at_4,
  qq_iln X 2 rfl d_D_at_5,
  qq_iadd X d_D_at_6,
  qq_ia X d_D_at_7,
  qq_ri Z d_D_at_8, trivial⟩
def pre_D_at : List Value → ev_M → ev_L → Prop := fun as σ τ => ∃ (b a : Int32), as = [.ref 30, .int b, .int a] ∧ vp_in (b + a) 512
def post_D_at : List Value → ev_M → ev_L → Int32 → ev_M → ev_L → Prop := fun as σ τ r σ' τ' => match as with
  | [_, .int b, .int a] => r = σ 31 (b + a).toNatClampNeg ∧ σ' = σ ∧ τ' = τ
  | _ => False
set_option maxHeartbeats 4000000 in
set_option maxRecDepth 100000 in
theorem c_D_at (l : Launch) : ev_C ev_i l y_D_at ws_D_at rm_D_at evLY evCl pre_D_at post_D_at := by
  refine ev_meth0 (by decide) rfl ev_rop_i ?_ I_D_at (ok_D_at l) 60 ?_
  · rintro _ σ τ ⟨b, a, rfl, hp⟩
    exact Nat.le_of_ble_eq_true rfl
  · rintro _ σ τ ⟨b, a, rfl, hp⟩
    exact ⟨hp, rfl, rfl, rfl⟩
def y_D_steps : MethodName := ⟨RD, "steps", "()I"⟩
def ws_D_steps : List Cond := .code y_D_steps prog_9_method_40_code 1 (some .int) :: evW
theorem d_D_steps_0 : decode prog_9_method_40_code 0 = .ok (.aload_n 0, 1) := by decide +kernel
theorem d_D_steps_1 : decode prog_9_method_40_code 1 = .ok (.iconst 0, 1) := by decide +kernel
theorem d_D_steps_2 : decode prog_9_method_40_code 2 = .ok (.putfield 63, 3) := by decide +kernel
theorem d_D_steps_5 : decode prog_9_method_40_code 5 = .ok (.aload_n 0, 1) := by decide +kernel
theorem d_D_steps_6 : decode prog_9_method_40_code 6 = .ok (.getfield 188, 3) := by decide +kernel
theorem d_D_steps_9 : decode prog_9_method_40_code 9 = .ok (.ireturn, 1) := by decide +kernel
def I_D_steps (P : Int32 → ev_M → ev_L → Prop) : List (Nat × ev_T) := [(0, tt_al 0 1),
  (1, tt_k 0 2),
  (2, tt_pf evLY 7 0 5),
  (5, tt_al 0 6),
  (6, tt_gf evLY 7 25 9),
  (9, tt_ri P)]
abbrev rm_D_steps : Room := { frames := 0, cells := 0, slots := 0, locals := 0 }
set_option maxRecDepth 20000 in
theorem ok_D_steps (l : Launch) (J : ev_K) (P : Int32 → ev_M → ev_L → Prop) (X : ev_X l rm_D_steps evLY evCl ws_D_steps prog_9_method_40_code 1 y_D_steps.cls J) (Z : ev_Z J prog_9_method_40_code .ireturn ev_i P) : ev_oks J (I_D_steps P) :=
  ⟨qq_aln X 0 rfl d_D_steps_0,
  qq_ic X 0 (by decide) d_D_steps_1,
  qq_pf X 7 0 rfl (fun w h => List.mem_cons_of_mem _ (inE_D w h)) (by decide) tyD tyD_ok nmD rfl (by decide +kernel) (List.mem_cons_of_mem _ mw_754) d_D_steps_2,
  qq_aln X 0 rfl d_D_steps_5,
  qq_gf X 7 25 rfl (fun w h => List.mem_cons_of_mem _ (inE_D w h)) (by decide) (List.mem_cons_of_mem _ mw_779) d_D_steps_6,
  qq_ri Z d_D_steps_9, trivial⟩
def pre_D_steps : List Value → ev_M → ev_L → Prop := fun as σ τ => as = [.ref 30]
def post_D_steps : List Value → ev_M → ev_L → Int32 → ev_M → ev_L → Prop := fun as σ τ r σ' τ' => match as with
  | [_] => r = σ 30 25 ∧ σ' = ev_u σ 30 0 0 ∧ τ' = τ
  | _ => False
set_option maxHeartbeats 4000000 in
set_option maxRecDepth 100000 in
theorem c_D_steps (l : Launch) : ev_C ev_i l y_D_steps ws_D_steps rm_D_steps evLY evCl pre_D_steps post_D_steps := by
  refine ev_meth0 (by decide) rfl ev_rop_i ?_ I_D_steps (ok_D_steps l) 60 ?_
  · rintro _ σ τ rfl
    exact Nat.le_of_ble_eq_true rfl
  · rintro _ σ τ rfl
    exact ⟨rfl, rfl, rfl⟩
