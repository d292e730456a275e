/-! Machine: small methods -/
def y_M_registerValue : MethodName := ⟨RX2, "registerValue", "(I)I"⟩
def ws_M_registerValue : List Cond := .code y_M_registerValue prog_4_method_2_code 2 (some .int) :: evW
theorem d_M_registerValue_0 : decode prog_4_method_2_code 0 = .ok (.aload_n 0, 1) := by decide +kernel
theorem d_M_registerValue_1 : decode prog_4_method_2_code 1 = .ok (.getfield 18, 3) := by decide +kernel
theorem d_M_registerValue_4 : decode prog_4_method_2_code 4 = .ok (.iload_n 1, 1) := by decide +kernel
theorem d_M_registerValue_5 : decode prog_4_method_2_code 5 = .ok (.iconst 3, 1) := by decide +kernel
theorem d_M_registerValue_6 : decode prog_4_method_2_code 6 = .ok (.iand, 1) := by decide +kernel
theorem d_M_registerValue_7 : decode prog_4_method_2_code 7 = .ok (.iaload, 1) := by decide +kernel
theorem d_M_registerValue_8 : decode prog_4_method_2_code 8 = .ok (.ireturn, 1) := by decide +kernel
def I_M_registerValue (P : Int32 → ev_M → ev_L → Prop) : List (Nat × ev_T) := [(0, tt_al 0 1),
  (1, tt_gf evLY 2 1 4),
  (4, tt_il 1 5),
  (5, tt_k 3 6),
  (6, tt_iand 7),
  (7, tt_ia evLY 8),
  (8, tt_ri P)]
abbrev rm_M_registerValue : Room := { frames := 0, cells := 0, slots := 0, locals := 0 }
set_option maxRecDepth 20000 in
theorem ok_M_registerValue (l : Launch) (J : ev_K) (P : Int32 → ev_M → ev_L → Prop) (X : ev_X l rm_M_registerValue evLY evCl ws_M_registerValue prog_4_method_2_code 2 y_M_registerValue.cls J) (Z : ev_Z J prog_4_method_2_code .ireturn ev_i P) : ev_oks J (I_M_registerValue P) :=
  ⟨qq_aln X 0 rfl d_M_registerValue_0,
  qq_gf X 2 1 rfl (fun w h => List.mem_cons_of_mem _ (inE_M w h)) (by decide) (List.mem_cons_of_mem _ mw_162) d_M_registerValue_1,
  qq_iln X 1 rfl d_M_registerValue_4,
  qq_ic X 3 (by decide) d_M_registerValue_5,
  qq_iand X d_M_registerValue_6,
  qq_ia X d_M_registerValue_7,
  qq_ri Z d_M_registerValue_8, trivial⟩
def pre_M_registerValue : List Value → ev_M → ev_L → Prop := fun as σ τ => ∃ (i : Int32), as = [.ref 23, .int i]
def post_M_registerValue : List Value → ev_M → ev_L → Int32 → ev_M → ev_L → Prop := fun as σ τ r σ' τ' => match as with
  | [_, .int i] => r = σ 25 (i &&& 3).toNatClampNeg ∧ σ' = σ ∧ τ' = τ
  | _ => False
set_option maxHeartbeats 4000000 in
set_option maxRecDepth 100000 in
theorem c_M_registerValue (l : Launch) : ev_C ev_i l y_M_registerValue ws_M_registerValue rm_M_registerValue evLY evCl pre_M_registerValue post_M_registerValue := by
  refine ev_meth0 (by decide) rfl ev_rop_i ?_ I_M_registerValue (ok_M_registerValue l) 40 ?_
  · rintro _ σ τ ⟨i, rfl⟩
    exact Nat.le_of_ble_eq_true rfl
  · rintro _ σ τ ⟨i, rfl⟩
    exact ⟨pk_andIn i 2 rfl (by decide), rfl, rfl, rfl⟩
def y_M_cellValue : MethodName := ⟨RX2, "cellValue", "(I)I"⟩
def ws_M_cellValue : List Cond := .code y_M_cellValue prog_4_method_3_code 2 (some .int) :: evW
theorem d_M_cellValue_0 : decode prog_4_method_3_code 0 = .ok (.aload_n 0, 1) := by decide +kernel
theorem d_M_cellValue_1 : decode prog_4_method_3_code 1 = .ok (.getfield 22, 3) := by decide +kernel
theorem d_M_cellValue_4 : decode prog_4_method_3_code 4 = .ok (.iload_n 1, 1) := by decide +kernel
theorem d_M_cellValue_5 : decode prog_4_method_3_code 5 = .ok (.bipush 15, 2) := by decide +kernel
theorem d_M_cellValue_7 : decode prog_4_method_3_code 7 = .ok (.iand, 1) := by decide +kernel
theorem d_M_cellValue_8 : decode prog_4_method_3_code 8 = .ok (.iaload, 1) := by decide +kernel
theorem d_M_cellValue_9 : decode prog_4_method_3_code 9 = .ok (.ireturn, 1) := by decide +kernel
def I_M_cellValue (P : Int32 → ev_M → ev_L → Prop) : List (Nat × ev_T) := [(0, tt_al 0 1),
  (1, tt_gf evLY 2 2 4),
  (4, tt_il 1 5),
  (5, tt_k 15 7),
  (7, tt_iand 8),
  (8, tt_ia evLY 9),
  (9, tt_ri P)]
abbrev rm_M_cellValue : Room := { frames := 0, cells := 0, slots := 0, locals := 0 }
set_option maxRecDepth 20000 in
theorem ok_M_cellValue (l : Launch) (J : ev_K) (P : Int32 → ev_M → ev_L → Prop) (X : ev_X l rm_M_cellValue evLY evCl ws_M_cellValue prog_4_method_3_code 2 y_M_cellValue.cls J) (Z : ev_Z J prog_4_method_3_code .ireturn ev_i P) : ev_oks J (I_M_cellValue P) :=
  ⟨qq_aln X 0 rfl d_M_cellValue_0,
  qq_gf X 2 2 rfl (fun w h => List.mem_cons_of_mem _ (inE_M w h)) (by decide) (List.mem_cons_of_mem _ mw_163) d_M_cellValue_1,
  qq_iln X 1 rfl d_M_cellValue_4,
  qq_bp X 15 (by decide) d_M_cellValue_5,
  qq_iand X d_M_cellValue_7,
  qq_ia X d_M_cellValue_8,
  qq_ri Z d_M_cellValue_9, trivial⟩
def pre_M_cellValue : List Value → ev_M → ev_L → Prop := fun as σ τ => ∃ (i : Int32), as = [.ref 23, .int i]
def post_M_cellValue : List Value → ev_M → ev_L → Int32 → ev_M → ev_L → Prop := fun as σ τ r σ' τ' => match as with
  | [_, .int i] => r = σ 26 (i &&& 15).toNatClampNeg ∧ σ' = σ ∧ τ' = τ
  | _ => False
set_option maxHeartbeats 4000000 in
set_option maxRecDepth 100000 in
theorem c_M_cellValue (l : Launch) : ev_C ev_i l y_M_cellValue ws_M_cellValue rm_M_cellValue evLY evCl pre_M_cellValue post_M_cellValue := by
  refine ev_meth0 (by decide) rfl ev_rop_i ?_ I_M_cellValue (ok_M_cellValue l) 40 ?_
  · rintro _ σ τ ⟨i, rfl⟩
    exact Nat.le_of_ble_eq_true rfl
  · rintro _ σ τ ⟨i, rfl⟩
    exact ⟨pk_andIn i 4 rfl (by decide), rfl, rfl, rfl⟩
def y_M_count : MethodName := ⟨RX2, "count", "(I)J"⟩
def ws_M_count : List Cond := .code y_M_count prog_4_method_4_code 2 (some .long) :: evW
theorem d_M_count_0 : decode prog_4_method_4_code 0 = .ok (.aload_n 0, 1) := by decide +kernel
theorem d_M_count_1 : decode prog_4_method_4_code 1 = .ok (.getfield 31, 3) := by decide +kernel
theorem d_M_count_4 : decode prog_4_method_4_code 4 = .ok (.iload_n 1, 1) := by decide +kernel
theorem d_M_count_5 : decode prog_4_method_4_code 5 = .ok (.bipush 63, 2) := by decide +kernel
theorem d_M_count_7 : decode prog_4_method_4_code 7 = .ok (.iand, 1) := by decide +kernel
theorem d_M_count_8 : decode prog_4_method_4_code 8 = .ok (.laload, 1) := by decide +kernel
theorem d_M_count_9 : decode prog_4_method_4_code 9 = .ok (.lreturn, 1) := by decide +kernel
def I_M_count (P : Int64 → ev_M → ev_L → Prop) : List (Nat × ev_T) := [(0, tt_al 0 1),
  (1, tt_gf evLY 2 5 4),
  (4, tt_il 1 5),
  (5, tt_k 63 7),
  (7, tt_iand 8),
  (8, tt_la evLY 9),
  (9, tt_rl P)]
abbrev rm_M_count : Room := { frames := 0, cells := 0, slots := 0, locals := 0 }
set_option maxRecDepth 20000 in
theorem ok_M_count (l : Launch) (J : ev_K) (P : Int64 → ev_M → ev_L → Prop) (X : ev_X l rm_M_count evLY evCl ws_M_count prog_4_method_4_code 2 y_M_count.cls J) (Z : ev_Z J prog_4_method_4_code .lreturn ev_l P) : ev_oks J (I_M_count P) :=
  ⟨qq_aln X 0 rfl d_M_count_0,
  qq_gf X 2 5 rfl (fun w h => List.mem_cons_of_mem _ (inE_M w h)) (by decide) (List.mem_cons_of_mem _ mw_166) d_M_count_1,
  qq_iln X 1 rfl d_M_count_4,
  qq_bp X 63 (by decide) d_M_count_5,
  qq_iand X d_M_count_7,
  qq_la X d_M_count_8,
  qq_rl Z d_M_count_9, trivial⟩
def pre_M_count : List Value → ev_M → ev_L → Prop := fun as σ τ => ∃ (i : Int32), as = [.ref 23, .int i]
def post_M_count : List Value → ev_M → ev_L → Int64 → ev_M → ev_L → Prop := fun as σ τ r σ' τ' => match as with
  | [_, .int i] => r = τ 29 (i &&& 63).toNatClampNeg ∧ σ' = σ ∧ τ' = τ
  | _ => False
set_option maxHeartbeats 4000000 in
set_option maxRecDepth 100000 in
theorem c_M_count (l : Launch) : ev_C ev_l l y_M_count ws_M_count rm_M_count evLY evCl pre_M_count post_M_count := by
  refine ev_meth0 (by decide) rfl ev_rop_l ?_ I_M_count (ok_M_count l) 40 ?_
  · rintro _ σ τ ⟨i, rfl⟩
    exact Nat.le_of_ble_eq_true rfl
  · rintro _ σ τ ⟨i, rfl⟩
    exact ⟨pk_andIn i 6 rfl (by decide), rfl, rfl, rfl⟩
def sp_idx (c : Int32) (f : Nat → Int32) (i : Int32) : Int32 := if 0 ≤ i ∧ i < c then f i.toNatClampNeg else 0
theorem i_vin3 {a c : Int32} {n : Nat} (hc : c.toInt ≤ n) (h1 : ¬ a < 0) (h2 : ¬ c ≤ a) : vp_in a n := by
  rw [vp_in_iff]
  rw [Int32.lt_iff_toInt_lt] at h1
  rw [Int32.le_iff_toInt_le] at h2
  have : (0 : Int32).toInt = 0 := rfl
  omega
def y_M_printedValue : MethodName := ⟨RX2, "printedValue", "(I)I"⟩
def ws_M_printedValue : List Cond := .code y_M_printedValue prog_4_method_5_code 2 (some .int) :: evW
theorem d_M_printedValue_0 : decode prog_4_method_5_code 0 = .ok (.iload_n 1, 1) := by decide +kernel
theorem d_M_printedValue_1 : decode prog_4_method_5_code 1 = .ok (.ifCond .lt 20, 3) := by decide +kernel
theorem d_M_printedValue_4 : decode prog_4_method_5_code 4 = .ok (.iload_n 1, 1) := by decide +kernel
theorem d_M_printedValue_5 : decode prog_4_method_5_code 5 = .ok (.aload_n 0, 1) := by decide +kernel
theorem d_M_printedValue_6 : decode prog_4_method_5_code 6 = .ok (.getfield 35, 3) := by decide +kernel
theorem d_M_printedValue_9 : decode prog_4_method_5_code 9 = .ok (.if_icmp .ge 12, 3) := by decide +kernel
theorem d_M_printedValue_12 : decode prog_4_method_5_code 12 = .ok (.aload_n 0, 1) := by decide +kernel
theorem d_M_printedValue_13 : decode prog_4_method_5_code 13 = .ok (.getfield 28, 3) := by decide +kernel
theorem d_M_printedValue_16 : decode prog_4_method_5_code 16 = .ok (.iload_n 1, 1) := by decide +kernel
theorem d_M_printedValue_17 : decode prog_4_method_5_code 17 = .ok (.iaload, 1) := by decide +kernel
theorem d_M_printedValue_18 : decode prog_4_method_5_code 18 = .ok (.goto 4, 3) := by decide +kernel
theorem d_M_printedValue_21 : decode prog_4_method_5_code 21 = .ok (.iconst 0, 1) := by decide +kernel
theorem d_M_printedValue_22 : decode prog_4_method_5_code 22 = .ok (.ireturn, 1) := by decide +kernel
def I_M_printedValue (P : Int32 → ev_M → ev_L → Prop) : List (Nat × ev_T) := [(0, tt_il 1 1),
  (1, tt_iflt 21 4),
  (4, tt_il 1 5),
  (5, tt_al 0 6),
  (6, tt_gf evLY 2 8 9),
  (9, tt_icge 21 12),
  (12, tt_al 0 13),
  (13, tt_gf evLY 2 4 16),
  (16, tt_il 1 17),
  (17, tt_ia evLY 18),
  (18, tt_go 22),
  (21, tt_k 0 22),
  (22, tt_ri P)]
abbrev rm_M_printedValue : Room := { frames := 0, cells := 0, slots := 0, locals := 0 }
set_option maxRecDepth 20000 in
theorem ok_M_printedValue (l : Launch) (J : ev_K) (P : Int32 → ev_M → ev_L → Prop) (X : ev_X l rm_M_printedValue evLY evCl ws_M_printedValue prog_4_method_5_code 2 y_M_printedValue.cls J) (Z : ev_Z J prog_4_method_5_code .ireturn ev_i P) : ev_oks J (I_M_printedValue P) :=
  ⟨qq_iln X 1 rfl d_M_printedValue_0,
  qq_iflt X 21 (by decide) d_M_printedValue_1,
  qq_iln X 1 rfl d_M_printedValue_4,
  qq_aln X 0 rfl d_M_printedValue_5,
  qq_gf X 2 8 rfl (fun w h => List.mem_cons_of_mem _ (inE_M w h)) (by decide) (List.mem_cons_of_mem _ mw_169) d_M_printedValue_6,
  qq_icge X 21 (by decide) d_M_printedValue_9,
  qq_aln X 0 rfl d_M_printedValue_12,
  qq_gf X 2 4 rfl (fun w h => List.mem_cons_of_mem _ (inE_M w h)) (by decide) (List.mem_cons_of_mem _ mw_165) d_M_printedValue_13,
  qq_iln X 1 rfl d_M_printedValue_16,
  qq_ia X d_M_printedValue_17,
  qq_go X 22 (by decide) d_M_printedValue_18,
  qq_ic X 0 (by decide) d_M_printedValue_21,
  qq_ri Z d_M_printedValue_22, trivial⟩
def pre_M_printedValue : List Value → ev_M → ev_L → Prop := fun as σ τ => ∃ (i : Int32), as = [.ref 23, .int i] ∧ (σ 23 8).toInt ≤ (40 : Nat)
def post_M_printedValue : List Value → ev_M → ev_L → Int32 → ev_M → ev_L → Prop := fun as σ τ r σ' τ' => match as with
  | [_, .int i] => r = sp_idx (σ 23 8) (σ 28) i ∧ σ' = σ ∧ τ' = τ
  | _ => False
set_option maxHeartbeats 4000000 in
set_option maxRecDepth 100000 in
theorem c_M_printedValue (l : Launch) : ev_C ev_i l y_M_printedValue ws_M_printedValue rm_M_printedValue evLY evCl pre_M_printedValue post_M_printedValue := by
  refine ev_meth0 (by decide) rfl ev_rop_i ?_ I_M_printedValue (ok_M_printedValue l) 40 ?_
  · rintro _ σ τ ⟨i, rfl, hp⟩
    exact Nat.le_of_ble_eq_true rfl
  · rintro _ σ τ ⟨i, rfl, hp⟩
    refine br_c (fun h => ?_) (fun h => br_c (fun h2 => ?_) (fun h2 => ?_))
    · exact ⟨(if_neg fun q => absurd (Int32.not_lt.mpr q.1) (fun w => w h)).symm, rfl, rfl⟩
    · exact ⟨(if_neg fun q => absurd (Int32.not_le.mpr q.2) (fun w => w h2)).symm, rfl, rfl⟩
    · exact ⟨i_vin3 hp h h2, (if_pos ⟨Int32.not_lt.mp h, Int32.not_le.mp h2⟩).symm, rfl, rfl⟩
def y_M_printed : MethodName := ⟨RX2, "printed", "()I"⟩
def ws_M_printed : List Cond := .code y_M_printed prog_4_method_6_code 1 (some .int) :: evW
theorem d_M_printed_0 : decode prog_4_method_6_code 0 = .ok (.aload_n 0, 1) := by decide +kernel
theorem d_M_printed_1 : decode prog_4_method_6_code 1 = .ok (.getfield 35, 3) := by decide +kernel
theorem d_M_printed_4 : decode prog_4_method_6_code 4 = .ok (.ireturn, 1) := by decide +kernel
def I_M_printed (P : Int32 → ev_M → ev_L → Prop) : List (Nat × ev_T) := [(0, tt_al 0 1),
  (1, tt_gf evLY 2 8 4),
  (4, tt_ri P)]
abbrev rm_M_printed : Room := { frames := 0, cells := 0, slots := 0, locals := 0 }
set_option maxRecDepth 20000 in
theorem ok_M_printed (l : Launch) (J : ev_K) (P : Int32 → ev_M → ev_L → Prop) (X : ev_X l rm_M_printed evLY evCl ws_M_printed prog_4_method_6_code 1 y_M_printed.cls J) (Z : ev_Z J prog_4_method_6_code .ireturn ev_i P) : ev_oks J (I_M_printed P) :=
  ⟨qq_aln X 0 rfl d_M_printed_0,
  qq_gf X 2 8 rfl (fun w h => List.mem_cons_of_mem _ (inE_M w h)) (by decide) (List.mem_cons_of_mem _ mw_169) d_M_printed_1,
  qq_ri Z d_M_printed_4, trivial⟩
def pre_M_printed : List Value → ev_M → ev_L → Prop := fun as σ τ => as = [.ref 23]
def post_M_printed : List Value → ev_M → ev_L → Int32 → ev_M → ev_L → Prop := fun as σ τ r σ' τ' => match as with
  | [_] => r = σ 23 8 ∧ σ' = σ ∧ τ' = τ
  | _ => False
set_option maxHeartbeats 4000000 in
set_option maxRecDepth 100000 in
theorem c_M_printed (l : Launch) : ev_C ev_i l y_M_printed ws_M_printed rm_M_printed evLY evCl pre_M_printed post_M_printed := by
  refine ev_meth0 (by decide) rfl ev_rop_i ?_ I_M_printed (ok_M_printed l) 40 ?_
  · rintro _ σ τ rfl
    exact Nat.le_of_ble_eq_true rfl
  · rintro _ σ τ rfl
    exact ⟨rfl, rfl, rfl⟩
def y_M_pushed : MethodName := ⟨RX2, "pushed", "()I"⟩
def ws_M_pushed : List Cond := .code y_M_pushed prog_4_method_7_code 1 (some .int) :: evW
theorem d_M_pushed_0 : decode prog_4_method_7_code 0 = .ok (.aload_n 0, 1) := by decide +kernel
theorem d_M_pushed_1 : decode prog_4_method_7_code 1 = .ok (.getfield 39, 3) := by decide +kernel
theorem d_M_pushed_4 : decode prog_4_method_7_code 4 = .ok (.ireturn, 1) := by decide +kernel
def I_M_pushed (P : Int32 → ev_M → ev_L → Prop) : List (Nat × ev_T) := [(0, tt_al 0 1),
  (1, tt_gf evLY 2 7 4),
  (4, tt_ri P)]
abbrev rm_M_pushed : Room := { frames := 0, cells := 0, slots := 0, locals := 0 }
set_option maxRecDepth 20000 in
theorem ok_M_pushed (l : Launch) (J : ev_K) (P : Int32 → ev_M → ev_L → Prop) (X : ev_X l rm_M_pushed evLY evCl ws_M_pushed prog_4_method_7_code 1 y_M_pushed.cls J) (Z : ev_Z J prog_4_method_7_code .ireturn ev_i P) : ev_oks J (I_M_pushed P) :=
  ⟨qq_aln X 0 rfl d_M_pushed_0,
  qq_gf X 2 7 rfl (fun w h => List.mem_cons_of_mem _ (inE_M w h)) (by decide) (List.mem_cons_of_mem _ mw_168) d_M_pushed_1,
  qq_ri Z d_M_pushed_4, trivial⟩
def pre_M_pushed : List Value → ev_M → ev_L → Prop := fun as σ τ => as = [.ref 23]
def post_M_pushed : List Value → ev_M → ev_L → Int32 → ev_M → ev_L → Prop := fun as σ τ r σ' τ' => match as with
  | [_] => r = σ 23 7 ∧ σ' = σ ∧ τ' = τ
  | _ => False
set_option maxHeartbeats 4000000 in
set_option maxRecDepth 100000 in
theorem c_M_pushed (l : Launch) : ev_C ev_i l y_M_pushed ws_M_pushed rm_M_pushed evLY evCl pre_M_pushed post_M_pushed := by
  refine ev_meth0 (by decide) rfl ev_rop_i ?_ I_M_pushed (ok_M_pushed l) 40 ?_
  · rintro _ σ τ rfl
    exact Nat.le_of_ble_eq_true rfl
  · rintro _ σ τ rfl
    exact ⟨rfl, rfl, rfl⟩
def y_M_position : MethodName := ⟨RX2, "position", "()I"⟩
def ws_M_position : List Cond := .code y_M_position prog_4_method_8_code 1 (some .int) :: evW
theorem d_M_position_0 : decode prog_4_method_8_code 0 = .ok (.aload_n 0, 1) := by decide +kernel
theorem d_M_position_1 : decode prog_4_method_8_code 1 = .ok (.getfield 42, 3) := by decide +kernel
theorem d_M_position_4 : decode prog_4_method_8_code 4 = .ok (.ireturn, 1) := by decide +kernel
def I_M_position (P : Int32 → ev_M → ev_L → Prop) : List (Nat × ev_T) := [(0, tt_al 0 1),
  (1, tt_gf evLY 2 6 4),
  (4, tt_ri P)]
abbrev rm_M_position : Room := { frames := 0, cells := 0, slots := 0, locals := 0 }
set_option maxRecDepth 20000 in
theorem ok_M_position (l : Launch) (J : ev_K) (P : Int32 → ev_M → ev_L → Prop) (X : ev_X l rm_M_position evLY evCl ws_M_position prog_4_method_8_code 1 y_M_position.cls J) (Z : ev_Z J prog_4_method_8_code .ireturn ev_i P) : ev_oks J (I_M_position P) :=
  ⟨qq_aln X 0 rfl d_M_position_0,
  qq_gf X 2 6 rfl (fun w h => List.mem_cons_of_mem _ (inE_M w h)) (by decide) (List.mem_cons_of_mem _ mw_167) d_M_position_1,
  qq_ri Z d_M_position_4, trivial⟩
def pre_M_position : List Value → ev_M → ev_L → Prop := fun as σ τ => as = [.ref 23]
def post_M_position : List Value → ev_M → ev_L → Int32 → ev_M → ev_L → Prop := fun as σ τ r σ' τ' => match as with
  | [_] => r = σ 23 6 ∧ σ' = σ ∧ τ' = τ
  | _ => False
set_option maxHeartbeats 4000000 in
set_option maxRecDepth 100000 in
theorem c_M_position (l : Launch) : ev_C ev_i l y_M_position ws_M_position rm_M_position evLY evCl pre_M_position post_M_position := by
  refine ev_meth0 (by decide) rfl ev_rop_i ?_ I_M_position (ok_M_position l) 40 ?_
  · rintro _ σ τ rfl
    exact Nat.le_of_ble_eq_true rfl
  · rintro _ σ τ rfl
    exact ⟨rfl, rfl, rfl⟩
def y_M_done : MethodName := ⟨RX2, "done", "()I"⟩
def ws_M_done : List Cond := .code y_M_done prog_4_method_9_code 1 (some .int) :: evW
theorem d_M_done_0 : decode prog_4_method_9_code 0 = .ok (.aload_n 0, 1) := by decide +kernel
theorem d_M_done_1 : decode prog_4_method_9_code 1 = .ok (.getfield 45, 3) := by decide +kernel
theorem d_M_done_4 : decode prog_4_method_9_code 4 = .ok (.ireturn, 1) := by decide +kernel
def I_M_done (P : Int32 → ev_M → ev_L → Prop) : List (Nat × ev_T) := [(0, tt_al 0 1),
  (1, tt_gf evLY 2 9 4),
  (4, tt_ri P)]
abbrev rm_M_done : Room := { frames := 0, cells := 0, slots := 0, locals := 0 }
set_option maxRecDepth 20000 in
theorem ok_M_done (l : Launch) (J : ev_K) (P : Int32 → ev_M → ev_L → Prop) (X : ev_X l rm_M_done evLY evCl ws_M_done prog_4_method_9_code 1 y_M_done.cls J) (Z : ev_Z J prog_4_method_9_code .ireturn ev_i P) : ev_oks J (I_M_done P) :=
  ⟨qq_aln X 0 rfl d_M_done_0,
  qq_gf X 2 9 rfl (fun w h => List.mem_cons_of_mem _ (inE_M w h)) (by decide) (List.mem_cons_of_mem _ mw_170) d_M_done_1,
  qq_ri Z d_M_done_4, trivial⟩
def pre_M_done : List Value → ev_M → ev_L → Prop := fun as σ τ => as = [.ref 23]
def post_M_done : List Value → ev_M → ev_L → Int32 → ev_M → ev_L → Prop := fun as σ τ r σ' τ' => match as with
  | [_] => r = σ 23 9 ∧ σ' = σ ∧ τ' = τ
  | _ => False
set_option maxHeartbeats 4000000 in
set_option maxRecDepth 100000 in
theorem c_M_done (l : Launch) : ev_C ev_i l y_M_done ws_M_done rm_M_done evLY evCl pre_M_done post_M_done := by
  refine ev_meth0 (by decide) rfl ev_rop_i ?_ I_M_done (ok_M_done l) 40 ?_
  · rintro _ σ τ rfl
    exact Nat.le_of_ble_eq_true rfl
  · rintro _ σ τ rfl
    exact ⟨rfl, rfl, rfl⟩
def y_M_grow : MethodName := ⟨RX2, "grow", "(I)V"⟩
def ws_M_grow : List Cond := .code y_M_grow prog_4_method_16_code 2 none :: evW
theorem d_M_grow_0 : decode prog_4_method_16_code 0 = .ok (.aload_n 0, 1) := by decide +kernel
theorem d_M_grow_1 : decode prog_4_method_16_code 1 = .ok (.getfield 31, 3) := by decide +kernel
theorem d_M_grow_4 : decode prog_4_method_16_code 4 = .ok (.iload_n 1, 1) := by decide +kernel
theorem d_M_grow_5 : decode prog_4_method_16_code 5 = .ok (.bipush 63, 2) := by decide +kernel
theorem d_M_grow_7 : decode prog_4_method_16_code 7 = .ok (.iand, 1) := by decide +kernel
theorem d_M_grow_8 : decode prog_4_method_16_code 8 = .ok (.dup2, 1) := by decide +kernel
theorem d_M_grow_9 : decode prog_4_method_16_code 9 = .ok (.laload, 1) := by decide +kernel
theorem d_M_grow_10 : decode prog_4_method_16_code 10 = .ok (.lconst 1, 1) := by decide +kernel
theorem d_M_grow_11 : decode prog_4_method_16_code 11 = .ok (.ladd, 1) := by decide +kernel
theorem d_M_grow_12 : decode prog_4_method_16_code 12 = .ok (.lastore, 1) := by decide +kernel
theorem d_M_grow_13 : decode prog_4_method_16_code 13 = .ok (.return_, 1) := by decide +kernel
def I_M_grow (P : Unit → ev_M → ev_L → Prop) : List (Nat × ev_T) := [(0, tt_al 0 1),
  (1, tt_gf evLY 2 5 4),
  (4, tt_il 1 5),
  (5, tt_k 63 7),
  (7, tt_iand 8),
  (8, tt_dup2 9),
  (9, tt_la evLY 10),
  (10, tt_lk 1 11),
  (11, tt_ladd 12),
  (12, tt_las evLY 13),
  (13, tt_rv P)]
abbrev rm_M_grow : Room := { frames := 0, cells := 0, slots := 0, locals := 0 }
set_option maxRecDepth 20000 in
theorem ok_M_grow (l : Launch) (J : ev_K) (P : Unit → ev_M → ev_L → Prop) (X : ev_X l rm_M_grow evLY evCl ws_M_grow prog_4_method_16_code 2 y_M_grow.cls J) (Z : ev_Z J prog_4_method_16_code .return_ ev_n P) : ev_oks J (I_M_grow P) :=
  ⟨qq_aln X 0 rfl d_M_grow_0,
  qq_gf X 2 5 rfl (fun w h => List.mem_cons_of_mem _ (inE_M w h)) (by decide) (List.mem_cons_of_mem _ mw_166) d_M_grow_1,
  qq_iln X 1 rfl d_M_grow_4,
  qq_bp X 63 (by decide) d_M_grow_5,
  qq_iand X d_M_grow_7,
  qq_dup2 X d_M_grow_8,
  qq_la X d_M_grow_9,
  qq_lc X 1 (by decide) d_M_grow_10,
  qq_ladd X d_M_grow_11,
  qq_las X d_M_grow_12,
  qq_rv Z d_M_grow_13, trivial⟩
def pre_M_grow : List Value → ev_M → ev_L → Prop := fun as σ τ => ∃ (i : Int32), as = [.ref 23, .int i]
def post_M_grow : List Value → ev_M → ev_L → Unit → ev_M → ev_L → Prop := fun as σ τ r σ' τ' => match as with
  | [_, .int i] => σ' = σ ∧ τ' = ev_w τ 29 (i &&& 63).toNatClampNeg (τ 29 (i &&& 63).toNatClampNeg + 1)
  | _ => False
set_option maxHeartbeats 4000000 in
set_option maxRecDepth 100000 in
theorem c_M_grow (l : Launch) : ev_C ev_n l y_M_grow ws_M_grow rm_M_grow evLY evCl pre_M_grow post_M_grow := by
  refine ev_meth0 (by decide) rfl ev_rop_v ?_ I_M_grow (ok_M_grow l) 40 ?_
  · rintro _ σ τ ⟨i, rfl⟩
    exact Nat.le_of_ble_eq_true rfl
  · rintro _ σ τ ⟨i, rfl⟩
    have h : vp_in (i &&& 63) 64 := pk_andIn i 6 rfl (by decide)
    exact ⟨h, h, rfl, rfl⟩
def y_M_push : MethodName := ⟨RX2, "push", "(I)Z"⟩
def ws_M_push : List Cond := .code y_M_push prog_4_method_20_code 2 (some .boolean) :: evW
theorem d_M_push_0 : decode prog_4_method_20_code 0 = .ok (.aload_n 0, 1) := by decide +kernel
theorem d_M_push_1 : decode prog_4_method_20_code 1 = .ok (.getfield 39, 3) := by decide +kernel
theorem d_M_push_4 : decode prog_4_method_20_code 4 = .ok (.bipush 8, 2) := by decide +kernel
theorem d_M_push_6 : decode prog_4_method_20_code 6 = .ok (.if_icmp .lt 5, 3) := by decide +kernel
theorem d_M_push_9 : decode prog_4_method_20_code 9 = .ok (.iconst 0, 1) := by decide +kernel
theorem d_M_push_10 : decode prog_4_method_20_code 10 = .ok (.ireturn, 1) := by decide +kernel
theorem d_M_push_11 : decode prog_4_method_20_code 11 = .ok (.aload_n 0, 1) := by decide +kernel
theorem d_M_push_12 : decode prog_4_method_20_code 12 = .ok (.getfield 25, 3) := by decide +kernel
theorem d_M_push_15 : decode prog_4_method_20_code 15 = .ok (.aload_n 0, 1) := by decide +kernel
theorem d_M_push_16 : decode prog_4_method_20_code 16 = .ok (.getfield 39, 3) := by decide +kernel
theorem d_M_push_19 : decode prog_4_method_20_code 19 = .ok (.iload_n 1, 1) := by decide +kernel
theorem d_M_push_20 : decode prog_4_method_20_code 20 = .ok (.iastore, 1) := by decide +kernel
theorem d_M_push_21 : decode prog_4_method_20_code 21 = .ok (.aload_n 0, 1) := by decide +kernel
theorem d_M_push_22 : decode prog_4_method_20_code 22 = .ok (.dup, 1) := by decide +kernel
theorem d_M_push_23 : decode prog_4_method_20_code 23 = .ok (.getfield 39, 3) := by decide +kernel
theorem d_M_push_26 : decode prog_4_method_20_code 26 = .ok (.iconst 1, 1) := by decide +kernel
theorem d_M_push_27 : decode prog_4_method_20_code 27 = .ok (.iadd, 1) := by decide +kernel
theorem d_M_push_28 : decode prog_4_method_20_code 28 = .ok (.putfield 39, 3) := by decide +kernel
theorem d_M_push_31 : decode prog_4_method_20_code 31 = .ok (.iconst 1, 1) := by decide +kernel
theorem d_M_push_32 : decode prog_4_method_20_code 32 = .ok (.ireturn, 1) := by decide +kernel
def I_M_push (P : Bool → ev_M → ev_L → Prop) : List (Nat × ev_T) := [(0, tt_al 0 1),
  (1, tt_gf evLY 2 7 4),
  (4, tt_k 8 6),
  (6, tt_iclt 11 9),
  (9, tt_k 0 10),
  (10, tt_rz P),
  (11, tt_al 0 12),
  (12, tt_gf evLY 2 3 15),
  (15, tt_al 0 16),
  (16, tt_gf evLY 2 7 19),
  (19, tt_il 1 20),
  (20, tt_ias evLY 21),
  (21, tt_al 0 22),
  (22, tt_dup 23),
  (23, tt_gf evLY 2 7 26),
  (26, tt_k 1 27),
  (27, tt_iadd 28),
  (28, tt_pf evLY 2 7 31),
  (31, tt_k 1 32),
  (32, tt_rz P)]
abbrev rm_M_push : Room := { frames := 0, cells := 0, slots := 0, locals := 0 }
set_option maxRecDepth 20000 in
theorem ok_M_push (l : Launch) (J : ev_K) (P : Bool → ev_M → ev_L → Prop) (X : ev_X l rm_M_push evLY evCl ws_M_push prog_4_method_20_code 2 y_M_push.cls J) (Z : ev_Z J prog_4_method_20_code .ireturn ev_b P) : ev_oks J (I_M_push P) :=
  ⟨qq_aln X 0 rfl d_M_push_0,
  qq_gf X 2 7 rfl (fun w h => List.mem_cons_of_mem _ (inE_M w h)) (by decide) (List.mem_cons_of_mem _ mw_168) d_M_push_1,
  qq_bp X 8 (by decide) d_M_push_4,
  qq_iclt X 11 (by decide) d_M_push_6,
  qq_ic X 0 (by decide) d_M_push_9,
  qq_rz Z d_M_push_10,
  qq_aln X 0 rfl d_M_push_11,
  qq_gf X 2 3 rfl (fun w h => List.mem_cons_of_mem _ (inE_M w h)) (by decide) (List.mem_cons_of_mem _ mw_164) d_M_push_12,
  qq_aln X 0 rfl d_M_push_15,
  qq_gf X 2 7 rfl (fun w h => List.mem_cons_of_mem _ (inE_M w h)) (by decide) (List.mem_cons_of_mem _ mw_168) d_M_push_16,
  qq_iln X 1 rfl d_M_push_19,
  qq_ias X d_M_push_20,
  qq_aln X 0 rfl d_M_push_21,
  qq_dup X d_M_push_22,
  qq_gf X 2 7 rfl (fun w h => List.mem_cons_of_mem _ (inE_M w h)) (by decide) (List.mem_cons_of_mem _ mw_168) d_M_push_23,
  qq_ic X 1 (by decide) d_M_push_26,
  qq_iadd X d_M_push_27,
  qq_pf X 2 7 rfl (fun w h => List.mem_cons_of_mem _ (inE_M w h)) (by decide) tyX2 tyX2_ok nmX2 rfl (by decide +kernel) (List.mem_cons_of_mem _ mw_168) d_M_push_28,
  qq_ic X 1 (by decide) d_M_push_31,
  qq_rz Z d_M_push_32, trivial⟩
def pre_M_push : List Value → ev_M → ev_L → Prop := fun as σ τ => ∃ (i : Int32), as = [.ref 23, .int i] ∧ 0 ≤ σ 23 7
def post_M_push : List Value → ev_M → ev_L → Bool → ev_M → ev_L → Prop := fun as σ τ r σ' τ' => match as with
  | [_, .int i] => τ' = τ ∧ ((r = true ∧ σ 23 7 < 8 ∧ σ' = ev_u (ev_u σ 27 (σ 23 7).toNatClampNeg i) 23 7 (σ 23 7 + 1)) ∨ (r = false ∧ ¬ σ 23 7 < 8 ∧ σ' = σ))
  | _ => False
set_option maxHeartbeats 4000000 in
set_option maxRecDepth 100000 in
theorem c_M_push (l : Launch) : ev_C ev_b l y_M_push ws_M_push rm_M_push evLY evCl pre_M_push post_M_push := by
  refine ev_meth0 (by decide) rfl ev_rop_b ?_ I_M_push (ok_M_push l) 40 ?_
  · rintro _ σ τ ⟨i, rfl, hp⟩
    exact Nat.le_of_ble_eq_true rfl
  · rintro _ σ τ ⟨i, rfl, hp⟩
    refine br_c (fun h => ?_) (fun h => ?_)
    · exact ⟨i_vin2 (b := 8) rfl hp h, true, rfl, rfl, Or.inl ⟨rfl, h, rfl⟩⟩
    · exact ⟨false, rfl, rfl, Or.inr ⟨rfl, h, rfl⟩⟩
def y_M_print : MethodName := ⟨RX2, "print", "(I)Z"⟩
def ws_M_print : List Cond := .code y_M_print prog_4_method_22_code 2 (some .boolean) :: evW
theorem d_M_print_0 : decode prog_4_method_22_code 0 = .ok (.aload_n 0, 1) := by decide +kernel
theorem d_M_print_1 : decode prog_4_method_22_code 1 = .ok (.getfield 35, 3) := by decide +kernel
theorem d_M_print_4 : decode prog_4_method_22_code 4 = .ok (.bipush 40, 2) := by decide +kernel
theorem d_M_print_6 : decode prog_4_method_22_code 6 = .ok (.if_icmp .lt 5, 3) := by decide +kernel
theorem d_M_print_9 : decode prog_4_method_22_code 9 = .ok (.iconst 0, 1) := by decide +kernel
theorem d_M_print_10 : decode prog_4_method_22_code 10 = .ok (.ireturn, 1) := by decide +kernel
theorem d_M_print_11 : decode prog_4_method_22_code 11 = .ok (.aload_n 0, 1) := by decide +kernel
theorem d_M_print_12 : decode prog_4_method_22_code 12 = .ok (.getfield 28, 3) := by decide +kernel
theorem d_M_print_15 : decode prog_4_method_22_code 15 = .ok (.aload_n 0, 1) := by decide +kernel
theorem d_M_print_16 : decode prog_4_method_22_code 16 = .ok (.getfield 35, 3) := by decide +kernel
theorem d_M_print_19 : decode prog_4_method_22_code 19 = .ok (.iload_n 1, 1) := by decide +kernel
theorem d_M_print_20 : decode prog_4_method_22_code 20 = .ok (.iastore, 1) := by decide +kernel
theorem d_M_print_21 : decode prog_4_method_22_code 21 = .ok (.aload_n 0, 1) := by decide +kernel
theorem d_M_print_22 : decode prog_4_method_22_code 22 = .ok (.dup, 1) := by decide +kernel
theorem d_M_print_23 : decode prog_4_method_22_code 23 = .ok (.getfield 35, 3) := by decide +kernel
theorem d_M_print_26 : decode prog_4_method_22_code 26 = .ok (.iconst 1, 1) := by decide +kernel
theorem d_M_print_27 : decode prog_4_method_22_code 27 = .ok (.iadd, 1) := by decide +kernel
theorem d_M_print_28 : decode prog_4_method_22_code 28 = .ok (.putfield 35, 3) := by decide +kernel
theorem d_M_print_31 : decode prog_4_method_22_code 31 = .ok (.iconst 1, 1) := by decide +kernel
theorem d_M_print_32 : decode prog_4_method_22_code 32 = .ok (.ireturn, 1) := by decide +kernel
def I_M_print (P : Bool → ev_M → ev_L → Prop) : List (Nat × ev_T) := [(0, tt_al 0 1),
  (1, tt_gf evLY 2 8 4),
  (4, tt_k 40 6),
  (6, tt_iclt 11 9),
  (9, tt_k 0 10),
  (10, tt_rz P),
  (11, tt_al 0 12),
  (12, tt_gf evLY 2 4 15),
  (15, tt_al 0 16),
  (16, tt_gf evLY 2 8 19),
  (19, tt_il 1 20),
  (20, tt_ias evLY 21),
  (21, tt_al 0 22),
  (22, tt_dup 23),
  (23, tt_gf evLY 2 8 26),
  (26, tt_k 1 27),
  (27, tt_iadd 28),
  (28, tt_pf evLY 2 8 31),
  (31, tt_k 1 32),
  (32, tt_rz P)]
abbrev rm_M_print : Room := { frames := 0, cells := 0, slots := 0, locals := 0 }
set_option maxRecDepth 20000 in
theorem ok_M_print (l : Launch) (J : ev_K) (P : Bool → ev_M → ev_L → Prop) (X : ev_X l rm_M_print evLY evCl ws_M_print prog_4_method_22_code 2 y_M_print.cls J) (Z : ev_Z J prog_4_method_22_code .ireturn ev_b P) : ev_oks J (I_M_print P) :=
  ⟨qq_aln X 0 rfl d_M_print_0,
  qq_gf X 2 8 rfl (fun w h => List.mem_cons_of_mem _ (inE_M w h)) (by decide) (List.mem_cons_of_mem _ mw_169) d_M_print_1,
  qq_bp X 40 (by decide) d_M_print_4,
  qq_iclt X 11 (by decide) d_M_print_6,
  qq_ic X 0 (by decide) d_M_print_9,
  qq_rz Z d_M_print_10,
  qq_aln X 0 rfl d_M_print_11,
  qq_gf X 2 4 rfl (fun w h => List.mem_cons_of_mem _ (inE_M w h)) (by decide) (List.mem_cons_of_mem _ mw_165) d_M_print_12,
  qq_aln X 0 rfl d_M_print_15,
  qq_gf X 2 8 rfl (fun w h => List.mem_cons_of_mem _ (inE_M w h)) (by decide) (List.mem_cons_of_mem _ mw_169) d_M_print_16,
  qq_iln X 1 rfl d_M_print_19,
  qq_ias X d_M_print_20,
  qq_aln X 0 rfl d_M_print_21,
  qq_dup X d_M_print_22,
  qq_gf X 2 8 rfl (fun w h => List.mem_cons_of_mem _ (inE_M w h)) (by decide) (List.mem_cons_of_mem _ mw_169) d_M_print_23,
  qq_ic X 1 (by decide) d_M_print_26,
  qq_iadd X d_M_print_27,
  qq_pf X 2 8 rfl (fun w h => List.mem_cons_of_mem _ (inE_M w h)) (by decide) tyX2 tyX2_ok nmX2 rfl (by decide +kernel) (List.mem_cons_of_mem _ mw_169) d_M_print_28,
  qq_ic X 1 (by decide) d_M_print_31,
  qq_rz Z d_M_print_32, trivial⟩
def pre_M_print : List Value → ev_M → ev_L → Prop := fun as σ τ => ∃ (i : Int32), as = [.ref 23, .int i] ∧ 0 ≤ σ 23 8
def post_M_print : List Value → ev_M → ev_L → Bool → ev_M → ev_L → Prop := fun as σ τ r σ' τ' => match as with
  | [_, .int i] => τ' = τ ∧ ((r = true ∧ σ 23 8 < 40 ∧ σ' = ev_u (ev_u σ 28 (σ 23 8).toNatClampNeg i) 23 8 (σ 23 8 + 1)) ∨ (r = false ∧ ¬ σ 23 8 < 40 ∧ σ' = σ))
  | _ => False
set_option maxHeartbeats 4000000 in
set_option maxRecDepth 100000 in
theorem c_M_print (l : Launch) : ev_C ev_b l y_M_print ws_M_print rm_M_print evLY evCl pre_M_print post_M_print := by
  refine ev_meth0 (by decide) rfl ev_rop_b ?_ I_M_print (ok_M_print l) 40 ?_
  · rintro _ σ τ ⟨i, rfl, hp⟩
    exact Nat.le_of_ble_eq_true rfl
  · rintro _ σ τ ⟨i, rfl, hp⟩
    refine br_c (fun h => ?_) (fun h => ?_)
    · exact ⟨i_vin2 (b := 40) rfl hp h, true, rfl, rfl, Or.inl ⟨rfl, h, rfl⟩⟩
    · exact ⟨false, rfl, rfl, Or.inr ⟨rfl, h, rfl⟩⟩
theorem i_sub1 {x : Int32} (h : 0 < x) : (x - 1).toInt = x.toInt - 1 := by
  rw [Int32.lt_iff_toInt_lt] at h
  have h0 : (0 : Int32).toInt = 0 := rfl
  have h1 : (1 : Int32).toInt = 1 := rfl
  have h2 := Int32.toInt_lt x
  have h3 := Int32.le_toInt x
  rw [Int32.toInt_sub, h1]
  exact Int.bmod_eq_of_le (by omega) (by omega)
theorem i_add1 {x : Int32} (h : x.toInt < 2000000000) : (x + 1).toInt = x.toInt + 1 := by
  have h1 : (1 : Int32).toInt = 1 := rfl
  have h3 := Int32.le_toInt x
  rw [Int32.toInt_add, h1]
  exact Int.bmod_eq_of_le (by omega) (by omega)
def y_M_pop : MethodName := ⟨RX2, "pop", "()I"⟩
def ws_M_pop : List Cond := .code y_M_pop prog_4_method_21_code 1 (some .int) :: evW
theorem d_M_pop_0 : decode prog_4_method_21_code 0 = .ok (.aload_n 0, 1) := by decide +kernel
theorem d_M_pop_1 : decode prog_4_method_21_code 1 = .ok (.getfield 39, 3) := by decide +kernel
theorem d_M_pop_4 : decode prog_4_method_21_code 4 = .ok (.ifCond .gt 5, 3) := by decide +kernel
theorem d_M_pop_7 : decode prog_4_method_21_code 7 = .ok (.iconst (-1), 1) := by decide +kernel
theorem d_M_pop_8 : decode prog_4_method_21_code 8 = .ok (.ireturn, 1) := by decide +kernel
theorem d_M_pop_9 : decode prog_4_method_21_code 9 = .ok (.aload_n 0, 1) := by decide +kernel
theorem d_M_pop_10 : decode prog_4_method_21_code 10 = .ok (.dup, 1) := by decide +kernel
theorem d_M_pop_11 : decode prog_4_method_21_code 11 = .ok (.getfield 39, 3) := by decide +kernel
theorem d_M_pop_14 : decode prog_4_method_21_code 14 = .ok (.iconst 1, 1) := by decide +kernel
theorem d_M_pop_15 : decode prog_4_method_21_code 15 = .ok (.isub, 1) := by decide +kernel
theorem d_M_pop_16 : decode prog_4_method_21_code 16 = .ok (.putfield 39, 3) := by decide +kernel
theorem d_M_pop_19 : decode prog_4_method_21_code 19 = .ok (.aload_n 0, 1) := by decide +kernel
theorem d_M_pop_20 : decode prog_4_method_21_code 20 = .ok (.getfield 25, 3) := by decide +kernel
theorem d_M_pop_23 : decode prog_4_method_21_code 23 = .ok (.aload_n 0, 1) := by decide +kernel
theorem d_M_pop_24 : decode prog_4_method_21_code 24 = .ok (.getfield 39, 3) := by decide +kernel
theorem d_M_pop_27 : decode prog_4_method_21_code 27 = .ok (.iaload, 1) := by decide +kernel
theorem d_M_pop_28 : decode prog_4_method_21_code 28 = .ok (.ireturn, 1) := by decide +kernel
def I_M_pop (P : Int32 → ev_M → ev_L → Prop) : List (Nat × ev_T) := [(0, tt_al 0 1),
  (1, tt_gf evLY 2 7 4),
  (4, tt_ifgt 9 7),
  (7, tt_k (-1) 8),
  (8, tt_ri P),
  (9, tt_al 0 10),
  (10, tt_dup 11),
  (11, tt_gf evLY 2 7 14),
  (14, tt_k 1 15),
  (15, tt_isub 16),
  (16, tt_pf evLY 2 7 19),
  (19, tt_al 0 20),
  (20, tt_gf evLY 2 3 23),
  (23, tt_al 0 24),
  (24, tt_gf evLY 2 7 27),
  (27, tt_ia evLY 28),
  (28, tt_ri P)]
abbrev rm_M_pop : Room := { frames := 0, cells := 0, slots := 0, locals := 0 }
set_option maxRecDepth 20000 in
theorem ok_M_pop (l : Launch) (J : ev_K) (P : Int32 → ev_M → ev_L → Prop) (X : ev_X l rm_M_pop evLY evCl ws_M_pop prog_4_method_21_code 1 y_M_pop.cls J) (Z : ev_Z J prog_4_method_21_code .ireturn ev_i P) : ev_oks J (I_M_pop P) :=
  ⟨qq_aln X 0 rfl d_M_pop_0,
  qq_gf X 2 7 rfl (fun w h => List.mem_cons_of_mem _ (inE_M w h)) (by decide) (List.mem_cons_of_mem _ mw_168) d_M_pop_1,
  qq_ifgt X 9 (by decide) d_M_pop_4,
  qq_ic X (-1) (by decide) d_M_pop_7,
  qq_ri Z d_M_pop_8,
  qq_aln X 0 rfl d_M_pop_9,
  qq_dup X d_M_pop_10,
  qq_gf X 2 7 rfl (fun w h => List.mem_cons_of_mem _ (inE_M w h)) (by decide) (List.mem_cons_of_mem _ mw_168) d_M_pop_11,
  qq_ic X 1 (by decide) d_M_pop_14,
  qq_isub X d_M_pop_15,
  qq_pf X 2 7 rfl (fun w h => List.mem_cons_of_mem _ (inE_M w h)) (by decide) tyX2 tyX2_ok nmX2 rfl (by decide +kernel) (List.mem_cons_of_mem _ mw_168) d_M_pop_16,
  qq_aln X 0 rfl d_M_pop_19,
  qq_gf X 2 3 rfl (fun w h => List.mem_cons_of_mem _ (inE_M w h)) (by decide) (List.mem_cons_of_mem _ mw_164) d_M_pop_20,
  qq_aln X 0 rfl d_M_pop_23,
  qq_gf X 2 7 rfl (fun w h => List.mem_cons_of_mem _ (inE_M w h)) (by decide) (List.mem_cons_of_mem _ mw_168) d_M_pop_24,
  qq_ia X d_M_pop_27,
  qq_ri Z d_M_pop_28, trivial⟩
def pre_M_pop : List Value → ev_M → ev_L → Prop := fun as σ τ => as = [.ref 23] ∧ (σ 23 7).toInt ≤ 8
def post_M_pop : List Value → ev_M → ev_L → Int32 → ev_M → ev_L → Prop := fun as σ τ r σ' τ' => match as with
  | [_] => τ' = τ ∧ ((0 < σ 23 7 ∧ r = σ 27 (σ 23 7 - 1).toNatClampNeg ∧ σ' = ev_u σ 23 7 (σ 23 7 - 1)) ∨ (¬ 0 < σ 23 7 ∧ r = -1 ∧ σ' = σ))
  | _ => False
set_option maxHeartbeats 4000000 in
set_option maxRecDepth 100000 in
theorem c_M_pop (l : Launch) : ev_C ev_i l y_M_pop ws_M_pop rm_M_pop evLY evCl pre_M_pop post_M_pop := by
  refine ev_meth0 (by decide) rfl ev_rop_i ?_ I_M_pop (ok_M_pop l) 40 ?_
  · rintro _ σ τ ⟨rfl, hp⟩
    exact Nat.le_of_ble_eq_true rfl
  · rintro _ σ τ ⟨rfl, hp⟩
    refine br_c (fun h => ?_) (fun h => ?_)
    · have hv : vp_in (σ 23 7 - 1) 8 := by
        rw [vp_in_iff, i_sub1 h]
        rw [Int32.lt_iff_toInt_lt] at h
        have h0 : (0 : Int32).toInt = 0 := rfl
        omega
      exact ⟨hv, rfl, Or.inl ⟨h, rfl, rfl⟩⟩
    · exact ⟨rfl, Or.inr ⟨h, rfl, rfl⟩⟩
def y_A_forget : MethodName := ⟨RX0, "forget", "()V"⟩
def ws_A_forget : List Cond := .code y_A_forget prog_2_method_2_code 1 none :: evW
theorem d_A_forget_0 : decode prog_2_method_2_code 0 = .ok (.aload_n 0, 1) := by decide +kernel
theorem d_A_forget_1 : decode prog_2_method_2_code 1 = .ok (.iconst 0, 1) := by decide +kernel
theorem d_A_forget_2 : decode prog_2_method_2_code 2 = .ok (.putfield 44, 3) := by decide +kernel
theorem d_A_forget_5 : decode prog_2_method_2_code 5 = .ok (.return_, 1) := by decide +kernel
def I_A_forget (P : Unit → ev_M → ev_L → Prop) : List (Nat × ev_T) := [(0, tt_al 0 1),
  (1, tt_k 0 2),
  (2, tt_pf evLY 0 10 5),
  (5, tt_rv P)]
abbrev rm_A_forget : Room := { frames := 0, cells := 0, slots := 0, locals := 0 }
set_option maxRecDepth 20000 in
theorem ok_A_forget (l : Launch) (J : ev_K) (P : Unit → ev_M → ev_L → Prop) (X : ev_X l rm_A_forget evLY evCl ws_A_forget prog_2_method_2_code 1 y_A_forget.cls J) (Z : ev_Z J prog_2_method_2_code .return_ ev_n P) : ev_oks J (I_A_forget P) :=
  ⟨qq_aln X 0 rfl d_A_forget_0,
  qq_ic X 0 (by decide) d_A_forget_1,
  qq_pf X 0 10 rfl (fun w h => List.mem_cons_of_mem _ (inE_A w h)) (by decide) tyX0 tyX0_ok nmX0 rfl (by decide +kernel) (List.mem_cons_of_mem _ mw_105) d_A_forget_2,
  qq_rv Z d_A_forget_5, trivial⟩
def pre_A_forget : List Value → ev_M → ev_L → Prop := fun as σ τ => as = [.ref 8]
def post_A_forget : List Value → ev_M → ev_L → Unit → ev_M → ev_L → Prop := fun as σ τ r σ' τ' => match as with
  | [_] => σ' = ev_u σ 8 10 0 ∧ τ' = τ
  | _ => False
set_option maxHeartbeats 4000000 in
set_option maxRecDepth 100000 in
theorem c_A_forget (l : Launch) : ev_C ev_n l y_A_forget ws_A_forget rm_A_forget evLY evCl pre_A_forget post_A_forget := by
  refine ev_meth0 (by decide) rfl ev_rop_v ?_ I_A_forget (ok_A_forget l) 40 ?_
  · rintro _ σ τ rfl
    exact Nat.le_of_ble_eq_true rfl
  · rintro _ σ τ rfl
    exact ⟨rfl, rfl⟩
def y_A_exists : MethodName := ⟨RX0, "exists", "()Z"⟩
def ws_A_exists : List Cond := .code y_A_exists prog_2_method_3_code 1 (some .boolean) :: evW
theorem d_A_exists_0 : decode prog_2_method_3_code 0 = .ok (.aload_n 0, 1) := by decide +kernel
theorem d_A_exists_1 : decode prog_2_method_3_code 1 = .ok (.getfield 44, 3) := by decide +kernel
theorem d_A_exists_4 : decode prog_2_method_3_code 4 = .ok (.ifCond .le 7, 3) := by decide +kernel
theorem d_A_exists_7 : decode prog_2_method_3_code 7 = .ok (.iconst 1, 1) := by decide +kernel
theorem d_A_exists_8 : decode prog_2_method_3_code 8 = .ok (.goto 4, 3) := by decide +kernel
theorem d_A_exists_11 : decode prog_2_method_3_code 11 = .ok (.iconst 0, 1) := by decide +kernel
theorem d_A_exists_12 : decode prog_2_method_3_code 12 = .ok (.ireturn, 1) := by decide +kernel
def I_A_exists (P : Bool → ev_M → ev_L → Prop) : List (Nat × ev_T) := [(0, tt_al 0 1),
  (1, tt_gf evLY 0 10 4),
  (4, tt_ifle 11 7),
  (7, tt_k 1 8),
  (8, tt_go 12),
  (11, tt_k 0 12),
  (12, tt_rz P)]
abbrev rm_A_exists : Room := { frames := 0, cells := 0, slots := 0, locals := 0 }
set_option maxRecDepth 20000 in
theorem ok_A_exists (l : Launch) (J : ev_K) (P : Bool → ev_M → ev_L → Prop) (X : ev_X l rm_A_exists evLY evCl ws_A_exists prog_2_method_3_code 1 y_A_exists.cls J) (Z : ev_Z J prog_2_method_3_code .ireturn ev_b P) : ev_oks J (I_A_exists P) :=
  ⟨qq_aln X 0 rfl d_A_exists_0,
  qq_gf X 0 10 rfl (fun w h => List.mem_cons_of_mem _ (inE_A w h)) (by decide) (List.mem_cons_of_mem _ mw_105) d_A_exists_1,
  qq_ifle X 11 (by decide) d_A_exists_4,
  qq_ic X 1 (by decide) d_A_exists_7,
  qq_go X 12 (by decide) d_A_exists_8,
  qq_ic X 0 (by decide) d_A_exists_11,
  qq_rz Z d_A_exists_12, trivial⟩
def pre_A_exists : List Value → ev_M → ev_L → Prop := fun as σ τ => as = [.ref 8]
def post_A_exists : List Value → ev_M → ev_L → Bool → ev_M → ev_L → Prop := fun as σ τ r σ' τ' => match as with
  | [_] => r = decide (0 < σ 8 10) ∧ σ' = σ ∧ τ' = τ
  | _ => False
set_option maxHeartbeats 4000000 in
set_option maxRecDepth 100000 in
theorem c_A_exists (l : Launch) : ev_C ev_b l y_A_exists ws_A_exists rm_A_exists evLY evCl pre_A_exists post_A_exists := by
  refine ev_meth0 (by decide) rfl ev_rop_b ?_ I_A_exists (ok_A_exists l) 40 ?_
  · rintro _ σ τ rfl
    exact Nat.le_of_ble_eq_true rfl
  · rintro _ σ τ rfl
    refine br_c (fun h => ?_) (fun h => ?_)
    · exact ⟨false, rfl, (decide_eq_false (Int32.not_lt.mpr h)).symm, rfl, rfl⟩
    · exact ⟨true, rfl, (decide_eq_true (Int32.not_le.mp h)).symm, rfl, rfl⟩
def y_A_size : MethodName := ⟨RX0, "size", "()I"⟩
def ws_A_size : List Cond := .code y_A_size prog_2_method_4_code 1 (some .int) :: evW
theorem d_A_size_0 : decode prog_2_method_4_code 0 = .ok (.aload_n 0, 1) := by decide +kernel
theorem d_A_size_1 : decode prog_2_method_4_code 1 = .ok (.getfield 44, 3) := by decide +kernel
theorem d_A_size_4 : decode prog_2_method_4_code 4 = .ok (.ireturn, 1) := by decide +kernel
def I_A_size (P : Int32 → ev_M → ev_L → Prop) : List (Nat × ev_T) := [(0, tt_al 0 1),
  (1, tt_gf evLY 0 10 4),
  (4, tt_ri P)]
abbrev rm_A_size : Room := { frames := 0, cells := 0, slots := 0, locals := 0 }
set_option maxRecDepth 20000 in
theorem ok_A_size (l : Launch) (J : ev_K) (P : Int32 → ev_M → ev_L → Prop) (X : ev_X l rm_A_size evLY evCl ws_A_size prog_2_method_4_code 1 y_A_size.cls J) (Z : ev_Z J prog_2_method_4_code .ireturn ev_i P) : ev_oks J (I_A_size P) :=
  ⟨qq_aln X 0 rfl d_A_size_0,
  qq_gf X 0 10 rfl (fun w h => List.mem_cons_of_mem _ (inE_A w h)) (by decide) (List.mem_cons_of_mem _ mw_105) d_A_size_1,
  qq_ri Z d_A_size_4, trivial⟩
def pre_A_size : List Value → ev_M → ev_L → Prop := fun as σ τ => as = [.ref 8]
def post_A_size : List Value → ev_M → ev_L → Int32 → ev_M → ev_L → Prop := fun as σ τ r σ' τ' => match as with
  | [_] => r = σ 8 10 ∧ σ' = σ ∧ τ' = τ
  | _ => False
set_option maxHeartbeats 4000000 in
set_option maxRecDepth 100000 in
theorem c_A_size (l : Launch) : ev_C ev_i l y_A_size ws_A_size rm_A_size evLY evCl pre_A_size post_A_size := by
  refine ev_meth0 (by decide) rfl ev_rop_i ?_ I_A_size (ok_A_size l) 40 ?_
  · rintro _ σ τ rfl
    exact Nat.le_of_ble_eq_true rfl
  · rintro _ σ τ rfl
    exact ⟨rfl, rfl, rfl⟩
def y_A_headOf : MethodName := ⟨RX0, "headOf", "(I)I"⟩
def ws_A_headOf : List Cond := .code y_A_headOf prog_2_method_5_code 2 (some .int) :: evW
theorem d_A_headOf_0 : decode prog_2_method_5_code 0 = .ok (.iload_n 1, 1) := by decide +kernel
theorem d_A_headOf_1 : decode prog_2_method_5_code 1 = .ok (.ifCond .lt 20, 3) := by decide +kernel
theorem d_A_headOf_4 : decode prog_2_method_5_code 4 = .ok (.iload_n 1, 1) := by decide +kernel
theorem d_A_headOf_5 : decode prog_2_method_5_code 5 = .ok (.aload_n 0, 1) := by decide +kernel
theorem d_A_headOf_6 : decode prog_2_method_5_code 6 = .ok (.getfield 44, 3) := by decide +kernel
theorem d_A_headOf_9 : decode prog_2_method_5_code 9 = .ok (.if_icmp .ge 12, 3) := by decide +kernel
theorem d_A_headOf_12 : decode prog_2_method_5_code 12 = .ok (.aload_n 0, 1) := by decide +kernel
theorem d_A_headOf_13 : decode prog_2_method_5_code 13 = .ok (.getfield 35, 3) := by decide +kernel
theorem d_A_headOf_16 : decode prog_2_method_5_code 16 = .ok (.iload_n 1, 1) := by decide +kernel
theorem d_A_headOf_17 : decode prog_2_method_5_code 17 = .ok (.iaload, 1) := by decide +kernel
theorem d_A_headOf_18 : decode prog_2_method_5_code 18 = .ok (.goto 4, 3) := by decide +kernel
theorem d_A_headOf_21 : decode prog_2_method_5_code 21 = .ok (.iconst 0, 1) := by decide +kernel
theorem d_A_headOf_22 : decode prog_2_method_5_code 22 = .ok (.ireturn, 1) := by decide +kernel
def I_A_headOf (P : Int32 → ev_M → ev_L → Prop) : List (Nat × ev_T) := [(0, tt_il 1 1),
  (1, tt_iflt 21 4),
  (4, tt_il 1 5),
  (5, tt_al 0 6),
  (6, tt_gf evLY 0 10 9),
  (9, tt_icge 21 12),
  (12, tt_al 0 13),
  (13, tt_gf evLY 0 6 16),
  (16, tt_il 1 17),
  (17, tt_ia evLY 18),
  (18, tt_go 22),
  (21, tt_k 0 22),
  (22, tt_ri P)]
abbrev rm_A_headOf : Room := { frames := 0, cells := 0, slots := 0, locals := 0 }
set_option maxRecDepth 20000 in
theorem ok_A_headOf (l : Launch) (J : ev_K) (P : Int32 → ev_M → ev_L → Prop) (X : ev_X l rm_A_headOf evLY evCl ws_A_headOf prog_2_method_5_code 2 y_A_headOf.cls J) (Z : ev_Z J prog_2_method_5_code .ireturn ev_i P) : ev_oks J (I_A_headOf P) :=
  ⟨qq_iln X 1 rfl d_A_headOf_0,
  qq_iflt X 21 (by decide) d_A_headOf_1,
  qq_iln X 1 rfl d_A_headOf_4,
  qq_aln X 0 rfl d_A_headOf_5,
  qq_gf X 0 10 rfl (fun w h => List.mem_cons_of_mem _ (inE_A w h)) (by decide) (List.mem_cons_of_mem _ mw_105) d_A_headOf_6,
  qq_icge X 21 (by decide) d_A_headOf_9,
  qq_aln X 0 rfl d_A_headOf_12,
  qq_gf X 0 6 rfl (fun w h => List.mem_cons_of_mem _ (inE_A w h)) (by decide) (List.mem_cons_of_mem _ mw_101) d_A_headOf_13,
  qq_iln X 1 rfl d_A_headOf_16,
  qq_ia X d_A_headOf_17,
  qq_go X 22 (by decide) d_A_headOf_18,
  qq_ic X 0 (by decide) d_A_headOf_21,
  qq_ri Z d_A_headOf_22, trivial⟩
def pre_A_headOf : List Value → ev_M → ev_L → Prop := fun as σ τ => ∃ (i : Int32), as = [.ref 8, .int i] ∧ (σ 8 10).toInt ≤ (96 : Nat)
def post_A_headOf : List Value → ev_M → ev_L → Int32 → ev_M → ev_L → Prop := fun as σ τ r σ' τ' => match as with
  | [_, .int i] => r = sp_idx (σ 8 10) (σ 15) i ∧ σ' = σ ∧ τ' = τ
  | _ => False
set_option maxHeartbeats 4000000 in
set_option maxRecDepth 100000 in
theorem c_A_headOf (l : Launch) : ev_C ev_i l y_A_headOf ws_A_headOf rm_A_headOf evLY evCl pre_A_headOf post_A_headOf := by
  refine ev_meth0 (by decide) rfl ev_rop_i ?_ I_A_headOf (ok_A_headOf l) 40 ?_
  · rintro _ σ τ ⟨i, rfl, hp⟩
    exact Nat.le_of_ble_eq_true rfl
  · rintro _ σ τ ⟨i, rfl, hp⟩
    refine br_c (fun h => ?_) (fun h => br_c (fun h2 => ?_) (fun h2 => ?_))
    · exact ⟨(if_neg fun q => absurd (Int32.not_lt.mpr q.1) (fun w => w h)).symm, rfl, rfl⟩
    · exact ⟨(if_neg fun q => absurd (Int32.not_le.mpr q.2) (fun w => w h2)).symm, rfl, rfl⟩
    · exact ⟨i_vin3 hp h h2, (if_pos ⟨Int32.not_lt.mp h, Int32.not_le.mp h2⟩).symm, rfl, rfl⟩
def y_A_bytesOf : MethodName := ⟨RX0, "bytesOf", "(I)I"⟩
def ws_A_bytesOf : List Cond := .code y_A_bytesOf prog_2_method_6_code 2 (some .int) :: evW
theorem d_A_bytesOf_0 : decode prog_2_method_6_code 0 = .ok (.iload_n 1, 1) := by decide +kernel
theorem d_A_bytesOf_1 : decode prog_2_method_6_code 1 = .ok (.ifCond .lt 20, 3) := by decide +kernel
theorem d_A_bytesOf_4 : decode prog_2_method_6_code 4 = .ok (.iload_n 1, 1) := by decide +kernel
theorem d_A_bytesOf_5 : decode prog_2_method_6_code 5 = .ok (.aload_n 0, 1) := by decide +kernel
theorem d_A_bytesOf_6 : decode prog_2_method_6_code 6 = .ok (.getfield 44, 3) := by decide +kernel
theorem d_A_bytesOf_9 : decode prog_2_method_6_code 9 = .ok (.if_icmp .ge 12, 3) := by decide +kernel
theorem d_A_bytesOf_12 : decode prog_2_method_6_code 12 = .ok (.aload_n 0, 1) := by decide +kernel
theorem d_A_bytesOf_13 : decode prog_2_method_6_code 13 = .ok (.getfield 38, 3) := by decide +kernel
theorem d_A_bytesOf_16 : decode prog_2_method_6_code 16 = .ok (.iload_n 1, 1) := by decide +kernel
theorem d_A_bytesOf_17 : decode prog_2_method_6_code 17 = .ok (.iaload, 1) := by decide +kernel
theorem d_A_bytesOf_18 : decode prog_2_method_6_code 18 = .ok (.goto 4, 3) := by decide +kernel
theorem d_A_bytesOf_21 : decode prog_2_method_6_code 21 = .ok (.iconst 0, 1) := by decide +kernel
theorem d_A_bytesOf_22 : decode prog_2_method_6_code 22 = .ok (.ireturn, 1) := by decide +kernel
def I_A_bytesOf (P : Int32 → ev_M → ev_L → Prop) : List (Nat × ev_T) := [(0, tt_il 1 1),
  (1, tt_iflt 21 4),
  (4, tt_il 1 5),
  (5, tt_al 0 6),
  (6, tt_gf evLY 0 10 9),
  (9, tt_icge 21 12),
  (12, tt_al 0 13),
  (13, tt_gf evLY 0 7 16),
  (16, tt_il 1 17),
  (17, tt_ia evLY 18),
  (18, tt_go 22),
  (21, tt_k 0 22),
  (22, tt_ri P)]
abbrev rm_A_bytesOf : Room := { frames := 0, cells := 0, slots := 0, locals := 0 }
set_option maxRecDepth 20000 in
theorem ok_A_bytesOf (l : Launch) (J : ev_K) (P : Int32 → ev_M → ev_L → Prop) (X : ev_X l rm_A_bytesOf evLY evCl ws_A_bytesOf prog_2_method_6_code 2 y_A_bytesOf.cls J) (Z : ev_Z J prog_2_method_6_code .ireturn ev_i P) : ev_oks J (I_A_bytesOf P) :=
  ⟨qq_iln X 1 rfl d_A_bytesOf_0,
  qq_iflt X 21 (by decide) d_A_bytesOf_1,
  qq_iln X 1 rfl d_A_bytesOf_4,
  qq_aln X 0 rfl d_A_bytesOf_5,
  qq_gf X 0 10 rfl (fun w h => List.mem_cons_of_mem _ (inE_A w h)) (by decide) (List.mem_cons_of_mem _ mw_105) d_A_bytesOf_6,
  qq_icge X 21 (by decide) d_A_bytesOf_9,
  qq_aln X 0 rfl d_A_bytesOf_12,
  qq_gf X 0 7 rfl (fun w h => List.mem_cons_of_mem _ (inE_A w h)) (by decide) (List.mem_cons_of_mem _ mw_102) d_A_bytesOf_13,
  qq_iln X 1 rfl d_A_bytesOf_16,
  qq_ia X d_A_bytesOf_17,
  qq_go X 22 (by decide) d_A_bytesOf_18,
  qq_ic X 0 (by decide) d_A_bytesOf_21,
  qq_ri Z d_A_bytesOf_22, trivial⟩
def pre_A_bytesOf : List Value → ev_M → ev_L → Prop := fun as σ τ => ∃ (i : Int32), as = [.ref 8, .int i] ∧ (σ 8 10).toInt ≤ (96 : Nat)
def post_A_bytesOf : List Value → ev_M → ev_L → Int32 → ev_M → ev_L → Prop := fun as σ τ r σ' τ' => match as with
  | [_, .int i] => r = sp_idx (σ 8 10) (σ 16) i ∧ σ' = σ ∧ τ' = τ
  | _ => False
set_option maxHeartbeats 4000000 in
set_option maxRecDepth 100000 in
theorem c_A_bytesOf (l : Launch) : ev_C ev_i l y_A_bytesOf ws_A_bytesOf rm_A_bytesOf evLY evCl pre_A_bytesOf post_A_bytesOf := by
  refine ev_meth0 (by decide) rfl ev_rop_i ?_ I_A_bytesOf (ok_A_bytesOf l) 40 ?_
  · rintro _ σ τ ⟨i, rfl, hp⟩
    exact Nat.le_of_ble_eq_true rfl
  · rintro _ σ τ ⟨i, rfl, hp⟩
    refine br_c (fun h => ?_) (fun h => br_c (fun h2 => ?_) (fun h2 => ?_))
    · exact ⟨(if_neg fun q => absurd (Int32.not_lt.mpr q.1) (fun w => w h)).symm, rfl, rfl⟩
    · exact ⟨(if_neg fun q => absurd (Int32.not_le.mpr q.2) (fun w => w h2)).symm, rfl, rfl⟩
    · exact ⟨i_vin3 hp h h2, (if_pos ⟨Int32.not_lt.mp h, Int32.not_le.mp h2⟩).symm, rfl, rfl⟩
def y_A_instructionsOf : MethodName := ⟨RX0, "instructionsOf", "(I)I"⟩
def ws_A_instructionsOf : List Cond := .code y_A_instructionsOf prog_2_method_7_code 2 (some .int) :: evW
theorem d_A_instructionsOf_0 : decode prog_2_method_7_code 0 = .ok (.iload_n 1, 1) := by decide +kernel
theorem d_A_instructionsOf_1 : decode prog_2_method_7_code 1 = .ok (.ifCond .lt 20, 3) := by decide +kernel
theorem d_A_instructionsOf_4 : decode prog_2_method_7_code 4 = .ok (.iload_n 1, 1) := by decide +kernel
theorem d_A_instructionsOf_5 : decode prog_2_method_7_code 5 = .ok (.aload_n 0, 1) := by decide +kernel
theorem d_A_instructionsOf_6 : decode prog_2_method_7_code 6 = .ok (.getfield 44, 3) := by decide +kernel
theorem d_A_instructionsOf_9 : decode prog_2_method_7_code 9 = .ok (.if_icmp .ge 12, 3) := by decide +kernel
theorem d_A_instructionsOf_12 : decode prog_2_method_7_code 12 = .ok (.aload_n 0, 1) := by decide +kernel
theorem d_A_instructionsOf_13 : decode prog_2_method_7_code 13 = .ok (.getfield 41, 3) := by decide +kernel
theorem d_A_instructionsOf_16 : decode prog_2_method_7_code 16 = .ok (.iload_n 1, 1) := by decide +kernel
theorem d_A_instructionsOf_17 : decode prog_2_method_7_code 17 = .ok (.iaload, 1) := by decide +kernel
theorem d_A_instructionsOf_18 : decode prog_2_method_7_code 18 = .ok (.goto 4, 3) := by decide +kernel
theorem d_A_instructionsOf_21 : decode prog_2_method_7_code 21 = .ok (.iconst 0, 1) := by decide +kernel
theorem d_A_instructionsOf_22 : decode prog_2_method_7_code 22 = .ok (.ireturn, 1) := by decide +kernel
def I_A_instructionsOf (P : Int32 → ev_M → ev_L → Prop) : List (Nat × ev_T) := [(0, tt_il 1 1),
  (1, tt_iflt 21 4),
  (4, tt_il 1 5),
  (5, tt_al 0 6),
  (6, tt_gf evLY 0 10 9),
  (9, tt_icge 21 12),
  (12, tt_al 0 13),
  (13, tt_gf evLY 0 8 16),
  (16, tt_il 1 17),
  (17, tt_ia evLY 18),
  (18, tt_go 22),
  (21, tt_k 0 22),
  (22, tt_ri P)]
abbrev rm_A_instructionsOf : Room := { frames := 0, cells := 0, slots := 0, locals := 0 }
set_option maxRecDepth 20000 in
theorem ok_A_instructionsOf (l : Launch) (J : ev_K) (P : Int32 → ev_M → ev_L → Prop) (X : ev_X l rm_A_instructionsOf evLY evCl ws_A_instructionsOf prog_2_method_7_code 2 y_A_instructionsOf.cls J) (Z : ev_Z J prog_2_method_7_code .ireturn ev_i P) : ev_oks J (I_A_instructionsOf P) :=
  ⟨qq_iln X 1 rfl d_A_instructionsOf_0,
  qq_iflt X 21 (by decide) d_A_instructionsOf_1,
  qq_iln X 1 rfl d_A_instructionsOf_4,
  qq_aln X 0 rfl d_A_instructionsOf_5,
  qq_gf X 0 10 rfl (fun w h => List.mem_cons_of_mem _ (inE_A w h)) (by decide) (List.mem_cons_of_mem _ mw_105) d_A_instructionsOf_6,
  qq_icge X 21 (by decide) d_A_instructionsOf_9,
  qq_aln X 0 rfl d_A_instructionsOf_12,
  qq_gf X 0 8 rfl (fun w h => List.mem_cons_of_mem _ (inE_A w h)) (by decide) (List.mem_cons_of_mem _ mw_103) d_A_instructionsOf_13,
  qq_iln X 1 rfl d_A_instructionsOf_16,
  qq_ia X d_A_instructionsOf_17,
  qq_go X 22 (by decide) d_A_instructionsOf_18,
  qq_ic X 0 (by decide) d_A_instructionsOf_21,
  qq_ri Z d_A_instructionsOf_22, trivial⟩
def pre_A_instructionsOf : List Value → ev_M → ev_L → Prop := fun as σ τ => ∃ (i : Int32), as = [.ref 8, .int i] ∧ (σ 8 10).toInt ≤ (96 : Nat)
def post_A_instructionsOf : List Value → ev_M → ev_L → Int32 → ev_M → ev_L → Prop := fun as σ τ r σ' τ' => match as with
  | [_, .int i] => r = sp_idx (σ 8 10) (σ 17) i ∧ σ' = σ ∧ τ' = τ
  | _ => False
set_option maxHeartbeats 4000000 in
set_option maxRecDepth 100000 in
theorem c_A_instructionsOf (l : Launch) : ev_C ev_i l y_A_instructionsOf ws_A_instructionsOf rm_A_instructionsOf evLY evCl pre_A_instructionsOf post_A_instructionsOf := by
  refine ev_meth0 (by decide) rfl ev_rop_i ?_ I_A_instructionsOf (ok_A_instructionsOf l) 40 ?_
  · rintro _ σ τ ⟨i, rfl, hp⟩
    exact Nat.le_of_ble_eq_true rfl
  · rintro _ σ τ ⟨i, rfl, hp⟩
    refine br_c (fun h => ?_) (fun h => br_c (fun h2 => ?_) (fun h2 => ?_))
    · exact ⟨(if_neg fun q => absurd (Int32.not_lt.mpr q.1) (fun w => w h)).symm, rfl, rfl⟩
    · exact ⟨(if_neg fun q => absurd (Int32.not_le.mpr q.2) (fun w => w h2)).symm, rfl, rfl⟩
    · exact ⟨i_vin3 hp h h2, (if_pos ⟨Int32.not_lt.mp h, Int32.not_le.mp h2⟩).symm, rfl, rfl⟩
/-- the number of the block at an address -/
def sp_num (c : Int32) (f : Nat → Int32) (a : Int32) : Int32 := if 0 < c ∧ 0 ≤ a ∧ a < 96 then f a.toNatClampNeg else -1
def y_A_numberAt : MethodName := ⟨RX0, "numberAt", "(I)I"⟩
def ws_A_numberAt : List Cond := .code y_A_numberAt prog_2_method_8_code 2 (some .int) :: evW
theorem d_A_numberAt_0 : decode prog_2_method_8_code 0 = .ok (.aload_n 0, 1) := by decide +kernel
theorem d_A_numberAt_1 : decode prog_2_method_8_code 1 = .ok (.invokevirtual 48, 3) := by decide +kernel
theorem d_A_numberAt_4 : decode prog_2_method_8_code 4 = .ok (.ifCond .eq 22, 3) := by decide +kernel
theorem d_A_numberAt_7 : decode prog_2_method_8_code 7 = .ok (.iload_n 1, 1) := by decide +kernel
theorem d_A_numberAt_8 : decode prog_2_method_8_code 8 = .ok (.ifCond .lt 18, 3) := by decide +kernel
theorem d_A_numberAt_11 : decode prog_2_method_8_code 11 = .ok (.iload_n 1, 1) := by decide +kernel
theorem d_A_numberAt_12 : decode prog_2_method_8_code 12 = .ok (.bipush 96, 2) := by decide +kernel
theorem d_A_numberAt_14 : decode prog_2_method_8_code 14 = .ok (.if_icmp .ge 12, 3) := by decide +kernel
theorem d_A_numberAt_17 : decode prog_2_method_8_code 17 = .ok (.aload_n 0, 1) := by decide +kernel
theorem d_A_numberAt_18 : decode prog_2_method_8_code 18 = .ok (.getfield 32, 3) := by decide +kernel
theorem d_A_numberAt_21 : decode prog_2_method_8_code 21 = .ok (.iload_n 1, 1) := by decide +kernel
theorem d_A_numberAt_22 : decode prog_2_method_8_code 22 = .ok (.iaload, 1) := by decide +kernel
theorem d_A_numberAt_23 : decode prog_2_method_8_code 23 = .ok (.goto 4, 3) := by decide +kernel
theorem d_A_numberAt_26 : decode prog_2_method_8_code 26 = .ok (.iconst (-1), 1) := by decide +kernel
theorem d_A_numberAt_27 : decode prog_2_method_8_code 27 = .ok (.ireturn, 1) := by decide +kernel
def I_A_numberAt (P : Int32 → ev_M → ev_L → Prop) : List (Nat × ev_T) := [(0, tt_al 0 1),
  (1, tt_cV evLY 0 0 ev_b pre_A_exists post_A_exists 4),
  (4, tt_ifeq 26 7),
  (7, tt_il 1 8),
  (8, tt_iflt 26 11),
  (11, tt_il 1 12),
  (12, tt_k 96 14),
  (14, tt_icge 26 17),
  (17, tt_al 0 18),
  (18, tt_gf evLY 0 5 21),
  (21, tt_il 1 22),
  (22, tt_ia evLY 23),
  (23, tt_go 27),
  (26, tt_k (-1) 27),
  (27, tt_ri P)]
abbrev rm_A_numberAt : Room := { frames := 1, cells := 0, slots := 0, locals := 32 }
set_option maxRecDepth 20000 in
theorem ok_A_numberAt (l : Launch) (J : ev_K) (P : Int32 → ev_M → ev_L → Prop) (X : ev_X l rm_A_numberAt evLY evCl ws_A_numberAt prog_2_method_8_code 2 y_A_numberAt.cls J) (Z : ev_Z J prog_2_method_8_code .ireturn ev_i P) : ev_oks J (I_A_numberAt P) :=
  ⟨qq_aln X 0 rfl d_A_numberAt_0,
  qq_cV X 0 rfl (c_A_exists l) (fun hts => cwV 0 hts (evGV (mw_220) (mw_221) (mw_222) (mw_4) (mw_223)) rfl rfl rfl (by decide +kernel) ⟨Nat.le_of_ble_eq_true rfl, Nat.le_of_ble_eq_true rfl⟩) d_A_numberAt_1,
  qq_ifeq X 26 (by decide) d_A_numberAt_4,
  qq_iln X 1 rfl d_A_numberAt_7,
  qq_iflt X 26 (by decide) d_A_numberAt_8,
  qq_iln X 1 rfl d_A_numberAt_11,
  qq_bp X 96 (by decide) d_A_numberAt_12,
  qq_icge X 26 (by decide) d_A_numberAt_14,
  qq_aln X 0 rfl d_A_numberAt_17,
  qq_gf X 0 5 rfl (fun w h => List.mem_cons_of_mem _ (inE_A w h)) (by decide) (List.mem_cons_of_mem _ mw_100) d_A_numberAt_18,
  qq_iln X 1 rfl d_A_numberAt_21,
  qq_ia X d_A_numberAt_22,
  qq_go X 27 (by decide) d_A_numberAt_23,
  qq_ic X (-1) (by decide) d_A_numberAt_26,
  qq_ri Z d_A_numberAt_27, trivial⟩
def pre_A_numberAt : List Value → ev_M → ev_L → Prop := fun as σ τ => ∃ (i : Int32), as = [.ref 8, .int i]
def post_A_numberAt : List Value → ev_M → ev_L → Int32 → ev_M → ev_L → Prop := fun as σ τ r σ' τ' => match as with
  | [_, .int i] => r = sp_num (σ 8 10) (σ 14) i ∧ σ' = σ ∧ τ' = τ
  | _ => False
set_option maxHeartbeats 4000000 in
set_option maxRecDepth 100000 in
theorem c_A_numberAt (l : Launch) : ev_C ev_i l y_A_numberAt ws_A_numberAt rm_A_numberAt evLY evCl pre_A_numberAt post_A_numberAt := by
  refine ev_meth0 (by decide) rfl ev_rop_i ?_ I_A_numberAt (ok_A_numberAt l) 40 ?_
  · rintro _ σ τ ⟨i, rfl⟩
    exact Nat.le_of_ble_eq_true rfl
  · rintro _ σ τ ⟨i, rfl⟩
    refine ⟨rfl, ?_⟩
    rintro _ σ τ ⟨rfl, rfl, rfl⟩
    refine br_c (fun h => ?_) (fun h => br_c (fun h2 => ?_) (fun h2 => br_c (fun h3 => ?_) (fun h3 => ?_)))
    · exact ⟨(if_neg fun q => absurd q.1 (of_decide_eq_false (bz h))).symm, rfl, rfl⟩
    · exact ⟨(if_neg fun q => absurd (Int32.not_lt.mpr q.2.1) (fun w => w h2)).symm, rfl, rfl⟩
    · exact ⟨(if_neg fun q => absurd (Int32.not_le.mpr q.2.2) (fun w => w h3)).symm, rfl, rfl⟩
    · exact ⟨i_vin rfl h2 h3, (if_pos ⟨of_decide_eq_true (bnz h), Int32.not_lt.mp h2, Int32.not_le.mp h3⟩).symm, rfl, rfl⟩
def sp_nhd (c : Int32) (f g : Nat → Int32) (a : Int32) : Int32 := if ¬ sp_num c f a = -1 ∧ sp_idx c g (sp_num c f a) = a then sp_num c f a else -1
def y_A_numberOfHead : MethodName := ⟨RX0, "numberOfHead", "(I)I"⟩
def ws_A_numberOfHead : List Cond := .code y_A_numberOfHead prog_2_method_9_code 3 (some .int) :: evW
theorem d_A_numberOfHead_0 : decode prog_2_method_9_code 0 = .ok (.aload_n 0, 1) := by decide +kernel
theorem d_A_numberOfHead_1 : decode prog_2_method_9_code 1 = .ok (.iload_n 1, 1) := by decide +kernel
theorem d_A_numberOfHead_2 : decode prog_2_method_9_code 2 = .ok (.invokevirtual 52, 3) := by decide +kernel
theorem d_A_numberOfHead_5 : decode prog_2_method_9_code 5 = .ok (.istore_n 2, 1) := by decide +kernel
theorem d_A_numberOfHead_6 : decode prog_2_method_9_code 6 = .ok (.iload_n 2, 1) := by decide +kernel
theorem d_A_numberOfHead_7 : decode prog_2_method_9_code 7 = .ok (.iconst (-1), 1) := by decide +kernel
theorem d_A_numberOfHead_8 : decode prog_2_method_9_code 8 = .ok (.if_icmp .eq 16, 3) := by decide +kernel
theorem d_A_numberOfHead_11 : decode prog_2_method_9_code 11 = .ok (.aload_n 0, 1) := by decide +kernel
theorem d_A_numberOfHead_12 : decode prog_2_method_9_code 12 = .ok (.iload_n 2, 1) := by decide +kernel
theorem d_A_numberOfHead_13 : decode prog_2_method_9_code 13 = .ok (.invokevirtual 56, 3) := by decide +kernel
theorem d_A_numberOfHead_16 : decode prog_2_method_9_code 16 = .ok (.iload_n 1, 1) := by decide +kernel
theorem d_A_numberOfHead_17 : decode prog_2_method_9_code 17 = .ok (.if_icmp .ne 7, 3) := by decide +kernel
theorem d_A_numberOfHead_20 : decode prog_2_method_9_code 20 = .ok (.iload_n 2, 1) := by decide +kernel
theorem d_A_numberOfHead_21 : decode prog_2_method_9_code 21 = .ok (.goto 4, 3) := by decide +kernel
theorem d_A_numberOfHead_24 : decode prog_2_method_9_code 24 = .ok (.iconst (-1), 1) := by decide +kernel
theorem d_A_numberOfHead_25 : decode prog_2_method_9_code 25 = .ok (.ireturn, 1) := by decide +kernel
def I_A_numberOfHead (P : Int32 → ev_M → ev_L → Prop) : List (Nat × ev_T) := [(0, tt_al 0 1),
  (1, tt_il 1 2),
  (2, tt_cV evLY 0 1 ev_i pre_A_numberAt post_A_numberAt 5),
  (5, tt_is 2 6),
  (6, tt_il 2 7),
  (7, tt_k (-1) 8),
  (8, tt_iceq 24 11),
  (11, tt_al 0 12),
  (12, tt_il 2 13),
  (13, tt_cV evLY 0 1 ev_i pre_A_headOf post_A_headOf 16),
  (16, tt_il 1 17),
  (17, tt_icne 24 20),
  (20, tt_il 2 21),
  (21, tt_go 25),
  (24, tt_k (-1) 25),
  (25, tt_ri P)]
abbrev rm_A_numberOfHead : Room := { frames := 2, cells := 0, slots := 0, locals := 64 }
set_option maxRecDepth 20000 in
theorem ok_A_numberOfHead (l : Launch) (J : ev_K) (P : Int32 → ev_M → ev_L → Prop) (X : ev_X l rm_A_numberOfHead evLY evCl ws_A_numberOfHead prog_2_method_9_code 3 y_A_numberOfHead.cls J) (Z : ev_Z J prog_2_method_9_code .ireturn ev_i P) : ev_oks J (I_A_numberOfHead P) :=
  ⟨qq_aln X 0 rfl d_A_numberOfHead_0,
  qq_iln X 1 rfl d_A_numberOfHead_1,
  qq_cV X 0 rfl (c_A_numberAt l) (fun hts => cwV 1 hts (evGV (mw_687) (mw_217) (mw_218) (mw_4) (mw_219)) rfl rfl rfl (by decide +kernel) ⟨Nat.le_of_ble_eq_true rfl, Nat.le_of_ble_eq_true rfl⟩) d_A_numberOfHead_2,
  qq_isn X 2 rfl (by decide) d_A_numberOfHead_5,
  qq_iln X 2 rfl d_A_numberOfHead_6,
  qq_ic X (-1) (by decide) d_A_numberOfHead_7,
  qq_iceq X 24 (by decide) d_A_numberOfHead_8,
  qq_aln X 0 rfl d_A_numberOfHead_11,
  qq_iln X 2 rfl d_A_numberOfHead_12,
  qq_cV X 0 rfl (c_A_headOf l) (fun hts => cwV 1 hts (evGV (mw_688) (mw_500) (mw_501) (mw_4) (mw_502)) rfl rfl rfl (by decide +kernel) ⟨Nat.le_of_ble_eq_true rfl, Nat.le_of_ble_eq_true rfl⟩) d_A_numberOfHead_13,
  qq_iln X 1 rfl d_A_numberOfHead_16,
  qq_icne X 24 (by decide) d_A_numberOfHead_17,
  qq_iln X 2 rfl d_A_numberOfHead_20,
  qq_go X 25 (by decide) d_A_numberOfHead_21,
  qq_ic X (-1) (by decide) d_A_numberOfHead_24,
  qq_ri Z d_A_numberOfHead_25, trivial⟩
def pre_A_numberOfHead : List Value → ev_M → ev_L → Prop := fun as σ τ => ∃ (i : Int32), as = [.ref 8, .int i] ∧ (σ 8 10).toInt ≤ (96 : Nat)
def post_A_numberOfHead : List Value → ev_M → ev_L → Int32 → ev_M → ev_L → Prop := fun as σ τ r σ' τ' => match as with
  | [_, .int i] => r = sp_nhd (σ 8 10) (σ 14) (σ 15) i ∧ σ' = σ ∧ τ' = τ
  | _ => False
set_option maxHeartbeats 4000000 in
set_option maxRecDepth 100000 in
theorem c_A_numberOfHead (l : Launch) : ev_C ev_i l y_A_numberOfHead ws_A_numberOfHead rm_A_numberOfHead evLY evCl pre_A_numberOfHead post_A_numberOfHead := by
  refine ev_meth0 (by decide) rfl ev_rop_i ?_ I_A_numberOfHead (ok_A_numberOfHead l) 40 ?_
  · rintro _ σ τ ⟨i, rfl, hp⟩
    exact Nat.le_of_ble_eq_true rfl
  · rintro _ σ τ ⟨i, rfl, hp⟩
    refine ⟨⟨_, rfl⟩, ?_⟩
    rintro _ σ τ ⟨rfl, rfl, rfl⟩
    refine br_c (fun h => ?_) (fun h => ⟨⟨_, rfl, hp⟩, ?_⟩)
    · exact ⟨(if_neg fun q => q.1 h).symm, rfl, rfl⟩
    · rintro _ σ τ ⟨rfl, rfl, rfl⟩
      refine br_n (fun h2 => ?_) (fun h2 => ?_)
      · exact ⟨(if_neg fun q => h2 q.2).symm, rfl, rfl⟩
      · exact ⟨(if_pos ⟨h, h2⟩).symm, rfl, rfl⟩
def y_R_forget : MethodName := ⟨RX4, "forget", "()V"⟩
def ws_R_forget : List Cond := .code y_R_forget prog_6_method_2_code 1 none :: evW
theorem d_R_forget_0 : decode prog_6_method_2_code 0 = .ok (.aload_n 0, 1) := by decide +kernel
theorem d_R_forget_1 : decode prog_6_method_2_code 1 = .ok (.iconst 0, 1) := by decide +kernel
theorem d_R_forget_2 : decode prog_6_method_2_code 2 = .ok (.putfield 25, 3) := by decide +kernel
theorem d_R_forget_5 : decode prog_6_method_2_code 5 = .ok (.return_, 1) := by decide +kernel
def I_R_forget (P : Unit → ev_M → ev_L → Prop) : List (Nat × ev_T) := [(0, tt_al 0 1),
  (1, tt_k 0 2),
  (2, tt_pz evLY 4 3 5),
  (5, tt_rv P)]
abbrev rm_R_forget : Room := { frames := 0, cells := 0, slots := 0, locals := 0 }
set_option maxRecDepth 20000 in
theorem ok_R_forget (l : Launch) (J : ev_K) (P : Unit → ev_M → ev_L → Prop) (X : ev_X l rm_R_forget evLY evCl ws_R_forget prog_6_method_2_code 1 y_R_forget.cls J) (Z : ev_Z J prog_6_method_2_code .return_ ev_n P) : ev_oks J (I_R_forget P) :=
  ⟨qq_aln X 0 rfl d_R_forget_0,
  qq_ic X 0 (by decide) d_R_forget_1,
  qq_pz X 4 3 rfl (fun w h => List.mem_cons_of_mem _ (inE_R w h)) (by decide) tyX4 tyX4_ok nmX4 rfl (by decide +kernel) (List.mem_cons_of_mem _ mw_143) d_R_forget_2,
  qq_rv Z d_R_forget_5, trivial⟩
def pre_R_forget : List Value → ev_M → ev_L → Prop := fun as σ τ => as = [.ref 18]
def post_R_forget : List Value → ev_M → ev_L → Unit → ev_M → ev_L → Prop := fun as σ τ r σ' τ' => match as with
  | [_] => σ' = ev_u σ 18 3 0 ∧ τ' = τ
  | _ => False
set_option maxHeartbeats 4000000 in
set_option maxRecDepth 100000 in
theorem c_R_forget (l : Launch) : ev_C ev_n l y_R_forget ws_R_forget rm_R_forget evLY evCl pre_R_forget post_R_forget := by
  refine ev_meth0 (by decide) rfl ev_rop_v ?_ I_R_forget (ok_R_forget l) 40 ?_
  · rintro _ σ τ rfl
    exact Nat.le_of_ble_eq_true rfl
  · rintro _ σ τ rfl
    exact ⟨Or.inl rfl, rfl, rfl⟩
def y_R_exists : MethodName := ⟨RX4, "exists", "()Z"⟩
def ws_R_exists : List Cond := .code y_R_exists prog_6_method_3_code 1 (some .boolean) :: evW
theorem d_R_exists_0 : decode prog_6_method_3_code 0 = .ok (.aload_n 0, 1) := by decide +kernel
theorem d_R_exists_1 : decode prog_6_method_3_code 1 = .ok (.getfield 25, 3) := by decide +kernel
theorem d_R_exists_4 : decode prog_6_method_3_code 4 = .ok (.ireturn, 1) := by decide +kernel
def I_R_exists (P : Bool → ev_M → ev_L → Prop) : List (Nat × ev_T) := [(0, tt_al 0 1),
  (1, tt_gf evLY 4 3 4),
  (4, tt_rz P)]
abbrev rm_R_exists : Room := { frames := 0, cells := 0, slots := 0, locals := 0 }
set_option maxRecDepth 20000 in
theorem ok_R_exists (l : Launch) (J : ev_K) (P : Bool → ev_M → ev_L → Prop) (X : ev_X l rm_R_exists evLY evCl ws_R_exists prog_6_method_3_code 1 y_R_exists.cls J) (Z : ev_Z J prog_6_method_3_code .ireturn ev_b P) : ev_oks J (I_R_exists P) :=
  ⟨qq_aln X 0 rfl d_R_exists_0,
  qq_gf X 4 3 rfl (fun w h => List.mem_cons_of_mem _ (inE_R w h)) (by decide) (List.mem_cons_of_mem _ mw_143) d_R_exists_1,
  qq_rz Z d_R_exists_4, trivial⟩
def pre_R_exists : List Value → ev_M → ev_L → Prop := fun as σ τ => as = [.ref 18] ∧ (σ 18 3 = 0 ∨ σ 18 3 = 1)
def post_R_exists : List Value → ev_M → ev_L → Bool → ev_M → ev_L → Prop := fun as σ τ r σ' τ' => match as with
  | [_] => r = decide (σ 18 3 = 1) ∧ σ' = σ ∧ τ' = τ
  | _ => False
set_option maxHeartbeats 4000000 in
set_option maxRecDepth 100000 in
theorem c_R_exists (l : Launch) : ev_C ev_b l y_R_exists ws_R_exists rm_R_exists evLY evCl pre_R_exists post_R_exists := by
  refine ev_meth0 (by decide) rfl ev_rop_b ?_ I_R_exists (ok_R_exists l) 40 ?_
  · rintro _ σ τ ⟨rfl, hp⟩
    exact Nat.le_of_ble_eq_true rfl
  · rintro _ σ τ ⟨rfl, hp⟩
    rcases hp with hp | hp
    · exact ⟨false, hp, (decide_eq_false (by rw [hp]; decide)).symm, rfl, rfl⟩
    · exact ⟨true, hp, (decide_eq_true hp).symm, rfl, rfl⟩
def y_R_result : MethodName := ⟨RX4, "result", "()LBlockCounter$Program;"⟩
def ws_R_result : List Cond := .code y_R_result prog_6_method_4_code 1 (some (.object "BlockCounter$Program")) :: evW
theorem d_R_result_0 : decode prog_6_method_4_code 0 = .ok (.aload_n 0, 1) := by decide +kernel
theorem d_R_result_1 : decode prog_6_method_4_code 1 = .ok (.getfield 21, 3) := by decide +kernel
theorem d_R_result_4 : decode prog_6_method_4_code 4 = .ok (.areturn, 1) := by decide +kernel
def I_R_result (P : Nat → ev_M → ev_L → Prop) : List (Nat × ev_T) := [(0, tt_al 0 1),
  (1, tt_gf evLY 4 1 4),
  (4, tt_ra P)]
abbrev rm_R_result : Room := { frames := 0, cells := 0, slots := 0, locals := 0 }
set_option maxRecDepth 20000 in
theorem ok_R_result (l : Launch) (J : ev_K) (P : Nat → ev_M → ev_L → Prop) (X : ev_X l rm_R_result evLY evCl ws_R_result prog_6_method_4_code 1 y_R_result.cls J) (Z : ev_Z J prog_6_method_4_code .areturn ev_r P) : ev_oks J (I_R_result P) :=
  ⟨qq_aln X 0 rfl d_R_result_0,
  qq_gf X 4 1 rfl (fun w h => List.mem_cons_of_mem _ (inE_R w h)) (by decide) (List.mem_cons_of_mem _ mw_141) d_R_result_1,
  qq_ra Z d_R_result_4, trivial⟩
def pre_R_result : List Value → ev_M → ev_L → Prop := fun as σ τ => as = [.ref 18]
def post_R_result : List Value → ev_M → ev_L → Nat → ev_M → ev_L → Prop := fun as σ τ r σ' τ' => match as with
  | [_] => r = 20 ∧ σ' = σ ∧ τ' = τ
  | _ => False
set_option maxHeartbeats 4000000 in
set_option maxRecDepth 100000 in
theorem c_R_result (l : Launch) : ev_C ev_r l y_R_result ws_R_result rm_R_result evLY evCl pre_R_result post_R_result := by
  refine ev_meth0 (by decide) rfl (ev_rop_r _) ?_ I_R_result (ok_R_result l) 40 ?_
  · rintro _ σ τ rfl
    exact Nat.le_of_ble_eq_true rfl
  · rintro _ σ τ rfl
    exact ⟨rfl, rfl, rfl⟩
def y_R_used : MethodName := ⟨RX4, "used", "()I"⟩
def ws_R_used : List Cond := .code y_R_used prog_6_method_5_code 1 (some .int) :: evW
theorem d_R_used_0 : decode prog_6_method_5_code 0 = .ok (.aload_n 0, 1) := by decide +kernel
theorem d_R_used_1 : decode prog_6_method_5_code 1 = .ok (.getfield 29, 3) := by decide +kernel
theorem d_R_used_4 : decode prog_6_method_5_code 4 = .ok (.bipush 96, 2) := by decide +kernel
theorem d_R_used_6 : decode prog_6_method_5_code 6 = .ok (.isub, 1) := by decide +kernel
theorem d_R_used_7 : decode prog_6_method_5_code 7 = .ok (.ireturn, 1) := by decide +kernel
def I_R_used (P : Int32 → ev_M → ev_L → Prop) : List (Nat × ev_T) := [(0, tt_al 0 1),
  (1, tt_gf evLY 4 2 4),
  (4, tt_k 96 6),
  (6, tt_isub 7),
  (7, tt_ri P)]
abbrev rm_R_used : Room := { frames := 0, cells := 0, slots := 0, locals := 0 }
set_option maxRecDepth 20000 in
theorem ok_R_used (l : Launch) (J : ev_K) (P : Int32 → ev_M → ev_L → Prop) (X : ev_X l rm_R_used evLY evCl ws_R_used prog_6_method_5_code 1 y_R_used.cls J) (Z : ev_Z J prog_6_method_5_code .ireturn ev_i P) : ev_oks J (I_R_used P) :=
  ⟨qq_aln X 0 rfl d_R_used_0,
  qq_gf X 4 2 rfl (fun w h => List.mem_cons_of_mem _ (inE_R w h)) (by decide) (List.mem_cons_of_mem _ mw_142) d_R_used_1,
  qq_bp X 96 (by decide) d_R_used_4,
  qq_isub X d_R_used_6,
  qq_ri Z d_R_used_7, trivial⟩
def pre_R_used : List Value → ev_M → ev_L → Prop := fun as σ τ => as = [.ref 18]
def post_R_used : List Value → ev_M → ev_L → Int32 → ev_M → ev_L → Prop := fun as σ τ r σ' τ' => match as with
  | [_] => r = σ 18 2 - 96 ∧ σ' = σ ∧ τ' = τ
  | _ => False
set_option maxHeartbeats 4000000 in
set_option maxRecDepth 100000 in
theorem c_R_used (l : Launch) : ev_C ev_i l y_R_used ws_R_used rm_R_used evLY evCl pre_R_used post_R_used := by
  refine ev_meth0 (by decide) rfl ev_rop_i ?_ I_R_used (ok_R_used l) 40 ?_
  · rintro _ σ τ rfl
    exact Nat.le_of_ble_eq_true rfl
  · rintro _ σ τ rfl
    exact ⟨rfl, rfl, rfl⟩
/-- one byte more of new code -/
def sp_app (σ : ev_M) (v : Int32) : ev_M := ev_u (sp_put σ 21 (σ 18 2) v) 18 2 (σ 18 2 + 1)
theorem sp_put_18 (σ : ev_M) (a v : Int32) : sp_put σ 21 a v 18 = σ 18 := by
  unfold sp_put
  split <;> rfl
def y_R_append : MethodName := ⟨RX4, "append", "(I)V"⟩
def ws_R_append : List Cond := .code y_R_append prog_6_method_12_code 2 none :: evW
theorem d_R_append_0 : decode prog_6_method_12_code 0 = .ok (.aload_n 0, 1) := by decide +kernel
theorem d_R_append_1 : decode prog_6_method_12_code 1 = .ok (.getfield 21, 3) := by decide +kernel
theorem d_R_append_4 : decode prog_6_method_12_code 4 = .ok (.aload_n 0, 1) := by decide +kernel
theorem d_R_append_5 : decode prog_6_method_12_code 5 = .ok (.getfield 29, 3) := by decide +kernel
theorem d_R_append_8 : decode prog_6_method_12_code 8 = .ok (.iload_n 1, 1) := by decide +kernel
theorem d_R_append_9 : decode prog_6_method_12_code 9 = .ok (.invokevirtual 68, 3) := by decide +kernel
theorem d_R_append_12 : decode prog_6_method_12_code 12 = .ok (.aload_n 0, 1) := by decide +kernel
theorem d_R_append_13 : decode prog_6_method_12_code 13 = .ok (.dup, 1) := by decide +kernel
theorem d_R_append_14 : decode prog_6_method_12_code 14 = .ok (.getfield 29, 3) := by decide +kernel
theorem d_R_append_17 : decode prog_6_method_12_code 17 = .ok (.iconst 1, 1) := by decide +kernel
theorem d_R_append_18 : decode prog_6_method_12_code 18 = .ok (.iadd, 1) := by decide +kernel
theorem d_R_append_19 : decode prog_6_method_12_code 19 = .ok (.putfield 29, 3) := by decide +kernel
theorem d_R_append_22 : decode prog_6_method_12_code 22 = .ok (.return_, 1) := by decide +kernel
def I_R_append (P : Unit → ev_M → ev_L → Prop) : List (Nat × ev_T) := [(0, tt_al 0 1),
  (1, tt_gf evLY 4 1 4),
  (4, tt_al 0 5),
  (5, tt_gf evLY 4 2 8),
  (8, tt_il 1 9),
  (9, tt_cV evLY 3 2 ev_n pre_P_put post_P_put 12),
  (12, tt_al 0 13),
  (13, tt_dup 14),
  (14, tt_gf evLY 4 2 17),
  (17, tt_k 1 18),
  (18, tt_iadd 19),
  (19, tt_pf evLY 4 2 22),
  (22, tt_rv P)]
abbrev rm_R_append : Room := { frames := 1, cells := 0, slots := 0, locals := 32 }
set_option maxRecDepth 20000 in
theorem ok_R_append (l : Launch) (J : ev_K) (P : Unit → ev_M → ev_L → Prop) (X : ev_X l rm_R_append evLY evCl ws_R_append prog_6_method_12_code 2 y_R_append.cls J) (Z : ev_Z J prog_6_method_12_code .return_ ev_n P) : ev_oks J (I_R_append P) :=
  ⟨qq_aln X 0 rfl d_R_append_0,
  qq_gf X 4 1 rfl (fun w h => List.mem_cons_of_mem _ (inE_R w h)) (by decide) (List.mem_cons_of_mem _ mw_141) d_R_append_1,
  qq_aln X 0 rfl d_R_append_4,
  qq_gf X 4 2 rfl (fun w h => List.mem_cons_of_mem _ (inE_R w h)) (by decide) (List.mem_cons_of_mem _ mw_142) d_R_append_5,
  qq_iln X 1 rfl d_R_append_8,
  qq_cV X 3 rfl (c_P_put l) (fun hts => cwV 2 hts (evGV (mw_539) (mw_310) (mw_311) (mw_2) (mw_312)) rfl rfl rfl (by decide +kernel) ⟨Nat.le_of_ble_eq_true rfl, Nat.le_of_ble_eq_true rfl⟩) d_R_append_9,
  qq_aln X 0 rfl d_R_append_12,
  qq_dup X d_R_append_13,
  qq_gf X 4 2 rfl (fun w h => List.mem_cons_of_mem _ (inE_R w h)) (by decide) (List.mem_cons_of_mem _ mw_142) d_R_append_14,
  qq_ic X 1 (by decide) d_R_append_17,
  qq_iadd X d_R_append_18,
  qq_pf X 4 2 rfl (fun w h => List.mem_cons_of_mem _ (inE_R w h)) (by decide) tyX4 tyX4_ok nmX4 rfl (by decide +kernel) (List.mem_cons_of_mem _ mw_142) d_R_append_19,
  qq_rv Z d_R_append_22, trivial⟩
def pre_R_append : List Value → ev_M → ev_L → Prop := fun as σ τ => ∃ (v : Int32), as = [.ref 18, .int v]
def post_R_append : List Value → ev_M → ev_L → Unit → ev_M → ev_L → Prop := fun as σ τ r σ' τ' => match as with
  | [_, .int v] => σ' = sp_app σ v ∧ τ' = τ
  | _ => False
set_option maxHeartbeats 4000000 in
set_option maxRecDepth 100000 in
theorem c_R_append (l : Launch) : ev_C ev_n l y_R_append ws_R_append rm_R_append evLY evCl pre_R_append post_R_append := by
  refine ev_meth0 (by decide) rfl ev_rop_v ?_ I_R_append (ok_R_append l) 40 ?_
  · rintro _ σ τ ⟨v, rfl⟩
    exact Nat.le_of_ble_eq_true rfl
  · rintro _ σ τ ⟨v, rfl⟩
    refine ⟨⟨_, _, _, rfl, by decide⟩, ?_⟩
    rintro _ σ1 τ ⟨rfl, rfl⟩
    refine ⟨?_, rfl⟩
    show ev_u _ 18 2 (sp_put σ 21 (σ 18 2) v 18 2 + 1) = _
    rw [sp_put_18]; rfl
def y_R_appendJump : MethodName := ⟨RX4, "appendJump", "(I)V"⟩
def ws_R_appendJump : List Cond := .code y_R_appendJump prog_6_method_11_code 2 none :: evW
theorem d_R_appendJump_0 : decode prog_6_method_11_code 0 = .ok (.aload_n 0, 1) := by decide +kernel
theorem d_R_appendJump_1 : decode prog_6_method_11_code 1 = .ok (.bipush 69, 2) := by decide +kernel
theorem d_R_appendJump_3 : decode prog_6_method_11_code 3 = .ok (.invokevirtual 50, 3) := by decide +kernel
theorem d_R_appendJump_6 : decode prog_6_method_11_code 6 = .ok (.aload_n 0, 1) := by decide +kernel
theorem d_R_appendJump_7 : decode prog_6_method_11_code 7 = .ok (.iload_n 1, 1) := by decide +kernel
theorem d_R_appendJump_8 : decode prog_6_method_11_code 8 = .ok (.invokevirtual 50, 3) := by decide +kernel
theorem d_R_appendJump_11 : decode prog_6_method_11_code 11 = .ok (.return_, 1) := by decide +kernel
def I_R_appendJump (P : Unit → ev_M → ev_L → Prop) : List (Nat × ev_T) := [(0, tt_al 0 1),
  (1, tt_k 69 3),
  (3, tt_cV evLY 4 1 ev_n pre_R_append post_R_append 6),
  (6, tt_al 0 7),
  (7, tt_il 1 8),
  (8, tt_cV evLY 4 1 ev_n pre_R_append post_R_append 11),
  (11, tt_rv P)]
abbrev rm_R_appendJump : Room := { frames := 2, cells := 0, slots := 0, locals := 64 }
set_option maxRecDepth 20000 in
theorem ok_R_appendJump (l : Launch) (J : ev_K) (P : Unit → ev_M → ev_L → Prop) (X : ev_X l rm_R_appendJump evLY evCl ws_R_appendJump prog_6_method_11_code 2 y_R_appendJump.cls J) (Z : ev_Z J prog_6_method_11_code .return_ ev_n P) : ev_oks J (I_R_appendJump P) :=
  ⟨qq_aln X 0 rfl d_R_appendJump_0,
  qq_bp X 69 (by decide) d_R_appendJump_1,
  qq_cV X 4 rfl (c_R_append l) (fun hts => cwV 1 hts (evGV (mw_535) (mw_537) (mp_10) (mw_6) (mw_538)) rfl rfl rfl (by decide +kernel) ⟨Nat.le_of_ble_eq_true rfl, Nat.le_of_ble_eq_true rfl⟩) d_R_appendJump_3,
  qq_aln X 0 rfl d_R_appendJump_6,
  qq_iln X 1 rfl d_R_appendJump_7,
  qq_cV X 4 rfl (c_R_append l) (fun hts => cwV 1 hts (evGV (mw_535) (mw_537) (mp_10) (mw_6) (mw_538)) rfl rfl rfl (by decide +kernel) ⟨Nat.le_of_ble_eq_true rfl, Nat.le_of_ble_eq_true rfl⟩) d_R_appendJump_8,
  qq_rv Z d_R_appendJump_11, trivial⟩
def pre_R_appendJump : List Value → ev_M → ev_L → Prop := fun as σ τ => ∃ (v : Int32), as = [.ref 18, .int v]
def post_R_appendJump : List Value → ev_M → ev_L → Unit → ev_M → ev_L → Prop := fun as σ τ r σ' τ' => match as with
  | [_, .int v] => σ' = sp_app (sp_app σ 69) v ∧ τ' = τ
  | _ => False
set_option maxHeartbeats 4000000 in
set_option maxRecDepth 100000 in
theorem c_R_appendJump (l : Launch) : ev_C ev_n l y_R_appendJump ws_R_appendJump rm_R_appendJump evLY evCl pre_R_appendJump post_R_appendJump := by
  refine ev_meth0 (by decide) rfl ev_rop_v ?_ I_R_appendJump (ok_R_appendJump l) 40 ?_
  · rintro _ σ τ ⟨v, rfl⟩
    exact Nat.le_of_ble_eq_true rfl
  · rintro _ σ τ ⟨v, rfl⟩
    refine ⟨⟨_, rfl⟩, ?_⟩
    rintro _ _ _ ⟨rfl, rfl⟩
    refine ⟨⟨_, rfl⟩, ?_⟩
    rintro _ _ _ ⟨rfl, rfl⟩
    exact ⟨rfl, rfl⟩
