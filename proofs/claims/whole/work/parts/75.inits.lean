/-! the constructors -/
def y_P_init : MethodName := ⟨RX3, "<init>", "()V"⟩
def ws_P_init : List Cond := .code y_P_init prog_5_method_1_code 1 none :: evW
theorem d_P_init_0 : decode prog_5_method_1_code 0 = .ok (.aload_n 0, 1) := by decide +kernel
theorem d_P_init_1 : decode prog_5_method_1_code 1 = .ok (.invokespecial 3, 3) := by decide +kernel
theorem d_P_init_4 : decode prog_5_method_1_code 4 = .ok (.aload_n 0, 1) := by decide +kernel
theorem d_P_init_5 : decode prog_5_method_1_code 5 = .ok (.sipush 256, 3) := by decide +kernel
theorem d_P_init_8 : decode prog_5_method_1_code 8 = .ok (.newarray .int, 2) := by decide +kernel
theorem d_P_init_10 : decode prog_5_method_1_code 10 = .ok (.putfield 9, 3) := by decide +kernel
theorem d_P_init_13 : decode prog_5_method_1_code 13 = .ok (.aload_n 0, 1) := by decide +kernel
theorem d_P_init_14 : decode prog_5_method_1_code 14 = .ok (.bipush 96, 2) := by decide +kernel
theorem d_P_init_16 : decode prog_5_method_1_code 16 = .ok (.newarray .int, 2) := by decide +kernel
theorem d_P_init_18 : decode prog_5_method_1_code 18 = .ok (.putfield 15, 3) := by decide +kernel
theorem d_P_init_21 : decode prog_5_method_1_code 21 = .ok (.return_, 1) := by decide +kernel
def df_P_init : List Value := [.null, .null]
theorem df_ok_P_init : ∀ j, j < 2 → defaultValue (tyX3 j) = vp_V df_P_init j := by decide +kernel
def M_P_init : List cn_D := [(3, 3, [.ref 1, .ref 2]), (0, 256, []), (0, 96, [])]
abbrev rm_P_init : Room := { frames := 1, cells := 2, slots := 352, locals := 32 }
set_option maxHeartbeats 4000000 in
set_option maxRecDepth 100000 in
theorem c_P_init (l : Launch) : cn_C l y_P_init ws_P_init rm_P_init 3 df_P_init M_P_init 2 352 := by
  refine cn_meth (by decide) rfl (by decide) rfl rfl (fun _ => rfl) ⟨rfl, rfl⟩ ?_
  intro p e s m args below meth c Q D K3 A b hx hb hml hown hts hK hK3 hN3 hA hnm hret
  refine cn_al hx hb 0 0 rfl rfl d_P_init_0 ?_
  refine cn_ob hx hb hml hown (hts _ (List.mem_cons_of_mem _ mw_32)) (hts _ (List.mem_cons_of_mem _ mw_25)) (hts _ (List.mem_cons_of_mem _ mw_26)) (by decide) (by decide) (by decide) d_P_init_1 ?_
  refine cn_al hx hb 0 0 rfl rfl d_P_init_4 ?_
  refine cn_sp hx hb 256 (by decide) d_P_init_5 ?_
  refine cn_na hx hb hA hK3 0 256 (by decide) (hts _ (List.mem_cons_of_mem _ mw_40)) (by decide) (by decide) (by decide) ⟨by decide, by decide⟩ ⟨by decide, by decide⟩ (by decide) rfl rfl rfl d_P_init_8 ?_
  show cn_WS p l e _ s m args below meth c Q _ D K3 A 0 b 1 _ 10 [.ref 0] [.ref 1, .ref 0] [(3, 3, [.null, .null]), (0, 256, [])]
  refine cn_pf hx hb 3 0 rfl hts (fun w h => List.mem_cons_of_mem _ (inE_P w h)) tyX3 tyX3_ok nmX3 hown hK rfl (by decide) (List.mem_cons_of_mem _ mw_33) rfl hnm rfl (ty := .array .int) (by decide +kernel) (fun _ => rfl) (fun _ => rfl) (by decide) d_P_init_10 ?_
  show cn_WS p l e _ s m args below meth c Q _ D K3 A 0 b 1 _ 13 [.ref 0] [] [(3, 3, [.ref 1, .null]), (0, 256, [])]
  refine cn_al hx hb 0 0 rfl rfl d_P_init_13 ?_
  refine cn_bp hx hb 96 (by decide) d_P_init_14 ?_
  refine cn_na hx hb hA hK3 0 96 (by decide) (hts _ (List.mem_cons_of_mem _ mw_40)) (by decide) (by decide) (by decide) ⟨by decide, by decide⟩ ⟨by decide, by decide⟩ (by decide) rfl rfl rfl d_P_init_16 ?_
  show cn_WS p l e _ s m args below meth c Q _ D K3 A 0 b 1 _ 18 [.ref 0] [.ref 2, .ref 0] [(3, 3, [.ref 1, .null]), (0, 256, []), (0, 96, [])]
  refine cn_pf hx hb 3 1 rfl hts (fun w h => List.mem_cons_of_mem _ (inE_P w h)) tyX3 tyX3_ok nmX3 hown hK rfl (by decide) (List.mem_cons_of_mem _ mw_34) rfl hnm rfl (ty := .array .int) (by decide +kernel) (fun _ => rfl) (fun _ => rfl) (by decide) d_P_init_18 ?_
  show cn_WS p l e _ s m args below meth c Q _ D K3 A 0 b 1 _ 21 [.ref 0] [] [(3, 3, [.ref 1, .ref 2]), (0, 256, []), (0, 96, [])]
  exact hret 21 d_P_init_21
def y_T_init : MethodName := ⟨RX5, "<init>", "()V"⟩
def ws_T_init : List Cond := .code y_T_init prog_7_method_1_code 1 none :: evW
theorem d_T_init_0 : decode prog_7_method_1_code 0 = .ok (.aload_n 0, 1) := by decide +kernel
theorem d_T_init_1 : decode prog_7_method_1_code 1 = .ok (.invokespecial 1, 3) := by decide +kernel
theorem d_T_init_4 : decode prog_7_method_1_code 4 = .ok (.aload_n 0, 1) := by decide +kernel
theorem d_T_init_5 : decode prog_7_method_1_code 5 = .ok (.iconst 4, 1) := by decide +kernel
theorem d_T_init_6 : decode prog_7_method_1_code 6 = .ok (.newarray .int, 2) := by decide +kernel
theorem d_T_init_8 : decode prog_7_method_1_code 8 = .ok (.putfield 9, 3) := by decide +kernel
theorem d_T_init_11 : decode prog_7_method_1_code 11 = .ok (.aload_n 0, 1) := by decide +kernel
theorem d_T_init_12 : decode prog_7_method_1_code 12 = .ok (.iconst 4, 1) := by decide +kernel
theorem d_T_init_13 : decode prog_7_method_1_code 13 = .ok (.newarray .int, 2) := by decide +kernel
theorem d_T_init_15 : decode prog_7_method_1_code 15 = .ok (.putfield 13, 3) := by decide +kernel
theorem d_T_init_18 : decode prog_7_method_1_code 18 = .ok (.return_, 1) := by decide +kernel
def df_T_init : List Value := [.null, .null, .int 0]
theorem df_ok_T_init : ∀ j, j < 3 → defaultValue (tyX5 j) = vp_V df_T_init j := by decide +kernel
def M_T_init : List cn_D := [(3, 5, [.ref 1, .ref 2, .int 0]), (0, 4, []), (0, 4, [])]
abbrev rm_T_init : Room := { frames := 1, cells := 2, slots := 8, locals := 32 }
set_option maxHeartbeats 4000000 in
set_option maxRecDepth 100000 in
theorem c_T_init (l : Launch) : cn_C l y_T_init ws_T_init rm_T_init 5 df_T_init M_T_init 2 8 := by
  refine cn_meth (by decide) rfl (by decide) rfl rfl (fun _ => rfl) ⟨rfl, rfl⟩ ?_
  intro p e s m args below meth c Q D K3 A b hx hb hml hown hts hK hK3 hN3 hA hnm hret
  refine cn_al hx hb 0 0 rfl rfl d_T_init_0 ?_
  refine cn_ob hx hb hml hown (hts _ (List.mem_cons_of_mem _ mw_46)) (hts _ (List.mem_cons_of_mem _ mw_25)) (hts _ (List.mem_cons_of_mem _ mw_26)) (by decide) (by decide) (by decide) d_T_init_1 ?_
  refine cn_al hx hb 0 0 rfl rfl d_T_init_4 ?_
  refine cn_ic hx hb 4 (by decide) d_T_init_5 ?_
  refine cn_na hx hb hA hK3 0 4 (by decide) (hts _ (List.mem_cons_of_mem _ mw_40)) (by decide) (by decide) (by decide) ⟨by decide, by decide⟩ ⟨by decide, by decide⟩ (by decide) rfl rfl rfl d_T_init_6 ?_
  show cn_WS p l e _ s m args below meth c Q _ D K3 A 0 b 1 _ 8 [.ref 0] [.ref 1, .ref 0] [(3, 5, [.null, .null, .int 0]), (0, 4, [])]
  refine cn_pf hx hb 5 0 rfl hts (fun w h => List.mem_cons_of_mem _ (inE_T w h)) tyX5 tyX5_ok nmX5 hown hK rfl (by decide) (List.mem_cons_of_mem _ mw_47) rfl hnm rfl (ty := .array .int) (by decide +kernel) (fun _ => rfl) (fun _ => rfl) (by decide) d_T_init_8 ?_
  show cn_WS p l e _ s m args below meth c Q _ D K3 A 0 b 1 _ 11 [.ref 0] [] [(3, 5, [.ref 1, .null, .int 0]), (0, 4, [])]
  refine cn_al hx hb 0 0 rfl rfl d_T_init_11 ?_
  refine cn_ic hx hb 4 (by decide) d_T_init_12 ?_
  refine cn_na hx hb hA hK3 0 4 (by decide) (hts _ (List.mem_cons_of_mem _ mw_40)) (by decide) (by decide) (by decide) ⟨by decide, by decide⟩ ⟨by decide, by decide⟩ (by decide) rfl rfl rfl d_T_init_13 ?_
  show cn_WS p l e _ s m args below meth c Q _ D K3 A 0 b 1 _ 15 [.ref 0] [.ref 2, .ref 0] [(3, 5, [.ref 1, .null, .int 0]), (0, 4, []), (0, 4, [])]
  refine cn_pf hx hb 5 1 rfl hts (fun w h => List.mem_cons_of_mem _ (inE_T w h)) tyX5 tyX5_ok nmX5 hown hK rfl (by decide) (List.mem_cons_of_mem _ mw_48) rfl hnm rfl (ty := .array .int) (by decide +kernel) (fun _ => rfl) (fun _ => rfl) (by decide) d_T_init_15 ?_
  show cn_WS p l e _ s m args below meth c Q _ D K3 A 0 b 1 _ 18 [.ref 0] [] [(3, 5, [.ref 1, .ref 2, .int 0]), (0, 4, []), (0, 4, [])]
  exact hret 18 d_T_init_18
def y_I_init : MethodName := ⟨RX1, "<init>", "()V"⟩
def ws_I_init : List Cond := .code y_I_init prog_3_method_1_code 1 none :: evW
theorem d_I_init_0 : decode prog_3_method_1_code 0 = .ok (.aload_n 0, 1) := by decide +kernel
theorem d_I_init_1 : decode prog_3_method_1_code 1 = .ok (.invokespecial 1, 3) := by decide +kernel
theorem d_I_init_4 : decode prog_3_method_1_code 4 = .ok (.return_, 1) := by decide +kernel
def df_I_init : List Value := [.int 0, .int 0, .int 0, .int 0, .int 0]
theorem df_ok_I_init : ∀ j, j < 5 → defaultValue (tyX1 j) = vp_V df_I_init j := by decide +kernel
def M_I_init : List cn_D := [(3, 1, [.int 0, .int 0, .int 0, .int 0, .int 0])]
abbrev rm_I_init : Room := { frames := 1, cells := 0, slots := 0, locals := 32 }
set_option maxHeartbeats 4000000 in
set_option maxRecDepth 100000 in
theorem c_I_init (l : Launch) : cn_C l y_I_init ws_I_init rm_I_init 1 df_I_init M_I_init 0 0 := by
  refine cn_meth (by decide) rfl (by decide) rfl rfl (fun _ => rfl) ⟨rfl, rfl⟩ ?_
  intro p e s m args below meth c Q D K3 A b hx hb hml hown hts hK hK3 hN3 hA hnm hret
  refine cn_al hx hb 0 0 rfl rfl d_I_init_0 ?_
  refine cn_ob hx hb hml hown (hts _ (List.mem_cons_of_mem _ mw_68)) (hts _ (List.mem_cons_of_mem _ mw_25)) (hts _ (List.mem_cons_of_mem _ mw_26)) (by decide) (by decide) (by decide) d_I_init_1 ?_
  exact hret 4 d_I_init_4
def y_A_init : MethodName := ⟨RX0, "<init>", "()V"⟩
def ws_A_init : List Cond := .code y_A_init prog_2_method_1_code 1 none :: evW
theorem d_A_init_0 : decode prog_2_method_1_code 0 = .ok (.aload_n 0, 1) := by decide +kernel
theorem d_A_init_1 : decode prog_2_method_1_code 1 = .ok (.invokespecial 3, 3) := by decide +kernel
theorem d_A_init_4 : decode prog_2_method_1_code 4 = .ok (.aload_n 0, 1) := by decide +kernel
theorem d_A_init_5 : decode prog_2_method_1_code 5 = .ok (.new 9, 3) := by decide +kernel
theorem d_A_init_8 : decode prog_2_method_1_code 8 = .ok (.dup, 1) := by decide +kernel
theorem d_A_init_9 : decode prog_2_method_1_code 9 = .ok (.invokespecial 11, 3) := by decide +kernel
theorem d_A_init_12 : decode prog_2_method_1_code 12 = .ok (.putfield 12, 3) := by decide +kernel
theorem d_A_init_15 : decode prog_2_method_1_code 15 = .ok (.aload_n 0, 1) := by decide +kernel
theorem d_A_init_16 : decode prog_2_method_1_code 16 = .ok (.bipush 96, 2) := by decide +kernel
theorem d_A_init_18 : decode prog_2_method_1_code 18 = .ok (.newarray .int, 2) := by decide +kernel
theorem d_A_init_20 : decode prog_2_method_1_code 20 = .ok (.putfield 18, 3) := by decide +kernel
theorem d_A_init_23 : decode prog_2_method_1_code 23 = .ok (.aload_n 0, 1) := by decide +kernel
theorem d_A_init_24 : decode prog_2_method_1_code 24 = .ok (.bipush 96, 2) := by decide +kernel
theorem d_A_init_26 : decode prog_2_method_1_code 26 = .ok (.newarray .boolean, 2) := by decide +kernel
theorem d_A_init_28 : decode prog_2_method_1_code 28 = .ok (.putfield 22, 3) := by decide +kernel
theorem d_A_init_31 : decode prog_2_method_1_code 31 = .ok (.aload_n 0, 1) := by decide +kernel
theorem d_A_init_32 : decode prog_2_method_1_code 32 = .ok (.bipush 96, 2) := by decide +kernel
theorem d_A_init_34 : decode prog_2_method_1_code 34 = .ok (.newarray .boolean, 2) := by decide +kernel
theorem d_A_init_36 : decode prog_2_method_1_code 36 = .ok (.putfield 26, 3) := by decide +kernel
theorem d_A_init_39 : decode prog_2_method_1_code 39 = .ok (.aload_n 0, 1) := by decide +kernel
theorem d_A_init_40 : decode prog_2_method_1_code 40 = .ok (.bipush 96, 2) := by decide +kernel
theorem d_A_init_42 : decode prog_2_method_1_code 42 = .ok (.newarray .boolean, 2) := by decide +kernel
theorem d_A_init_44 : decode prog_2_method_1_code 44 = .ok (.putfield 29, 3) := by decide +kernel
theorem d_A_init_47 : decode prog_2_method_1_code 47 = .ok (.aload_n 0, 1) := by decide +kernel
theorem d_A_init_48 : decode prog_2_method_1_code 48 = .ok (.bipush 96, 2) := by decide +kernel
theorem d_A_init_50 : decode prog_2_method_1_code 50 = .ok (.newarray .int, 2) := by decide +kernel
theorem d_A_init_52 : decode prog_2_method_1_code 52 = .ok (.putfield 32, 3) := by decide +kernel
theorem d_A_init_55 : decode prog_2_method_1_code 55 = .ok (.aload_n 0, 1) := by decide +kernel
theorem d_A_init_56 : decode prog_2_method_1_code 56 = .ok (.bipush 96, 2) := by decide +kernel
theorem d_A_init_58 : decode prog_2_method_1_code 58 = .ok (.newarray .int, 2) := by decide +kernel
theorem d_A_init_60 : decode prog_2_method_1_code 60 = .ok (.putfield 35, 3) := by decide +kernel
theorem d_A_init_63 : decode prog_2_method_1_code 63 = .ok (.aload_n 0, 1) := by decide +kernel
theorem d_A_init_64 : decode prog_2_method_1_code 64 = .ok (.bipush 96, 2) := by decide +kernel
theorem d_A_init_66 : decode prog_2_method_1_code 66 = .ok (.newarray .int, 2) := by decide +kernel
theorem d_A_init_68 : decode prog_2_method_1_code 68 = .ok (.putfield 38, 3) := by decide +kernel
theorem d_A_init_71 : decode prog_2_method_1_code 71 = .ok (.aload_n 0, 1) := by decide +kernel
theorem d_A_init_72 : decode prog_2_method_1_code 72 = .ok (.bipush 96, 2) := by decide +kernel
theorem d_A_init_74 : decode prog_2_method_1_code 74 = .ok (.newarray .int, 2) := by decide +kernel
theorem d_A_init_76 : decode prog_2_method_1_code 76 = .ok (.putfield 41, 3) := by decide +kernel
theorem d_A_init_79 : decode prog_2_method_1_code 79 = .ok (.return_, 1) := by decide +kernel
def df_A_init : List Value := [.null, .null, .null, .null, .null, .null, .null, .null, .null, .int 0, .int 0]
theorem df_ok_A_init : ∀ j, j < 11 → defaultValue (tyX0 j) = vp_V df_A_init j := by decide +kernel
def M_A_init : List cn_D := [(3, 0, [.ref 1, .ref 2, .ref 3, .ref 4, .ref 5, .ref 6, .ref 7, .ref 8, .ref 9, .int 0, .int 0]), (3, 1, [.int 0, .int 0, .int 0, .int 0, .int 0]), (0, 96, []), (1, 96, []), (1, 96, []), (1, 96, []), (0, 96, []), (0, 96, []), (0, 96, []), (0, 96, [])]
abbrev rm_A_init : Room := { frames := 2, cells := 9, slots := 773, locals := 64 }
set_option maxHeartbeats 4000000 in
set_option maxRecDepth 100000 in
theorem c_A_init (l : Launch) : cn_C l y_A_init ws_A_init rm_A_init 0 df_A_init M_A_init 9 773 := by
  refine cn_meth (by decide) rfl (by decide) rfl rfl (fun _ => rfl) ⟨rfl, rfl⟩ ?_
  intro p e s m args below meth c Q D K3 A b hx hb hml hown hts hK hK3 hN3 hA hnm hret
  refine cn_al hx hb 0 0 rfl rfl d_A_init_0 ?_
  refine cn_ob hx hb hml hown (hts _ (List.mem_cons_of_mem _ mw_62)) (hts _ (List.mem_cons_of_mem _ mw_25)) (hts _ (List.mem_cons_of_mem _ mw_26)) (by decide) (by decide) (by decide) d_A_init_1 ?_
  refine cn_al hx hb 0 0 rfl rfl d_A_init_4 ?_
  refine cn_new hx hb hA hK3 hN3 (N9 := 5) 1 rfl hts (fun w h => List.mem_cons_of_mem _ (inE_I w h)) tyX1 tyX1_ok hown (List.mem_cons_of_mem _ mw_63) (List.mem_cons_of_mem _ mw_64) (List.mem_cons_of_mem _ mw_5) hK (df := df_I_init) df_ok_I_init rfl (mc := 0) (ms := 0) (M := M_I_init) (fun H locs cells slots ls q rest hls hr hp hf => va_runIN (host := "BlockCounter") (b := q) (As := []) (n := 0) ⟨hx, hb, hml, hown, hts⟩ (c_I_init l D K3 q H.size) (⟨va_cnB (host := "BlockCounter") 0 hts (evGI (mw_67)) rfl rfl rfl (hN3 _ (by decide +kernel)) (hts _ (List.mem_cons_of_mem _ mw_5)) (by decide +kernel) ⟨Nat.le_of_ble_eq_true rfl, Nat.le_of_ble_eq_true rfl⟩, rfl, hts _ (List.mem_cons_of_mem _ mw_66)⟩) hp rfl rfl hls rfl (lv_room hr) d_A_init_9 hf) ⟨rfl, rfl, rfl⟩ ⟨by decide, by decide⟩ ⟨by decide, by decide⟩ (by decide) rfl rfl rfl (by decide) d_A_init_5 d_A_init_8 ?_
  show cn_WS p l e _ s m args below meth c Q _ D K3 A 0 b 1 _ 12 [.ref 0] [.ref 1, .ref 0] [(3, 0, [.null, .null, .null, .null, .null, .null, .null, .null, .null, .int 0, .int 0]), (3, 1, [.int 0, .int 0, .int 0, .int 0, .int 0])]
  refine cn_pf hx hb 0 0 rfl hts (fun w h => List.mem_cons_of_mem _ (inE_A w h)) tyX0 tyX0_ok nmX0 hown hK rfl (by decide) (List.mem_cons_of_mem _ mw_95) rfl hnm rfl (ty := .object "BlockCounter$Instruction") (by decide +kernel) (fun _ => rfl) (fun _ => rfl) (by decide) d_A_init_12 ?_
  show cn_WS p l e _ s m args below meth c Q _ D K3 A 0 b 1 _ 15 [.ref 0] [] [(3, 0, [.ref 1, .null, .null, .null, .null, .null, .null, .null, .null, .int 0, .int 0]), (3, 1, [.int 0, .int 0, .int 0, .int 0, .int 0])]
  refine cn_al hx hb 0 0 rfl rfl d_A_init_15 ?_
  refine cn_bp hx hb 96 (by decide) d_A_init_16 ?_
  refine cn_na hx hb hA hK3 0 96 (by decide) (hts _ (List.mem_cons_of_mem _ mw_40)) (by decide) (by decide) (by decide) ⟨by decide, by decide⟩ ⟨by decide, by decide⟩ (by decide) rfl rfl rfl d_A_init_18 ?_
  show cn_WS p l e _ s m args below meth c Q _ D K3 A 0 b 1 _ 20 [.ref 0] [.ref 2, .ref 0] [(3, 0, [.ref 1, .null, .null, .null, .null, .null, .null, .null, .null, .int 0, .int 0]), (3, 1, [.int 0, .int 0, .int 0, .int 0, .int 0]), (0, 96, [])]
  refine cn_pf hx hb 0 1 rfl hts (fun w h => List.mem_cons_of_mem _ (inE_A w h)) tyX0 tyX0_ok nmX0 hown hK rfl (by decide) (List.mem_cons_of_mem _ mw_96) rfl hnm rfl (ty := .array .int) (by decide +kernel) (fun _ => rfl) (fun _ => rfl) (by decide) d_A_init_20 ?_
  show cn_WS p l e _ s m args below meth c Q _ D K3 A 0 b 1 _ 23 [.ref 0] [] [(3, 0, [.ref 1, .ref 2, .null, .null, .null, .null, .null, .null, .null, .int 0, .int 0]), (3, 1, [.int 0, .int 0, .int 0, .int 0, .int 0]), (0, 96, [])]
  refine cn_al hx hb 0 0 rfl rfl d_A_init_23 ?_
  refine cn_bp hx hb 96 (by decide) d_A_init_24 ?_
  refine cn_na hx hb hA hK3 1 96 (by decide) (hts _ (List.mem_cons_of_mem _ mw_129)) (by decide) (by decide) (by decide) ⟨by decide, by decide⟩ ⟨by decide, by decide⟩ (by decide) rfl rfl rfl d_A_init_26 ?_
  show cn_WS p l e _ s m args below meth c Q _ D K3 A 0 b 1 _ 28 [.ref 0] [.ref 3, .ref 0] [(3, 0, [.ref 1, .ref 2, .null, .null, .null, .null, .null, .null, .null, .int 0, .int 0]), (3, 1, [.int 0, .int 0, .int 0, .int 0, .int 0]), (0, 96, []), (1, 96, [])]
  refine cn_pf hx hb 0 2 rfl hts (fun w h => List.mem_cons_of_mem _ (inE_A w h)) tyX0 tyX0_ok nmX0 hown hK rfl (by decide) (List.mem_cons_of_mem _ mw_97) rfl hnm rfl (ty := .array .boolean) (by decide +kernel) (fun _ => rfl) (fun _ => rfl) (by decide) d_A_init_28 ?_
  show cn_WS p l e _ s m args below meth c Q _ D K3 A 0 b 1 _ 31 [.ref 0] [] [(3, 0, [.ref 1, .ref 2, .ref 3, .null, .null, .null, .null, .null, .null, .int 0, .int 0]), (3, 1, [.int 0, .int 0, .int 0, .int 0, .int 0]), (0, 96, []), (1, 96, [])]
  refine cn_al hx hb 0 0 rfl rfl d_A_init_31 ?_
  refine cn_bp hx hb 96 (by decide) d_A_init_32 ?_
  refine cn_na hx hb hA hK3 1 96 (by decide) (hts _ (List.mem_cons_of_mem _ mw_129)) (by decide) (by decide) (by decide) ⟨by decide, by decide⟩ ⟨by decide, by decide⟩ (by decide) rfl rfl rfl d_A_init_34 ?_
  show cn_WS p l e _ s m args below meth c Q _ D K3 A 0 b 1 _ 36 [.ref 0] [.ref 4, .ref 0] [(3, 0, [.ref 1, .ref 2, .ref 3, .null, .null, .null, .null, .null, .null, .int 0, .int 0]), (3, 1, [.int 0, .int 0, .int 0, .int 0, .int 0]), (0, 96, []), (1, 96, []), (1, 96, [])]
  refine cn_pf hx hb 0 3 rfl hts (fun w h => List.mem_cons_of_mem _ (inE_A w h)) tyX0 tyX0_ok nmX0 hown hK rfl (by decide) (List.mem_cons_of_mem _ mw_98) rfl hnm rfl (ty := .array .boolean) (by decide +kernel) (fun _ => rfl) (fun _ => rfl) (by decide) d_A_init_36 ?_
  show cn_WS p l e _ s m args below meth c Q _ D K3 A 0 b 1 _ 39 [.ref 0] [] [(3, 0, [.ref 1, .ref 2, .ref 3, .ref 4, .null, .null, .null, .null, .null, .int 0, .int 0]), (3, 1, [.int 0, .int 0, .int 0, .int 0, .int 0]), (0, 96, []), (1, 96, []), (1, 96, [])]
  refine cn_al hx hb 0 0 rfl rfl d_A_init_39 ?_
  refine cn_bp hx hb 96 (by decide) d_A_init_40 ?_
  refine cn_na hx hb hA hK3 1 96 (by decide) (hts _ (List.mem_cons_of_mem _ mw_129)) (by decide) (by decide) (by decide) ⟨by decide, by decide⟩ ⟨by decide, by decide⟩ (by decide) rfl rfl rfl d_A_init_42 ?_
  show cn_WS p l e _ s m args below meth c Q _ D K3 A 0 b 1 _ 44 [.ref 0] [.ref 5, .ref 0] [(3, 0, [.ref 1, .ref 2, .ref 3, .ref 4, .null, .null, .null, .null, .null, .int 0, .int 0]), (3, 1, [.int 0, .int 0, .int 0, .int 0, .int 0]), (0, 96, []), (1, 96, []), (1, 96, []), (1, 96, [])]
  refine cn_pf hx hb 0 4 rfl hts (fun w h => List.mem_cons_of_mem _ (inE_A w h)) tyX0 tyX0_ok nmX0 hown hK rfl (by decide) (List.mem_cons_of_mem _ mw_99) rfl hnm rfl (ty := .array .boolean) (by decide +kernel) (fun _ => rfl) (fun _ => rfl) (by decide) d_A_init_44 ?_
  show cn_WS p l e _ s m args below meth c Q _ D K3 A 0 b 1 _ 47 [.ref 0] [] [(3, 0, [.ref 1, .ref 2, .ref 3, .ref 4, .ref 5, .null, .null, .null, .null, .int 0, .int 0]), (3, 1, [.int 0, .int 0, .int 0, .int 0, .int 0]), (0, 96, []), (1, 96, []), (1, 96, []), (1, 96, [])]
  refine cn_al hx hb 0 0 rfl rfl d_A_init_47 ?_
  refine cn_bp hx hb 96 (by decide) d_A_init_48 ?_
  refine cn_na hx hb hA hK3 0 96 (by decide) (hts _ (List.mem_cons_of_mem _ mw_40)) (by decide) (by decide) (by decide) ⟨by decide, by decide⟩ ⟨by decide, by decide⟩ (by decide) rfl rfl rfl d_A_init_50 ?_
  show cn_WS p l e _ s m args below meth c Q _ D K3 A 0 b 1 _ 52 [.ref 0] [.ref 6, .ref 0] [(3, 0, [.ref 1, .ref 2, .ref 3, .ref 4, .ref 5, .null, .null, .null, .null, .int 0, .int 0]), (3, 1, [.int 0, .int 0, .int 0, .int 0, .int 0]), (0, 96, []), (1, 96, []), (1, 96, []), (1, 96, []), (0, 96, [])]
  refine cn_pf hx hb 0 5 rfl hts (fun w h => List.mem_cons_of_mem _ (inE_A w h)) tyX0 tyX0_ok nmX0 hown hK rfl (by decide) (List.mem_cons_of_mem _ mw_100) rfl hnm rfl (ty := .array .int) (by decide +kernel) (fun _ => rfl) (fun _ => rfl) (by decide) d_A_init_52 ?_
  show cn_WS p l e _ s m args below meth c Q _ D K3 A 0 b 1 _ 55 [.ref 0] [] [(3, 0, [.ref 1, .ref 2, .ref 3, .ref 4, .ref 5, .ref 6, .null, .null, .null, .int 0, .int 0]), (3, 1, [.int 0, .int 0, .int 0, .int 0, .int 0]), (0, 96, []), (1, 96, []), (1, 96, []), (1, 96, []), (0, 96, [])]
  refine cn_al hx hb 0 0 rfl rfl d_A_init_55 ?_
  refine cn_bp hx hb 96 (by decide) d_A_init_56 ?_
  refine cn_na hx hb hA hK3 0 96 (by decide) (hts _ (List.mem_cons_of_mem _ mw_40)) (by decide) (by decide) (by decide) ⟨by decide, by decide⟩ ⟨by decide, by decide⟩ (by decide) rfl rfl rfl d_A_init_58 ?_
  show cn_WS p l e _ s m args below meth c Q _ D K3 A 0 b 1 _ 60 [.ref 0] [.ref 7, .ref 0] [(3, 0, [.ref 1, .ref 2, .ref 3, .ref 4, .ref 5, .ref 6, .null, .null, .null, .int 0, .int 0]), (3, 1, [.int 0, .int 0, .int 0, .int 0, .int 0]), (0, 96, []), (1, 96, []), (1, 96, []), (1, 96, []), (0, 96, []), (0, 96, [])]
  refine cn_pf hx hb 0 6 rfl hts (fun w h => List.mem_cons_of_mem _ (inE_A w h)) tyX0 tyX0_ok nmX0 hown hK rfl (by decide) (List.mem_cons_of_mem _ mw_101) rfl hnm rfl (ty := .array .int) (by decide +kernel) (fun _ => rfl) (fun _ => rfl) (by decide) d_A_init_60 ?_
  show cn_WS p l e _ s m args below meth c Q _ D K3 A 0 b 1 _ 63 [.ref 0] [] [(3, 0, [.ref 1, .ref 2, .ref 3, .ref 4, .ref 5, .ref 6, .ref 7, .null, .null, .int 0, .int 0]), (3, 1, [.int 0, .int 0, .int 0, .int 0, .int 0]), (0, 96, []), (1, 96, []), (1, 96, []), (1, 96, []), (0, 96, []), (0, 96, [])]
  refine cn_al hx hb 0 0 rfl rfl d_A_init_63 ?_
  refine cn_bp hx hb 96 (by decide) d_A_init_64 ?_
  refine cn_na hx hb hA hK3 0 96 (by decide) (hts _ (List.mem_cons_of_mem _ mw_40)) (by decide) (by decide) (by decide) ⟨by decide, by decide⟩ ⟨by decide, by decide⟩ (by decide) rfl rfl rfl d_A_init_66 ?_
  show cn_WS p l e _ s m args below meth c Q _ D K3 A 0 b 1 _ 68 [.ref 0] [.ref 8, .ref 0] [(3, 0, [.ref 1, .ref 2, .ref 3, .ref 4, .ref 5, .ref 6, .ref 7, .null, .null, .int 0, .int 0]), (3, 1, [.int 0, .int 0, .int 0, .int 0, .int 0]), (0, 96, []), (1, 96, []), (1, 96, []), (1, 96, []), (0, 96, []), (0, 96, []), (0, 96, [])]
  refine cn_pf hx hb 0 7 rfl hts (fun w h => List.mem_cons_of_mem _ (inE_A w h)) tyX0 tyX0_ok nmX0 hown hK rfl (by decide) (List.mem_cons_of_mem _ mw_102) rfl hnm rfl (ty := .array .int) (by decide +kernel) (fun _ => rfl) (fun _ => rfl) (by decide) d_A_init_68 ?_
  show cn_WS p l e _ s m args below meth c Q _ D K3 A 0 b 1 _ 71 [.ref 0] [] [(3, 0, [.ref 1, .ref 2, .ref 3, .ref 4, .ref 5, .ref 6, .ref 7, .ref 8, .null, .int 0, .int 0]), (3, 1, [.int 0, .int 0, .int 0, .int 0, .int 0]), (0, 96, []), (1, 96, []), (1, 96, []), (1, 96, []), (0, 96, []), (0, 96, []), (0, 96, [])]
  refine cn_al hx hb 0 0 rfl rfl d_A_init_71 ?_
  refine cn_bp hx hb 96 (by decide) d_A_init_72 ?_
  refine cn_na hx hb hA hK3 0 96 (by decide) (hts _ (List.mem_cons_of_mem _ mw_40)) (by decide) (by decide) (by decide) ⟨by decide, by decide⟩ ⟨by decide, by decide⟩ (by decide) rfl rfl rfl d_A_init_74 ?_
  show cn_WS p l e _ s m args below meth c Q _ D K3 A 0 b 1 _ 76 [.ref 0] [.ref 9, .ref 0] [(3, 0, [.ref 1, .ref 2, .ref 3, .ref 4, .ref 5, .ref 6, .ref 7, .ref 8, .null, .int 0, .int 0]), (3, 1, [.int 0, .int 0, .int 0, .int 0, .int 0]), (0, 96, []), (1, 96, []), (1, 96, []), (1, 96, []), (0, 96, []), (0, 96, []), (0, 96, []), (0, 96, [])]
  refine cn_pf hx hb 0 8 rfl hts (fun w h => List.mem_cons_of_mem _ (inE_A w h)) tyX0 tyX0_ok nmX0 hown hK rfl (by decide) (List.mem_cons_of_mem _ mw_103) rfl hnm rfl (ty := .array .int) (by decide +kernel) (fun _ => rfl) (fun _ => rfl) (by decide) d_A_init_76 ?_
  show cn_WS p l e _ s m args below meth c Q _ D K3 A 0 b 1 _ 79 [.ref 0] [] [(3, 0, [.ref 1, .ref 2, .ref 3, .ref 4, .ref 5, .ref 6, .ref 7, .ref 8, .ref 9, .int 0, .int 0]), (3, 1, [.int 0, .int 0, .int 0, .int 0, .int 0]), (0, 96, []), (1, 96, []), (1, 96, []), (1, 96, []), (0, 96, []), (0, 96, []), (0, 96, []), (0, 96, [])]
  exact hret 79 d_A_init_79
def y_R_init : MethodName := ⟨RX4, "<init>", "()V"⟩
def ws_R_init : List Cond := .code y_R_init prog_6_method_1_code 1 none :: evW
theorem d_R_init_0 : decode prog_6_method_1_code 0 = .ok (.aload_n 0, 1) := by decide +kernel
theorem d_R_init_1 : decode prog_6_method_1_code 1 = .ok (.invokespecial 3, 3) := by decide +kernel
theorem d_R_init_4 : decode prog_6_method_1_code 4 = .ok (.aload_n 0, 1) := by decide +kernel
theorem d_R_init_5 : decode prog_6_method_1_code 5 = .ok (.new 9, 3) := by decide +kernel
theorem d_R_init_8 : decode prog_6_method_1_code 8 = .ok (.dup, 1) := by decide +kernel
theorem d_R_init_9 : decode prog_6_method_1_code 9 = .ok (.invokespecial 11, 3) := by decide +kernel
theorem d_R_init_12 : decode prog_6_method_1_code 12 = .ok (.putfield 12, 3) := by decide +kernel
theorem d_R_init_15 : decode prog_6_method_1_code 15 = .ok (.aload_n 0, 1) := by decide +kernel
theorem d_R_init_16 : decode prog_6_method_1_code 16 = .ok (.new 18, 3) := by decide +kernel
theorem d_R_init_19 : decode prog_6_method_1_code 19 = .ok (.dup, 1) := by decide +kernel
theorem d_R_init_20 : decode prog_6_method_1_code 20 = .ok (.invokespecial 20, 3) := by decide +kernel
theorem d_R_init_23 : decode prog_6_method_1_code 23 = .ok (.putfield 21, 3) := by decide +kernel
theorem d_R_init_26 : decode prog_6_method_1_code 26 = .ok (.return_, 1) := by decide +kernel
def df_R_init : List Value := [.null, .null, .int 0, .int 0]
theorem df_ok_R_init : ∀ j, j < 4 → defaultValue (tyX4 j) = vp_V df_R_init j := by decide +kernel
def M_R_init : List cn_D := [(3, 4, [.ref 1, .ref 2, .int 0, .int 0]), (3, 1, [.int 0, .int 0, .int 0, .int 0, .int 0]), (3, 3, [.ref 3, .ref 4]), (0, 256, []), (0, 96, [])]
abbrev rm_R_init : Room := { frames := 2, cells := 4, slots := 359, locals := 64 }
set_option maxHeartbeats 4000000 in
set_option maxRecDepth 100000 in
theorem c_R_init (l : Launch) : cn_C l y_R_init ws_R_init rm_R_init 4 df_R_init M_R_init 4 359 := by
  refine cn_meth (by decide) rfl (by decide) rfl rfl (fun _ => rfl) ⟨rfl, rfl⟩ ?_
  intro p e s m args below meth c Q D K3 A b hx hb hml hown hts hK hK3 hN3 hA hnm hret
  refine cn_al hx hb 0 0 rfl rfl d_R_init_0 ?_
  refine cn_ob hx hb hml hown (hts _ (List.mem_cons_of_mem _ mw_135)) (hts _ (List.mem_cons_of_mem _ mw_25)) (hts _ (List.mem_cons_of_mem _ mw_26)) (by decide) (by decide) (by decide) d_R_init_1 ?_
  refine cn_al hx hb 0 0 rfl rfl d_R_init_4 ?_
  refine cn_new hx hb hA hK3 hN3 (N9 := 5) 1 rfl hts (fun w h => List.mem_cons_of_mem _ (inE_I w h)) tyX1 tyX1_ok hown (List.mem_cons_of_mem _ mw_136) (List.mem_cons_of_mem _ mw_64) (List.mem_cons_of_mem _ mw_5) hK (df := df_I_init) df_ok_I_init rfl (mc := 0) (ms := 0) (M := M_I_init) (fun H locs cells slots ls q rest hls hr hp hf => va_runIN (host := "BlockCounter") (b := q) (As := []) (n := 0) ⟨hx, hb, hml, hown, hts⟩ (c_I_init l D K3 q H.size) (⟨va_cnB (host := "BlockCounter") 0 hts (evGI (mw_67)) rfl rfl rfl (hN3 _ (by decide +kernel)) (hts _ (List.mem_cons_of_mem _ mw_5)) (by decide +kernel) ⟨Nat.le_of_ble_eq_true rfl, Nat.le_of_ble_eq_true rfl⟩, rfl, hts _ (List.mem_cons_of_mem _ mw_66)⟩) hp rfl rfl hls rfl (lv_room hr) d_R_init_9 hf) ⟨rfl, rfl, rfl⟩ ⟨by decide, by decide⟩ ⟨by decide, by decide⟩ (by decide) rfl rfl rfl (by decide) d_R_init_5 d_R_init_8 ?_
  show cn_WS p l e _ s m args below meth c Q _ D K3 A 0 b 1 _ 12 [.ref 0] [.ref 1, .ref 0] [(3, 4, [.null, .null, .int 0, .int 0]), (3, 1, [.int 0, .int 0, .int 0, .int 0, .int 0])]
  refine cn_pf hx hb 4 0 rfl hts (fun w h => List.mem_cons_of_mem _ (inE_R w h)) tyX4 tyX4_ok nmX4 hown hK rfl (by decide) (List.mem_cons_of_mem _ mw_140) rfl hnm rfl (ty := .object "BlockCounter$Instruction") (by decide +kernel) (fun _ => rfl) (fun _ => rfl) (by decide) d_R_init_12 ?_
  show cn_WS p l e _ s m args below meth c Q _ D K3 A 0 b 1 _ 15 [.ref 0] [] [(3, 4, [.ref 1, .null, .int 0, .int 0]), (3, 1, [.int 0, .int 0, .int 0, .int 0, .int 0])]
  refine cn_al hx hb 0 0 rfl rfl d_R_init_15 ?_
  refine cn_new hx hb hA hK3 hN3 (N9 := 2) 3 rfl hts (fun w h => List.mem_cons_of_mem _ (inE_P w h)) tyX3 tyX3_ok hown (List.mem_cons_of_mem _ mw_138) (List.mem_cons_of_mem _ mw_28) (List.mem_cons_of_mem _ mw_2) hK (df := df_P_init) df_ok_P_init rfl (mc := 2) (ms := 352) (M := M_P_init) (fun H locs cells slots ls q rest hls hr hp hf => va_runI (b := q) (As := []) (n := 0) ⟨hx, hb, hml, hown, hts⟩ (c_P_init l D K3 q H.size) (cwI 0 hts (evGI (mw_31)) rfl rfl rfl (hts _ (List.mem_cons_of_mem _ mw_2)) (hts _ (List.mem_cons_of_mem _ mw_139)) (hts _ (List.mem_cons_of_mem _ mw_30)) rfl (by decide +kernel) ⟨Nat.le_of_ble_eq_true rfl, Nat.le_of_ble_eq_true rfl⟩) hp rfl rfl hls rfl (lv_room hr) d_R_init_20 hf) ⟨rfl, rfl, rfl⟩ ⟨by decide, by decide⟩ ⟨by decide, by decide⟩ (by decide) rfl rfl rfl (by decide) d_R_init_16 d_R_init_19 ?_
  show cn_WS p l e _ s m args below meth c Q _ D K3 A 0 b 1 _ 23 [.ref 0] [.ref 2, .ref 0] [(3, 4, [.ref 1, .null, .int 0, .int 0]), (3, 1, [.int 0, .int 0, .int 0, .int 0, .int 0]), (3, 3, [.ref 3, .ref 4]), (0, 256, []), (0, 96, [])]
  refine cn_pf hx hb 4 1 rfl hts (fun w h => List.mem_cons_of_mem _ (inE_R w h)) tyX4 tyX4_ok nmX4 hown hK rfl (by decide) (List.mem_cons_of_mem _ mw_141) rfl hnm rfl (ty := .object "BlockCounter$Program") (by decide +kernel) (fun _ => rfl) (fun _ => rfl) (by decide) d_R_init_23 ?_
  show cn_WS p l e _ s m args below meth c Q _ D K3 A 0 b 1 _ 26 [.ref 0] [] [(3, 4, [.ref 1, .ref 2, .int 0, .int 0]), (3, 1, [.int 0, .int 0, .int 0, .int 0, .int 0]), (3, 3, [.ref 3, .ref 4]), (0, 256, []), (0, 96, [])]
  exact hret 26 d_R_init_26
def y_M_init : MethodName := ⟨RX2, "<init>", "()V"⟩
def ws_M_init : List Cond := .code y_M_init prog_4_method_1_code 1 none :: evW
theorem d_M_init_0 : decode prog_4_method_1_code 0 = .ok (.aload_n 0, 1) := by decide +kernel
theorem d_M_init_1 : decode prog_4_method_1_code 1 = .ok (.invokespecial 3, 3) := by decide +kernel
theorem d_M_init_4 : decode prog_4_method_1_code 4 = .ok (.aload_n 0, 1) := by decide +kernel
theorem d_M_init_5 : decode prog_4_method_1_code 5 = .ok (.new 9, 3) := by decide +kernel
theorem d_M_init_8 : decode prog_4_method_1_code 8 = .ok (.dup, 1) := by decide +kernel
theorem d_M_init_9 : decode prog_4_method_1_code 9 = .ok (.invokespecial 11, 3) := by decide +kernel
theorem d_M_init_12 : decode prog_4_method_1_code 12 = .ok (.putfield 12, 3) := by decide +kernel
theorem d_M_init_15 : decode prog_4_method_1_code 15 = .ok (.aload_n 0, 1) := by decide +kernel
theorem d_M_init_16 : decode prog_4_method_1_code 16 = .ok (.iconst 4, 1) := by decide +kernel
theorem d_M_init_17 : decode prog_4_method_1_code 17 = .ok (.newarray .int, 2) := by decide +kernel
theorem d_M_init_19 : decode prog_4_method_1_code 19 = .ok (.putfield 18, 3) := by decide +kernel
theorem d_M_init_22 : decode prog_4_method_1_code 22 = .ok (.aload_n 0, 1) := by decide +kernel
theorem d_M_init_23 : decode prog_4_method_1_code 23 = .ok (.bipush 16, 2) := by decide +kernel
theorem d_M_init_25 : decode prog_4_method_1_code 25 = .ok (.newarray .int, 2) := by decide +kernel
theorem d_M_init_27 : decode prog_4_method_1_code 27 = .ok (.putfield 22, 3) := by decide +kernel
theorem d_M_init_30 : decode prog_4_method_1_code 30 = .ok (.aload_n 0, 1) := by decide +kernel
theorem d_M_init_31 : decode prog_4_method_1_code 31 = .ok (.bipush 8, 2) := by decide +kernel
theorem d_M_init_33 : decode prog_4_method_1_code 33 = .ok (.newarray .int, 2) := by decide +kernel
theorem d_M_init_35 : decode prog_4_method_1_code 35 = .ok (.putfield 25, 3) := by decide +kernel
theorem d_M_init_38 : decode prog_4_method_1_code 38 = .ok (.aload_n 0, 1) := by decide +kernel
theorem d_M_init_39 : decode prog_4_method_1_code 39 = .ok (.bipush 40, 2) := by decide +kernel
theorem d_M_init_41 : decode prog_4_method_1_code 41 = .ok (.newarray .int, 2) := by decide +kernel
theorem d_M_init_43 : decode prog_4_method_1_code 43 = .ok (.putfield 28, 3) := by decide +kernel
theorem d_M_init_46 : decode prog_4_method_1_code 46 = .ok (.aload_n 0, 1) := by decide +kernel
theorem d_M_init_47 : decode prog_4_method_1_code 47 = .ok (.bipush 64, 2) := by decide +kernel
theorem d_M_init_49 : decode prog_4_method_1_code 49 = .ok (.newarray .long, 2) := by decide +kernel
theorem d_M_init_51 : decode prog_4_method_1_code 51 = .ok (.putfield 31, 3) := by decide +kernel
theorem d_M_init_54 : decode prog_4_method_1_code 54 = .ok (.return_, 1) := by decide +kernel
def df_M_init : List Value := [.null, .null, .null, .null, .null, .null, .int 0, .int 0, .int 0, .int 0]
theorem df_ok_M_init : ∀ j, j < 10 → defaultValue (tyX2 j) = vp_V df_M_init j := by decide +kernel
def M_M_init : List cn_D := [(3, 2, [.ref 1, .ref 2, .ref 3, .ref 4, .ref 5, .ref 6, .int 0, .int 0, .int 0, .int 0]), (3, 1, [.int 0, .int 0, .int 0, .int 0, .int 0]), (0, 4, []), (0, 16, []), (0, 8, []), (0, 40, []), (2, 64, [])]
abbrev rm_M_init : Room := { frames := 2, cells := 6, slots := 137, locals := 64 }
set_option maxHeartbeats 4000000 in
set_option maxRecDepth 100000 in
theorem c_M_init (l : Launch) : cn_C l y_M_init ws_M_init rm_M_init 2 df_M_init M_M_init 6 137 := by
  refine cn_meth (by decide) rfl (by decide) rfl rfl (fun _ => rfl) ⟨rfl, rfl⟩ ?_
  intro p e s m args below meth c Q D K3 A b hx hb hml hown hts hK hK3 hN3 hA hnm hret
  refine cn_al hx hb 0 0 rfl rfl d_M_init_0 ?_
  refine cn_ob hx hb hml hown (hts _ (List.mem_cons_of_mem _ mw_158)) (hts _ (List.mem_cons_of_mem _ mw_25)) (hts _ (List.mem_cons_of_mem _ mw_26)) (by decide) (by decide) (by decide) d_M_init_1 ?_
  refine cn_al hx hb 0 0 rfl rfl d_M_init_4 ?_
  refine cn_new hx hb hA hK3 hN3 (N9 := 5) 1 rfl hts (fun w h => List.mem_cons_of_mem _ (inE_I w h)) tyX1 tyX1_ok hown (List.mem_cons_of_mem _ mw_159) (List.mem_cons_of_mem _ mw_64) (List.mem_cons_of_mem _ mw_5) hK (df := df_I_init) df_ok_I_init rfl (mc := 0) (ms := 0) (M := M_I_init) (fun H locs cells slots ls q rest hls hr hp hf => va_runIN (host := "BlockCounter") (b := q) (As := []) (n := 0) ⟨hx, hb, hml, hown, hts⟩ (c_I_init l D K3 q H.size) (⟨va_cnB (host := "BlockCounter") 0 hts (evGI (mw_67)) rfl rfl rfl (hN3 _ (by decide +kernel)) (hts _ (List.mem_cons_of_mem _ mw_5)) (by decide +kernel) ⟨Nat.le_of_ble_eq_true rfl, Nat.le_of_ble_eq_true rfl⟩, rfl, hts _ (List.mem_cons_of_mem _ mw_66)⟩) hp rfl rfl hls rfl (lv_room hr) d_M_init_9 hf) ⟨rfl, rfl, rfl⟩ ⟨by decide, by decide⟩ ⟨by decide, by decide⟩ (by decide) rfl rfl rfl (by decide) d_M_init_5 d_M_init_8 ?_
  show cn_WS p l e _ s m args below meth c Q _ D K3 A 0 b 1 _ 12 [.ref 0] [.ref 1, .ref 0] [(3, 2, [.null, .null, .null, .null, .null, .null, .int 0, .int 0, .int 0, .int 0]), (3, 1, [.int 0, .int 0, .int 0, .int 0, .int 0])]
  refine cn_pf hx hb 2 0 rfl hts (fun w h => List.mem_cons_of_mem _ (inE_M w h)) tyX2 tyX2_ok nmX2 hown hK rfl (by decide) (List.mem_cons_of_mem _ mw_161) rfl hnm rfl (ty := .object "BlockCounter$Instruction") (by decide +kernel) (fun _ => rfl) (fun _ => rfl) (by decide) d_M_init_12 ?_
  show cn_WS p l e _ s m args below meth c Q _ D K3 A 0 b 1 _ 15 [.ref 0] [] [(3, 2, [.ref 1, .null, .null, .null, .null, .null, .int 0, .int 0, .int 0, .int 0]), (3, 1, [.int 0, .int 0, .int 0, .int 0, .int 0])]
  refine cn_al hx hb 0 0 rfl rfl d_M_init_15 ?_
  refine cn_ic hx hb 4 (by decide) d_M_init_16 ?_
  refine cn_na hx hb hA hK3 0 4 (by decide) (hts _ (List.mem_cons_of_mem _ mw_40)) (by decide) (by decide) (by decide) ⟨by decide, by decide⟩ ⟨by decide, by decide⟩ (by decide) rfl rfl rfl d_M_init_17 ?_
  show cn_WS p l e _ s m args below meth c Q _ D K3 A 0 b 1 _ 19 [.ref 0] [.ref 2, .ref 0] [(3, 2, [.ref 1, .null, .null, .null, .null, .null, .int 0, .int 0, .int 0, .int 0]), (3, 1, [.int 0, .int 0, .int 0, .int 0, .int 0]), (0, 4, [])]
  refine cn_pf hx hb 2 1 rfl hts (fun w h => List.mem_cons_of_mem _ (inE_M w h)) tyX2 tyX2_ok nmX2 hown hK rfl (by decide) (List.mem_cons_of_mem _ mw_162) rfl hnm rfl (ty := .array .int) (by decide +kernel) (fun _ => rfl) (fun _ => rfl) (by decide) d_M_init_19 ?_
  show cn_WS p l e _ s m args below meth c Q _ D K3 A 0 b 1 _ 22 [.ref 0] [] [(3, 2, [.ref 1, .ref 2, .null, .null, .null, .null, .int 0, .int 0, .int 0, .int 0]), (3, 1, [.int 0, .int 0, .int 0, .int 0, .int 0]), (0, 4, [])]
  refine cn_al hx hb 0 0 rfl rfl d_M_init_22 ?_
  refine cn_bp hx hb 16 (by decide) d_M_init_23 ?_
  refine cn_na hx hb hA hK3 0 16 (by decide) (hts _ (List.mem_cons_of_mem _ mw_40)) (by decide) (by decide) (by decide) ⟨by decide, by decide⟩ ⟨by decide, by decide⟩ (by decide) rfl rfl rfl d_M_init_25 ?_
  show cn_WS p l e _ s m args below meth c Q _ D K3 A 0 b 1 _ 27 [.ref 0] [.ref 3, .ref 0] [(3, 2, [.ref 1, .ref 2, .null, .null, .null, .null, .int 0, .int 0, .int 0, .int 0]), (3, 1, [.int 0, .int 0, .int 0, .int 0, .int 0]), (0, 4, []), (0, 16, [])]
  refine cn_pf hx hb 2 2 rfl hts (fun w h => List.mem_cons_of_mem _ (inE_M w h)) tyX2 tyX2_ok nmX2 hown hK rfl (by decide) (List.mem_cons_of_mem _ mw_163) rfl hnm rfl (ty := .array .int) (by decide +kernel) (fun _ => rfl) (fun _ => rfl) (by decide) d_M_init_27 ?_
  show cn_WS p l e _ s m args below meth c Q _ D K3 A 0 b 1 _ 30 [.ref 0] [] [(3, 2, [.ref 1, .ref 2, .ref 3, .null, .null, .null, .int 0, .int 0, .int 0, .int 0]), (3, 1, [.int 0, .int 0, .int 0, .int 0, .int 0]), (0, 4, []), (0, 16, [])]
  refine cn_al hx hb 0 0 rfl rfl d_M_init_30 ?_
  refine cn_bp hx hb 8 (by decide) d_M_init_31 ?_
  refine cn_na hx hb hA hK3 0 8 (by decide) (hts _ (List.mem_cons_of_mem _ mw_40)) (by decide) (by decide) (by decide) ⟨by decide, by decide⟩ ⟨by decide, by decide⟩ (by decide) rfl rfl rfl d_M_init_33 ?_
  show cn_WS p l e _ s m args below meth c Q _ D K3 A 0 b 1 _ 35 [.ref 0] [.ref 4, .ref 0] [(3, 2, [.ref 1, .ref 2, .ref 3, .null, .null, .null, .int 0, .int 0, .int 0, .int 0]), (3, 1, [.int 0, .int 0, .int 0, .int 0, .int 0]), (0, 4, []), (0, 16, []), (0, 8, [])]
  refine cn_pf hx hb 2 3 rfl hts (fun w h => List.mem_cons_of_mem _ (inE_M w h)) tyX2 tyX2_ok nmX2 hown hK rfl (by decide) (List.mem_cons_of_mem _ mw_164) rfl hnm rfl (ty := .array .int) (by decide +kernel) (fun _ => rfl) (fun _ => rfl) (by decide) d_M_init_35 ?_
  show cn_WS p l e _ s m args below meth c Q _ D K3 A 0 b 1 _ 38 [.ref 0] [] [(3, 2, [.ref 1, .ref 2, .ref 3, .ref 4, .null, .null, .int 0, .int 0, .int 0, .int 0]), (3, 1, [.int 0, .int 0, .int 0, .int 0, .int 0]), (0, 4, []), (0, 16, []), (0, 8, [])]
  refine cn_al hx hb 0 0 rfl rfl d_M_init_38 ?_
  refine cn_bp hx hb 40 (by decide) d_M_init_39 ?_
  refine cn_na hx hb hA hK3 0 40 (by decide) (hts _ (List.mem_cons_of_mem _ mw_40)) (by decide) (by decide) (by decide) ⟨by decide, by decide⟩ ⟨by decide, by decide⟩ (by decide) rfl rfl rfl d_M_init_41 ?_
  show cn_WS p l e _ s m args below meth c Q _ D K3 A 0 b 1 _ 43 [.ref 0] [.ref 5, .ref 0] [(3, 2, [.ref 1, .ref 2, .ref 3, .ref 4, .null, .null, .int 0, .int 0, .int 0, .int 0]), (3, 1, [.int 0, .int 0, .int 0, .int 0, .int 0]), (0, 4, []), (0, 16, []), (0, 8, []), (0, 40, [])]
  refine cn_pf hx hb 2 4 rfl hts (fun w h => List.mem_cons_of_mem _ (inE_M w h)) tyX2 tyX2_ok nmX2 hown hK rfl (by decide) (List.mem_cons_of_mem _ mw_165) rfl hnm rfl (ty := .array .int) (by decide +kernel) (fun _ => rfl) (fun _ => rfl) (by decide) d_M_init_43 ?_
  show cn_WS p l e _ s m args below meth c Q _ D K3 A 0 b 1 _ 46 [.ref 0] [] [(3, 2, [.ref 1, .ref 2, .ref 3, .ref 4, .ref 5, .null, .int 0, .int 0, .int 0, .int 0]), (3, 1, [.int 0, .int 0, .int 0, .int 0, .int 0]), (0, 4, []), (0, 16, []), (0, 8, []), (0, 40, [])]
  refine cn_al hx hb 0 0 rfl rfl d_M_init_46 ?_
  refine cn_bp hx hb 64 (by decide) d_M_init_47 ?_
  refine cn_na hx hb hA hK3 2 64 (by decide) (hts _ (List.mem_cons_of_mem _ mw_192)) (by decide) (by decide) (by decide) ⟨by decide, by decide⟩ ⟨by decide, by decide⟩ (by decide) rfl rfl rfl d_M_init_49 ?_
  show cn_WS p l e _ s m args below meth c Q _ D K3 A 0 b 1 _ 51 [.ref 0] [.ref 6, .ref 0] [(3, 2, [.ref 1, .ref 2, .ref 3, .ref 4, .ref 5, .null, .int 0, .int 0, .int 0, .int 0]), (3, 1, [.int 0, .int 0, .int 0, .int 0, .int 0]), (0, 4, []), (0, 16, []), (0, 8, []), (0, 40, []), (2, 64, [])]
  refine cn_pf hx hb 2 5 rfl hts (fun w h => List.mem_cons_of_mem _ (inE_M w h)) tyX2 tyX2_ok nmX2 hown hK rfl (by decide) (List.mem_cons_of_mem _ mw_166) rfl hnm rfl (ty := .array .long) (by decide +kernel) (fun _ => rfl) (fun _ => rfl) (by decide) d_M_init_51 ?_
  show cn_WS p l e _ s m args below meth c Q _ D K3 A 0 b 1 _ 54 [.ref 0] [] [(3, 2, [.ref 1, .ref 2, .ref 3, .ref 4, .ref 5, .ref 6, .int 0, .int 0, .int 0, .int 0]), (3, 1, [.int 0, .int 0, .int 0, .int 0, .int 0]), (0, 4, []), (0, 16, []), (0, 8, []), (0, 40, []), (2, 64, [])]
  exact hret 54 d_M_init_54
def y_B_init : MethodName := ⟨RX6, "<init>", "()V"⟩
def ws_B_init : List Cond := .code y_B_init prog_1_method_1_code 1 none :: evW
theorem d_B_init_0 : decode prog_1_method_1_code 0 = .ok (.aload_n 0, 1) := by decide +kernel
theorem d_B_init_1 : decode prog_1_method_1_code 1 = .ok (.invokespecial 1, 3) := by decide +kernel
theorem d_B_init_4 : decode prog_1_method_1_code 4 = .ok (.aload_n 0, 1) := by decide +kernel
theorem d_B_init_5 : decode prog_1_method_1_code 5 = .ok (.new 7, 3) := by decide +kernel
theorem d_B_init_8 : decode prog_1_method_1_code 8 = .ok (.dup, 1) := by decide +kernel
theorem d_B_init_9 : decode prog_1_method_1_code 9 = .ok (.invokespecial 9, 3) := by decide +kernel
theorem d_B_init_12 : decode prog_1_method_1_code 12 = .ok (.putfield 10, 3) := by decide +kernel
theorem d_B_init_15 : decode prog_1_method_1_code 15 = .ok (.aload_n 0, 1) := by decide +kernel
theorem d_B_init_16 : decode prog_1_method_1_code 16 = .ok (.new 16, 3) := by decide +kernel
theorem d_B_init_19 : decode prog_1_method_1_code 19 = .ok (.dup, 1) := by decide +kernel
theorem d_B_init_20 : decode prog_1_method_1_code 20 = .ok (.invokespecial 18, 3) := by decide +kernel
theorem d_B_init_23 : decode prog_1_method_1_code 23 = .ok (.putfield 19, 3) := by decide +kernel
theorem d_B_init_26 : decode prog_1_method_1_code 26 = .ok (.aload_n 0, 1) := by decide +kernel
theorem d_B_init_27 : decode prog_1_method_1_code 27 = .ok (.bipush 16, 2) := by decide +kernel
theorem d_B_init_29 : decode prog_1_method_1_code 29 = .ok (.newarray .int, 2) := by decide +kernel
theorem d_B_init_31 : decode prog_1_method_1_code 31 = .ok (.putfield 23, 3) := by decide +kernel
theorem d_B_init_34 : decode prog_1_method_1_code 34 = .ok (.aload_n 0, 1) := by decide +kernel
theorem d_B_init_35 : decode prog_1_method_1_code 35 = .ok (.new 27, 3) := by decide +kernel
theorem d_B_init_38 : decode prog_1_method_1_code 38 = .ok (.dup, 1) := by decide +kernel
theorem d_B_init_39 : decode prog_1_method_1_code 39 = .ok (.invokespecial 29, 3) := by decide +kernel
theorem d_B_init_42 : decode prog_1_method_1_code 42 = .ok (.putfield 30, 3) := by decide +kernel
theorem d_B_init_45 : decode prog_1_method_1_code 45 = .ok (.aload_n 0, 1) := by decide +kernel
theorem d_B_init_46 : decode prog_1_method_1_code 46 = .ok (.new 34, 3) := by decide +kernel
theorem d_B_init_49 : decode prog_1_method_1_code 49 = .ok (.dup, 1) := by decide +kernel
theorem d_B_init_50 : decode prog_1_method_1_code 50 = .ok (.invokespecial 36, 3) := by decide +kernel
theorem d_B_init_53 : decode prog_1_method_1_code 53 = .ok (.putfield 37, 3) := by decide +kernel
theorem d_B_init_56 : decode prog_1_method_1_code 56 = .ok (.aload_n 0, 1) := by decide +kernel
theorem d_B_init_57 : decode prog_1_method_1_code 57 = .ok (.new 41, 3) := by decide +kernel
theorem d_B_init_60 : decode prog_1_method_1_code 60 = .ok (.dup, 1) := by decide +kernel
theorem d_B_init_61 : decode prog_1_method_1_code 61 = .ok (.invokespecial 43, 3) := by decide +kernel
theorem d_B_init_64 : decode prog_1_method_1_code 64 = .ok (.putfield 44, 3) := by decide +kernel
theorem d_B_init_67 : decode prog_1_method_1_code 67 = .ok (.return_, 1) := by decide +kernel
def df_B_init : List Value := [.null, .null, .null, .null, .null, .null]
theorem df_ok_B_init : ∀ j, j < 6 → defaultValue (tyX6 j) = vp_V df_B_init j := by decide +kernel
def M_B_init : List cn_D := [(3, 6, [.ref 1, .ref 4, .ref 7, .ref 8, .ref 18, .ref 23]), (3, 3, [.ref 2, .ref 3]), (0, 256, []), (0, 96, []), (3, 5, [.ref 5, .ref 6, .int 0]), (0, 4, []), (0, 4, []), (0, 16, []), (3, 0, [.ref 9, .ref 10, .ref 11, .ref 12, .ref 13, .ref 14, .ref 15, .ref 16, .ref 17, .int 0, .int 0]), (3, 1, [.int 0, .int 0, .int 0, .int 0, .int 0]), (0, 96, []), (1, 96, []), (1, 96, []), (1, 96, []), (0, 96, []), (0, 96, []), (0, 96, []), (0, 96, []), (3, 4, [.ref 19, .ref 20, .int 0, .int 0]), (3, 1, [.int 0, .int 0, .int 0, .int 0, .int 0]), (3, 3, [.ref 21, .ref 22]), (0, 256, []), (0, 96, []), (3, 2, [.ref 24, .ref 25, .ref 26, .ref 27, .ref 28, .ref 29, .int 0, .int 0, .int 0, .int 0]), (3, 1, [.int 0, .int 0, .int 0, .int 0, .int 0]), (0, 4, []), (0, 16, []), (0, 8, []), (0, 40, []), (2, 64, [])]
abbrev rm_B_init : Room := { frames := 3, cells := 29, slots := 1675, locals := 96 }
set_option maxHeartbeats 4000000 in
set_option maxRecDepth 100000 in
theorem c_B_init (l : Launch) : cn_C l y_B_init ws_B_init rm_B_init 6 df_B_init M_B_init 29 1675 := by
  refine cn_meth (by decide) rfl (by decide) rfl rfl (fun _ => rfl) ⟨rfl, rfl⟩ ?_
  intro p e s m args below meth c Q D K3 A b hx hb hml hown hts hK hK3 hN3 hA hnm hret
  refine cn_al hx hb 0 0 rfl rfl d_B_init_0 ?_
  refine cn_ob hx hb hml hown (hts _ (List.mem_cons_of_mem _ mw_24)) (hts _ (List.mem_cons_of_mem _ mw_25)) (hts _ (List.mem_cons_of_mem _ mw_26)) (by decide) (by decide) (by decide) d_B_init_1 ?_
  refine cn_al hx hb 0 0 rfl rfl d_B_init_4 ?_
  refine cn_new hx hb hA hK3 hN3 (N9 := 2) 3 rfl hts (fun w h => List.mem_cons_of_mem _ (inE_P w h)) tyX3 tyX3_ok hown (List.mem_cons_of_mem _ mw_27) (List.mem_cons_of_mem _ mw_28) (List.mem_cons_of_mem _ mw_2) hK (df := df_P_init) df_ok_P_init rfl (mc := 2) (ms := 352) (M := M_P_init) (fun H locs cells slots ls q rest hls hr hp hf => va_runI (b := q) (As := []) (n := 0) ⟨hx, hb, hml, hown, hts⟩ (c_P_init l D K3 q H.size) (cwI 0 hts (evGI (mw_31)) rfl rfl rfl (hts _ (List.mem_cons_of_mem _ mw_2)) (hts _ (List.mem_cons_of_mem _ mw_29)) (hts _ (List.mem_cons_of_mem _ mw_30)) rfl (by decide +kernel) ⟨Nat.le_of_ble_eq_true rfl, Nat.le_of_ble_eq_true rfl⟩) hp rfl rfl hls rfl (lv_room hr) d_B_init_9 hf) ⟨rfl, rfl, rfl⟩ ⟨by decide, by decide⟩ ⟨by decide, by decide⟩ (by decide) rfl rfl rfl (by decide) d_B_init_5 d_B_init_8 ?_
  show cn_WS p l e _ s m args below meth c Q _ D K3 A 0 b 1 _ 12 [.ref 0] [.ref 1, .ref 0] [(3, 6, [.null, .null, .null, .null, .null, .null]), (3, 3, [.ref 2, .ref 3]), (0, 256, []), (0, 96, [])]
  refine cn_pf hx hb 6 0 rfl hts (fun w h => List.mem_cons_of_mem _ (inE_B w h)) tyX6 tyX6_ok nmX6 hown hK rfl (by decide) (List.mem_cons_of_mem _ mw_193) rfl hnm rfl (ty := .object "BlockCounter$Program") (by decide +kernel) (fun _ => rfl) (fun _ => rfl) (by decide) d_B_init_12 ?_
  show cn_WS p l e _ s m args below meth c Q _ D K3 A 0 b 1 _ 15 [.ref 0] [] [(3, 6, [.ref 1, .null, .null, .null, .null, .null]), (3, 3, [.ref 2, .ref 3]), (0, 256, []), (0, 96, [])]
  refine cn_al hx hb 0 0 rfl rfl d_B_init_15 ?_
  refine cn_new hx hb hA hK3 hN3 (N9 := 3) 5 rfl hts (fun w h => List.mem_cons_of_mem _ (inE_T w h)) tyX5 tyX5_ok hown (List.mem_cons_of_mem _ mw_41) (List.mem_cons_of_mem _ mw_42) (List.mem_cons_of_mem _ mw_3) hK (df := df_T_init) df_ok_T_init rfl (mc := 2) (ms := 8) (M := M_T_init) (fun H locs cells slots ls q rest hls hr hp hf => va_runI (b := q) (As := []) (n := 0) ⟨hx, hb, hml, hown, hts⟩ (c_T_init l D K3 q H.size) (cwI 0 hts (evGI (mw_45)) rfl rfl rfl (hts _ (List.mem_cons_of_mem _ mw_3)) (hts _ (List.mem_cons_of_mem _ mw_43)) (hts _ (List.mem_cons_of_mem _ mw_44)) rfl (by decide +kernel) ⟨Nat.le_of_ble_eq_true rfl, Nat.le_of_ble_eq_true rfl⟩) hp rfl rfl hls rfl (lv_room hr) d_B_init_20 hf) ⟨rfl, rfl, rfl⟩ ⟨by decide, by decide⟩ ⟨by decide, by decide⟩ (by decide) rfl rfl rfl (by decide) d_B_init_16 d_B_init_19 ?_
  show cn_WS p l e _ s m args below meth c Q _ D K3 A 0 b 1 _ 23 [.ref 0] [.ref 4, .ref 0] [(3, 6, [.ref 1, .null, .null, .null, .null, .null]), (3, 3, [.ref 2, .ref 3]), (0, 256, []), (0, 96, []), (3, 5, [.ref 5, .ref 6, .int 0]), (0, 4, []), (0, 4, [])]
  refine cn_pf hx hb 6 1 rfl hts (fun w h => List.mem_cons_of_mem _ (inE_B w h)) tyX6 tyX6_ok nmX6 hown hK rfl (by decide) (List.mem_cons_of_mem _ mw_194) rfl hnm rfl (ty := .object "BlockCounter$Tables") (by decide +kernel) (fun _ => rfl) (fun _ => rfl) (by decide) d_B_init_23 ?_
  show cn_WS p l e _ s m args below meth c Q _ D K3 A 0 b 1 _ 26 [.ref 0] [] [(3, 6, [.ref 1, .ref 4, .null, .null, .null, .null]), (3, 3, [.ref 2, .ref 3]), (0, 256, []), (0, 96, []), (3, 5, [.ref 5, .ref 6, .int 0]), (0, 4, []), (0, 4, [])]
  refine cn_al hx hb 0 0 rfl rfl d_B_init_26 ?_
  refine cn_bp hx hb 16 (by decide) d_B_init_27 ?_
  refine cn_na hx hb hA hK3 0 16 (by decide) (hts _ (List.mem_cons_of_mem _ mw_40)) (by decide) (by decide) (by decide) ⟨by decide, by decide⟩ ⟨by decide, by decide⟩ (by decide) rfl rfl rfl d_B_init_29 ?_
  show cn_WS p l e _ s m args below meth c Q _ D K3 A 0 b 1 _ 31 [.ref 0] [.ref 7, .ref 0] [(3, 6, [.ref 1, .ref 4, .null, .null, .null, .null]), (3, 3, [.ref 2, .ref 3]), (0, 256, []), (0, 96, []), (3, 5, [.ref 5, .ref 6, .int 0]), (0, 4, []), (0, 4, []), (0, 16, [])]
  refine cn_pf hx hb 6 2 rfl hts (fun w h => List.mem_cons_of_mem _ (inE_B w h)) tyX6 tyX6_ok nmX6 hown hK rfl (by decide) (List.mem_cons_of_mem _ mw_195) rfl hnm rfl (ty := .array .int) (by decide +kernel) (fun _ => rfl) (fun _ => rfl) (by decide) d_B_init_31 ?_
  show cn_WS p l e _ s m args below meth c Q _ D K3 A 0 b 1 _ 34 [.ref 0] [] [(3, 6, [.ref 1, .ref 4, .ref 7, .null, .null, .null]), (3, 3, [.ref 2, .ref 3]), (0, 256, []), (0, 96, []), (3, 5, [.ref 5, .ref 6, .int 0]), (0, 4, []), (0, 4, []), (0, 16, [])]
  refine cn_al hx hb 0 0 rfl rfl d_B_init_34 ?_
  refine cn_new hx hb hA hK3 hN3 (N9 := 11) 0 rfl hts (fun w h => List.mem_cons_of_mem _ (inE_A w h)) tyX0 tyX0_ok hown (List.mem_cons_of_mem _ mw_57) (List.mem_cons_of_mem _ mw_58) (List.mem_cons_of_mem _ mw_4) hK (df := df_A_init) df_ok_A_init rfl (mc := 9) (ms := 773) (M := M_A_init) (fun H locs cells slots ls q rest hls hr hp hf => va_runI (b := q) (As := []) (n := 0) ⟨hx, hb, hml, hown, hts⟩ (c_A_init l D K3 q H.size) (cwI 0 hts (evGI (mw_61)) rfl rfl rfl (hts _ (List.mem_cons_of_mem _ mw_4)) (hts _ (List.mem_cons_of_mem _ mw_59)) (hts _ (List.mem_cons_of_mem _ mw_60)) rfl (by decide +kernel) ⟨Nat.le_of_ble_eq_true rfl, Nat.le_of_ble_eq_true rfl⟩) hp rfl rfl hls rfl (lv_room hr) d_B_init_39 hf) ⟨rfl, rfl, rfl⟩ ⟨by decide, by decide⟩ ⟨by decide, by decide⟩ (by decide) rfl rfl rfl (by decide) d_B_init_35 d_B_init_38 ?_
  show cn_WS p l e _ s m args below meth c Q _ D K3 A 0 b 1 _ 42 [.ref 0] [.ref 8, .ref 0] [(3, 6, [.ref 1, .ref 4, .ref 7, .null, .null, .null]), (3, 3, [.ref 2, .ref 3]), (0, 256, []), (0, 96, []), (3, 5, [.ref 5, .ref 6, .int 0]), (0, 4, []), (0, 4, []), (0, 16, []), (3, 0, [.ref 9, .ref 10, .ref 11, .ref 12, .ref 13, .ref 14, .ref 15, .ref 16, .ref 17, .int 0, .int 0]), (3, 1, [.int 0, .int 0, .int 0, .int 0, .int 0]), (0, 96, []), (1, 96, []), (1, 96, []), (1, 96, []), (0, 96, []), (0, 96, []), (0, 96, []), (0, 96, [])]
  refine cn_pf hx hb 6 3 rfl hts (fun w h => List.mem_cons_of_mem _ (inE_B w h)) tyX6 tyX6_ok nmX6 hown hK rfl (by decide) (List.mem_cons_of_mem _ mw_196) rfl hnm rfl (ty := .object "BlockCounter$Analysis") (by decide +kernel) (fun _ => rfl) (fun _ => rfl) (by decide) d_B_init_42 ?_
  show cn_WS p l e _ s m args below meth c Q _ D K3 A 0 b 1 _ 45 [.ref 0] [] [(3, 6, [.ref 1, .ref 4, .ref 7, .ref 8, .null, .null]), (3, 3, [.ref 2, .ref 3]), (0, 256, []), (0, 96, []), (3, 5, [.ref 5, .ref 6, .int 0]), (0, 4, []), (0, 4, []), (0, 16, []), (3, 0, [.ref 9, .ref 10, .ref 11, .ref 12, .ref 13, .ref 14, .ref 15, .ref 16, .ref 17, .int 0, .int 0]), (3, 1, [.int 0, .int 0, .int 0, .int 0, .int 0]), (0, 96, []), (1, 96, []), (1, 96, []), (1, 96, []), (0, 96, []), (0, 96, []), (0, 96, []), (0, 96, [])]
  refine cn_al hx hb 0 0 rfl rfl d_B_init_45 ?_
  refine cn_new hx hb hA hK3 hN3 (N9 := 4) 4 rfl hts (fun w h => List.mem_cons_of_mem _ (inE_R w h)) tyX4 tyX4_ok hown (List.mem_cons_of_mem _ mw_130) (List.mem_cons_of_mem _ mw_131) (List.mem_cons_of_mem _ mw_6) hK (df := df_R_init) df_ok_R_init rfl (mc := 4) (ms := 359) (M := M_R_init) (fun H locs cells slots ls q rest hls hr hp hf => va_runI (b := q) (As := []) (n := 0) ⟨hx, hb, hml, hown, hts⟩ (c_R_init l D K3 q H.size) (cwI 0 hts (evGI (mw_134)) rfl rfl rfl (hts _ (List.mem_cons_of_mem _ mw_6)) (hts _ (List.mem_cons_of_mem _ mw_132)) (hts _ (List.mem_cons_of_mem _ mw_133)) rfl (by decide +kernel) ⟨Nat.le_of_ble_eq_true rfl, Nat.le_of_ble_eq_true rfl⟩) hp rfl rfl hls rfl (lv_room hr) d_B_init_50 hf) ⟨rfl, rfl, rfl⟩ ⟨by decide, by decide⟩ ⟨by decide, by decide⟩ (by decide) rfl rfl rfl (by decide) d_B_init_46 d_B_init_49 ?_
  show cn_WS p l e _ s m args below meth c Q _ D K3 A 0 b 1 _ 53 [.ref 0] [.ref 18, .ref 0] [(3, 6, [.ref 1, .ref 4, .ref 7, .ref 8, .null, .null]), (3, 3, [.ref 2, .ref 3]), (0, 256, []), (0, 96, []), (3, 5, [.ref 5, .ref 6, .int 0]), (0, 4, []), (0, 4, []), (0, 16, []), (3, 0, [.ref 9, .ref 10, .ref 11, .ref 12, .ref 13, .ref 14, .ref 15, .ref 16, .ref 17, .int 0, .int 0]), (3, 1, [.int 0, .int 0, .int 0, .int 0, .int 0]), (0, 96, []), (1, 96, []), (1, 96, []), (1, 96, []), (0, 96, []), (0, 96, []), (0, 96, []), (0, 96, []), (3, 4, [.ref 19, .ref 20, .int 0, .int 0]), (3, 1, [.int 0, .int 0, .int 0, .int 0, .int 0]), (3, 3, [.ref 21, .ref 22]), (0, 256, []), (0, 96, [])]
  refine cn_pf hx hb 6 4 rfl hts (fun w h => List.mem_cons_of_mem _ (inE_B w h)) tyX6 tyX6_ok nmX6 hown hK rfl (by decide) (List.mem_cons_of_mem _ mw_197) rfl hnm rfl (ty := .object "BlockCounter$Rewriting") (by decide +kernel) (fun _ => rfl) (fun _ => rfl) (by decide) d_B_init_53 ?_
  show cn_WS p l e _ s m args below meth c Q _ D K3 A 0 b 1 _ 56 [.ref 0] [] [(3, 6, [.ref 1, .ref 4, .ref 7, .ref 8, .ref 18, .null]), (3, 3, [.ref 2, .ref 3]), (0, 256, []), (0, 96, []), (3, 5, [.ref 5, .ref 6, .int 0]), (0, 4, []), (0, 4, []), (0, 16, []), (3, 0, [.ref 9, .ref 10, .ref 11, .ref 12, .ref 13, .ref 14, .ref 15, .ref 16, .ref 17, .int 0, .int 0]), (3, 1, [.int 0, .int 0, .int 0, .int 0, .int 0]), (0, 96, []), (1, 96, []), (1, 96, []), (1, 96, []), (0, 96, []), (0, 96, []), (0, 96, []), (0, 96, []), (3, 4, [.ref 19, .ref 20, .int 0, .int 0]), (3, 1, [.int 0, .int 0, .int 0, .int 0, .int 0]), (3, 3, [.ref 21, .ref 22]), (0, 256, []), (0, 96, [])]
  refine cn_al hx hb 0 0 rfl rfl d_B_init_56 ?_
  refine cn_new hx hb hA hK3 hN3 (N9 := 10) 2 rfl hts (fun w h => List.mem_cons_of_mem _ (inE_M w h)) tyX2 tyX2_ok hown (List.mem_cons_of_mem _ mw_153) (List.mem_cons_of_mem _ mw_154) (List.mem_cons_of_mem _ mw_7) hK (df := df_M_init) df_ok_M_init rfl (mc := 6) (ms := 137) (M := M_M_init) (fun H locs cells slots ls q rest hls hr hp hf => va_runI (b := q) (As := []) (n := 0) ⟨hx, hb, hml, hown, hts⟩ (c_M_init l D K3 q H.size) (cwI 0 hts (evGI (mw_157)) rfl rfl rfl (hts _ (List.mem_cons_of_mem _ mw_7)) (hts _ (List.mem_cons_of_mem _ mw_155)) (hts _ (List.mem_cons_of_mem _ mw_156)) rfl (by decide +kernel) ⟨Nat.le_of_ble_eq_true rfl, Nat.le_of_ble_eq_true rfl⟩) hp rfl rfl hls rfl (lv_room hr) d_B_init_61 hf) ⟨rfl, rfl, rfl⟩ ⟨by decide, by decide⟩ ⟨by decide, by decide⟩ (by decide) rfl rfl rfl (by decide) d_B_init_57 d_B_init_60 ?_
  show cn_WS p l e _ s m args below meth c Q _ D K3 A 0 b 1 _ 64 [.ref 0] [.ref 23, .ref 0] [(3, 6, [.ref 1, .ref 4, .ref 7, .ref 8, .ref 18, .null]), (3, 3, [.ref 2, .ref 3]), (0, 256, []), (0, 96, []), (3, 5, [.ref 5, .ref 6, .int 0]), (0, 4, []), (0, 4, []), (0, 16, []), (3, 0, [.ref 9, .ref 10, .ref 11, .ref 12, .ref 13, .ref 14, .ref 15, .ref 16, .ref 17, .int 0, .int 0]), (3, 1, [.int 0, .int 0, .int 0, .int 0, .int 0]), (0, 96, []), (1, 96, []), (1, 96, []), (1, 96, []), (0, 96, []), (0, 96, []), (0, 96, []), (0, 96, []), (3, 4, [.ref 19, .ref 20, .int 0, .int 0]), (3, 1, [.int 0, .int 0, .int 0, .int 0, .int 0]), (3, 3, [.ref 21, .ref 22]), (0, 256, []), (0, 96, []), (3, 2, [.ref 24, .ref 25, .ref 26, .ref 27, .ref 28, .ref 29, .int 0, .int 0, .int 0, .int 0]), (3, 1, [.int 0, .int 0, .int 0, .int 0, .int 0]), (0, 4, []), (0, 16, []), (0, 8, []), (0, 40, []), (2, 64, [])]
  refine cn_pf hx hb 6 5 rfl hts (fun w h => List.mem_cons_of_mem _ (inE_B w h)) tyX6 tyX6_ok nmX6 hown hK rfl (by decide) (List.mem_cons_of_mem _ mw_198) rfl hnm rfl (ty := .object "BlockCounter$Machine") (by decide +kernel) (fun _ => rfl) (fun _ => rfl) (by decide) d_B_init_64 ?_
  show cn_WS p l e _ s m args below meth c Q _ D K3 A 0 b 1 _ 67 [.ref 0] [] [(3, 6, [.ref 1, .ref 4, .ref 7, .ref 8, .ref 18, .ref 23]), (3, 3, [.ref 2, .ref 3]), (0, 256, []), (0, 96, []), (3, 5, [.ref 5, .ref 6, .int 0]), (0, 4, []), (0, 4, []), (0, 16, []), (3, 0, [.ref 9, .ref 10, .ref 11, .ref 12, .ref 13, .ref 14, .ref 15, .ref 16, .ref 17, .int 0, .int 0]), (3, 1, [.int 0, .int 0, .int 0, .int 0, .int 0]), (0, 96, []), (1, 96, []), (1, 96, []), (1, 96, []), (0, 96, []), (0, 96, []), (0, 96, []), (0, 96, []), (3, 4, [.ref 19, .ref 20, .int 0, .int 0]), (3, 1, [.int 0, .int 0, .int 0, .int 0, .int 0]), (3, 3, [.ref 21, .ref 22]), (0, 256, []), (0, 96, []), (3, 2, [.ref 24, .ref 25, .ref 26, .ref 27, .ref 28, .ref 29, .int 0, .int 0, .int 0, .int 0]), (3, 1, [.int 0, .int 0, .int 0, .int 0, .int 0]), (0, 4, []), (0, 16, []), (0, 8, []), (0, 40, []), (2, 64, [])]
  exact hret 67 d_B_init_67
def y_D_init : MethodName := ⟨RD, "<init>", "()V"⟩
def ws_D_init : List Cond := .code y_D_init prog_9_method_1_code 1 none :: evW
theorem d_D_init_0 : decode prog_9_method_1_code 0 = .ok (.aload_n 0, 1) := by decide +kernel
theorem d_D_init_1 : decode prog_9_method_1_code 1 = .ok (.invokespecial 1, 3) := by decide +kernel
theorem d_D_init_4 : decode prog_9_method_1_code 4 = .ok (.aload_n 0, 1) := by decide +kernel
theorem d_D_init_5 : decode prog_9_method_1_code 5 = .ok (.sipush 512, 3) := by decide +kernel
theorem d_D_init_8 : decode prog_9_method_1_code 8 = .ok (.newarray .int, 2) := by decide +kernel
theorem d_D_init_10 : decode prog_9_method_1_code 10 = .ok (.putfield 7, 3) := by decide +kernel
theorem d_D_init_13 : decode prog_9_method_1_code 13 = .ok (.aload_n 0, 1) := by decide +kernel
theorem d_D_init_14 : decode prog_9_method_1_code 14 = .ok (.bipush 96, 2) := by decide +kernel
theorem d_D_init_16 : decode prog_9_method_1_code 16 = .ok (.newarray .int, 2) := by decide +kernel
theorem d_D_init_18 : decode prog_9_method_1_code 18 = .ok (.putfield 13, 3) := by decide +kernel
theorem d_D_init_21 : decode prog_9_method_1_code 21 = .ok (.aload_n 0, 1) := by decide +kernel
theorem d_D_init_22 : decode prog_9_method_1_code 22 = .ok (.iconst 4, 1) := by decide +kernel
theorem d_D_init_23 : decode prog_9_method_1_code 23 = .ok (.newarray .int, 2) := by decide +kernel
theorem d_D_init_25 : decode prog_9_method_1_code 25 = .ok (.putfield 16, 3) := by decide +kernel
theorem d_D_init_28 : decode prog_9_method_1_code 28 = .ok (.aload_n 0, 1) := by decide +kernel
theorem d_D_init_29 : decode prog_9_method_1_code 29 = .ok (.iconst 4, 1) := by decide +kernel
theorem d_D_init_30 : decode prog_9_method_1_code 30 = .ok (.newarray .int, 2) := by decide +kernel
theorem d_D_init_32 : decode prog_9_method_1_code 32 = .ok (.putfield 19, 3) := by decide +kernel
theorem d_D_init_35 : decode prog_9_method_1_code 35 = .ok (.aload_n 0, 1) := by decide +kernel
theorem d_D_init_36 : decode prog_9_method_1_code 36 = .ok (.bipush 16, 2) := by decide +kernel
theorem d_D_init_38 : decode prog_9_method_1_code 38 = .ok (.newarray .int, 2) := by decide +kernel
theorem d_D_init_40 : decode prog_9_method_1_code 40 = .ok (.putfield 22, 3) := by decide +kernel
theorem d_D_init_43 : decode prog_9_method_1_code 43 = .ok (.aload_n 0, 1) := by decide +kernel
theorem d_D_init_44 : decode prog_9_method_1_code 44 = .ok (.bipush 96, 2) := by decide +kernel
theorem d_D_init_46 : decode prog_9_method_1_code 46 = .ok (.newarray .boolean, 2) := by decide +kernel
theorem d_D_init_48 : decode prog_9_method_1_code 48 = .ok (.putfield 25, 3) := by decide +kernel
theorem d_D_init_51 : decode prog_9_method_1_code 51 = .ok (.aload_n 0, 1) := by decide +kernel
theorem d_D_init_52 : decode prog_9_method_1_code 52 = .ok (.bipush 96, 2) := by decide +kernel
theorem d_D_init_54 : decode prog_9_method_1_code 54 = .ok (.newarray .boolean, 2) := by decide +kernel
theorem d_D_init_56 : decode prog_9_method_1_code 56 = .ok (.putfield 29, 3) := by decide +kernel
theorem d_D_init_59 : decode prog_9_method_1_code 59 = .ok (.aload_n 0, 1) := by decide +kernel
theorem d_D_init_60 : decode prog_9_method_1_code 60 = .ok (.bipush 96, 2) := by decide +kernel
theorem d_D_init_62 : decode prog_9_method_1_code 62 = .ok (.newarray .boolean, 2) := by decide +kernel
theorem d_D_init_64 : decode prog_9_method_1_code 64 = .ok (.putfield 32, 3) := by decide +kernel
theorem d_D_init_67 : decode prog_9_method_1_code 67 = .ok (.aload_n 0, 1) := by decide +kernel
theorem d_D_init_68 : decode prog_9_method_1_code 68 = .ok (.bipush 96, 2) := by decide +kernel
theorem d_D_init_70 : decode prog_9_method_1_code 70 = .ok (.newarray .boolean, 2) := by decide +kernel
theorem d_D_init_72 : decode prog_9_method_1_code 72 = .ok (.putfield 35, 3) := by decide +kernel
theorem d_D_init_75 : decode prog_9_method_1_code 75 = .ok (.aload_n 0, 1) := by decide +kernel
theorem d_D_init_76 : decode prog_9_method_1_code 76 = .ok (.bipush 96, 2) := by decide +kernel
theorem d_D_init_78 : decode prog_9_method_1_code 78 = .ok (.newarray .int, 2) := by decide +kernel
theorem d_D_init_80 : decode prog_9_method_1_code 80 = .ok (.putfield 38, 3) := by decide +kernel
theorem d_D_init_83 : decode prog_9_method_1_code 83 = .ok (.aload_n 0, 1) := by decide +kernel
theorem d_D_init_84 : decode prog_9_method_1_code 84 = .ok (.bipush 96, 2) := by decide +kernel
theorem d_D_init_86 : decode prog_9_method_1_code 86 = .ok (.newarray .int, 2) := by decide +kernel
theorem d_D_init_88 : decode prog_9_method_1_code 88 = .ok (.putfield 41, 3) := by decide +kernel
theorem d_D_init_91 : decode prog_9_method_1_code 91 = .ok (.aload_n 0, 1) := by decide +kernel
theorem d_D_init_92 : decode prog_9_method_1_code 92 = .ok (.bipush 96, 2) := by decide +kernel
theorem d_D_init_94 : decode prog_9_method_1_code 94 = .ok (.newarray .int, 2) := by decide +kernel
theorem d_D_init_96 : decode prog_9_method_1_code 96 = .ok (.putfield 44, 3) := by decide +kernel
theorem d_D_init_99 : decode prog_9_method_1_code 99 = .ok (.aload_n 0, 1) := by decide +kernel
theorem d_D_init_100 : decode prog_9_method_1_code 100 = .ok (.iconst 4, 1) := by decide +kernel
theorem d_D_init_101 : decode prog_9_method_1_code 101 = .ok (.newarray .int, 2) := by decide +kernel
theorem d_D_init_103 : decode prog_9_method_1_code 103 = .ok (.putfield 47, 3) := by decide +kernel
theorem d_D_init_106 : decode prog_9_method_1_code 106 = .ok (.aload_n 0, 1) := by decide +kernel
theorem d_D_init_107 : decode prog_9_method_1_code 107 = .ok (.bipush 16, 2) := by decide +kernel
theorem d_D_init_109 : decode prog_9_method_1_code 109 = .ok (.newarray .int, 2) := by decide +kernel
theorem d_D_init_111 : decode prog_9_method_1_code 111 = .ok (.putfield 50, 3) := by decide +kernel
theorem d_D_init_114 : decode prog_9_method_1_code 114 = .ok (.aload_n 0, 1) := by decide +kernel
theorem d_D_init_115 : decode prog_9_method_1_code 115 = .ok (.bipush 8, 2) := by decide +kernel
theorem d_D_init_117 : decode prog_9_method_1_code 117 = .ok (.newarray .int, 2) := by decide +kernel
theorem d_D_init_119 : decode prog_9_method_1_code 119 = .ok (.putfield 53, 3) := by decide +kernel
theorem d_D_init_122 : decode prog_9_method_1_code 122 = .ok (.aload_n 0, 1) := by decide +kernel
theorem d_D_init_123 : decode prog_9_method_1_code 123 = .ok (.bipush 40, 2) := by decide +kernel
theorem d_D_init_125 : decode prog_9_method_1_code 125 = .ok (.newarray .int, 2) := by decide +kernel
theorem d_D_init_127 : decode prog_9_method_1_code 127 = .ok (.putfield 56, 3) := by decide +kernel
theorem d_D_init_130 : decode prog_9_method_1_code 130 = .ok (.aload_n 0, 1) := by decide +kernel
theorem d_D_init_131 : decode prog_9_method_1_code 131 = .ok (.bipush 64, 2) := by decide +kernel
theorem d_D_init_133 : decode prog_9_method_1_code 133 = .ok (.newarray .long, 2) := by decide +kernel
theorem d_D_init_135 : decode prog_9_method_1_code 135 = .ok (.putfield 59, 3) := by decide +kernel
theorem d_D_init_138 : decode prog_9_method_1_code 138 = .ok (.return_, 1) := by decide +kernel
def df_D_init : List Value := [.int 0, .null, .null, .int 0, .null, .null, .null, .int 0, .int 0, .null, .null, .null, .null, .int 0, .int 0, .int 0, .null, .null, .null, .int 0, .null, .null, .int 0, .int 0, .int 0, .int 0, .int 0, .null, .null, .null]
theorem df_ok_D_init : ∀ j, j < 30 → defaultValue (tyD j) = vp_V df_D_init j := by decide +kernel
def M_D_init : List cn_D := [(3, 7, [.int 0, .ref 1, .ref 2, .int 0, .ref 3, .ref 4, .ref 5, .int 0, .int 0, .ref 6, .ref 7, .ref 8, .ref 9, .int 0, .int 0, .int 0, .ref 10, .ref 11, .ref 12, .int 0, .ref 13, .ref 14, .int 0, .int 0, .int 0, .int 0, .int 0, .ref 15, .ref 16, .ref 17]), (0, 512, []), (0, 96, []), (0, 4, []), (0, 4, []), (0, 16, []), (1, 96, []), (1, 96, []), (1, 96, []), (1, 96, []), (0, 96, []), (0, 96, []), (0, 96, []), (0, 4, []), (0, 16, []), (0, 8, []), (0, 40, []), (2, 64, [])]
abbrev rm_D_init : Room := { frames := 1, cells := 17, slots := 1436, locals := 32 }
set_option maxHeartbeats 4000000 in
set_option maxRecDepth 100000 in
theorem c_D_init (l : Launch) : cn_C l y_D_init ws_D_init rm_D_init 7 df_D_init M_D_init 17 1436 := by
  refine cn_meth (by decide) rfl (by decide) rfl rfl (fun _ => rfl) ⟨rfl, rfl⟩ ?_
  intro p e s m args below meth c Q D K3 A b hx hb hml hown hts hK hK3 hN3 hA hnm hret
  refine cn_al hx hb 0 0 rfl rfl d_D_init_0 ?_
  refine cn_ob hx hb hml hown (hts _ (List.mem_cons_of_mem _ mw_753)) (hts _ (List.mem_cons_of_mem _ mw_25)) (hts _ (List.mem_cons_of_mem _ mw_26)) (by decide) (by decide) (by decide) d_D_init_1 ?_
  refine cn_al hx hb 0 0 rfl rfl d_D_init_4 ?_
  refine cn_sp hx hb 512 (by decide) d_D_init_5 ?_
  refine cn_na hx hb hA hK3 0 512 (by decide) (hts _ (List.mem_cons_of_mem _ mw_40)) (by decide) (by decide) (by decide) ⟨by decide, by decide⟩ ⟨by decide, by decide⟩ (by decide) rfl rfl rfl d_D_init_8 ?_
  show cn_WS p l e _ s m args below meth c Q _ D K3 A 0 b 1 _ 10 [.ref 0] [.ref 1, .ref 0] [(3, 7, [.int 0, .null, .null, .int 0, .null, .null, .null, .int 0, .int 0, .null, .null, .null, .null, .int 0, .int 0, .int 0, .null, .null, .null, .int 0, .null, .null, .int 0, .int 0, .int 0, .int 0, .int 0, .null, .null, .null]), (0, 512, [])]
  refine cn_pf hx hb 7 1 rfl hts (fun w h => List.mem_cons_of_mem _ (inE_D w h)) tyD tyD_ok nmD hown hK rfl (by decide) (List.mem_cons_of_mem _ mw_755) rfl hnm rfl (ty := .array .int) (by decide +kernel) (fun _ => rfl) (fun _ => rfl) (by decide) d_D_init_10 ?_
  show cn_WS p l e _ s m args below meth c Q _ D K3 A 0 b 1 _ 13 [.ref 0] [] [(3, 7, [.int 0, .ref 1, .null, .int 0, .null, .null, .null, .int 0, .int 0, .null, .null, .null, .null, .int 0, .int 0, .int 0, .null, .null, .null, .int 0, .null, .null, .int 0, .int 0, .int 0, .int 0, .int 0, .null, .null, .null]), (0, 512, [])]
  refine cn_al hx hb 0 0 rfl rfl d_D_init_13 ?_
  refine cn_bp hx hb 96 (by decide) d_D_init_14 ?_
  refine cn_na hx hb hA hK3 0 96 (by decide) (hts _ (List.mem_cons_of_mem _ mw_40)) (by decide) (by decide) (by decide) ⟨by decide, by decide⟩ ⟨by decide, by decide⟩ (by decide) rfl rfl rfl d_D_init_16 ?_
  show cn_WS p l e _ s m args below meth c Q _ D K3 A 0 b 1 _ 18 [.ref 0] [.ref 2, .ref 0] [(3, 7, [.int 0, .ref 1, .null, .int 0, .null, .null, .null, .int 0, .int 0, .null, .null, .null, .null, .int 0, .int 0, .int 0, .null, .null, .null, .int 0, .null, .null, .int 0, .int 0, .int 0, .int 0, .int 0, .null, .null, .null]), (0, 512, []), (0, 96, [])]
  refine cn_pf hx hb 7 2 rfl hts (fun w h => List.mem_cons_of_mem _ (inE_D w h)) tyD tyD_ok nmD hown hK rfl (by decide) (List.mem_cons_of_mem _ mw_756) rfl hnm rfl (ty := .array .int) (by decide +kernel) (fun _ => rfl) (fun _ => rfl) (by decide) d_D_init_18 ?_
  show cn_WS p l e _ s m args below meth c Q _ D K3 A 0 b 1 _ 21 [.ref 0] [] [(3, 7, [.int 0, .ref 1, .ref 2, .int 0, .null, .null, .null, .int 0, .int 0, .null, .null, .null, .null, .int 0, .int 0, .int 0, .null, .null, .null, .int 0, .null, .null, .int 0, .int 0, .int 0, .int 0, .int 0, .null, .null, .null]), (0, 512, []), (0, 96, [])]
  refine cn_al hx hb 0 0 rfl rfl d_D_init_21 ?_
  refine cn_ic hx hb 4 (by decide) d_D_init_22 ?_
  refine cn_na hx hb hA hK3 0 4 (by decide) (hts _ (List.mem_cons_of_mem _ mw_40)) (by decide) (by decide) (by decide) ⟨by decide, by decide⟩ ⟨by decide, by decide⟩ (by decide) rfl rfl rfl d_D_init_23 ?_
  show cn_WS p l e _ s m args below meth c Q _ D K3 A 0 b 1 _ 25 [.ref 0] [.ref 3, .ref 0] [(3, 7, [.int 0, .ref 1, .ref 2, .int 0, .null, .null, .null, .int 0, .int 0, .null, .null, .null, .null, .int 0, .int 0, .int 0, .null, .null, .null, .int 0, .null, .null, .int 0, .int 0, .int 0, .int 0, .int 0, .null, .null, .null]), (0, 512, []), (0, 96, []), (0, 4, [])]
  refine cn_pf hx hb 7 4 rfl hts (fun w h => List.mem_cons_of_mem _ (inE_D w h)) tyD tyD_ok nmD hown hK rfl (by decide) (List.mem_cons_of_mem _ mw_758) rfl hnm rfl (ty := .array .int) (by decide +kernel) (fun _ => rfl) (fun _ => rfl) (by decide) d_D_init_25 ?_
  show cn_WS p l e _ s m args below meth c Q _ D K3 A 0 b 1 _ 28 [.ref 0] [] [(3, 7, [.int 0, .ref 1, .ref 2, .int 0, .ref 3, .null, .null, .int 0, .int 0, .null, .null, .null, .null, .int 0, .int 0, .int 0, .null, .null, .null, .int 0, .null, .null, .int 0, .int 0, .int 0, .int 0, .int 0, .null, .null, .null]), (0, 512, []), (0, 96, []), (0, 4, [])]
  refine cn_al hx hb 0 0 rfl rfl d_D_init_28 ?_
  refine cn_ic hx hb 4 (by decide) d_D_init_29 ?_
  refine cn_na hx hb hA hK3 0 4 (by decide) (hts _ (List.mem_cons_of_mem _ mw_40)) (by decide) (by decide) (by decide) ⟨by decide, by decide⟩ ⟨by decide, by decide⟩ (by decide) rfl rfl rfl d_D_init_30 ?_
  show cn_WS p l e _ s m args below meth c Q _ D K3 A 0 b 1 _ 32 [.ref 0] [.ref 4, .ref 0] [(3, 7, [.int 0, .ref 1, .ref 2, .int 0, .ref 3, .null, .null, .int 0, .int 0, .null, .null, .null, .null, .int 0, .int 0, .int 0, .null, .null, .null, .int 0, .null, .null, .int 0, .int 0, .int 0, .int 0, .int 0, .null, .null, .null]), (0, 512, []), (0, 96, []), (0, 4, []), (0, 4, [])]
  refine cn_pf hx hb 7 5 rfl hts (fun w h => List.mem_cons_of_mem _ (inE_D w h)) tyD tyD_ok nmD hown hK rfl (by decide) (List.mem_cons_of_mem _ mw_759) rfl hnm rfl (ty := .array .int) (by decide +kernel) (fun _ => rfl) (fun _ => rfl) (by decide) d_D_init_32 ?_
  show cn_WS p l e _ s m args below meth c Q _ D K3 A 0 b 1 _ 35 [.ref 0] [] [(3, 7, [.int 0, .ref 1, .ref 2, .int 0, .ref 3, .ref 4, .null, .int 0, .int 0, .null, .null, .null, .null, .int 0, .int 0, .int 0, .null, .null, .null, .int 0, .null, .null, .int 0, .int 0, .int 0, .int 0, .int 0, .null, .null, .null]), (0, 512, []), (0, 96, []), (0, 4, []), (0, 4, [])]
  refine cn_al hx hb 0 0 rfl rfl d_D_init_35 ?_
  refine cn_bp hx hb 16 (by decide) d_D_init_36 ?_
  refine cn_na hx hb hA hK3 0 16 (by decide) (hts _ (List.mem_cons_of_mem _ mw_40)) (by decide) (by decide) (by decide) ⟨by decide, by decide⟩ ⟨by decide, by decide⟩ (by decide) rfl rfl rfl d_D_init_38 ?_
  show cn_WS p l e _ s m args below meth c Q _ D K3 A 0 b 1 _ 40 [.ref 0] [.ref 5, .ref 0] [(3, 7, [.int 0, .ref 1, .ref 2, .int 0, .ref 3, .ref 4, .null, .int 0, .int 0, .null, .null, .null, .null, .int 0, .int 0, .int 0, .null, .null, .null, .int 0, .null, .null, .int 0, .int 0, .int 0, .int 0, .int 0, .null, .null, .null]), (0, 512, []), (0, 96, []), (0, 4, []), (0, 4, []), (0, 16, [])]
  refine cn_pf hx hb 7 6 rfl hts (fun w h => List.mem_cons_of_mem _ (inE_D w h)) tyD tyD_ok nmD hown hK rfl (by decide) (List.mem_cons_of_mem _ mw_760) rfl hnm rfl (ty := .array .int) (by decide +kernel) (fun _ => rfl) (fun _ => rfl) (by decide) d_D_init_40 ?_
  show cn_WS p l e _ s m args below meth c Q _ D K3 A 0 b 1 _ 43 [.ref 0] [] [(3, 7, [.int 0, .ref 1, .ref 2, .int 0, .ref 3, .ref 4, .ref 5, .int 0, .int 0, .null, .null, .null, .null, .int 0, .int 0, .int 0, .null, .null, .null, .int 0, .null, .null, .int 0, .int 0, .int 0, .int 0, .int 0, .null, .null, .null]), (0, 512, []), (0, 96, []), (0, 4, []), (0, 4, []), (0, 16, [])]
  refine cn_al hx hb 0 0 rfl rfl d_D_init_43 ?_
  refine cn_bp hx hb 96 (by decide) d_D_init_44 ?_
  refine cn_na hx hb hA hK3 1 96 (by decide) (hts _ (List.mem_cons_of_mem _ mw_129)) (by decide) (by decide) (by decide) ⟨by decide, by decide⟩ ⟨by decide, by decide⟩ (by decide) rfl rfl rfl d_D_init_46 ?_
  show cn_WS p l e _ s m args below meth c Q _ D K3 A 0 b 1 _ 48 [.ref 0] [.ref 6, .ref 0] [(3, 7, [.int 0, .ref 1, .ref 2, .int 0, .ref 3, .ref 4, .ref 5, .int 0, .int 0, .null, .null, .null, .null, .int 0, .int 0, .int 0, .null, .null, .null, .int 0, .null, .null, .int 0, .int 0, .int 0, .int 0, .int 0, .null, .null, .null]), (0, 512, []), (0, 96, []), (0, 4, []), (0, 4, []), (0, 16, []), (1, 96, [])]
  refine cn_pf hx hb 7 9 rfl hts (fun w h => List.mem_cons_of_mem _ (inE_D w h)) tyD tyD_ok nmD hown hK rfl (by decide) (List.mem_cons_of_mem _ mw_763) rfl hnm rfl (ty := .array .boolean) (by decide +kernel) (fun _ => rfl) (fun _ => rfl) (by decide) d_D_init_48 ?_
  show cn_WS p l e _ s m args below meth c Q _ D K3 A 0 b 1 _ 51 [.ref 0] [] [(3, 7, [.int 0, .ref 1, .ref 2, .int 0, .ref 3, .ref 4, .ref 5, .int 0, .int 0, .ref 6, .null, .null, .null, .int 0, .int 0, .int 0, .null, .null, .null, .int 0, .null, .null, .int 0, .int 0, .int 0, .int 0, .int 0, .null, .null, .null]), (0, 512, []), (0, 96, []), (0, 4, []), (0, 4, []), (0, 16, []), (1, 96, [])]
  refine cn_al hx hb 0 0 rfl rfl d_D_init_51 ?_
  refine cn_bp hx hb 96 (by decide) d_D_init_52 ?_
  refine cn_na hx hb hA hK3 1 96 (by decide) (hts _ (List.mem_cons_of_mem _ mw_129)) (by decide) (by decide) (by decide) ⟨by decide, by decide⟩ ⟨by decide, by decide⟩ (by decide) rfl rfl rfl d_D_init_54 ?_
  show cn_WS p l e _ s m args below meth c Q _ D K3 A 0 b 1 _ 56 [.ref 0] [.ref 7, .ref 0] [(3, 7, [.int 0, .ref 1, .ref 2, .int 0, .ref 3, .ref 4, .ref 5, .int 0, .int 0, .ref 6, .null, .null, .null, .int 0, .int 0, .int 0, .null, .null, .null, .int 0, .null, .null, .int 0, .int 0, .int 0, .int 0, .int 0, .null, .null, .null]), (0, 512, []), (0, 96, []), (0, 4, []), (0, 4, []), (0, 16, []), (1, 96, []), (1, 96, [])]
  refine cn_pf hx hb 7 10 rfl hts (fun w h => List.mem_cons_of_mem _ (inE_D w h)) tyD tyD_ok nmD hown hK rfl (by decide) (List.mem_cons_of_mem _ mw_764) rfl hnm rfl (ty := .array .boolean) (by decide +kernel) (fun _ => rfl) (fun _ => rfl) (by decide) d_D_init_56 ?_
  show cn_WS p l e _ s m args below meth c Q _ D K3 A 0 b 1 _ 59 [.ref 0] [] [(3, 7, [.int 0, .ref 1, .ref 2, .int 0, .ref 3, .ref 4, .ref 5, .int 0, .int 0, .ref 6, .ref 7, .null, .null, .int 0, .int 0, .int 0, .null, .null, .null, .int 0, .null, .null, .int 0, .int 0, .int 0, .int 0, .int 0, .null, .null, .null]), (0, 512, []), (0, 96, []), (0, 4, []), (0, 4, []), (0, 16, []), (1, 96, []), (1, 96, [])]
  refine cn_al hx hb 0 0 rfl rfl d_D_init_59 ?_
  refine cn_bp hx hb 96 (by decide) d_D_init_60 ?_
  refine cn_na hx hb hA hK3 1 96 (by decide) (hts _ (List.mem_cons_of_mem _ mw_129)) (by decide) (by decide) (by decide) ⟨by decide, by decide⟩ ⟨by decide, by decide⟩ (by decide) rfl rfl rfl d_D_init_62 ?_
  show cn_WS p l e _ s m args below meth c Q _ D K3 A 0 b 1 _ 64 [.ref 0] [.ref 8, .ref 0] [(3, 7, [.int 0, .ref 1, .ref 2, .int 0, .ref 3, .ref 4, .ref 5, .int 0, .int 0, .ref 6, .ref 7, .null, .null, .int 0, .int 0, .int 0, .null, .null, .null, .int 0, .null, .null, .int 0, .int 0, .int 0, .int 0, .int 0, .null, .null, .null]), (0, 512, []), (0, 96, []), (0, 4, []), (0, 4, []), (0, 16, []), (1, 96, []), (1, 96, []), (1, 96, [])]
  refine cn_pf hx hb 7 11 rfl hts (fun w h => List.mem_cons_of_mem _ (inE_D w h)) tyD tyD_ok nmD hown hK rfl (by decide) (List.mem_cons_of_mem _ mw_765) rfl hnm rfl (ty := .array .boolean) (by decide +kernel) (fun _ => rfl) (fun _ => rfl) (by decide) d_D_init_64 ?_
  show cn_WS p l e _ s m args below meth c Q _ D K3 A 0 b 1 _ 67 [.ref 0] [] [(3, 7, [.int 0, .ref 1, .ref 2, .int 0, .ref 3, .ref 4, .ref 5, .int 0, .int 0, .ref 6, .ref 7, .ref 8, .null, .int 0, .int 0, .int 0, .null, .null, .null, .int 0, .null, .null, .int 0, .int 0, .int 0, .int 0, .int 0, .null, .null, .null]), (0, 512, []), (0, 96, []), (0, 4, []), (0, 4, []), (0, 16, []), (1, 96, []), (1, 96, []), (1, 96, [])]
  refine cn_al hx hb 0 0 rfl rfl d_D_init_67 ?_
  refine cn_bp hx hb 96 (by decide) d_D_init_68 ?_
  refine cn_na hx hb hA hK3 1 96 (by decide) (hts _ (List.mem_cons_of_mem _ mw_129)) (by decide) (by decide) (by decide) ⟨by decide, by decide⟩ ⟨by decide, by decide⟩ (by decide) rfl rfl rfl d_D_init_70 ?_
  show cn_WS p l e _ s m args below meth c Q _ D K3 A 0 b 1 _ 72 [.ref 0] [.ref 9, .ref 0] [(3, 7, [.int 0, .ref 1, .ref 2, .int 0, .ref 3, .ref 4, .ref 5, .int 0, .int 0, .ref 6, .ref 7, .ref 8, .null, .int 0, .int 0, .int 0, .null, .null, .null, .int 0, .null, .null, .int 0, .int 0, .int 0, .int 0, .int 0, .null, .null, .null]), (0, 512, []), (0, 96, []), (0, 4, []), (0, 4, []), (0, 16, []), (1, 96, []), (1, 96, []), (1, 96, []), (1, 96, [])]
  refine cn_pf hx hb 7 12 rfl hts (fun w h => List.mem_cons_of_mem _ (inE_D w h)) tyD tyD_ok nmD hown hK rfl (by decide) (List.mem_cons_of_mem _ mw_766) rfl hnm rfl (ty := .array .boolean) (by decide +kernel) (fun _ => rfl) (fun _ => rfl) (by decide) d_D_init_72 ?_
  show cn_WS p l e _ s m args below meth c Q _ D K3 A 0 b 1 _ 75 [.ref 0] [] [(3, 7, [.int 0, .ref 1, .ref 2, .int 0, .ref 3, .ref 4, .ref 5, .int 0, .int 0, .ref 6, .ref 7, .ref 8, .ref 9, .int 0, .int 0, .int 0, .null, .null, .null, .int 0, .null, .null, .int 0, .int 0, .int 0, .int 0, .int 0, .null, .null, .null]), (0, 512, []), (0, 96, []), (0, 4, []), (0, 4, []), (0, 16, []), (1, 96, []), (1, 96, []), (1, 96, []), (1, 96, [])]
  refine cn_al hx hb 0 0 rfl rfl d_D_init_75 ?_
  refine cn_bp hx hb 96 (by decide) d_D_init_76 ?_
  refine cn_na hx hb hA hK3 0 96 (by decide) (hts _ (List.mem_cons_of_mem _ mw_40)) (by decide) (by decide) (by decide) ⟨by decide, by decide⟩ ⟨by decide, by decide⟩ (by decide) rfl rfl rfl d_D_init_78 ?_
  show cn_WS p l e _ s m args below meth c Q _ D K3 A 0 b 1 _ 80 [.ref 0] [.ref 10, .ref 0] [(3, 7, [.int 0, .ref 1, .ref 2, .int 0, .ref 3, .ref 4, .ref 5, .int 0, .int 0, .ref 6, .ref 7, .ref 8, .ref 9, .int 0, .int 0, .int 0, .null, .null, .null, .int 0, .null, .null, .int 0, .int 0, .int 0, .int 0, .int 0, .null, .null, .null]), (0, 512, []), (0, 96, []), (0, 4, []), (0, 4, []), (0, 16, []), (1, 96, []), (1, 96, []), (1, 96, []), (1, 96, []), (0, 96, [])]
  refine cn_pf hx hb 7 16 rfl hts (fun w h => List.mem_cons_of_mem _ (inE_D w h)) tyD tyD_ok nmD hown hK rfl (by decide) (List.mem_cons_of_mem _ mw_770) rfl hnm rfl (ty := .array .int) (by decide +kernel) (fun _ => rfl) (fun _ => rfl) (by decide) d_D_init_80 ?_
  show cn_WS p l e _ s m args below meth c Q _ D K3 A 0 b 1 _ 83 [.ref 0] [] [(3, 7, [.int 0, .ref 1, .ref 2, .int 0, .ref 3, .ref 4, .ref 5, .int 0, .int 0, .ref 6, .ref 7, .ref 8, .ref 9, .int 0, .int 0, .int 0, .ref 10, .null, .null, .int 0, .null, .null, .int 0, .int 0, .int 0, .int 0, .int 0, .null, .null, .null]), (0, 512, []), (0, 96, []), (0, 4, []), (0, 4, []), (0, 16, []), (1, 96, []), (1, 96, []), (1, 96, []), (1, 96, []), (0, 96, [])]
  refine cn_al hx hb 0 0 rfl rfl d_D_init_83 ?_
  refine cn_bp hx hb 96 (by decide) d_D_init_84 ?_
  refine cn_na hx hb hA hK3 0 96 (by decide) (hts _ (List.mem_cons_of_mem _ mw_40)) (by decide) (by decide) (by decide) ⟨by decide, by decide⟩ ⟨by decide, by decide⟩ (by decide) rfl rfl rfl d_D_init_86 ?_
  show cn_WS p l e _ s m args below meth c Q _ D K3 A 0 b 1 _ 88 [.ref 0] [.ref 11, .ref 0] [(3, 7, [.int 0, .ref 1, .ref 2, .int 0, .ref 3, .ref 4, .ref 5, .int 0, .int 0, .ref 6, .ref 7, .ref 8, .ref 9, .int 0, .int 0, .int 0, .ref 10, .null, .null, .int 0, .null, .null, .int 0, .int 0, .int 0, .int 0, .int 0, .null, .null, .null]), (0, 512, []), (0, 96, []), (0, 4, []), (0, 4, []), (0, 16, []), (1, 96, []), (1, 96, []), (1, 96, []), (1, 96, []), (0, 96, []), (0, 96, [])]
  refine cn_pf hx hb 7 17 rfl hts (fun w h => List.mem_cons_of_mem _ (inE_D w h)) tyD tyD_ok nmD hown hK rfl (by decide) (List.mem_cons_of_mem _ mw_771) rfl hnm rfl (ty := .array .int) (by decide +kernel) (fun _ => rfl) (fun _ => rfl) (by decide) d_D_init_88 ?_
  show cn_WS p l e _ s m args below meth c Q _ D K3 A 0 b 1 _ 91 [.ref 0] [] [(3, 7, [.int 0, .ref 1, .ref 2, .int 0, .ref 3, .ref 4, .ref 5, .int 0, .int 0, .ref 6, .ref 7, .ref 8, .ref 9, .int 0, .int 0, .int 0, .ref 10, .ref 11, .null, .int 0, .null, .null, .int 0, .int 0, .int 0, .int 0, .int 0, .null, .null, .null]), (0, 512, []), (0, 96, []), (0, 4, []), (0, 4, []), (0, 16, []), (1, 96, []), (1, 96, []), (1, 96, []), (1, 96, []), (0, 96, []), (0, 96, [])]
  refine cn_al hx hb 0 0 rfl rfl d_D_init_91 ?_
  refine cn_bp hx hb 96 (by decide) d_D_init_92 ?_
  refine cn_na hx hb hA hK3 0 96 (by decide) (hts _ (List.mem_cons_of_mem _ mw_40)) (by decide) (by decide) (by decide) ⟨by decide, by decide⟩ ⟨by decide, by decide⟩ (by decide) rfl rfl rfl d_D_init_94 ?_
  show cn_WS p l e _ s m args below meth c Q _ D K3 A 0 b 1 _ 96 [.ref 0] [.ref 12, .ref 0] [(3, 7, [.int 0, .ref 1, .ref 2, .int 0, .ref 3, .ref 4, .ref 5, .int 0, .int 0, .ref 6, .ref 7, .ref 8, .ref 9, .int 0, .int 0, .int 0, .ref 10, .ref 11, .null, .int 0, .null, .null, .int 0, .int 0, .int 0, .int 0, .int 0, .null, .null, .null]), (0, 512, []), (0, 96, []), (0, 4, []), (0, 4, []), (0, 16, []), (1, 96, []), (1, 96, []), (1, 96, []), (1, 96, []), (0, 96, []), (0, 96, []), (0, 96, [])]
  refine cn_pf hx hb 7 18 rfl hts (fun w h => List.mem_cons_of_mem _ (inE_D w h)) tyD tyD_ok nmD hown hK rfl (by decide) (List.mem_cons_of_mem _ mw_772) rfl hnm rfl (ty := .array .int) (by decide +kernel) (fun _ => rfl) (fun _ => rfl) (by decide) d_D_init_96 ?_
  show cn_WS p l e _ s m args below meth c Q _ D K3 A 0 b 1 _ 99 [.ref 0] [] [(3, 7, [.int 0, .ref 1, .ref 2, .int 0, .ref 3, .ref 4, .ref 5, .int 0, .int 0, .ref 6, .ref 7, .ref 8, .ref 9, .int 0, .int 0, .int 0, .ref 10, .ref 11, .ref 12, .int 0, .null, .null, .int 0, .int 0, .int 0, .int 0, .int 0, .null, .null, .null]), (0, 512, []), (0, 96, []), (0, 4, []), (0, 4, []), (0, 16, []), (1, 96, []), (1, 96, []), (1, 96, []), (1, 96, []), (0, 96, []), (0, 96, []), (0, 96, [])]
  refine cn_al hx hb 0 0 rfl rfl d_D_init_99 ?_
  refine cn_ic hx hb 4 (by decide) d_D_init_100 ?_
  refine cn_na hx hb hA hK3 0 4 (by decide) (hts _ (List.mem_cons_of_mem _ mw_40)) (by decide) (by decide) (by decide) ⟨by decide, by decide⟩ ⟨by decide, by decide⟩ (by decide) rfl rfl rfl d_D_init_101 ?_
  show cn_WS p l e _ s m args below meth c Q _ D K3 A 0 b 1 _ 103 [.ref 0] [.ref 13, .ref 0] [(3, 7, [.int 0, .ref 1, .ref 2, .int 0, .ref 3, .ref 4, .ref 5, .int 0, .int 0, .ref 6, .ref 7, .ref 8, .ref 9, .int 0, .int 0, .int 0, .ref 10, .ref 11, .ref 12, .int 0, .null, .null, .int 0, .int 0, .int 0, .int 0, .int 0, .null, .null, .null]), (0, 512, []), (0, 96, []), (0, 4, []), (0, 4, []), (0, 16, []), (1, 96, []), (1, 96, []), (1, 96, []), (1, 96, []), (0, 96, []), (0, 96, []), (0, 96, []), (0, 4, [])]
  refine cn_pf hx hb 7 20 rfl hts (fun w h => List.mem_cons_of_mem _ (inE_D w h)) tyD tyD_ok nmD hown hK rfl (by decide) (List.mem_cons_of_mem _ mw_774) rfl hnm rfl (ty := .array .int) (by decide +kernel) (fun _ => rfl) (fun _ => rfl) (by decide) d_D_init_103 ?_
  show cn_WS p l e _ s m args below meth c Q _ D K3 A 0 b 1 _ 106 [.ref 0] [] [(3, 7, [.int 0, .ref 1, .ref 2, .int 0, .ref 3, .ref 4, .ref 5, .int 0, .int 0, .ref 6, .ref 7, .ref 8, .ref 9, .int 0, .int 0, .int 0, .ref 10, .ref 11, .ref 12, .int 0, .ref 13, .null, .int 0, .int 0, .int 0, .int 0, .int 0, .null, .null, .null]), (0, 512, []), (0, 96, []), (0, 4, []), (0, 4, []), (0, 16, []), (1, 96, []), (1, 96, []), (1, 96, []), (1, 96, []), (0, 96, []), (0, 96, []), (0, 96, []), (0, 4, [])]
  refine cn_al hx hb 0 0 rfl rfl d_D_init_106 ?_
  refine cn_bp hx hb 16 (by decide) d_D_init_107 ?_
  refine cn_na hx hb hA hK3 0 16 (by decide) (hts _ (List.mem_cons_of_mem _ mw_40)) (by decide) (by decide) (by decide) ⟨by decide, by decide⟩ ⟨by decide, by decide⟩ (by decide) rfl rfl rfl d_D_init_109 ?_
  show cn_WS p l e _ s m args below meth c Q _ D K3 A 0 b 1 _ 111 [.ref 0] [.ref 14, .ref 0] [(3, 7, [.int 0, .ref 1, .ref 2, .int 0, .ref 3, .ref 4, .ref 5, .int 0, .int 0, .ref 6, .ref 7, .ref 8, .ref 9, .int 0, .int 0, .int 0, .ref 10, .ref 11, .ref 12, .int 0, .ref 13, .null, .int 0, .int 0, .int 0, .int 0, .int 0, .null, .null, .null]), (0, 512, []), (0, 96, []), (0, 4, []), (0, 4, []), (0, 16, []), (1, 96, []), (1, 96, []), (1, 96, []), (1, 96, []), (0, 96, []), (0, 96, []), (0, 96, []), (0, 4, []), (0, 16, [])]
  refine cn_pf hx hb 7 21 rfl hts (fun w h => List.mem_cons_of_mem _ (inE_D w h)) tyD tyD_ok nmD hown hK rfl (by decide) (List.mem_cons_of_mem _ mw_775) rfl hnm rfl (ty := .array .int) (by decide +kernel) (fun _ => rfl) (fun _ => rfl) (by decide) d_D_init_111 ?_
  show cn_WS p l e _ s m args below meth c Q _ D K3 A 0 b 1 _ 114 [.ref 0] [] [(3, 7, [.int 0, .ref 1, .ref 2, .int 0, .ref 3, .ref 4, .ref 5, .int 0, .int 0, .ref 6, .ref 7, .ref 8, .ref 9, .int 0, .int 0, .int 0, .ref 10, .ref 11, .ref 12, .int 0, .ref 13, .ref 14, .int 0, .int 0, .int 0, .int 0, .int 0, .null, .null, .null]), (0, 512, []), (0, 96, []), (0, 4, []), (0, 4, []), (0, 16, []), (1, 96, []), (1, 96, []), (1, 96, []), (1, 96, []), (0, 96, []), (0, 96, []), (0, 96, []), (0, 4, []), (0, 16, [])]
  refine cn_al hx hb 0 0 rfl rfl d_D_init_114 ?_
  refine cn_bp hx hb 8 (by decide) d_D_init_115 ?_
  refine cn_na hx hb hA hK3 0 8 (by decide) (hts _ (List.mem_cons_of_mem _ mw_40)) (by decide) (by decide) (by decide) ⟨by decide, by decide⟩ ⟨by decide, by decide⟩ (by decide) rfl rfl rfl d_D_init_117 ?_
  show cn_WS p l e _ s m args below meth c Q _ D K3 A 0 b 1 _ 119 [.ref 0] [.ref 15, .ref 0] [(3, 7, [.int 0, .ref 1, .ref 2, .int 0, .ref 3, .ref 4, .ref 5, .int 0, .int 0, .ref 6, .ref 7, .ref 8, .ref 9, .int 0, .int 0, .int 0, .ref 10, .ref 11, .ref 12, .int 0, .ref 13, .ref 14, .int 0, .int 0, .int 0, .int 0, .int 0, .null, .null, .null]), (0, 512, []), (0, 96, []), (0, 4, []), (0, 4, []), (0, 16, []), (1, 96, []), (1, 96, []), (1, 96, []), (1, 96, []), (0, 96, []), (0, 96, []), (0, 96, []), (0, 4, []), (0, 16, []), (0, 8, [])]
  refine cn_pf hx hb 7 27 rfl hts (fun w h => List.mem_cons_of_mem _ (inE_D w h)) tyD tyD_ok nmD hown hK rfl (by decide) (List.mem_cons_of_mem _ mw_781) rfl hnm rfl (ty := .array .int) (by decide +kernel) (fun _ => rfl) (fun _ => rfl) (by decide) d_D_init_119 ?_
  show cn_WS p l e _ s m args below meth c Q _ D K3 A 0 b 1 _ 122 [.ref 0] [] [(3, 7, [.int 0, .ref 1, .ref 2, .int 0, .ref 3, .ref 4, .ref 5, .int 0, .int 0, .ref 6, .ref 7, .ref 8, .ref 9, .int 0, .int 0, .int 0, .ref 10, .ref 11, .ref 12, .int 0, .ref 13, .ref 14, .int 0, .int 0, .int 0, .int 0, .int 0, .ref 15, .null, .null]), (0, 512, []), (0, 96, []), (0, 4, []), (0, 4, []), (0, 16, []), (1, 96, []), (1, 96, []), (1, 96, []), (1, 96, []), (0, 96, []), (0, 96, []), (0, 96, []), (0, 4, []), (0, 16, []), (0, 8, [])]
  refine cn_al hx hb 0 0 rfl rfl d_D_init_122 ?_
  refine cn_bp hx hb 40 (by decide) d_D_init_123 ?_
  refine cn_na hx hb hA hK3 0 40 (by decide) (hts _ (List.mem_cons_of_mem _ mw_40)) (by decide) (by decide) (by decide) ⟨by decide, by decide⟩ ⟨by decide, by decide⟩ (by decide) rfl rfl rfl d_D_init_125 ?_
  show cn_WS p l e _ s m args below meth c Q _ D K3 A 0 b 1 _ 127 [.ref 0] [.ref 16, .ref 0] [(3, 7, [.int 0, .ref 1, .ref 2, .int 0, .ref 3, .ref 4, .ref 5, .int 0, .int 0, .ref 6, .ref 7, .ref 8, .ref 9, .int 0, .int 0, .int 0, .ref 10, .ref 11, .ref 12, .int 0, .ref 13, .ref 14, .int 0, .int 0, .int 0, .int 0, .int 0, .ref 15, .null, .null]), (0, 512, []), (0, 96, []), (0, 4, []), (0, 4, []), (0, 16, []), (1, 96, []), (1, 96, []), (1, 96, []), (1, 96, []), (0, 96, []), (0, 96, []), (0, 96, []), (0, 4, []), (0, 16, []), (0, 8, []), (0, 40, [])]
  refine cn_pf hx hb 7 28 rfl hts (fun w h => List.mem_cons_of_mem _ (inE_D w h)) tyD tyD_ok nmD hown hK rfl (by decide) (List.mem_cons_of_mem _ mw_782) rfl hnm rfl (ty := .array .int) (by decide +kernel) (fun _ => rfl) (fun _ => rfl) (by decide) d_D_init_127 ?_
  show cn_WS p l e _ s m args below meth c Q _ D K3 A 0 b 1 _ 130 [.ref 0] [] [(3, 7, [.int 0, .ref 1, .ref 2, .int 0, .ref 3, .ref 4, .ref 5, .int 0, .int 0, .ref 6, .ref 7, .ref 8, .ref 9, .int 0, .int 0, .int 0, .ref 10, .ref 11, .ref 12, .int 0, .ref 13, .ref 14, .int 0, .int 0, .int 0, .int 0, .int 0, .ref 15, .ref 16, .null]), (0, 512, []), (0, 96, []), (0, 4, []), (0, 4, []), (0, 16, []), (1, 96, []), (1, 96, []), (1, 96, []), (1, 96, []), (0, 96, []), (0, 96, []), (0, 96, []), (0, 4, []), (0, 16, []), (0, 8, []), (0, 40, [])]
  refine cn_al hx hb 0 0 rfl rfl d_D_init_130 ?_
  refine cn_bp hx hb 64 (by decide) d_D_init_131 ?_
  refine cn_na hx hb hA hK3 2 64 (by decide) (hts _ (List.mem_cons_of_mem _ mw_192)) (by decide) (by decide) (by decide) ⟨by decide, by decide⟩ ⟨by decide, by decide⟩ (by decide) rfl rfl rfl d_D_init_133 ?_
  show cn_WS p l e _ s m args below meth c Q _ D K3 A 0 b 1 _ 135 [.ref 0] [.ref 17, .ref 0] [(3, 7, [.int 0, .ref 1, .ref 2, .int 0, .ref 3, .ref 4, .ref 5, .int 0, .int 0, .ref 6, .ref 7, .ref 8, .ref 9, .int 0, .int 0, .int 0, .ref 10, .ref 11, .ref 12, .int 0, .ref 13, .ref 14, .int 0, .int 0, .int 0, .int 0, .int 0, .ref 15, .ref 16, .null]), (0, 512, []), (0, 96, []), (0, 4, []), (0, 4, []), (0, 16, []), (1, 96, []), (1, 96, []), (1, 96, []), (1, 96, []), (0, 96, []), (0, 96, []), (0, 96, []), (0, 4, []), (0, 16, []), (0, 8, []), (0, 40, []), (2, 64, [])]
  refine cn_pf hx hb 7 29 rfl hts (fun w h => List.mem_cons_of_mem _ (inE_D w h)) tyD tyD_ok nmD hown hK rfl (by decide) (List.mem_cons_of_mem _ mw_783) rfl hnm rfl (ty := .array .long) (by decide +kernel) (fun _ => rfl) (fun _ => rfl) (by decide) d_D_init_135 ?_
  show cn_WS p l e _ s m args below meth c Q _ D K3 A 0 b 1 _ 138 [.ref 0] [] [(3, 7, [.int 0, .ref 1, .ref 2, .int 0, .ref 3, .ref 4, .ref 5, .int 0, .int 0, .ref 6, .ref 7, .ref 8, .ref 9, .int 0, .int 0, .int 0, .ref 10, .ref 11, .ref 12, .int 0, .ref 13, .ref 14, .int 0, .int 0, .int 0, .int 0, .int 0, .ref 15, .ref 16, .ref 17]), (0, 512, []), (0, 96, []), (0, 4, []), (0, 4, []), (0, 16, []), (1, 96, []), (1, 96, []), (1, 96, []), (1, 96, []), (0, 96, []), (0, 96, []), (0, 96, []), (0, 4, []), (0, 16, []), (0, 8, []), (0, 40, []), (2, 64, [])]
  exact hret 138 d_D_init_138
