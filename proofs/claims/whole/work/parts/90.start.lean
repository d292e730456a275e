/-! the law's start: both objects, the long, and all that holds then -/
theorem cn_as2 {lv : List Value} {i : Nat} {w0 : Value} (h : lv[i]? = some w0) (hc : ¬ w0.category = 2) : ∀ (j : Nat) (w : Value), j + 1 = i + 1 → lv[j]? = some w → ¬ w.category = 2 := fun j w hj hw => by
  have : j = i := by omega
  subst this
  rw [h] at hw
  cases hw
  exact hc
theorem d_L_law_0 : decode code 0 = .ok (.new 8, 3) := by decide +kernel
theorem d_L_law_3 : decode code 3 = .ok (.dup, 1) := by decide +kernel
theorem d_L_law_4 : decode code 4 = .ok (.invokespecial 60, 3) := by decide +kernel
theorem d_L_law_7 : decode code 7 = .ok (.astore_n 1, 1) := by decide +kernel
theorem d_L_law_8 : decode code 8 = .ok (.new 61, 3) := by decide +kernel
theorem d_L_law_11 : decode code 11 = .ok (.dup, 1) := by decide +kernel
theorem d_L_law_12 : decode code 12 = .ok (.invokespecial 63, 3) := by decide +kernel
theorem d_L_law_15 : decode code 15 = .ok (.astore_n 2, 1) := by decide +kernel
theorem d_L_law_16 : decode code 16 = .ok (.iconst 1, 1) := by decide +kernel
theorem d_L_law_17 : decode code 17 = .ok (.newarray .long, 2) := by decide +kernel
theorem d_L_law_19 : decode code 19 = .ok (.astore_n 3, 1) := by decide +kernel
def M_law : List cn_D := [(3, 6, [.ref 1, .ref 4, .ref 7, .ref 8, .ref 18, .ref 23]), (3, 3, [.ref 2, .ref 3]), (0, 256, []), (0, 96, []), (3, 5, [.ref 5, .ref 6, .int 0]), (0, 4, []), (0, 4, []), (0, 16, []), (3, 0, [.ref 9, .ref 10, .ref 11, .ref 12, .ref 13, .ref 14, .ref 15, .ref 16, .ref 17, .int 0, .int 0]), (3, 1, [.int 0, .int 0, .int 0, .int 0, .int 0]), (0, 96, []), (1, 96, []), (1, 96, []), (1, 96, []), (0, 96, []), (0, 96, []), (0, 96, []), (0, 96, []), (3, 4, [.ref 19, .ref 20, .int 0, .int 0]), (3, 1, [.int 0, .int 0, .int 0, .int 0, .int 0]), (3, 3, [.ref 21, .ref 22]), (0, 256, []), (0, 96, []), (3, 2, [.ref 24, .ref 25, .ref 26, .ref 27, .ref 28, .ref 29, .int 0, .int 0, .int 0, .int 0]), (3, 1, [.int 0, .int 0, .int 0, .int 0, .int 0]), (0, 4, []), (0, 16, []), (0, 8, []), (0, 40, []), (2, 64, []), (3, 7, [.int 0, .ref 31, .ref 32, .int 0, .ref 33, .ref 34, .ref 35, .int 0, .int 0, .ref 36, .ref 37, .ref 38, .ref 39, .int 0, .int 0, .int 0, .ref 40, .ref 41, .ref 42, .int 0, .ref 43, .ref 44, .int 0, .int 0, .int 0, .int 0, .int 0, .ref 45, .ref 46, .ref 47]), (0, 512, []), (0, 96, []), (0, 4, []), (0, 4, []), (0, 16, []), (1, 96, []), (1, 96, []), (1, 96, []), (1, 96, []), (0, 96, []), (0, 96, []), (0, 96, []), (0, 4, []), (0, 16, []), (0, 8, []), (0, 40, []), (2, 64, []), (2, 1, [])]
set_option maxHeartbeats 4000000 in
set_option maxRecDepth 100000 in
theorem lw_pro {p : Program} {l : Launch} {e : Env} {s : State} {m : MethodId} {args : Array Value} {below : List Frame} {meth : Method} {c : Code} {Q : State → Prop} {D : va_G} {K3 : ev_3} {A : Nat → Prop} {b : Nat} (hx : p.tables.exec = Jvm.exec) (hb : c.code = code) (hml : c.maxLocals = 8) (hown : s.vm.findClass "BlockCounterLaw" = some m.cls) (hts : ∀ w ∈ Cond.tt :: evW, w.before args s = true) (hK : va_K D evCl (ev_tys K3) s) (hK3 : cnK K3 s) (hN3 : cnN s) (hA : ∀ q, s.heap.size ≤ q → A q)
    (kk : cn_WS p l e room_1 s m args below meth c Q 8 D K3 A 49 b 0 0 20 [.ref 49, .ref 0, .ref 30, .ref 48, .null, .null, .null, .null] [] M_law) : cn_WS p l e room_1 s m args below meth c Q 8 D K3 A 49 b 0 0 0 [.ref 49, .null, .null, .null, .null, .null, .null, .null] [] [] := by
  refine cn_new hx hb hA hK3 hN3 (N9 := 6) 6 rfl hts (fun w h => List.mem_cons_of_mem _ (inE_B w h)) tyX6 tyX6_ok hown (List.mem_cons_of_mem _ mw_19) (List.mem_cons_of_mem _ mw_20) (List.mem_cons_of_mem _ mw_1) hK (df := df_B_init) df_ok_B_init rfl (mc := 29) (ms := 1675) (M := M_B_init) (fun H locs cells slots ls q rest hls hr hp hf => va_runI (b := q) (As := []) (n := 0) ⟨hx, hb, hml, hown, hts⟩ (c_B_init l D K3 q H.size) (cwI 0 hts (evGI (mw_23)) rfl rfl rfl (hts _ (List.mem_cons_of_mem _ mw_1)) (hts _ (List.mem_cons_of_mem _ mw_21)) (hts _ (List.mem_cons_of_mem _ mw_22)) rfl (by decide +kernel) ⟨Nat.le_of_ble_eq_true rfl, Nat.le_of_ble_eq_true rfl⟩) hp rfl rfl hls rfl (lv_room hr) d_L_law_4 hf) ⟨rfl, rfl, rfl⟩ ⟨by decide, by decide⟩ ⟨by decide, by decide⟩ (by decide) rfl rfl rfl (by decide) d_L_law_0 d_L_law_3 ?_
  show cn_WS p l e room_1 s m args below meth c Q 8 D K3 A 49 b 0 0 7 [.ref 49, .null, .null, .null, .null, .null, .null, .null] [.ref 0] [(3, 6, [.ref 1, .ref 4, .ref 7, .ref 8, .ref 18, .ref 23]), (3, 3, [.ref 2, .ref 3]), (0, 256, []), (0, 96, []), (3, 5, [.ref 5, .ref 6, .int 0]), (0, 4, []), (0, 4, []), (0, 16, []), (3, 0, [.ref 9, .ref 10, .ref 11, .ref 12, .ref 13, .ref 14, .ref 15, .ref 16, .ref 17, .int 0, .int 0]), (3, 1, [.int 0, .int 0, .int 0, .int 0, .int 0]), (0, 96, []), (1, 96, []), (1, 96, []), (1, 96, []), (0, 96, []), (0, 96, []), (0, 96, []), (0, 96, []), (3, 4, [.ref 19, .ref 20, .int 0, .int 0]), (3, 1, [.int 0, .int 0, .int 0, .int 0, .int 0]), (3, 3, [.ref 21, .ref 22]), (0, 256, []), (0, 96, []), (3, 2, [.ref 24, .ref 25, .ref 26, .ref 27, .ref 28, .ref 29, .int 0, .int 0, .int 0, .int 0]), (3, 1, [.int 0, .int 0, .int 0, .int 0, .int 0]), (0, 4, []), (0, 16, []), (0, 8, []), (0, 40, []), (2, 64, [])]
  refine cn_as hx hb 1 0 rfl (by decide) (cn_as2 (i := 0) rfl (by decide)) d_L_law_7 ?_
  show cn_WS p l e room_1 s m args below meth c Q 8 D K3 A 49 b 0 0 8 [.ref 49, .ref 0, .null, .null, .null, .null, .null, .null] [] [(3, 6, [.ref 1, .ref 4, .ref 7, .ref 8, .ref 18, .ref 23]), (3, 3, [.ref 2, .ref 3]), (0, 256, []), (0, 96, []), (3, 5, [.ref 5, .ref 6, .int 0]), (0, 4, []), (0, 4, []), (0, 16, []), (3, 0, [.ref 9, .ref 10, .ref 11, .ref 12, .ref 13, .ref 14, .ref 15, .ref 16, .ref 17, .int 0, .int 0]), (3, 1, [.int 0, .int 0, .int 0, .int 0, .int 0]), (0, 96, []), (1, 96, []), (1, 96, []), (1, 96, []), (0, 96, []), (0, 96, []), (0, 96, []), (0, 96, []), (3, 4, [.ref 19, .ref 20, .int 0, .int 0]), (3, 1, [.int 0, .int 0, .int 0, .int 0, .int 0]), (3, 3, [.ref 21, .ref 22]), (0, 256, []), (0, 96, []), (3, 2, [.ref 24, .ref 25, .ref 26, .ref 27, .ref 28, .ref 29, .int 0, .int 0, .int 0, .int 0]), (3, 1, [.int 0, .int 0, .int 0, .int 0, .int 0]), (0, 4, []), (0, 16, []), (0, 8, []), (0, 40, []), (2, 64, [])]
  refine cn_new hx hb hA hK3 hN3 (N9 := 30) 7 rfl hts (fun w h => List.mem_cons_of_mem _ (inE_D w h)) tyD tyD_ok hown (List.mem_cons_of_mem _ mw_748) (List.mem_cons_of_mem _ mw_749) (List.mem_cons_of_mem _ mw_8) hK (df := df_D_init) df_ok_D_init rfl (mc := 17) (ms := 1436) (M := M_D_init) (fun H locs cells slots ls q rest hls hr hp hf => va_runI (b := q) (As := []) (n := 0) ⟨hx, hb, hml, hown, hts⟩ (c_D_init l D K3 q H.size) (cwI 0 hts (evGI (mw_752)) rfl rfl rfl (hts _ (List.mem_cons_of_mem _ mw_8)) (hts _ (List.mem_cons_of_mem _ mw_750)) (hts _ (List.mem_cons_of_mem _ mw_751)) rfl (by decide +kernel) ⟨Nat.le_of_ble_eq_true rfl, Nat.le_of_ble_eq_true rfl⟩) hp rfl rfl hls rfl (lv_room hr) d_L_law_12 hf) ⟨rfl, rfl, rfl⟩ ⟨by decide, by decide⟩ ⟨by decide, by decide⟩ (by decide) rfl rfl rfl (by decide) d_L_law_8 d_L_law_11 ?_
  show cn_WS p l e room_1 s m args below meth c Q 8 D K3 A 49 b 0 0 15 [.ref 49, .ref 0, .null, .null, .null, .null, .null, .null] [.ref 30] [(3, 6, [.ref 1, .ref 4, .ref 7, .ref 8, .ref 18, .ref 23]), (3, 3, [.ref 2, .ref 3]), (0, 256, []), (0, 96, []), (3, 5, [.ref 5, .ref 6, .int 0]), (0, 4, []), (0, 4, []), (0, 16, []), (3, 0, [.ref 9, .ref 10, .ref 11, .ref 12, .ref 13, .ref 14, .ref 15, .ref 16, .ref 17, .int 0, .int 0]), (3, 1, [.int 0, .int 0, .int 0, .int 0, .int 0]), (0, 96, []), (1, 96, []), (1, 96, []), (1, 96, []), (0, 96, []), (0, 96, []), (0, 96, []), (0, 96, []), (3, 4, [.ref 19, .ref 20, .int 0, .int 0]), (3, 1, [.int 0, .int 0, .int 0, .int 0, .int 0]), (3, 3, [.ref 21, .ref 22]), (0, 256, []), (0, 96, []), (3, 2, [.ref 24, .ref 25, .ref 26, .ref 27, .ref 28, .ref 29, .int 0, .int 0, .int 0, .int 0]), (3, 1, [.int 0, .int 0, .int 0, .int 0, .int 0]), (0, 4, []), (0, 16, []), (0, 8, []), (0, 40, []), (2, 64, []), (3, 7, [.int 0, .ref 31, .ref 32, .int 0, .ref 33, .ref 34, .ref 35, .int 0, .int 0, .ref 36, .ref 37, .ref 38, .ref 39, .int 0, .int 0, .int 0, .ref 40, .ref 41, .ref 42, .int 0, .ref 43, .ref 44, .int 0, .int 0, .int 0, .int 0, .int 0, .ref 45, .ref 46, .ref 47]), (0, 512, []), (0, 96, []), (0, 4, []), (0, 4, []), (0, 16, []), (1, 96, []), (1, 96, []), (1, 96, []), (1, 96, []), (0, 96, []), (0, 96, []), (0, 96, []), (0, 4, []), (0, 16, []), (0, 8, []), (0, 40, []), (2, 64, [])]
  refine cn_as hx hb 2 30 rfl (by decide) (cn_as2 (i := 1) rfl (by decide)) d_L_law_15 ?_
  show cn_WS p l e room_1 s m args below meth c Q 8 D K3 A 49 b 0 0 16 [.ref 49, .ref 0, .ref 30, .null, .null, .null, .null, .null] [] [(3, 6, [.ref 1, .ref 4, .ref 7, .ref 8, .ref 18, .ref 23]), (3, 3, [.ref 2, .ref 3]), (0, 256, []), (0, 96, []), (3, 5, [.ref 5, .ref 6, .int 0]), (0, 4, []), (0, 4, []), (0, 16, []), (3, 0, [.ref 9, .ref 10, .ref 11, .ref 12, .ref 13, .ref 14, .ref 15, .ref 16, .ref 17, .int 0, .int 0]), (3, 1, [.int 0, .int 0, .int 0, .int 0, .int 0]), (0, 96, []), (1, 96, []), (1, 96, []), (1, 96, []), (0, 96, []), (0, 96, []), (0, 96, []), (0, 96, []), (3, 4, [.ref 19, .ref 20, .int 0, .int 0]), (3, 1, [.int 0, .int 0, .int 0, .int 0, .int 0]), (3, 3, [.ref 21, .ref 22]), (0, 256, []), (0, 96, []), (3, 2, [.ref 24, .ref 25, .ref 26, .ref 27, .ref 28, .ref 29, .int 0, .int 0, .int 0, .int 0]), (3, 1, [.int 0, .int 0, .int 0, .int 0, .int 0]), (0, 4, []), (0, 16, []), (0, 8, []), (0, 40, []), (2, 64, []), (3, 7, [.int 0, .ref 31, .ref 32, .int 0, .ref 33, .ref 34, .ref 35, .int 0, .int 0, .ref 36, .ref 37, .ref 38, .ref 39, .int 0, .int 0, .int 0, .ref 40, .ref 41, .ref 42, .int 0, .ref 43, .ref 44, .int 0, .int 0, .int 0, .int 0, .int 0, .ref 45, .ref 46, .ref 47]), (0, 512, []), (0, 96, []), (0, 4, []), (0, 4, []), (0, 16, []), (1, 96, []), (1, 96, []), (1, 96, []), (1, 96, []), (0, 96, []), (0, 96, []), (0, 96, []), (0, 4, []), (0, 16, []), (0, 8, []), (0, 40, []), (2, 64, [])]
  refine cn_ic hx hb 1 (by decide) d_L_law_16 ?_
  refine cn_na hx hb hA hK3 2 1 (by decide) (hts _ (List.mem_cons_of_mem _ mw_192)) (by decide) (by decide) (by decide) ⟨by decide, by decide⟩ ⟨by decide, by decide⟩ (by decide) rfl rfl rfl d_L_law_17 ?_
  show cn_WS p l e room_1 s m args below meth c Q 8 D K3 A 49 b 0 0 19 [.ref 49, .ref 0, .ref 30, .null, .null, .null, .null, .null] [.ref 48] [(3, 6, [.ref 1, .ref 4, .ref 7, .ref 8, .ref 18, .ref 23]), (3, 3, [.ref 2, .ref 3]), (0, 256, []), (0, 96, []), (3, 5, [.ref 5, .ref 6, .int 0]), (0, 4, []), (0, 4, []), (0, 16, []), (3, 0, [.ref 9, .ref 10, .ref 11, .ref 12, .ref 13, .ref 14, .ref 15, .ref 16, .ref 17, .int 0, .int 0]), (3, 1, [.int 0, .int 0, .int 0, .int 0, .int 0]), (0, 96, []), (1, 96, []), (1, 96, []), (1, 96, []), (0, 96, []), (0, 96, []), (0, 96, []), (0, 96, []), (3, 4, [.ref 19, .ref 20, .int 0, .int 0]), (3, 1, [.int 0, .int 0, .int 0, .int 0, .int 0]), (3, 3, [.ref 21, .ref 22]), (0, 256, []), (0, 96, []), (3, 2, [.ref 24, .ref 25, .ref 26, .ref 27, .ref 28, .ref 29, .int 0, .int 0, .int 0, .int 0]), (3, 1, [.int 0, .int 0, .int 0, .int 0, .int 0]), (0, 4, []), (0, 16, []), (0, 8, []), (0, 40, []), (2, 64, []), (3, 7, [.int 0, .ref 31, .ref 32, .int 0, .ref 33, .ref 34, .ref 35, .int 0, .int 0, .ref 36, .ref 37, .ref 38, .ref 39, .int 0, .int 0, .int 0, .ref 40, .ref 41, .ref 42, .int 0, .ref 43, .ref 44, .int 0, .int 0, .int 0, .int 0, .int 0, .ref 45, .ref 46, .ref 47]), (0, 512, []), (0, 96, []), (0, 4, []), (0, 4, []), (0, 16, []), (1, 96, []), (1, 96, []), (1, 96, []), (1, 96, []), (0, 96, []), (0, 96, []), (0, 96, []), (0, 4, []), (0, 16, []), (0, 8, []), (0, 40, []), (2, 64, []), (2, 1, [])]
  refine cn_as hx hb 3 48 rfl (by decide) (cn_as2 (i := 2) rfl (by decide)) d_L_law_19 ?_
  show cn_WS p l e room_1 s m args below meth c Q 8 D K3 A 49 b 0 0 20 [.ref 49, .ref 0, .ref 30, .ref 48, .null, .null, .null, .null] [] [(3, 6, [.ref 1, .ref 4, .ref 7, .ref 8, .ref 18, .ref 23]), (3, 3, [.ref 2, .ref 3]), (0, 256, []), (0, 96, []), (3, 5, [.ref 5, .ref 6, .int 0]), (0, 4, []), (0, 4, []), (0, 16, []), (3, 0, [.ref 9, .ref 10, .ref 11, .ref 12, .ref 13, .ref 14, .ref 15, .ref 16, .ref 17, .int 0, .int 0]), (3, 1, [.int 0, .int 0, .int 0, .int 0, .int 0]), (0, 96, []), (1, 96, []), (1, 96, []), (1, 96, []), (0, 96, []), (0, 96, []), (0, 96, []), (0, 96, []), (3, 4, [.ref 19, .ref 20, .int 0, .int 0]), (3, 1, [.int 0, .int 0, .int 0, .int 0, .int 0]), (3, 3, [.ref 21, .ref 22]), (0, 256, []), (0, 96, []), (3, 2, [.ref 24, .ref 25, .ref 26, .ref 27, .ref 28, .ref 29, .int 0, .int 0, .int 0, .int 0]), (3, 1, [.int 0, .int 0, .int 0, .int 0, .int 0]), (0, 4, []), (0, 16, []), (0, 8, []), (0, 40, []), (2, 64, []), (3, 7, [.int 0, .ref 31, .ref 32, .int 0, .ref 33, .ref 34, .ref 35, .int 0, .int 0, .ref 36, .ref 37, .ref 38, .ref 39, .int 0, .int 0, .int 0, .ref 40, .ref 41, .ref 42, .int 0, .ref 43, .ref 44, .int 0, .int 0, .int 0, .int 0, .int 0, .ref 45, .ref 46, .ref 47]), (0, 512, []), (0, 96, []), (0, 4, []), (0, 4, []), (0, 16, []), (1, 96, []), (1, 96, []), (1, 96, []), (1, 96, []), (0, 96, []), (0, 96, []), (0, 96, []), (0, 4, []), (0, 16, []), (0, 8, []), (0, 40, []), (2, 64, []), (2, 1, [])]
  exact kk
theorem cnW_in : ∀ w ∈ cnW, w ∈ lw_tbl := by decide +kernel
set_option maxRecDepth 100000 in
theorem xcB_in : ∀ k, k < 4 → ∀ w ∈ xcB k, w ∈ lw_tbl := ex4 (by decide +kernel) (by decide +kernel) (by decide +kernel) (by decide +kernel)
theorem st_K {s : State} {args : Array Value} (hE : ∀ w ∈ evW, w.before args s = true) : ∃ (D : va_G) (K3 : ev_3), va_K D evCl (ev_tys K3) s ∧ cnK K3 s := by
  obtain ⟨c0, i0, k0⟩ := u_known (C := RX0) (T := TX0) (N := 11) hE inE_A (hE _ mw_58)
  obtain ⟨c1, i1, k1⟩ := u_known (C := RX1) (T := TX1) (N := 5) hE inE_I (hE _ mw_64)
  obtain ⟨c2, i2, k2⟩ := u_known (C := RX2) (T := TX2) (N := 10) hE inE_M (hE _ mw_154)
  obtain ⟨c3, i3, k3⟩ := u_known (C := RX3) (T := TX3) (N := 2) hE inE_P (hE _ mw_28)
  obtain ⟨c4, i4, k4⟩ := u_known (C := RX4) (T := TX4) (N := 4) hE inE_R (hE _ mw_131)
  obtain ⟨c5, i5, k5⟩ := u_known (C := RX5) (T := TX5) (N := 3) hE inE_T (hE _ mw_42)
  obtain ⟨c6, i6, k6⟩ := u_known (C := RX6) (T := TX6) (N := 6) hE inE_B (hE _ mw_20)
  obtain ⟨c7, i7, k7⟩ := u_known (C := RD) (T := TD) (N := 30) hE inE_D (hE _ mw_749)
  obtain ⟨a0, q0, z0, x0, y0, w0⟩ := Cond.arrayClass_spec (hE _ mw_40)
  obtain ⟨a1, q1, z1, x1, y1, w1⟩ := Cond.arrayClass_spec (hE _ mw_129)
  obtain ⟨a2, q2, z2, x2, y2, w2⟩ := Cond.arrayClass_spec (hE _ mw_192)
  refine ⟨(fun k => match k with | 0 => c0 | 1 => c1 | 2 => c2 | 3 => c3 | 4 => c4 | 5 => c5 | 6 => c6 | _ => c7, fun k => match k with | 0 => i0 | 1 => i1 | 2 => i2 | 3 => i3 | 4 => i4 | 5 => i5 | 6 => i6 | _ => i7), (a0, a1, a2), ⟨fun k q hq => ?_, fun k q hq => ?_⟩, x0, x1, x2⟩
  · match k with
    | 0 => cases hq; exact k0
    | 1 => cases hq; exact k1
    | 2 => cases hq; exact k2
    | 3 => cases hq; exact k3
    | 4 => cases hq; exact k4
    | 5 => cases hq; exact k5
    | 6 => cases hq; exact k6
    | 7 => cases hq; exact k7
    | k + 8 => cases hq
  · match k with
    | 0 => cases hq; exact ⟨fun n z => ⟨(fun k h => by cases h), q0, y0, z0, w0⟩, x0⟩
    | 1 => cases hq; exact ⟨fun n z => ⟨(fun k h => by cases h), q1, y1, z1, w1⟩, x1⟩
    | 2 => cases hq; exact ⟨fun n z => ⟨(fun k h => by cases h), q2, y2, z2, w2⟩, x2⟩
    | k + 3 => cases hq
theorem xcSt_in : ∀ q ∈ xcSt, Cond.stringRef "BlockCounter" q.1 q.2 ∈ lw_tbl := by decide +kernel
theorem xcNc_in : ∀ q ∈ xcNc, (Cond.not (.castable (xcN q.1) (xcN q.2))) ∈ flatC (Jvm.Cond.and given_1 narrow_1) := by decide +kernel
theorem st_E {s : State} {args : Array Value} {D : va_G} {K3 : ev_3} (hts : ∀ w ∈ lw_tbl, w.before args s = true) (hgv : (Jvm.Cond.and given_1 narrow_1).before args s = true) (hK : va_K D evCl (ev_tys K3) s) : xcE (fun q => s.heap.size ≤ q) s s.heap := by
  have hcur : s.vm.findClass "BlockCounter" = some (D.1 6) := (hK.1 6 _ rfl).2.1
  have hf := flat_of_before _ hgv
  refine ⟨fun k hk w hw => ?_, vx_Zqof (hts _ (by decide +kernel)) (hts _ (by decide +kernel)) (hf _ (by decide +kernel)) (fun a h => Nat.not_le.mpr h), vx_Zqof (hts _ (by decide +kernel)) (hts _ (by decide +kernel)) (hf _ (by decide +kernel)) (fun a h => Nat.not_le.mpr h), fun q hq => ?_, fun q hq => va_Nc.of (hf _ (xcNc_in q hq))⟩
  · have ht := xcB_t k hk w hw
    have hb := hts w (xcB_in k hk w hw)
    cases w with
    | castable a b => exact va_any rfl hb
    | declares x => exact va_any rfl hb
    | _ => cases ht
  · obtain ⟨k, cf, i, a, -, -, -, -, -, he⟩ := Cond.stringRef_spec hcur (hts _ (xcSt_in q hq))
    exact ⟨a, vk_R.of (hts _ (xcSt_in q hq)) he⟩
theorem z_256 : 0 ≤ (0 : Int32).toInt ∧ (0 : Int32).toInt < 256 := by decide
theorem z_257 : 0 ≤ (0 : Int32).toInt ∧ (0 : Int32).toInt ≤ 256 := by decide
theorem Rl_start : Rl (fun _ _ => 0) (fun _ _ => 0) := by
  refine ⟨⟨fun _ _ => rfl, fun i _ => z_256, fun _ _ => rfl⟩, ⟨⟨0, by omega, rfl, fun i hi => by omega⟩, rfl, fun i hi => ⟨rfl, rfl⟩⟩, rfl, ⟨rfl, rfl, rfl, ⟨0, by omega, rfl⟩, Or.inl ⟨rfl, rfl⟩⟩, ⟨rfl, Or.inl rfl⟩, rfl, ⟨by decide, by decide, by decide, fun i hi => z_257⟩⟩
set_option maxRecDepth 100000 in
theorem lay_law (K3 : ev_3) (ad : Nat → Nat) : cn_lay K3 ad M_law = ev_lay evLY K3 ad (fun _ _ => 0) (fun _ _ => 0) := rfl
