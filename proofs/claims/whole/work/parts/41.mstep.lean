/-! the reference's step -/
theorem br_nt {c A B : Prop} (h : ¬ c) (a : A) : (¬ c → A) ∧ (c → B) := ⟨fun _ => a, fun q => absurd q h⟩
theorem br_nf {c A B : Prop} (h : c) (b : B) : (¬ c → A) ∧ (c → B) := ⟨fun q => absurd h q, fun _ => b⟩
def fD (σ : ev_M) (b : Int32) : Nat → Int32 := fun i => σ 31 (b.toNatClampNeg + i)
def trD (σ : ev_M) (b : Int32) : Int32 → Int32 := fun a => if 0 < b ∧ 0 ≤ a ∧ a < 96 then σ 32 a.toNatClampNeg else -1
def mvD (σ : ev_M) (τ : ev_L) : mst := (σ 43, σ 44, σ 45, σ 46, τ 47, σ 30 22, σ 30 23, σ 30 24, σ 30 25)
def frD (σ σ' : ev_M) (τ τ' : ev_L) : Prop := (∀ k, ¬ k = 30 → (k < 43 ∨ 46 < k) → σ' k = σ k) ∧ (∀ j, (j < 22 ∨ 26 < j) → σ' 30 j = σ 30 j) ∧ ∀ k, ¬ k = 47 → τ' k = τ k
theorem frD_rf (σ : ev_M) (τ : ev_L) : frD σ σ τ τ := ⟨fun _ _ _ => rfl, fun _ _ => rfl, fun _ _ => rfl⟩
theorem frD_tr {σ σ1 σ2 : ev_M} {τ τ1 τ2 : ev_L} (h1 : frD σ σ1 τ τ1) (h2 : frD σ1 σ2 τ1 τ2) : frD σ σ2 τ τ2 := ⟨fun k hk hq => (h2.1 k hk hq).trans (h1.1 k hk hq), fun k hk => (h2.2.1 k hk).trans (h1.2.1 k hk), fun k hk => (h2.2.2 k hk).trans (h1.2.2 k hk)⟩
theorem frD_u {σ : ev_M} {τ : ev_L} (k j : Nat) (x : Int32) (hk : 43 ≤ k ∧ k ≤ 46) : frD σ (ev_u σ k j x) τ τ := ⟨fun q _ hq => if_neg (by omega), fun q _ => by unfold ev_u ev_p; rw [if_neg (by omega)], fun _ _ => rfl⟩
theorem frD_f {σ : ev_M} {τ : ev_L} (j : Nat) (x : Int32) (hj : 22 ≤ j ∧ j ≤ 26) : frD σ (ev_u σ 30 j x) τ τ := ⟨fun q hq _ => if_neg hq, fun q hq => by unfold ev_u ev_p upd; rw [if_pos rfl, if_neg (by omega)], fun _ _ => rfl⟩
theorem frD_w {σ : ev_M} {τ : ev_L} (j : Nat) (x : Int64) : frD σ σ τ (ev_w τ 47 j x) := ⟨fun _ _ _ => rfl, fun _ _ => rfl, fun q hq => if_neg hq⟩
theorem at_D {σ : ev_M} {b a : Int32} (hb : b = 0 ∨ b = 256) (h0 : 0 ≤ a.toInt) (h1 : a.toInt < 256) : vp_in (b + a) 512 ∧ σ 31 (b + a).toNatClampNeg = sp_at (fD σ b) a := by
  have hbi : b.toInt = 0 ∨ b.toInt = 256 := by rcases hb with rfl | rfl <;> decide
  have e : (b + a).toInt = b.toInt + a.toInt := i_add (by omega) (by omega) (by omega) (by omega)
  have c1 := i_cl (x := b + a) (by omega)
  have c2 := i_cl (x := b) (by omega)
  have c3 := i_cl (x := a) (by omega)
  refine ⟨by rw [vp_in_iff]; omega, ?_⟩
  unfold sp_at
  rw [if_pos ⟨Int32.le_iff_toInt_le.mpr h0, Int32.lt_iff_toInt_lt.mpr h1⟩]
  unfold fD
  congr 1
  omega
/-- what a jump to nx answers and leaves -/
def sd_res (σ : ev_M) (nx : Int32) (r : Bool) (σ' : ev_M) : Prop := (nx = -1 ∧ r = false ∧ σ' = ev_u σ 30 26 2) ∨ (¬ nx = -1 ∧ r = true ∧ σ' = ev_u σ 30 22 nx)
def y_D_branch : MethodName := ⟨RD, "branch", "(IZ)Z"⟩
def ws_D_branch : List Cond := .code y_D_branch prog_9_method_33_code 4 (some .boolean) :: evW
theorem d_D_branch_0 : decode prog_9_method_33_code 0 = .ok (.aload_n 0, 1) := by decide +kernel
theorem d_D_branch_1 : decode prog_9_method_33_code 1 = .ok (.getfield 155, 3) := by decide +kernel
theorem d_D_branch_4 : decode prog_9_method_33_code 4 = .ok (.iconst 2, 1) := by decide +kernel
theorem d_D_branch_5 : decode prog_9_method_33_code 5 = .ok (.iadd, 1) := by decide +kernel
theorem d_D_branch_6 : decode prog_9_method_33_code 6 = .ok (.aload_n 0, 1) := by decide +kernel
theorem d_D_branch_7 : decode prog_9_method_33_code 7 = .ok (.iload_n 1, 1) := by decide +kernel
theorem d_D_branch_8 : decode prog_9_method_33_code 8 = .ok (.aload_n 0, 1) := by decide +kernel
theorem d_D_branch_9 : decode prog_9_method_33_code 9 = .ok (.getfield 155, 3) := by decide +kernel
theorem d_D_branch_12 : decode prog_9_method_33_code 12 = .ok (.iconst 1, 1) := by decide +kernel
theorem d_D_branch_13 : decode prog_9_method_33_code 13 = .ok (.iadd, 1) := by decide +kernel
theorem d_D_branch_14 : decode prog_9_method_33_code 14 = .ok (.invokevirtual 158, 3) := by decide +kernel
theorem d_D_branch_17 : decode prog_9_method_33_code 17 = .ok (.i2b, 1) := by decide +kernel
theorem d_D_branch_18 : decode prog_9_method_33_code 18 = .ok (.iadd, 1) := by decide +kernel
theorem d_D_branch_19 : decode prog_9_method_33_code 19 = .ok (.istore_n 3, 1) := by decide +kernel
theorem d_D_branch_20 : decode prog_9_method_33_code 20 = .ok (.iload_n 2, 1) := by decide +kernel
theorem d_D_branch_21 : decode prog_9_method_33_code 21 = .ok (.ifCond .ne 14, 3) := by decide +kernel
theorem d_D_branch_24 : decode prog_9_method_33_code 24 = .ok (.aload_n 0, 1) := by decide +kernel
theorem d_D_branch_25 : decode prog_9_method_33_code 25 = .ok (.aload_n 0, 1) := by decide +kernel
theorem d_D_branch_26 : decode prog_9_method_33_code 26 = .ok (.getfield 155, 3) := by decide +kernel
theorem d_D_branch_29 : decode prog_9_method_33_code 29 = .ok (.iconst 2, 1) := by decide +kernel
theorem d_D_branch_30 : decode prog_9_method_33_code 30 = .ok (.iadd, 1) := by decide +kernel
theorem d_D_branch_31 : decode prog_9_method_33_code 31 = .ok (.invokevirtual 162, 3) := by decide +kernel
theorem d_D_branch_34 : decode prog_9_method_33_code 34 = .ok (.ireturn, 1) := by decide +kernel
theorem d_D_branch_35 : decode prog_9_method_33_code 35 = .ok (.iload_n 3, 1) := by decide +kernel
theorem d_D_branch_36 : decode prog_9_method_33_code 36 = .ok (.ifCond .lt 10, 3) := by decide +kernel
theorem d_D_branch_39 : decode prog_9_method_33_code 39 = .ok (.iload_n 3, 1) := by decide +kernel
theorem d_D_branch_40 : decode prog_9_method_33_code 40 = .ok (.sipush 256, 3) := by decide +kernel
theorem d_D_branch_43 : decode prog_9_method_33_code 43 = .ok (.if_icmp .lt 10, 3) := by decide +kernel
theorem d_D_branch_46 : decode prog_9_method_33_code 46 = .ok (.aload_n 0, 1) := by decide +kernel
theorem d_D_branch_47 : decode prog_9_method_33_code 47 = .ok (.invokevirtual 165, 3) := by decide +kernel
theorem d_D_branch_50 : decode prog_9_method_33_code 50 = .ok (.goto 8, 3) := by decide +kernel
theorem d_D_branch_53 : decode prog_9_method_33_code 53 = .ok (.aload_n 0, 1) := by decide +kernel
theorem d_D_branch_54 : decode prog_9_method_33_code 54 = .ok (.iload_n 3, 1) := by decide +kernel
theorem d_D_branch_55 : decode prog_9_method_33_code 55 = .ok (.invokevirtual 162, 3) := by decide +kernel
theorem d_D_branch_58 : decode prog_9_method_33_code 58 = .ok (.ireturn, 1) := by decide +kernel
def I_D_branch (P : Bool → ev_M → ev_L → Prop) : List (Nat × ev_T) := [(0, tt_al 0 1),
  (1, tt_gf evLY 7 22 4),
  (4, tt_k 2 5),
  (5, tt_iadd 6),
  (6, tt_al 0 7),
  (7, tt_il 1 8),
  (8, tt_al 0 9),
  (9, tt_gf evLY 7 22 12),
  (12, tt_k 1 13),
  (13, tt_iadd 14),
  (14, tt_cV evLY 7 2 ev_i pre_D_at post_D_at 17),
  (17, tt_i2b 18),
  (18, tt_iadd 19),
  (19, tt_is 3 20),
  (20, tt_il 2 21),
  (21, tt_ifne 35 24),
  (24, tt_al 0 25),
  (25, tt_al 0 26),
  (26, tt_gf evLY 7 22 29),
  (29, tt_k 2 30),
  (30, tt_iadd 31),
  (31, tt_cV evLY 7 1 ev_b pre_D_go post_D_go 34),
  (34, tt_rz P),
  (35, tt_il 3 36),
  (36, tt_iflt 46 39),
  (39, tt_il 3 40),
  (40, tt_k 256 43),
  (43, tt_iclt 53 46),
  (46, tt_al 0 47),
  (47, tt_cV evLY 7 0 ev_b pre_D_fault post_D_fault 50),
  (50, tt_go 58),
  (53, tt_al 0 54),
  (54, tt_il 3 55),
  (55, tt_cV evLY 7 1 ev_b pre_D_go post_D_go 58),
  (58, tt_rz P)]
abbrev rm_D_branch : Room := { frames := 1, cells := 0, slots := 0, locals := 32 }
set_option maxRecDepth 20000 in
theorem ok_D_branch (l : Launch) (J : ev_K) (P : Bool → ev_M → ev_L → Prop) (X : ev_X l rm_D_branch evLY evCl ws_D_branch prog_9_method_33_code 4 y_D_branch.cls J) (Z : ev_Z J prog_9_method_33_code .ireturn ev_b P) : ev_oks J (I_D_branch P) :=
  ⟨qq_aln X 0 rfl d_D_branch_0,
  qq_gf X 7 22 rfl (fun w h => List.mem_cons_of_mem _ (inE_D w h)) (by decide) (List.mem_cons_of_mem _ mw_776) d_D_branch_1,
  qq_ic X 2 (by decide) d_D_branch_4,
  qq_iadd X d_D_branch_5,
  qq_aln X 0 rfl d_D_branch_6,
  qq_iln X 1 rfl d_D_branch_7,
  qq_aln X 0 rfl d_D_branch_8,
  qq_gf X 7 22 rfl (fun w h => List.mem_cons_of_mem _ (inE_D w h)) (by decide) (List.mem_cons_of_mem _ mw_776) d_D_branch_9,
  qq_ic X 1 (by decide) d_D_branch_12,
  qq_iadd X d_D_branch_13,
  qq_cV X 7 rfl (c_D_at l) (fun hts => cwV 2 hts (evGV (mw_964) (mw_966) (mp_41) (mw_8) (mw_967)) rfl rfl rfl (by decide +kernel) ⟨Nat.le_of_ble_eq_true rfl, Nat.le_of_ble_eq_true rfl⟩) d_D_branch_14,
  qq_i2b X d_D_branch_17,
  qq_iadd X d_D_branch_18,
  qq_isn X 3 rfl (by decide) d_D_branch_19,
  qq_iln X 2 rfl d_D_branch_20,
  qq_ifne X 35 (by decide) d_D_branch_21,
  qq_aln X 0 rfl d_D_branch_24,
  qq_aln X 0 rfl d_D_branch_25,
  qq_gf X 7 22 rfl (fun w h => List.mem_cons_of_mem _ (inE_D w h)) (by decide) (List.mem_cons_of_mem _ mw_776) d_D_branch_26,
  qq_ic X 2 (by decide) d_D_branch_29,
  qq_iadd X d_D_branch_30,
  qq_cV X 7 rfl (c_D_go l) (fun hts => cwV 1 hts (evGV (mw_976) (mw_978) (mp_44) (mw_8) (mw_979)) rfl rfl rfl (by decide +kernel) ⟨Nat.le_of_ble_eq_true rfl, Nat.le_of_ble_eq_true rfl⟩) d_D_branch_31,
  qq_rz Z d_D_branch_34,
  qq_iln X 3 rfl d_D_branch_35,
  qq_iflt X 46 (by decide) d_D_branch_36,
  qq_iln X 3 rfl d_D_branch_39,
  qq_sp X 256 (by decide) d_D_branch_40,
  qq_iclt X 53 (by decide) d_D_branch_43,
  qq_aln X 0 rfl d_D_branch_46,
  qq_cV X 7 rfl (c_D_fault l) (fun hts => cwV 0 hts (evGV (mw_968) (mw_970) (mp_42) (mw_8) (mw_971)) rfl rfl rfl (by decide +kernel) ⟨Nat.le_of_ble_eq_true rfl, Nat.le_of_ble_eq_true rfl⟩) d_D_branch_47,
  qq_go X 58 (by decide) d_D_branch_50,
  qq_aln X 0 rfl d_D_branch_53,
  qq_iln X 3 rfl d_D_branch_54,
  qq_cV X 7 rfl (c_D_go l) (fun hts => cwV 1 hts (evGV (mw_976) (mw_978) (mp_44) (mw_8) (mw_979)) rfl rfl rfl (by decide +kernel) ⟨Nat.le_of_ble_eq_true rfl, Nat.le_of_ble_eq_true rfl⟩) d_D_branch_55,
  qq_rz Z d_D_branch_58, trivial⟩
def pre_D_branch : List Value → ev_M → ev_L → Prop := fun as σ τ => ∃ (b t : Int32), as = [.ref 30, .int b, .int t] ∧ (b = 0 ∨ b = 256) ∧ 0 ≤ (σ 30 22).toInt ∧ (σ 30 22).toInt ≤ 254
def post_D_branch : List Value → ev_M → ev_L → Bool → ev_M → ev_L → Prop := fun as σ τ r σ' τ' => match as with
  | [_, .int b, .int t] => sd_res σ (if t = 0 then σ 30 22 + 2 else sp_br (σ 30 22 + 2 + (sp_at (fD σ b) (σ 30 22 + 1)).toInt8.toInt32)) r σ' ∧ τ' = τ
  | _ => False
set_option maxHeartbeats 4000000 in
set_option maxRecDepth 100000 in
theorem c_D_branch (l : Launch) : ev_C ev_b l y_D_branch ws_D_branch rm_D_branch evLY evCl pre_D_branch post_D_branch := by
  refine ev_meth0 (by decide) rfl ev_rop_b ?_ I_D_branch (ok_D_branch l) 60 ?_
  · rintro _ σ τ ⟨b, t, rfl, hp⟩
    exact Nat.le_of_ble_eq_true rfl
  · rintro _ σ τ ⟨b, t, rfl, hb, h0, h1⟩
    have e1 : (σ 30 22 + 1).toInt = (σ 30 22).toInt + 1 := i_add (by omega) (by omega) (by decide) (by decide)
    have e2 : (σ 30 22 + 2).toInt = (σ 30 22).toInt + 2 := i_add (by omega) (by omega) (by decide) (by decide)
    obtain ⟨hv, hat⟩ := at_D (σ := σ) (b := b) (a := σ 30 22 + 1) hb (by omega) (by omega)
    refine ⟨⟨_, _, rfl, hv⟩, ?_⟩
    rintro _ σ τ ⟨rfl, rfl, rfl⟩
    rw [hat]
    refine br_n (fun ht => br_c (fun h => ?_) (fun h => br_c (fun h2 => ?_) (fun h2 => ?_))) (fun ht => ?_)
    · refine ⟨rfl, ?_⟩
      rintro _ _ _ ⟨rfl, rfl, rfl⟩
      refine ⟨false, rfl, Or.inl ⟨?_, rfl, rfl⟩, rfl⟩
      rw [if_neg ht]
      exact if_neg fun q => absurd (Int32.not_lt.mpr q.1) (fun w => w h)
    · refine ⟨⟨_, rfl⟩, ?_⟩
      rintro _ _ _ ⟨rfl, rfl, rfl⟩
      have e3 : sp_br (σ 30 22 + 2 + (sp_at (fD σ b) (σ 30 22 + 1)).toInt8.toInt32) = σ 30 22 + 2 + (sp_at (fD σ b) (σ 30 22 + 1)).toInt8.toInt32 := if_pos ⟨Int32.not_lt.mp h, h2⟩
      refine ⟨true, rfl, Or.inr ⟨?_, rfl, ?_⟩, rfl⟩
      · rw [if_neg ht, e3]
        intro q
        rw [q] at h
        exact h (by decide)
      · rw [if_neg ht, e3]
    · refine ⟨rfl, ?_⟩
      rintro _ _ _ ⟨rfl, rfl, rfl⟩
      refine ⟨false, rfl, Or.inl ⟨?_, rfl, rfl⟩, rfl⟩
      rw [if_neg ht]
      exact if_neg fun q => h2 q.2
    · refine ⟨⟨_, rfl⟩, ?_⟩
      rintro _ _ _ ⟨rfl, rfl, rfl⟩
      refine ⟨true, rfl, Or.inr ⟨?_, rfl, ?_⟩, rfl⟩
      · rw [if_pos ht]
        intro q
        rw [q] at e2
        have : (-1 : Int32).toInt = -1 := by decide
        omega
      · rw [if_pos ht]
def y_D_push : MethodName := ⟨RD, "push", "(II)Z"⟩
def ws_D_push : List Cond := .code y_D_push prog_9_method_34_code 3 (some .boolean) :: evW
theorem d_D_push_0 : decode prog_9_method_34_code 0 = .ok (.aload_n 0, 1) := by decide +kernel
theorem d_D_push_1 : decode prog_9_method_34_code 1 = .ok (.getfield 169, 3) := by decide +kernel
theorem d_D_push_4 : decode prog_9_method_34_code 4 = .ok (.bipush 8, 2) := by decide +kernel
theorem d_D_push_6 : decode prog_9_method_34_code 6 = .ok (.if_icmp .ne 8, 3) := by decide +kernel
theorem d_D_push_9 : decode prog_9_method_34_code 9 = .ok (.aload_n 0, 1) := by decide +kernel
theorem d_D_push_10 : decode prog_9_method_34_code 10 = .ok (.invokevirtual 165, 3) := by decide +kernel
theorem d_D_push_13 : decode prog_9_method_34_code 13 = .ok (.ireturn, 1) := by decide +kernel
theorem d_D_push_14 : decode prog_9_method_34_code 14 = .ok (.aload_n 0, 1) := by decide +kernel
theorem d_D_push_15 : decode prog_9_method_34_code 15 = .ok (.getfield 53, 3) := by decide +kernel
theorem d_D_push_18 : decode prog_9_method_34_code 18 = .ok (.aload_n 0, 1) := by decide +kernel
theorem d_D_push_19 : decode prog_9_method_34_code 19 = .ok (.getfield 169, 3) := by decide +kernel
theorem d_D_push_22 : decode prog_9_method_34_code 22 = .ok (.iload_n 1, 1) := by decide +kernel
theorem d_D_push_23 : decode prog_9_method_34_code 23 = .ok (.iastore, 1) := by decide +kernel
theorem d_D_push_24 : decode prog_9_method_34_code 24 = .ok (.aload_n 0, 1) := by decide +kernel
theorem d_D_push_25 : decode prog_9_method_34_code 25 = .ok (.dup, 1) := by decide +kernel
theorem d_D_push_26 : decode prog_9_method_34_code 26 = .ok (.getfield 169, 3) := by decide +kernel
theorem d_D_push_29 : decode prog_9_method_34_code 29 = .ok (.iconst 1, 1) := by decide +kernel
theorem d_D_push_30 : decode prog_9_method_34_code 30 = .ok (.iadd, 1) := by decide +kernel
theorem d_D_push_31 : decode prog_9_method_34_code 31 = .ok (.putfield 169, 3) := by decide +kernel
theorem d_D_push_34 : decode prog_9_method_34_code 34 = .ok (.aload_n 0, 1) := by decide +kernel
theorem d_D_push_35 : decode prog_9_method_34_code 35 = .ok (.iload_n 2, 1) := by decide +kernel
theorem d_D_push_36 : decode prog_9_method_34_code 36 = .ok (.invokevirtual 162, 3) := by decide +kernel
theorem d_D_push_39 : decode prog_9_method_34_code 39 = .ok (.ireturn, 1) := by decide +kernel
def I_D_push (P : Bool → ev_M → ev_L → Prop) : List (Nat × ev_T) := [(0, tt_al 0 1),
  (1, tt_gf evLY 7 23 4),
  (4, tt_k 8 6),
  (6, tt_icne 14 9),
  (9, tt_al 0 10),
  (10, tt_cV evLY 7 0 ev_b pre_D_fault post_D_fault 13),
  (13, tt_rz P),
  (14, tt_al 0 15),
  (15, tt_gf evLY 7 27 18),
  (18, tt_al 0 19),
  (19, tt_gf evLY 7 23 22),
  (22, tt_il 1 23),
  (23, tt_ias evLY 24),
  (24, tt_al 0 25),
  (25, tt_dup 26),
  (26, tt_gf evLY 7 23 29),
  (29, tt_k 1 30),
  (30, tt_iadd 31),
  (31, tt_pf evLY 7 23 34),
  (34, tt_al 0 35),
  (35, tt_il 2 36),
  (36, tt_cV evLY 7 1 ev_b pre_D_go post_D_go 39),
  (39, tt_rz P)]
abbrev rm_D_push : Room := { frames := 1, cells := 0, slots := 0, locals := 32 }
set_option maxRecDepth 20000 in
theorem ok_D_push (l : Launch) (J : ev_K) (P : Bool → ev_M → ev_L → Prop) (X : ev_X l rm_D_push evLY evCl ws_D_push prog_9_method_34_code 3 y_D_push.cls J) (Z : ev_Z J prog_9_method_34_code .ireturn ev_b P) : ev_oks J (I_D_push P) :=
  ⟨qq_aln X 0 rfl d_D_push_0,
  qq_gf X 7 23 rfl (fun w h => List.mem_cons_of_mem _ (inE_D w h)) (by decide) (List.mem_cons_of_mem _ mw_777) d_D_push_1,
  qq_bp X 8 (by decide) d_D_push_4,
  qq_icne X 14 (by decide) d_D_push_6,
  qq_aln X 0 rfl d_D_push_9,
  qq_cV X 7 rfl (c_D_fault l) (fun hts => cwV 0 hts (evGV (mw_968) (mw_970) (mp_42) (mw_8) (mw_971)) rfl rfl rfl (by decide +kernel) ⟨Nat.le_of_ble_eq_true rfl, Nat.le_of_ble_eq_true rfl⟩) d_D_push_10,
  qq_rz Z d_D_push_13,
  qq_aln X 0 rfl d_D_push_14,
  qq_gf X 7 27 rfl (fun w h => List.mem_cons_of_mem _ (inE_D w h)) (by decide) (List.mem_cons_of_mem _ mw_781) d_D_push_15,
  qq_aln X 0 rfl d_D_push_18,
  qq_gf X 7 23 rfl (fun w h => List.mem_cons_of_mem _ (inE_D w h)) (by decide) (List.mem_cons_of_mem _ mw_777) d_D_push_19,
  qq_iln X 1 rfl d_D_push_22,
  qq_ias X d_D_push_23,
  qq_aln X 0 rfl d_D_push_24,
  qq_dup X d_D_push_25,
  qq_gf X 7 23 rfl (fun w h => List.mem_cons_of_mem _ (inE_D w h)) (by decide) (List.mem_cons_of_mem _ mw_777) d_D_push_26,
  qq_ic X 1 (by decide) d_D_push_29,
  qq_iadd X d_D_push_30,
  qq_pf X 7 23 rfl (fun w h => List.mem_cons_of_mem _ (inE_D w h)) (by decide) tyD tyD_ok nmD rfl (by decide +kernel) (List.mem_cons_of_mem _ mw_777) d_D_push_31,
  qq_aln X 0 rfl d_D_push_34,
  qq_iln X 2 rfl d_D_push_35,
  qq_cV X 7 rfl (c_D_go l) (fun hts => cwV 1 hts (evGV (mw_976) (mw_978) (mp_44) (mw_8) (mw_979)) rfl rfl rfl (by decide +kernel) ⟨Nat.le_of_ble_eq_true rfl, Nat.le_of_ble_eq_true rfl⟩) d_D_push_36,
  qq_rz Z d_D_push_39, trivial⟩
def pre_D_push : List Value → ev_M → ev_L → Prop := fun as σ τ => ∃ (k t : Int32), as = [.ref 30, .int k, .int t] ∧ 0 ≤ (σ 30 23).toInt ∧ (σ 30 23).toInt ≤ 8
def post_D_push : List Value → ev_M → ev_L → Bool → ev_M → ev_L → Prop := fun as σ τ r σ' τ' => match as with
  | [_, .int k, .int t] => τ' = τ ∧ ((¬ σ 30 23 < 8 ∧ r = false ∧ σ' = ev_u σ 30 26 2) ∨ (σ 30 23 < 8 ∧ r = true ∧ σ' = ev_u (ev_u (ev_u σ 45 (σ 30 23).toNatClampNeg k) 30 23 (σ 30 23 + 1)) 30 22 t))
  | _ => False
set_option maxHeartbeats 4000000 in
set_option maxRecDepth 100000 in
theorem c_D_push (l : Launch) : ev_C ev_b l y_D_push ws_D_push rm_D_push evLY evCl pre_D_push post_D_push := by
  refine ev_meth0 (by decide) rfl ev_rop_b ?_ I_D_push (ok_D_push l) 60 ?_
  · rintro _ σ τ ⟨k, t, rfl, hp⟩
    exact Nat.le_of_ble_eq_true rfl
  · rintro _ σ τ ⟨k, t, rfl, h0, h8⟩
    refine br_n (fun h => ?_) (fun h => ?_)
    · have h7 : (σ 30 23).toInt < 8 := by
        rw [← Int32.toInt_inj] at h
        have : (8 : Int32).toInt = 8 := rfl
        omega
      refine ⟨by rw [vp_in_iff]; omega, ⟨_, rfl⟩, ?_⟩
      rintro _ _ _ ⟨rfl, rfl, rfl⟩
      exact ⟨true, rfl, rfl, Or.inr ⟨Int32.lt_iff_toInt_lt.mpr h7, rfl, rfl⟩⟩
    · refine ⟨rfl, ?_⟩
      rintro _ _ _ ⟨rfl, rfl, rfl⟩
      exact ⟨false, rfl, rfl, Or.inl ⟨by rw [h]; decide, rfl, rfl⟩⟩
theorem xor_neg {v m : Int32} (hm : 0 ≤ m.toInt) : v ^^^ m < 0 ↔ v < 0 := by
  have key : ∀ x : Int32, x < 0 ↔ x.toBitVec.msb = true := by
    intro x
    rw [Int32.lt_iff_toInt_lt, BitVec.msb_eq_toInt, decide_eq_true_eq]
    exact Iff.rfl
  rw [key, key, Int32.toBitVec_xor, BitVec.msb_xor]
  have : m.toBitVec.msb = false := by
    rw [BitVec.msb_eq_toInt, decide_eq_false_iff_not]
    show ¬ m.toInt < 0
    omega
  rw [this, Bool.xor_false]
/-- the remainder that class and reference take -/
def sd_fm (v m : Int32) : Int32 := if v - v / m * m < 0 then (v - v / m * m) + m else v - v / m * m
theorem fm_eq {v m : Int32} (hm : 0 < m.toInt) : sp_fm v m = sd_fm v m := by
  have hk : (v - v / m * m).toInt = v.toInt.tmod m.toInt := rem_toInt v m
  have h0 : (0 : Int32).toInt = 0 := rfl
  have hiff : (v ^^^ m < 0 ∧ ¬ v - v / m * m = 0) ↔ v - v / m * m < 0 := by
    rw [xor_neg (by omega), Int32.lt_iff_toInt_lt, Int32.lt_iff_toInt_lt, ← Int32.toInt_inj, hk, h0]
    constructor
    · rintro ⟨h1, h2⟩
      have h3 : 0 ≤ (-v.toInt).tmod m.toInt := Int.tmod_nonneg _ (by omega)
      rw [Int.neg_tmod] at h3
      omega
    · intro h1
      refine ⟨?_, by omega⟩
      refine Int.not_le.mp fun h2 => ?_
      have h3 : 0 ≤ v.toInt.tmod m.toInt := Int.tmod_nonneg _ h2
      omega
  unfold sp_fm sd_fm
  by_cases h : v - v / m * m < 0
  · rw [if_pos h, if_pos (hiff.mpr h)]
  · rw [if_neg h, if_neg (fun q => h (hiff.mp q))]
theorem fm_R {v m : Int32} (hm : 0 < m.toInt) (hm2 : m.toInt < 256) : 0 ≤ (sd_fm v m).toInt ∧ (sd_fm v m).toInt < m.toInt := by
  have hk : (v - v / m * m).toInt = v.toInt.tmod m.toInt := rem_toInt v m
  have hb := tmod_bounds (a := v.toInt) hm
  have h0 : (0 : Int32).toInt = 0 := rfl
  unfold sd_fm
  split
  · rename_i h
    rw [Int32.lt_iff_toInt_lt, h0] at h
    rw [i_add (by omega) (by omega) (by omega) (by omega)]
    omega
  · rename_i h
    rw [Int32.lt_iff_toInt_lt, h0] at h
    omega
def y_D_select : MethodName := ⟨RD, "select", "(II)Z"⟩
def ws_D_select : List Cond := .code y_D_select prog_9_method_35_code 6 (some .boolean) :: evW
theorem d_D_select_0 : decode prog_9_method_35_code 0 = .ok (.aload_n 0, 1) := by decide +kernel
theorem d_D_select_1 : decode prog_9_method_35_code 1 = .ok (.iload_n 1, 1) := by decide +kernel
theorem d_D_select_2 : decode prog_9_method_35_code 2 = .ok (.aload_n 0, 1) := by decide +kernel
theorem d_D_select_3 : decode prog_9_method_35_code 3 = .ok (.getfield 155, 3) := by decide +kernel
theorem d_D_select_6 : decode prog_9_method_35_code 6 = .ok (.iconst 2, 1) := by decide +kernel
theorem d_D_select_7 : decode prog_9_method_35_code 7 = .ok (.iadd, 1) := by decide +kernel
theorem d_D_select_8 : decode prog_9_method_35_code 8 = .ok (.invokevirtual 158, 3) := by decide +kernel
theorem d_D_select_11 : decode prog_9_method_35_code 11 = .ok (.istore_n 3, 1) := by decide +kernel
theorem d_D_select_12 : decode prog_9_method_35_code 12 = .ok (.iload_n 3, 1) := by decide +kernel
theorem d_D_select_13 : decode prog_9_method_35_code 13 = .ok (.ifCond .ne 8, 3) := by decide +kernel
theorem d_D_select_16 : decode prog_9_method_35_code 16 = .ok (.aload_n 0, 1) := by decide +kernel
theorem d_D_select_17 : decode prog_9_method_35_code 17 = .ok (.invokevirtual 165, 3) := by decide +kernel
theorem d_D_select_20 : decode prog_9_method_35_code 20 = .ok (.ireturn, 1) := by decide +kernel
theorem d_D_select_21 : decode prog_9_method_35_code 21 = .ok (.iload_n 2, 1) := by decide +kernel
theorem d_D_select_22 : decode prog_9_method_35_code 22 = .ok (.iload_n 3, 1) := by decide +kernel
theorem d_D_select_23 : decode prog_9_method_35_code 23 = .ok (.irem, 1) := by decide +kernel
theorem d_D_select_24 : decode prog_9_method_35_code 24 = .ok (.istore 4, 2) := by decide +kernel
theorem d_D_select_26 : decode prog_9_method_35_code 26 = .ok (.aload_n 0, 1) := by decide +kernel
theorem d_D_select_27 : decode prog_9_method_35_code 27 = .ok (.iload_n 1, 1) := by decide +kernel
theorem d_D_select_28 : decode prog_9_method_35_code 28 = .ok (.aload_n 0, 1) := by decide +kernel
theorem d_D_select_29 : decode prog_9_method_35_code 29 = .ok (.getfield 155, 3) := by decide +kernel
theorem d_D_select_32 : decode prog_9_method_35_code 32 = .ok (.iconst 1, 1) := by decide +kernel
theorem d_D_select_33 : decode prog_9_method_35_code 33 = .ok (.iadd, 1) := by decide +kernel
theorem d_D_select_34 : decode prog_9_method_35_code 34 = .ok (.invokevirtual 158, 3) := by decide +kernel
theorem d_D_select_37 : decode prog_9_method_35_code 37 = .ok (.iload 4, 2) := by decide +kernel
theorem d_D_select_39 : decode prog_9_method_35_code 39 = .ok (.ifCond .ge 10, 3) := by decide +kernel
theorem d_D_select_42 : decode prog_9_method_35_code 42 = .ok (.iload 4, 2) := by decide +kernel
theorem d_D_select_44 : decode prog_9_method_35_code 44 = .ok (.iload_n 3, 1) := by decide +kernel
theorem d_D_select_45 : decode prog_9_method_35_code 45 = .ok (.iadd, 1) := by decide +kernel
theorem d_D_select_46 : decode prog_9_method_35_code 46 = .ok (.goto 5, 3) := by decide +kernel
theorem d_D_select_49 : decode prog_9_method_35_code 49 = .ok (.iload 4, 2) := by decide +kernel
theorem d_D_select_51 : decode prog_9_method_35_code 51 = .ok (.iadd, 1) := by decide +kernel
theorem d_D_select_52 : decode prog_9_method_35_code 52 = .ok (.istore 5, 2) := by decide +kernel
theorem d_D_select_54 : decode prog_9_method_35_code 54 = .ok (.iload 5, 2) := by decide +kernel
theorem d_D_select_56 : decode prog_9_method_35_code 56 = .ok (.sipush 256, 3) := by decide +kernel
theorem d_D_select_59 : decode prog_9_method_35_code 59 = .ok (.if_icmp .lt 10, 3) := by decide +kernel
theorem d_D_select_62 : decode prog_9_method_35_code 62 = .ok (.aload_n 0, 1) := by decide +kernel
theorem d_D_select_63 : decode prog_9_method_35_code 63 = .ok (.invokevirtual 165, 3) := by decide +kernel
theorem d_D_select_66 : decode prog_9_method_35_code 66 = .ok (.goto 14, 3) := by decide +kernel
theorem d_D_select_69 : decode prog_9_method_35_code 69 = .ok (.aload_n 0, 1) := by decide +kernel
theorem d_D_select_70 : decode prog_9_method_35_code 70 = .ok (.aload_n 0, 1) := by decide +kernel
theorem d_D_select_71 : decode prog_9_method_35_code 71 = .ok (.iload_n 1, 1) := by decide +kernel
theorem d_D_select_72 : decode prog_9_method_35_code 72 = .ok (.iload 5, 2) := by decide +kernel
theorem d_D_select_74 : decode prog_9_method_35_code 74 = .ok (.invokevirtual 158, 3) := by decide +kernel
theorem d_D_select_77 : decode prog_9_method_35_code 77 = .ok (.invokevirtual 162, 3) := by decide +kernel
theorem d_D_select_80 : decode prog_9_method_35_code 80 = .ok (.ireturn, 1) := by decide +kernel
def I_D_select (P : Bool → ev_M → ev_L → Prop) : List (Nat × ev_T) := [(0, tt_al 0 1),
  (1, tt_il 1 2),
  (2, tt_al 0 3),
  (3, tt_gf evLY 7 22 6),
  (6, tt_k 2 7),
  (7, tt_iadd 8),
  (8, tt_cV evLY 7 2 ev_i pre_D_at post_D_at 11),
  (11, tt_is 3 12),
  (12, tt_il 3 13),
  (13, tt_ifne 21 16),
  (16, tt_al 0 17),
  (17, tt_cV evLY 7 0 ev_b pre_D_fault post_D_fault 20),
  (20, tt_rz P),
  (21, tt_il 2 22),
  (22, tt_il 3 23),
  (23, tt_irem 24),
  (24, tt_is 4 26),
  (26, tt_al 0 27),
  (27, tt_il 1 28),
  (28, tt_al 0 29),
  (29, tt_gf evLY 7 22 32),
  (32, tt_k 1 33),
  (33, tt_iadd 34),
  (34, tt_cV evLY 7 2 ev_i pre_D_at post_D_at 37),
  (37, tt_il 4 39),
  (39, tt_ifge 49 42),
  (42, tt_il 4 44),
  (44, tt_il 3 45),
  (45, tt_iadd 46),
  (46, tt_go 51),
  (49, tt_il 4 51),
  (51, tt_iadd 52),
  (52, tt_is 5 54),
  (54, tt_il 5 56),
  (56, tt_k 256 59),
  (59, tt_iclt 69 62),
  (62, tt_al 0 63),
  (63, tt_cV evLY 7 0 ev_b pre_D_fault post_D_fault 66),
  (66, tt_go 80),
  (69, tt_al 0 70),
  (70, tt_al 0 71),
  (71, tt_il 1 72),
  (72, tt_il 5 74),
  (74, tt_cV evLY 7 2 ev_i pre_D_at post_D_at 77),
  (77, tt_cV evLY 7 1 ev_b pre_D_go post_D_go 80),
  (80, tt_rz P)]
abbrev rm_D_select : Room := { frames := 1, cells := 0, slots := 0, locals := 32 }
set_option maxRecDepth 20000 in
theorem ok_D_select (l : Launch) (J : ev_K) (P : Bool → ev_M → ev_L → Prop) (X : ev_X l rm_D_select evLY evCl ws_D_select prog_9_method_35_code 6 y_D_select.cls J) (Z : ev_Z J prog_9_method_35_code .ireturn ev_b P) : ev_oks J (I_D_select P) :=
  ⟨qq_aln X 0 rfl d_D_select_0,
  qq_iln X 1 rfl d_D_select_1,
  qq_aln X 0 rfl d_D_select_2,
  qq_gf X 7 22 rfl (fun w h => List.mem_cons_of_mem _ (inE_D w h)) (by decide) (List.mem_cons_of_mem _ mw_776) d_D_select_3,
  qq_ic X 2 (by decide) d_D_select_6,
  qq_iadd X d_D_select_7,
  qq_cV X 7 rfl (c_D_at l) (fun hts => cwV 2 hts (evGV (mw_964) (mw_966) (mp_41) (mw_8) (mw_967)) rfl rfl rfl (by decide +kernel) ⟨Nat.le_of_ble_eq_true rfl, Nat.le_of_ble_eq_true rfl⟩) d_D_select_8,
  qq_isn X 3 rfl (by decide) d_D_select_11,
  qq_iln X 3 rfl d_D_select_12,
  qq_ifne X 21 (by decide) d_D_select_13,
  qq_aln X 0 rfl d_D_select_16,
  qq_cV X 7 rfl (c_D_fault l) (fun hts => cwV 0 hts (evGV (mw_968) (mw_970) (mp_42) (mw_8) (mw_971)) rfl rfl rfl (by decide +kernel) ⟨Nat.le_of_ble_eq_true rfl, Nat.le_of_ble_eq_true rfl⟩) d_D_select_17,
  qq_rz Z d_D_select_20,
  qq_iln X 2 rfl d_D_select_21,
  qq_iln X 3 rfl d_D_select_22,
  qq_irem X d_D_select_23,
  qq_is X 4 (by decide) d_D_select_24,
  qq_aln X 0 rfl d_D_select_26,
  qq_iln X 1 rfl d_D_select_27,
  qq_aln X 0 rfl d_D_select_28,
  qq_gf X 7 22 rfl (fun w h => List.mem_cons_of_mem _ (inE_D w h)) (by decide) (List.mem_cons_of_mem _ mw_776) d_D_select_29,
  qq_ic X 1 (by decide) d_D_select_32,
  qq_iadd X d_D_select_33,
  qq_cV X 7 rfl (c_D_at l) (fun hts => cwV 2 hts (evGV (mw_964) (mw_966) (mp_41) (mw_8) (mw_967)) rfl rfl rfl (by decide +kernel) ⟨Nat.le_of_ble_eq_true rfl, Nat.le_of_ble_eq_true rfl⟩) d_D_select_34,
  qq_il X 4 d_D_select_37,
  qq_ifge X 49 (by decide) d_D_select_39,
  qq_il X 4 d_D_select_42,
  qq_iln X 3 rfl d_D_select_44,
  qq_iadd X d_D_select_45,
  qq_go X 51 (by decide) d_D_select_46,
  qq_il X 4 d_D_select_49,
  qq_iadd X d_D_select_51,
  qq_is X 5 (by decide) d_D_select_52,
  qq_il X 5 d_D_select_54,
  qq_sp X 256 (by decide) d_D_select_56,
  qq_iclt X 69 (by decide) d_D_select_59,
  qq_aln X 0 rfl d_D_select_62,
  qq_cV X 7 rfl (c_D_fault l) (fun hts => cwV 0 hts (evGV (mw_968) (mw_970) (mp_42) (mw_8) (mw_971)) rfl rfl rfl (by decide +kernel) ⟨Nat.le_of_ble_eq_true rfl, Nat.le_of_ble_eq_true rfl⟩) d_D_select_63,
  qq_go X 80 (by decide) d_D_select_66,
  qq_aln X 0 rfl d_D_select_69,
  qq_aln X 0 rfl d_D_select_70,
  qq_iln X 1 rfl d_D_select_71,
  qq_il X 5 d_D_select_72,
  qq_cV X 7 rfl (c_D_at l) (fun hts => cwV 2 hts (evGV (mw_964) (mw_966) (mp_41) (mw_8) (mw_967)) rfl rfl rfl (by decide +kernel) ⟨Nat.le_of_ble_eq_true rfl, Nat.le_of_ble_eq_true rfl⟩) d_D_select_74,
  qq_cV X 7 rfl (c_D_go l) (fun hts => cwV 1 hts (evGV (mw_976) (mw_978) (mp_44) (mw_8) (mw_979)) rfl rfl rfl (by decide +kernel) ⟨Nat.le_of_ble_eq_true rfl, Nat.le_of_ble_eq_true rfl⟩) d_D_select_77,
  qq_rz Z d_D_select_80, trivial⟩
def pre_D_select : List Value → ev_M → ev_L → Prop := fun as σ τ => ∃ (b v : Int32), as = [.ref 30, .int b, .int v] ∧ (b = 0 ∨ b = 256) ∧ 0 ≤ (σ 30 22).toInt ∧ (σ 30 22).toInt ≤ 253 ∧ byF (fD σ b)
def post_D_select : List Value → ev_M → ev_L → Bool → ev_M → ev_L → Prop := fun as σ τ r σ' τ' => match as with
  | [_, .int b, .int v] => sd_res σ (sp_look (fD σ b) (sp_at (fD σ b) (σ 30 22 + 1)) (sp_at (fD σ b) (σ 30 22 + 2)) v) r σ' ∧ τ' = τ
  | _ => False
set_option maxHeartbeats 4000000 in
set_option maxRecDepth 100000 in
theorem c_D_select (l : Launch) : ev_C ev_b l y_D_select ws_D_select rm_D_select evLY evCl pre_D_select post_D_select := by
  refine ev_meth0 (by decide) rfl ev_rop_b ?_ I_D_select (ok_D_select l) 60 ?_
  · rintro _ σ τ ⟨b, v, rfl, hp⟩
    exact Nat.le_of_ble_eq_true rfl
  · rintro _ σ τ ⟨b, v, rfl, hb, h0, h1, hf⟩
    have e1 : (σ 30 22 + 1).toInt = (σ 30 22).toInt + 1 := i_add (by omega) (by omega) (by decide) (by decide)
    have e2 : (σ 30 22 + 2).toInt = (σ 30 22).toInt + 2 := i_add (by omega) (by omega) (by decide) (by decide)
    obtain ⟨hv1, hat1⟩ := at_D (σ := σ) (b := b) (a := σ 30 22 + 1) hb (by omega) (by omega)
    obtain ⟨hv2, hat2⟩ := at_D (σ := σ) (b := b) (a := σ 30 22 + 2) hb (by omega) (by omega)
    have hn := sp_at_by hf (σ 30 22 + 1)
    have hm := sp_at_by hf (σ 30 22 + 2)
    refine ⟨⟨_, _, rfl, hv2⟩, ?_⟩
    rintro _ σ τ ⟨rfl, rfl, rfl⟩
    rw [hat2]
    refine br_n (fun hm0 => ?_) (fun hm0 => ?_)
    · refine ⟨hm0, ⟨⟨_, _, rfl, hv1⟩, ?_⟩⟩
      rintro _ σ τ ⟨rfl, rfl, rfl⟩
      rw [hat1]
      have hmp : 0 < (sp_at (fD σ b) (σ 30 22 + 2)).toInt := by
        rw [← Int32.toInt_inj] at hm0
        have : (0 : Int32).toInt = 0 := rfl
        omega
      have hR := fm_R (v := v) hmp hm.2
      have hfe := fm_eq (v := v) hmp
      have e3 : (sp_at (fD σ b) (σ 30 22 + 1) + sd_fm v (sp_at (fD σ b) (σ 30 22 + 2))).toInt = (sp_at (fD σ b) (σ 30 22 + 1)).toInt + (sd_fm v (sp_at (fD σ b) (σ 30 22 + 2))).toInt := i_add (by omega) (by omega) (by omega) (by omega)
      have h256 : (256 : Int32).toInt = 256 := rfl
      have look : sp_look (fD σ b) (sp_at (fD σ b) (σ 30 22 + 1)) (sp_at (fD σ b) (σ 30 22 + 2)) v = if sp_at (fD σ b) (σ 30 22 + 1) + sd_fm v (sp_at (fD σ b) (σ 30 22 + 2)) < 256 then sp_at (fD σ b) (sp_at (fD σ b) (σ 30 22 + 1) + sd_fm v (sp_at (fD σ b) (σ 30 22 + 2))) else -1 := by
        unfold sp_look
        rw [if_neg hm0, hfe]
      have fin : ∀ e : Int32, e = sp_at (fD σ b) (σ 30 22 + 1) + sd_fm v (sp_at (fD σ b) (σ 30 22 + 2)) → ((e < 256 → pre_D_at [.ref 30, .int b, .int e] σ τ ∧ ∀ (r : Int32) (σ1 : ev_M) (τ1 : ev_L), post_D_at [.ref 30, .int b, .int e] σ τ r σ1 τ1 → pre_D_go [.ref 30, .int r] σ1 τ1 ∧ ∀ (r2 : Bool) (σ2 : ev_M) (τ2 : ev_L), post_D_go [.ref 30, .int r] σ1 τ1 r2 σ2 τ2 → ∃ b1 : Bool, (cond r2 1 0 : Int32) = cond b1 1 0 ∧ sd_res σ (sp_look (fD σ b) (sp_at (fD σ b) (σ 30 22 + 1)) (sp_at (fD σ b) (σ 30 22 + 2)) v) b1 σ2 ∧ τ2 = τ) ∧ (¬ e < 256 → pre_D_fault [.ref 30] σ τ ∧ ∀ (r2 : Bool) (σ2 : ev_M) (τ2 : ev_L), post_D_fault [.ref 30] σ τ r2 σ2 τ2 → ∃ b1 : Bool, (cond r2 1 0 : Int32) = cond b1 1 0 ∧ sd_res σ (sp_look (fD σ b) (sp_at (fD σ b) (σ 30 22 + 1)) (sp_at (fD σ b) (σ 30 22 + 2)) v) b1 σ2 ∧ τ2 = τ)) := by
        rintro e rfl
        refine ⟨fun h => ?_, fun h => ?_⟩
        · have h' := h
          rw [Int32.lt_iff_toInt_lt, h256] at h'
          obtain ⟨hv3, hat3⟩ := at_D (σ := σ) (b := b) (a := sp_at (fD σ b) (σ 30 22 + 1) + sd_fm v (sp_at (fD σ b) (σ 30 22 + 2))) hb (by omega) (by omega)
          refine ⟨⟨_, _, rfl, hv3⟩, ?_⟩
          rintro _ σ τ ⟨rfl, rfl, rfl⟩
          refine ⟨⟨_, rfl⟩, ?_⟩
          rintro _ _ _ ⟨rfl, rfl, rfl⟩
          refine ⟨true, rfl, Or.inr ⟨?_, rfl, ?_⟩, rfl⟩
          · rw [look, if_pos h]
            intro q
            have hby := sp_at_by hf (sp_at (fD σ b) (σ 30 22 + 1) + sd_fm v (sp_at (fD σ b) (σ 30 22 + 2)))
            rw [q] at hby
            exact absurd hby.1 (by decide)
          · rw [look, if_pos h, hat3]
        · refine ⟨rfl, ?_⟩
          rintro _ _ _ ⟨rfl, rfl, rfl⟩
          exact ⟨false, rfl, Or.inl ⟨by rw [look, if_neg h], rfl, rfl⟩, rfl⟩
      refine br_c (fun h => ?_) (fun h => ?_)
      · have hs : sd_fm v (sp_at (fD σ b) (σ 30 22 + 2)) = v - v / sp_at (fD σ b) (σ 30 22 + 2) * sp_at (fD σ b) (σ 30 22 + 2) := if_neg (Int32.not_lt.mpr h)
        exact fin _ (by rw [hs])
      · have hs : sd_fm v (sp_at (fD σ b) (σ 30 22 + 2)) = v - v / sp_at (fD σ b) (σ 30 22 + 2) * sp_at (fD σ b) (σ 30 22 + 2) + sp_at (fD σ b) (σ 30 22 + 2) := if_pos (Int32.not_le.mp h)
        exact fin _ (by rw [hs])
    · refine ⟨rfl, ?_⟩
      rintro _ _ _ ⟨rfl, rfl, rfl⟩
      exact ⟨false, rfl, Or.inl ⟨if_pos hm0, rfl, rfl⟩, rfl⟩
