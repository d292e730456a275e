/-! the machine's step, as a function: registers, cells, stack, output, counters, pc, height, shown, done -/
abbrev mst : Type := (Nat → Int32) × (Nat → Int32) × (Nat → Int32) × (Nat → Int32) × (Nat → Int64) × Int32 × Int32 × Int32 × Int32
def sp_br (t : Int32) : Int32 := if 0 ≤ t ∧ t < 256 then t else -1
def sp_look (f : Nat → Int32) (n m v : Int32) : Int32 := if m = 0 then -1 else if n + sp_fm v m < 256 then sp_at f (n + sp_fm v m) else -1
def ms_calc (kd op n : Int32) (x : mst) : mst := match x with
  | (r, c, s, o, t, pc, h, sh, dn) =>
    if kd = 4 then (upd r (sp_reg kd op).toNatClampNeg (r (sp_reg kd op).toNatClampNeg + 1), c, s, o, t, pc, h, sh, dn)
    else if kd = 8 then (upd r (sp_reg kd op).toNatClampNeg (r (sp_reg kd op).toNatClampNeg - 1), c, s, o, t, pc, h, sh, dn)
    else if kd = 16 then (upd r (sp_reg kd op).toNatClampNeg (r (sp_reg kd op).toNatClampNeg + r (op &&& 3).toNatClampNeg), c, s, o, t, pc, h, sh, dn)
    else if kd = 32 then (upd r (sp_reg kd op).toNatClampNeg (r (sp_reg kd op).toNatClampNeg - r (op &&& 3).toNatClampNeg), c, s, o, t, pc, h, sh, dn)
    else if kd = 48 then (upd r (sp_reg kd op).toNatClampNeg n.toInt8.toInt32, c, s, o, t, pc, h, sh, dn)
    else if kd = 52 then (upd r (sp_reg kd op).toNatClampNeg (c (n &&& 15).toNatClampNeg), c, s, o, t, pc, h, sh, dn)
    else if kd = 56 then (r, upd c (n &&& 15).toNatClampNeg (r (sp_reg kd op).toNatClampNeg), s, o, t, pc, h, sh, dn)
    else if kd = 76 then (r, c, s, o, vp_updL t (n &&& 63).toNatClampNeg (t (n &&& 63).toNatClampNeg + 1), pc, h, sh, dn)
    else (r, c, s, o, t, pc, h, sh, dn)
def ms_perf (f : Nat → Int32) (tr : Int32 → Int32) (kd op n m bh : Int32) (x : mst) : Int32 × mst := match x with
  | (r, c, s, o, t, pc, h, sh, dn) =>
    if kd = 2 then (tr pc, (r, c, s, o, t, pc, h, sh, dn))
    else if kd = 3 then (if 0 < h then (s (h - 1).toNatClampNeg, (r, c, s, o, t, pc, h - 1, sh, dn)) else (-1, (r, c, s, o, t, pc, h, sh, dn)))
    else if kd = 12 then (if sh < 40 then (bh, (r, c, s, upd o sh.toNatClampNeg (r (sp_reg kd op).toNatClampNeg), t, pc, h, sh + 1, dn)) else (-1, (r, c, s, o, t, pc, h, sh, dn)))
    else if kd = 60 then (if r (sp_reg kd op).toNatClampNeg = 0 then sp_br (bh + n.toInt8.toInt32) else bh, (r, c, s, o, t, pc, h, sh, dn))
    else if kd = 64 then (if r (sp_reg kd op).toNatClampNeg < 0 then sp_br (bh + n.toInt8.toInt32) else bh, (r, c, s, o, t, pc, h, sh, dn))
    else if kd = 68 then (sp_br (bh + n.toInt8.toInt32), (r, c, s, o, t, pc, h, sh, dn))
    else if kd = 69 then (n, (r, c, s, o, t, pc, h, sh, dn))
    else if kd = 70 then (if h < 8 then (n, (r, c, upd s h.toNatClampNeg bh, o, t, pc, h + 1, sh, dn)) else (-1, (r, c, s, o, t, pc, h, sh, dn)))
    else if kd = 72 then (sp_look f n m (r (sp_reg kd op).toNatClampNeg), (r, c, s, o, t, pc, h, sh, dn))
    else if kd = 77 then (if h < 8 then (n, (r, c, upd s h.toNatClampNeg m, o, t, pc, h + 1, sh, dn)) else (-1, (r, c, s, o, t, pc, h, sh, dn)))
    else (bh, ms_calc kd op n (r, c, s, o, t, pc, h, sh, dn))
def ms_go (x : mst) (nx : Int32) : mst := match x with
  | (r, c, s, o, t, _, h, sh, dn) => (r, c, s, o, t, nx, h, sh, dn + 1)
def ms_pc (x : mst) : Int32 := x.2.2.2.2.2.1
def ms_1 (x : mst) : mst := match x with
  | (r, c, s, o, t, pc, h, sh, dn) => (r, c, s, o, t, pc, h, sh, dn + 1)
/-- one step: 0 goes on, 1 halted, 2 faulted -/
def ms_step (f : Nat → Int32) (tr : Int32 → Int32) (x : mst) : Int32 × mst :=
  if ¬ ms_pc x < 0 ∧ ms_pc x < 256 ∧ ¬ sp_kind (sp_at f (ms_pc x)) = -1 ∧ ms_pc x + sp_len (sp_kind (sp_at f (ms_pc x))) ≤ 256 then
    (if sp_kind (sp_at f (ms_pc x)) = 0 then (1, ms_1 x) else
      (if (ms_perf f tr (sp_kind (sp_at f (ms_pc x))) (sp_at f (ms_pc x)) (sp_at f (ms_pc x + 1)) (sp_at f (ms_pc x + 2)) (ms_pc x + sp_len (sp_kind (sp_at f (ms_pc x)))) x).1 = -1
        then (2, (ms_perf f tr (sp_kind (sp_at f (ms_pc x))) (sp_at f (ms_pc x)) (sp_at f (ms_pc x + 1)) (sp_at f (ms_pc x + 2)) (ms_pc x + sp_len (sp_kind (sp_at f (ms_pc x)))) x).2)
        else (0, ms_go (ms_perf f tr (sp_kind (sp_at f (ms_pc x))) (sp_at f (ms_pc x)) (sp_at f (ms_pc x + 1)) (sp_at f (ms_pc x + 2)) (ms_pc x + sp_len (sp_kind (sp_at f (ms_pc x)))) x).2 (ms_perf f tr (sp_kind (sp_at f (ms_pc x))) (sp_at f (ms_pc x)) (sp_at f (ms_pc x + 1)) (sp_at f (ms_pc x + 2)) (ms_pc x + sp_len (sp_kind (sp_at f (ms_pc x)))) x).1)))
  else (2, x)
def mvC (σ : ev_M) (τ : ev_L) : mst := (σ 25, σ 26, σ 27, σ 28, τ 29, σ 23 6, σ 23 7, σ 23 8, σ 23 9)
/-- nothing but the machine's cells has changed -/
def frC (σ σ' : ev_M) (τ τ' : ev_L) : Prop := (∀ k, k < 23 ∨ 29 < k → σ' k = σ k) ∧ ∀ k, ¬ k = 29 → τ' k = τ k
theorem frC_rf (σ : ev_M) (τ : ev_L) : frC σ σ τ τ := ⟨fun _ _ => rfl, fun _ _ => rfl⟩
theorem frC_tr {σ σ1 σ2 : ev_M} {τ τ1 τ2 : ev_L} (h1 : frC σ σ1 τ τ1) (h2 : frC σ1 σ2 τ1 τ2) : frC σ σ2 τ τ2 := ⟨fun k hk => (h2.1 k hk).trans (h1.1 k hk), fun k hk => (h2.2 k hk).trans (h1.2 k hk)⟩
theorem frC_u {σ : ev_M} {τ : ev_L} (k j : Nat) (x : Int32) (hk : 23 ≤ k ∧ k ≤ 29) : frC σ (ev_u σ k j x) τ τ := ⟨fun q hq => if_neg (by omega), fun _ _ => rfl⟩
theorem frC_w {σ : ev_M} {τ : ev_L} (j : Nat) (x : Int64) : frC σ σ τ (ev_w τ 29 j x) := ⟨fun _ _ => rfl, fun q hq => if_neg hq⟩
theorem sp_reg_in (k x : Int32) : vp_in (sp_reg k x) 4 := by
  unfold sp_reg
  split
  · exact pk_andIn _ 2 rfl (by decide)
  · exact pk_andIn _ 2 rfl (by decide)
def y_M_trap : MethodName := ⟨RX2, "trap", "(LBlockCounter$Program;)I"⟩
def ws_M_trap : List Cond := .code y_M_trap prog_4_method_17_code 3 (some .int) :: evW
theorem d_M_trap_0 : decode prog_4_method_17_code 0 = .ok (.aload_n 1, 1) := by decide +kernel
theorem d_M_trap_1 : decode prog_4_method_17_code 1 = .ok (.aload_n 0, 1) := by decide +kernel
theorem d_M_trap_2 : decode prog_4_method_17_code 2 = .ok (.getfield 42, 3) := by decide +kernel
theorem d_M_trap_5 : decode prog_4_method_17_code 5 = .ok (.invokevirtual 126, 3) := by decide +kernel
theorem d_M_trap_8 : decode prog_4_method_17_code 8 = .ok (.istore_n 2, 1) := by decide +kernel
theorem d_M_trap_9 : decode prog_4_method_17_code 9 = .ok (.iload_n 2, 1) := by decide +kernel
theorem d_M_trap_10 : decode prog_4_method_17_code 10 = .ok (.iconst (-1), 1) := by decide +kernel
theorem d_M_trap_11 : decode prog_4_method_17_code 11 = .ok (.if_icmp .ne 7, 3) := by decide +kernel
theorem d_M_trap_14 : decode prog_4_method_17_code 14 = .ok (.iconst (-1), 1) := by decide +kernel
theorem d_M_trap_15 : decode prog_4_method_17_code 15 = .ok (.goto 4, 3) := by decide +kernel
theorem d_M_trap_18 : decode prog_4_method_17_code 18 = .ok (.iload_n 2, 1) := by decide +kernel
theorem d_M_trap_19 : decode prog_4_method_17_code 19 = .ok (.ireturn, 1) := by decide +kernel
def I_M_trap (P : Int32 → ev_M → ev_L → Prop) : List (Nat × ev_T) := [(0, tt_al 1 1),
  (1, tt_al 0 2),
  (2, tt_gf evLY 2 6 5),
  (5, tt_cV evLY 3 1 ev_i pre_P_trapAt post_P_trapAt 8),
  (8, tt_is 2 9),
  (9, tt_il 2 10),
  (10, tt_k (-1) 11),
  (11, tt_icne 18 14),
  (14, tt_k (-1) 15),
  (15, tt_go 19),
  (18, tt_il 2 19),
  (19, tt_ri P)]
abbrev rm_M_trap : Room := { frames := 1, cells := 0, slots := 0, locals := 32 }
set_option maxRecDepth 20000 in
theorem ok_M_trap (l : Launch) (J : ev_K) (P : Int32 → ev_M → ev_L → Prop) (X : ev_X l rm_M_trap evLY evCl ws_M_trap prog_4_method_17_code 3 y_M_trap.cls J) (Z : ev_Z J prog_4_method_17_code .ireturn ev_i P) : ev_oks J (I_M_trap P) :=
  ⟨qq_aln X 1 rfl d_M_trap_0,
  qq_aln X 0 rfl d_M_trap_1,
  qq_gf X 2 6 rfl (fun w h => List.mem_cons_of_mem _ (inE_M w h)) (by decide) (List.mem_cons_of_mem _ mw_167) d_M_trap_2,
  qq_cV X 3 rfl (c_P_trapAt l) (fun hts => cwV 1 hts (evGV (mw_637) (mw_638) (mw_639) (mw_2) (mw_640)) rfl rfl rfl (by decide +kernel) ⟨Nat.le_of_ble_eq_true rfl, Nat.le_of_ble_eq_true rfl⟩) d_M_trap_5,
  qq_isn X 2 rfl (by decide) d_M_trap_8,
  qq_iln X 2 rfl d_M_trap_9,
  qq_ic X (-1) (by decide) d_M_trap_10,
  qq_icne X 18 (by decide) d_M_trap_11,
  qq_ic X (-1) (by decide) d_M_trap_14,
  qq_go X 19 (by decide) d_M_trap_15,
  qq_iln X 2 rfl d_M_trap_18,
  qq_ri Z d_M_trap_19, trivial⟩
def pre_M_trap : List Value → ev_M → ev_L → Prop := fun as σ τ => ∃ q : Nat, as = [.ref 23, .ref q] ∧ (q = 1 ∨ q = 20)
def post_M_trap : List Value → ev_M → ev_L → Int32 → ev_M → ev_L → Prop := fun as σ τ r σ' τ' => match as with
  | [_, .ref q] => r = sp_trap (σ (q + 2)) (σ 23 6) ∧ σ' = σ ∧ τ' = τ
  | _ => False
set_option maxHeartbeats 4000000 in
set_option maxRecDepth 100000 in
theorem c_M_trap (l : Launch) : ev_C ev_i l y_M_trap ws_M_trap rm_M_trap evLY evCl pre_M_trap post_M_trap := by
  refine ev_meth0 (by decide) rfl ev_rop_i ?_ I_M_trap (ok_M_trap l) 40 ?_
  · rintro _ σ τ ⟨q, rfl, hq⟩
    exact Nat.le_of_ble_eq_true rfl
  · rintro _ σ τ ⟨q, rfl, rfl | rfl⟩
    all_goals
      refine ⟨⟨_, _, rfl, by decide⟩, ?_⟩
      rintro _ σ τ ⟨rfl, rfl, rfl⟩
      refine br_n (fun h => ?_) (fun h => ?_)
      · exact ⟨rfl, rfl, rfl⟩
      · exact ⟨h.symm, rfl, rfl⟩
def y_M_branch : MethodName := ⟨RX2, "branch", "()I"⟩
def ws_M_branch : List Cond := .code y_M_branch prog_4_method_18_code 2 (some .int) :: evW
theorem d_M_branch_0 : decode prog_4_method_18_code 0 = .ok (.aload_n 0, 1) := by decide +kernel
theorem d_M_branch_1 : decode prog_4_method_18_code 1 = .ok (.getfield 12, 3) := by decide +kernel
theorem d_M_branch_4 : decode prog_4_method_18_code 4 = .ok (.invokevirtual 131, 3) := by decide +kernel
theorem d_M_branch_7 : decode prog_4_method_18_code 7 = .ok (.istore_n 1, 1) := by decide +kernel
theorem d_M_branch_8 : decode prog_4_method_18_code 8 = .ok (.iload_n 1, 1) := by decide +kernel
theorem d_M_branch_9 : decode prog_4_method_18_code 9 = .ok (.ifCond .lt 14, 3) := by decide +kernel
theorem d_M_branch_12 : decode prog_4_method_18_code 12 = .ok (.iload_n 1, 1) := by decide +kernel
theorem d_M_branch_13 : decode prog_4_method_18_code 13 = .ok (.sipush 256, 3) := by decide +kernel
theorem d_M_branch_16 : decode prog_4_method_18_code 16 = .ok (.if_icmp .ge 7, 3) := by decide +kernel
theorem d_M_branch_19 : decode prog_4_method_18_code 19 = .ok (.iload_n 1, 1) := by decide +kernel
theorem d_M_branch_20 : decode prog_4_method_18_code 20 = .ok (.goto 4, 3) := by decide +kernel
theorem d_M_branch_23 : decode prog_4_method_18_code 23 = .ok (.iconst (-1), 1) := by decide +kernel
theorem d_M_branch_24 : decode prog_4_method_18_code 24 = .ok (.ireturn, 1) := by decide +kernel
def I_M_branch (P : Int32 → ev_M → ev_L → Prop) : List (Nat × ev_T) := [(0, tt_al 0 1),
  (1, tt_gf evLY 2 0 4),
  (4, tt_cV evLY 1 0 ev_i pre_I_branchTarget post_I_branchTarget 7),
  (7, tt_is 1 8),
  (8, tt_il 1 9),
  (9, tt_iflt 23 12),
  (12, tt_il 1 13),
  (13, tt_k 256 16),
  (16, tt_icge 23 19),
  (19, tt_il 1 20),
  (20, tt_go 24),
  (23, tt_k (-1) 24),
  (24, tt_ri P)]
abbrev rm_M_branch : Room := { frames := 3, cells := 0, slots := 0, locals := 96 }
set_option maxRecDepth 20000 in
theorem ok_M_branch (l : Launch) (J : ev_K) (P : Int32 → ev_M → ev_L → Prop) (X : ev_X l rm_M_branch evLY evCl ws_M_branch prog_4_method_18_code 2 y_M_branch.cls J) (Z : ev_Z J prog_4_method_18_code .ireturn ev_i P) : ev_oks J (I_M_branch P) :=
  ⟨qq_aln X 0 rfl d_M_branch_0,
  qq_gf X 2 0 rfl (fun w h => List.mem_cons_of_mem _ (inE_M w h)) (by decide) (List.mem_cons_of_mem _ mw_161) d_M_branch_1,
  qq_cV X 1 rfl (c_I_branchTarget l) (fun hts => cwV 0 hts (evGV (mw_649) (mw_443) (mw_444) (mw_5) (mw_445)) rfl rfl rfl (by decide +kernel) ⟨Nat.le_of_ble_eq_true rfl, Nat.le_of_ble_eq_true rfl⟩) d_M_branch_4,
  qq_isn X 1 rfl (by decide) d_M_branch_7,
  qq_iln X 1 rfl d_M_branch_8,
  qq_iflt X 23 (by decide) d_M_branch_9,
  qq_iln X 1 rfl d_M_branch_12,
  qq_sp X 256 (by decide) d_M_branch_13,
  qq_icge X 23 (by decide) d_M_branch_16,
  qq_iln X 1 rfl d_M_branch_19,
  qq_go X 24 (by decide) d_M_branch_20,
  qq_ic X (-1) (by decide) d_M_branch_23,
  qq_ri Z d_M_branch_24, trivial⟩
def pre_M_branch : List Value → ev_M → ev_L → Prop := fun as σ τ => as = [.ref 23]
def post_M_branch : List Value → ev_M → ev_L → Int32 → ev_M → ev_L → Prop := fun as σ τ r σ' τ' => r = sp_br (σ 24 0 + sp_len (σ 24 2) + (σ 24 3).toInt8.toInt32) ∧ σ' = σ ∧ τ' = τ
set_option maxHeartbeats 4000000 in
set_option maxRecDepth 100000 in
theorem c_M_branch (l : Launch) : ev_C ev_i l y_M_branch ws_M_branch rm_M_branch evLY evCl pre_M_branch post_M_branch := by
  refine ev_meth0 (by decide) rfl ev_rop_i ?_ I_M_branch (ok_M_branch l) 40 ?_
  · rintro _ σ τ rfl
    exact Nat.le_of_ble_eq_true rfl
  · rintro _ σ τ rfl
    refine ⟨⟨_, rfl, by decide⟩, ?_⟩
    rintro _ σ τ ⟨rfl, rfl, rfl⟩
    refine br_c (fun h => ?_) (fun h => br_c (fun h2 => ?_) (fun h2 => ?_))
    · exact ⟨(if_neg fun q => absurd (Int32.not_lt.mpr q.1) (fun w => w h)).symm, rfl, rfl⟩
    · exact ⟨(if_neg fun q => absurd (Int32.not_le.mpr q.2) (fun w => w h2)).symm, rfl, rfl⟩
    · exact ⟨(if_pos ⟨Int32.not_lt.mp h, Int32.not_le.mp h2⟩).symm, rfl, rfl⟩
def y_M_lookUp : MethodName := ⟨RX2, "lookUp", "(LBlockCounter$Program;I)I"⟩
def ws_M_lookUp : List Cond := .code y_M_lookUp prog_4_method_19_code 4 (some .int) :: evW
theorem d_M_lookUp_0 : decode prog_4_method_19_code 0 = .ok (.aload_n 0, 1) := by decide +kernel
theorem d_M_lookUp_1 : decode prog_4_method_19_code 1 = .ok (.getfield 12, 3) := by decide +kernel
theorem d_M_lookUp_4 : decode prog_4_method_19_code 4 = .ok (.getfield 110, 3) := by decide +kernel
theorem d_M_lookUp_7 : decode prog_4_method_19_code 7 = .ok (.ifCond .ne 5, 3) := by decide +kernel
theorem d_M_lookUp_10 : decode prog_4_method_19_code 10 = .ok (.iconst (-1), 1) := by decide +kernel
theorem d_M_lookUp_11 : decode prog_4_method_19_code 11 = .ok (.ireturn, 1) := by decide +kernel
theorem d_M_lookUp_12 : decode prog_4_method_19_code 12 = .ok (.aload_n 0, 1) := by decide +kernel
theorem d_M_lookUp_13 : decode prog_4_method_19_code 13 = .ok (.getfield 12, 3) := by decide +kernel
theorem d_M_lookUp_16 : decode prog_4_method_19_code 16 = .ok (.getfield 103, 3) := by decide +kernel
theorem d_M_lookUp_19 : decode prog_4_method_19_code 19 = .ok (.iload_n 2, 1) := by decide +kernel
theorem d_M_lookUp_20 : decode prog_4_method_19_code 20 = .ok (.aload_n 0, 1) := by decide +kernel
theorem d_M_lookUp_21 : decode prog_4_method_19_code 21 = .ok (.getfield 12, 3) := by decide +kernel
theorem d_M_lookUp_24 : decode prog_4_method_19_code 24 = .ok (.getfield 110, 3) := by decide +kernel
theorem d_M_lookUp_27 : decode prog_4_method_19_code 27 = .ok (.invokestatic 134, 3) := by decide +kernel
theorem d_M_lookUp_30 : decode prog_4_method_19_code 30 = .ok (.iadd, 1) := by decide +kernel
theorem d_M_lookUp_31 : decode prog_4_method_19_code 31 = .ok (.istore_n 3, 1) := by decide +kernel
theorem d_M_lookUp_32 : decode prog_4_method_19_code 32 = .ok (.iload_n 3, 1) := by decide +kernel
theorem d_M_lookUp_33 : decode prog_4_method_19_code 33 = .ok (.sipush 256, 3) := by decide +kernel
theorem d_M_lookUp_36 : decode prog_4_method_19_code 36 = .ok (.if_icmp .ge 11, 3) := by decide +kernel
theorem d_M_lookUp_39 : decode prog_4_method_19_code 39 = .ok (.aload_n 1, 1) := by decide +kernel
theorem d_M_lookUp_40 : decode prog_4_method_19_code 40 = .ok (.iload_n 3, 1) := by decide +kernel
theorem d_M_lookUp_41 : decode prog_4_method_19_code 41 = .ok (.invokevirtual 140, 3) := by decide +kernel
theorem d_M_lookUp_44 : decode prog_4_method_19_code 44 = .ok (.goto 4, 3) := by decide +kernel
theorem d_M_lookUp_47 : decode prog_4_method_19_code 47 = .ok (.iconst (-1), 1) := by decide +kernel
theorem d_M_lookUp_48 : decode prog_4_method_19_code 48 = .ok (.ireturn, 1) := by decide +kernel
def I_M_lookUp (P : Int32 → ev_M → ev_L → Prop) : List (Nat × ev_T) := [(0, tt_al 0 1),
  (1, tt_gf evLY 2 0 4),
  (4, tt_gf evLY 1 4 7),
  (7, tt_ifne 12 10),
  (10, tt_k (-1) 11),
  (11, tt_ri P),
  (12, tt_al 0 13),
  (13, tt_gf evLY 2 0 16),
  (16, tt_gf evLY 1 3 19),
  (19, tt_il 2 20),
  (20, tt_al 0 21),
  (21, tt_gf evLY 2 0 24),
  (24, tt_gf evLY 1 4 27),
  (27, tt_cS 2 ev_i pre_JM_floorMod post_JM_floorMod 30),
  (30, tt_iadd 31),
  (31, tt_is 3 32),
  (32, tt_il 3 33),
  (33, tt_k 256 36),
  (36, tt_icge 47 39),
  (39, tt_al 1 40),
  (40, tt_il 3 41),
  (41, tt_cV evLY 3 1 ev_i pre_P_at post_P_at 44),
  (44, tt_go 48),
  (47, tt_k (-1) 48),
  (48, tt_ri P)]
abbrev rm_M_lookUp : Room := { frames := 1, cells := 0, slots := 0, locals := 32 }
set_option maxRecDepth 20000 in
theorem ok_M_lookUp (l : Launch) (J : ev_K) (P : Int32 → ev_M → ev_L → Prop) (X : ev_X l rm_M_lookUp evLY evCl ws_M_lookUp prog_4_method_19_code 4 y_M_lookUp.cls J) (Z : ev_Z J prog_4_method_19_code .ireturn ev_i P) : ev_oks J (I_M_lookUp P) :=
  ⟨qq_aln X 0 rfl d_M_lookUp_0,
  qq_gf X 2 0 rfl (fun w h => List.mem_cons_of_mem _ (inE_M w h)) (by decide) (List.mem_cons_of_mem _ mw_161) d_M_lookUp_1,
  qq_gf X 1 4 rfl (fun w h => List.mem_cons_of_mem _ (inE_I w h)) (by decide) (List.mem_cons_of_mem _ mw_82) d_M_lookUp_4,
  qq_ifne X 12 (by decide) d_M_lookUp_7,
  qq_ic X (-1) (by decide) d_M_lookUp_10,
  qq_ri Z d_M_lookUp_11,
  qq_aln X 0 rfl d_M_lookUp_12,
  qq_gf X 2 0 rfl (fun w h => List.mem_cons_of_mem _ (inE_M w h)) (by decide) (List.mem_cons_of_mem _ mw_161) d_M_lookUp_13,
  qq_gf X 1 3 rfl (fun w h => List.mem_cons_of_mem _ (inE_I w h)) (by decide) (List.mem_cons_of_mem _ mw_79) d_M_lookUp_16,
  qq_iln X 2 rfl d_M_lookUp_19,
  qq_aln X 0 rfl d_M_lookUp_20,
  qq_gf X 2 0 rfl (fun w h => List.mem_cons_of_mem _ (inE_M w h)) (by decide) (List.mem_cons_of_mem _ mw_161) d_M_lookUp_21,
  qq_gf X 1 4 rfl (fun w h => List.mem_cons_of_mem _ (inE_I w h)) (by decide) (List.mem_cons_of_mem _ mw_82) d_M_lookUp_24,
  qq_cS X (c_JM_floorMod l) (fun hts => va_cwS 2 hts (evGS (mw_659) (mw_660) (mw_18) (mw_661)) rfl rfl rfl (by decide +kernel) ⟨Nat.le_of_ble_eq_true rfl, Nat.le_of_ble_eq_true rfl⟩) d_M_lookUp_27,
  qq_iadd X d_M_lookUp_30,
  qq_isn X 3 rfl (by decide) d_M_lookUp_31,
  qq_iln X 3 rfl d_M_lookUp_32,
  qq_sp X 256 (by decide) d_M_lookUp_33,
  qq_icge X 47 (by decide) d_M_lookUp_36,
  qq_aln X 1 rfl d_M_lookUp_39,
  qq_iln X 3 rfl d_M_lookUp_40,
  qq_cV X 3 rfl (c_P_at l) (fun hts => cwV 1 hts (evGV (mw_662) (mw_423) (mw_424) (mw_2) (mw_425)) rfl rfl rfl (by decide +kernel) ⟨Nat.le_of_ble_eq_true rfl, Nat.le_of_ble_eq_true rfl⟩) d_M_lookUp_41,
  qq_go X 48 (by decide) d_M_lookUp_44,
  qq_ic X (-1) (by decide) d_M_lookUp_47,
  qq_ri Z d_M_lookUp_48, trivial⟩
def pre_M_lookUp : List Value → ev_M → ev_L → Prop := fun as σ τ => ∃ (q : Nat) (v : Int32), as = [.ref 23, .ref q, .int v] ∧ (q = 1 ∨ q = 20)
def post_M_lookUp : List Value → ev_M → ev_L → Int32 → ev_M → ev_L → Prop := fun as σ τ r σ' τ' => match as with
  | [_, .ref q, .int v] => r = sp_look (σ (q + 1)) (σ 24 3) (σ 24 4) v ∧ σ' = σ ∧ τ' = τ
  | _ => False
set_option maxHeartbeats 4000000 in
set_option maxRecDepth 100000 in
theorem c_M_lookUp (l : Launch) : ev_C ev_i l y_M_lookUp ws_M_lookUp rm_M_lookUp evLY evCl pre_M_lookUp post_M_lookUp := by
  refine ev_meth0 (by decide) rfl ev_rop_i ?_ I_M_lookUp (ok_M_lookUp l) 60 ?_
  · rintro _ σ τ ⟨q, v, rfl, hq⟩
    exact Nat.le_of_ble_eq_true rfl
  · rintro _ σ τ ⟨q, v, rfl, rfl | rfl⟩
    all_goals
      refine br_n (fun h => ?_) (fun h => ?_)
      · refine ⟨⟨_, _, rfl, h⟩, ?_⟩
        rintro _ σ τ ⟨rfl, rfl, rfl⟩
        refine br_c (fun h2 => ?_) (fun h2 => ?_)
        · refine ⟨?_, rfl, rfl⟩
          unfold sp_look
          rw [if_neg h, if_neg (Int32.not_lt.mpr h2)]
        · refine ⟨⟨_, _, rfl, by decide⟩, ?_⟩
          rintro _ σ τ ⟨rfl, rfl, rfl⟩
          refine ⟨?_, rfl, rfl⟩
          unfold sp_look
          rw [if_neg h, if_pos (Int32.not_le.mp h2)]
      · exact ⟨(if_pos h).symm, rfl, rfl⟩
def y_M_calculate : MethodName := ⟨RX2, "calculate", "()V"⟩
def ws_M_calculate : List Cond := .code y_M_calculate prog_4_method_15_code 2 none :: evW
theorem d_M_calculate_0 : decode prog_4_method_15_code 0 = .ok (.aload_n 0, 1) := by decide +kernel
theorem d_M_calculate_1 : decode prog_4_method_15_code 1 = .ok (.getfield 12, 3) := by decide +kernel
theorem d_M_calculate_4 : decode prog_4_method_15_code 4 = .ok (.invokevirtual 87, 3) := by decide +kernel
theorem d_M_calculate_7 : decode prog_4_method_15_code 7 = .ok (.istore_n 1, 1) := by decide +kernel
theorem d_M_calculate_8 : decode prog_4_method_15_code 8 = .ok (.aload_n 0, 1) := by decide +kernel
theorem d_M_calculate_9 : decode prog_4_method_15_code 9 = .ok (.getfield 12, 3) := by decide +kernel
theorem d_M_calculate_12 : decode prog_4_method_15_code 12 = .ok (.getfield 81, 3) := by decide +kernel
theorem d_M_calculate_15 : decode prog_4_method_15_code 15 = .ok (.lookupswitch 234 #[(1, 234), (4, 81), (8, 94), (16, 107), (32, 131), (48, 155), (52, 172), (56, 196), (76, 220)], 81) := by decide +kernel
theorem d_M_calculate_96 : decode prog_4_method_15_code 96 = .ok (.aload_n 0, 1) := by decide +kernel
theorem d_M_calculate_97 : decode prog_4_method_15_code 97 = .ok (.getfield 18, 3) := by decide +kernel
theorem d_M_calculate_100 : decode prog_4_method_15_code 100 = .ok (.iload_n 1, 1) := by decide +kernel
theorem d_M_calculate_101 : decode prog_4_method_15_code 101 = .ok (.dup2, 1) := by decide +kernel
theorem d_M_calculate_102 : decode prog_4_method_15_code 102 = .ok (.iaload, 1) := by decide +kernel
theorem d_M_calculate_103 : decode prog_4_method_15_code 103 = .ok (.iconst 1, 1) := by decide +kernel
theorem d_M_calculate_104 : decode prog_4_method_15_code 104 = .ok (.iadd, 1) := by decide +kernel
theorem d_M_calculate_105 : decode prog_4_method_15_code 105 = .ok (.iastore, 1) := by decide +kernel
theorem d_M_calculate_106 : decode prog_4_method_15_code 106 = .ok (.goto 143, 3) := by decide +kernel
theorem d_M_calculate_109 : decode prog_4_method_15_code 109 = .ok (.aload_n 0, 1) := by decide +kernel
theorem d_M_calculate_110 : decode prog_4_method_15_code 110 = .ok (.getfield 18, 3) := by decide +kernel
theorem d_M_calculate_113 : decode prog_4_method_15_code 113 = .ok (.iload_n 1, 1) := by decide +kernel
theorem d_M_calculate_114 : decode prog_4_method_15_code 114 = .ok (.dup2, 1) := by decide +kernel
theorem d_M_calculate_115 : decode prog_4_method_15_code 115 = .ok (.iaload, 1) := by decide +kernel
theorem d_M_calculate_116 : decode prog_4_method_15_code 116 = .ok (.iconst 1, 1) := by decide +kernel
theorem d_M_calculate_117 : decode prog_4_method_15_code 117 = .ok (.isub, 1) := by decide +kernel
theorem d_M_calculate_118 : decode prog_4_method_15_code 118 = .ok (.iastore, 1) := by decide +kernel
theorem d_M_calculate_119 : decode prog_4_method_15_code 119 = .ok (.goto 130, 3) := by decide +kernel
theorem d_M_calculate_122 : decode prog_4_method_15_code 122 = .ok (.aload_n 0, 1) := by decide +kernel
theorem d_M_calculate_123 : decode prog_4_method_15_code 123 = .ok (.getfield 18, 3) := by decide +kernel
theorem d_M_calculate_126 : decode prog_4_method_15_code 126 = .ok (.iload_n 1, 1) := by decide +kernel
theorem d_M_calculate_127 : decode prog_4_method_15_code 127 = .ok (.dup2, 1) := by decide +kernel
theorem d_M_calculate_128 : decode prog_4_method_15_code 128 = .ok (.iaload, 1) := by decide +kernel
theorem d_M_calculate_129 : decode prog_4_method_15_code 129 = .ok (.aload_n 0, 1) := by decide +kernel
theorem d_M_calculate_130 : decode prog_4_method_15_code 130 = .ok (.getfield 18, 3) := by decide +kernel
theorem d_M_calculate_133 : decode prog_4_method_15_code 133 = .ok (.aload_n 0, 1) := by decide +kernel
theorem d_M_calculate_134 : decode prog_4_method_15_code 134 = .ok (.getfield 12, 3) := by decide +kernel
theorem d_M_calculate_137 : decode prog_4_method_15_code 137 = .ok (.invokevirtual 123, 3) := by decide +kernel
theorem d_M_calculate_140 : decode prog_4_method_15_code 140 = .ok (.iaload, 1) := by decide +kernel
theorem d_M_calculate_141 : decode prog_4_method_15_code 141 = .ok (.iadd, 1) := by decide +kernel
theorem d_M_calculate_142 : decode prog_4_method_15_code 142 = .ok (.iastore, 1) := by decide +kernel
theorem d_M_calculate_143 : decode prog_4_method_15_code 143 = .ok (.goto 106, 3) := by decide +kernel
theorem d_M_calculate_146 : decode prog_4_method_15_code 146 = .ok (.aload_n 0, 1) := by decide +kernel
theorem d_M_calculate_147 : decode prog_4_method_15_code 147 = .ok (.getfield 18, 3) := by decide +kernel
theorem d_M_calculate_150 : decode prog_4_method_15_code 150 = .ok (.iload_n 1, 1) := by decide +kernel
theorem d_M_calculate_151 : decode prog_4_method_15_code 151 = .ok (.dup2, 1) := by decide +kernel
theorem d_M_calculate_152 : decode prog_4_method_15_code 152 = .ok (.iaload, 1) := by decide +kernel
theorem d_M_calculate_153 : decode prog_4_method_15_code 153 = .ok (.aload_n 0, 1) := by decide +kernel
theorem d_M_calculate_154 : decode prog_4_method_15_code 154 = .ok (.getfield 18, 3) := by decide +kernel
theorem d_M_calculate_157 : decode prog_4_method_15_code 157 = .ok (.aload_n 0, 1) := by decide +kernel
theorem d_M_calculate_158 : decode prog_4_method_15_code 158 = .ok (.getfield 12, 3) := by decide +kernel
theorem d_M_calculate_161 : decode prog_4_method_15_code 161 = .ok (.invokevirtual 123, 3) := by decide +kernel
theorem d_M_calculate_164 : decode prog_4_method_15_code 164 = .ok (.iaload, 1) := by decide +kernel
theorem d_M_calculate_165 : decode prog_4_method_15_code 165 = .ok (.isub, 1) := by decide +kernel
theorem d_M_calculate_166 : decode prog_4_method_15_code 166 = .ok (.iastore, 1) := by decide +kernel
theorem d_M_calculate_167 : decode prog_4_method_15_code 167 = .ok (.goto 82, 3) := by decide +kernel
theorem d_M_calculate_170 : decode prog_4_method_15_code 170 = .ok (.aload_n 0, 1) := by decide +kernel
theorem d_M_calculate_171 : decode prog_4_method_15_code 171 = .ok (.getfield 18, 3) := by decide +kernel
theorem d_M_calculate_174 : decode prog_4_method_15_code 174 = .ok (.iload_n 1, 1) := by decide +kernel
theorem d_M_calculate_175 : decode prog_4_method_15_code 175 = .ok (.aload_n 0, 1) := by decide +kernel
theorem d_M_calculate_176 : decode prog_4_method_15_code 176 = .ok (.getfield 12, 3) := by decide +kernel
theorem d_M_calculate_179 : decode prog_4_method_15_code 179 = .ok (.getfield 103, 3) := by decide +kernel
theorem d_M_calculate_182 : decode prog_4_method_15_code 182 = .ok (.i2b, 1) := by decide +kernel
theorem d_M_calculate_183 : decode prog_4_method_15_code 183 = .ok (.iastore, 1) := by decide +kernel
theorem d_M_calculate_184 : decode prog_4_method_15_code 184 = .ok (.goto 65, 3) := by decide +kernel
theorem d_M_calculate_187 : decode prog_4_method_15_code 187 = .ok (.aload_n 0, 1) := by decide +kernel
theorem d_M_calculate_188 : decode prog_4_method_15_code 188 = .ok (.getfield 18, 3) := by decide +kernel
theorem d_M_calculate_191 : decode prog_4_method_15_code 191 = .ok (.iload_n 1, 1) := by decide +kernel
theorem d_M_calculate_192 : decode prog_4_method_15_code 192 = .ok (.aload_n 0, 1) := by decide +kernel
theorem d_M_calculate_193 : decode prog_4_method_15_code 193 = .ok (.getfield 22, 3) := by decide +kernel
theorem d_M_calculate_196 : decode prog_4_method_15_code 196 = .ok (.aload_n 0, 1) := by decide +kernel
theorem d_M_calculate_197 : decode prog_4_method_15_code 197 = .ok (.getfield 12, 3) := by decide +kernel
theorem d_M_calculate_200 : decode prog_4_method_15_code 200 = .ok (.getfield 103, 3) := by decide +kernel
theorem d_M_calculate_203 : decode prog_4_method_15_code 203 = .ok (.bipush 15, 2) := by decide +kernel
theorem d_M_calculate_205 : decode prog_4_method_15_code 205 = .ok (.iand, 1) := by decide +kernel
theorem d_M_calculate_206 : decode prog_4_method_15_code 206 = .ok (.iaload, 1) := by decide +kernel
theorem d_M_calculate_207 : decode prog_4_method_15_code 207 = .ok (.iastore, 1) := by decide +kernel
theorem d_M_calculate_208 : decode prog_4_method_15_code 208 = .ok (.goto 41, 3) := by decide +kernel
theorem d_M_calculate_211 : decode prog_4_method_15_code 211 = .ok (.aload_n 0, 1) := by decide +kernel
theorem d_M_calculate_212 : decode prog_4_method_15_code 212 = .ok (.getfield 22, 3) := by decide +kernel
theorem d_M_calculate_215 : decode prog_4_method_15_code 215 = .ok (.aload_n 0, 1) := by decide +kernel
theorem d_M_calculate_216 : decode prog_4_method_15_code 216 = .ok (.getfield 12, 3) := by decide +kernel
theorem d_M_calculate_219 : decode prog_4_method_15_code 219 = .ok (.getfield 103, 3) := by decide +kernel
theorem d_M_calculate_222 : decode prog_4_method_15_code 222 = .ok (.bipush 15, 2) := by decide +kernel
theorem d_M_calculate_224 : decode prog_4_method_15_code 224 = .ok (.iand, 1) := by decide +kernel
theorem d_M_calculate_225 : decode prog_4_method_15_code 225 = .ok (.aload_n 0, 1) := by decide +kernel
theorem d_M_calculate_226 : decode prog_4_method_15_code 226 = .ok (.getfield 18, 3) := by decide +kernel
theorem d_M_calculate_229 : decode prog_4_method_15_code 229 = .ok (.iload_n 1, 1) := by decide +kernel
theorem d_M_calculate_230 : decode prog_4_method_15_code 230 = .ok (.iaload, 1) := by decide +kernel
theorem d_M_calculate_231 : decode prog_4_method_15_code 231 = .ok (.iastore, 1) := by decide +kernel
theorem d_M_calculate_232 : decode prog_4_method_15_code 232 = .ok (.goto 17, 3) := by decide +kernel
theorem d_M_calculate_235 : decode prog_4_method_15_code 235 = .ok (.aload_n 0, 1) := by decide +kernel
theorem d_M_calculate_236 : decode prog_4_method_15_code 236 = .ok (.aload_n 0, 1) := by decide +kernel
theorem d_M_calculate_237 : decode prog_4_method_15_code 237 = .ok (.getfield 12, 3) := by decide +kernel
theorem d_M_calculate_240 : decode prog_4_method_15_code 240 = .ok (.getfield 103, 3) := by decide +kernel
theorem d_M_calculate_243 : decode prog_4_method_15_code 243 = .ok (.invokevirtual 73, 3) := by decide +kernel
theorem d_M_calculate_246 : decode prog_4_method_15_code 246 = .ok (.goto 3, 3) := by decide +kernel
theorem d_M_calculate_249 : decode prog_4_method_15_code 249 = .ok (.return_, 1) := by decide +kernel
def I_M_calculate (P : Unit → ev_M → ev_L → Prop) : List (Nat × ev_T) := [(0, tt_al 0 1),
  (1, tt_gf evLY 2 0 4),
  (4, tt_cV evLY 1 0 ev_i pre_I_registerNumber post_I_registerNumber 7),
  (7, tt_is 1 8),
  (8, tt_al 0 9),
  (9, tt_gf evLY 2 0 12),
  (12, tt_gf evLY 1 2 15),
  (15, tt_sw [(1, 249), (4, 96), (8, 109), (16, 122), (32, 146), (48, 170), (52, 187), (56, 211), (76, 235)] 249),
  (96, tt_al 0 97),
  (97, tt_gf evLY 2 1 100),
  (100, tt_il 1 101),
  (101, tt_dup2 102),
  (102, tt_ia evLY 103),
  (103, tt_k 1 104),
  (104, tt_iadd 105),
  (105, tt_ias evLY 106),
  (106, tt_go 249),
  (109, tt_al 0 110),
  (110, tt_gf evLY 2 1 113),
  (113, tt_il 1 114),
  (114, tt_dup2 115),
  (115, tt_ia evLY 116),
  (116, tt_k 1 117),
  (117, tt_isub 118),
  (118, tt_ias evLY 119),
  (119, tt_go 249),
  (122, tt_al 0 123),
  (123, tt_gf evLY 2 1 126),
  (126, tt_il 1 127),
  (127, tt_dup2 128),
  (128, tt_ia evLY 129),
  (129, tt_al 0 130),
  (130, tt_gf evLY 2 1 133),
  (133, tt_al 0 134),
  (134, tt_gf evLY 2 0 137),
  (137, tt_cV evLY 1 0 ev_i pre_I_otherRegister post_I_otherRegister 140),
  (140, tt_ia evLY 141),
  (141, tt_iadd 142),
  (142, tt_ias evLY 143),
  (143, tt_go 249),
  (146, tt_al 0 147),
  (147, tt_gf evLY 2 1 150),
  (150, tt_il 1 151),
  (151, tt_dup2 152),
  (152, tt_ia evLY 153),
  (153, tt_al 0 154),
  (154, tt_gf evLY 2 1 157),
  (157, tt_al 0 158),
  (158, tt_gf evLY 2 0 161),
  (161, tt_cV evLY 1 0 ev_i pre_I_otherRegister post_I_otherRegister 164),
  (164, tt_ia evLY 165),
  (165, tt_isub 166),
  (166, tt_ias evLY 167),
  (167, tt_go 249),
  (170, tt_al 0 171),
  (171, tt_gf evLY 2 1 174),
  (174, tt_il 1 175),
  (175, tt_al 0 176),
  (176, tt_gf evLY 2 0 179),
  (179, tt_gf evLY 1 3 182),
  (182, tt_i2b 183),
  (183, tt_ias evLY 184),
  (184, tt_go 249),
  (187, tt_al 0 188),
  (188, tt_gf evLY 2 1 191),
  (191, tt_il 1 192),
  (192, tt_al 0 193),
  (193, tt_gf evLY 2 2 196),
  (196, tt_al 0 197),
  (197, tt_gf evLY 2 0 200),
  (200, tt_gf evLY 1 3 203),
  (203, tt_k 15 205),
  (205, tt_iand 206),
  (206, tt_ia evLY 207),
  (207, tt_ias evLY 208),
  (208, tt_go 249),
  (211, tt_al 0 212),
  (212, tt_gf evLY 2 2 215),
  (215, tt_al 0 216),
  (216, tt_gf evLY 2 0 219),
  (219, tt_gf evLY 1 3 222),
  (222, tt_k 15 224),
  (224, tt_iand 225),
  (225, tt_al 0 226),
  (226, tt_gf evLY 2 1 229),
  (229, tt_il 1 230),
  (230, tt_ia evLY 231),
  (231, tt_ias evLY 232),
  (232, tt_go 249),
  (235, tt_al 0 236),
  (236, tt_al 0 237),
  (237, tt_gf evLY 2 0 240),
  (240, tt_gf evLY 1 3 243),
  (243, tt_cV evLY 2 1 ev_n pre_M_grow post_M_grow 246),
  (246, tt_go 249),
  (249, tt_rv P)]
abbrev rm_M_calculate : Room := { frames := 1, cells := 0, slots := 0, locals := 32 }
set_option maxRecDepth 20000 in
theorem ok_M_calculate (l : Launch) (J : ev_K) (P : Unit → ev_M → ev_L → Prop) (X : ev_X l rm_M_calculate evLY evCl ws_M_calculate prog_4_method_15_code 2 y_M_calculate.cls J) (Z : ev_Z J prog_4_method_15_code .return_ ev_n P) : ev_oks J (I_M_calculate P) :=
  ⟨qq_aln X 0 rfl d_M_calculate_0,
  qq_gf X 2 0 rfl (fun w h => List.mem_cons_of_mem _ (inE_M w h)) (by decide) (List.mem_cons_of_mem _ mw_161) d_M_calculate_1,
  qq_cV X 1 rfl (c_I_registerNumber l) (fun hts => cwV 0 hts (evGV (mw_629) (mw_630) (mw_631) (mw_5) (mw_632)) rfl rfl rfl (by decide +kernel) ⟨Nat.le_of_ble_eq_true rfl, Nat.le_of_ble_eq_true rfl⟩) d_M_calculate_4,
  qq_isn X 1 rfl (by decide) d_M_calculate_7,
  qq_aln X 0 rfl d_M_calculate_8,
  qq_gf X 2 0 rfl (fun w h => List.mem_cons_of_mem _ (inE_M w h)) (by decide) (List.mem_cons_of_mem _ mw_161) d_M_calculate_9,
  qq_gf X 1 2 rfl (fun w h => List.mem_cons_of_mem _ (inE_I w h)) (by decide) (List.mem_cons_of_mem _ mw_74) d_M_calculate_12,
  qq_lsw X [(1, 249), (4, 96), (8, 109), (16, 122), (32, 146), (48, 170), (52, 187), (56, 211), (76, 235)] 249 (by decide) (by simp [ev_swOk]) d_M_calculate_15,
  qq_aln X 0 rfl d_M_calculate_96,
  qq_gf X 2 1 rfl (fun w h => List.mem_cons_of_mem _ (inE_M w h)) (by decide) (List.mem_cons_of_mem _ mw_162) d_M_calculate_97,
  qq_iln X 1 rfl d_M_calculate_100,
  qq_dup2 X d_M_calculate_101,
  qq_ia X d_M_calculate_102,
  qq_ic X 1 (by decide) d_M_calculate_103,
  qq_iadd X d_M_calculate_104,
  qq_ias X d_M_calculate_105,
  qq_go X 249 (by decide) d_M_calculate_106,
  qq_aln X 0 rfl d_M_calculate_109,
  qq_gf X 2 1 rfl (fun w h => List.mem_cons_of_mem _ (inE_M w h)) (by decide) (List.mem_cons_of_mem _ mw_162) d_M_calculate_110,
  qq_iln X 1 rfl d_M_calculate_113,
  qq_dup2 X d_M_calculate_114,
  qq_ia X d_M_calculate_115,
  qq_ic X 1 (by decide) d_M_calculate_116,
  qq_isub X d_M_calculate_117,
  qq_ias X d_M_calculate_118,
  qq_go X 249 (by decide) d_M_calculate_119,
  qq_aln X 0 rfl d_M_calculate_122,
  qq_gf X 2 1 rfl (fun w h => List.mem_cons_of_mem _ (inE_M w h)) (by decide) (List.mem_cons_of_mem _ mw_162) d_M_calculate_123,
  qq_iln X 1 rfl d_M_calculate_126,
  qq_dup2 X d_M_calculate_127,
  qq_ia X d_M_calculate_128,
  qq_aln X 0 rfl d_M_calculate_129,
  qq_gf X 2 1 rfl (fun w h => List.mem_cons_of_mem _ (inE_M w h)) (by decide) (List.mem_cons_of_mem _ mw_162) d_M_calculate_130,
  qq_aln X 0 rfl d_M_calculate_133,
  qq_gf X 2 0 rfl (fun w h => List.mem_cons_of_mem _ (inE_M w h)) (by decide) (List.mem_cons_of_mem _ mw_161) d_M_calculate_134,
  qq_cV X 1 rfl (c_I_otherRegister l) (fun hts => cwV 0 hts (evGV (mw_671) (mw_672) (mw_673) (mw_5) (mw_674)) rfl rfl rfl (by decide +kernel) ⟨Nat.le_of_ble_eq_true rfl, Nat.le_of_ble_eq_true rfl⟩) d_M_calculate_137,
  qq_ia X d_M_calculate_140,
  qq_iadd X d_M_calculate_141,
  qq_ias X d_M_calculate_142,
  qq_go X 249 (by decide) d_M_calculate_143,
  qq_aln X 0 rfl d_M_calculate_146,
  qq_gf X 2 1 rfl (fun w h => List.mem_cons_of_mem _ (inE_M w h)) (by decide) (List.mem_cons_of_mem _ mw_162) d_M_calculate_147,
  qq_iln X 1 rfl d_M_calculate_150,
  qq_dup2 X d_M_calculate_151,
  qq_ia X d_M_calculate_152,
  qq_aln X 0 rfl d_M_calculate_153,
  qq_gf X 2 1 rfl (fun w h => List.mem_cons_of_mem _ (inE_M w h)) (by decide) (List.mem_cons_of_mem _ mw_162) d_M_calculate_154,
  qq_aln X 0 rfl d_M_calculate_157,
  qq_gf X 2 0 rfl (fun w h => List.mem_cons_of_mem _ (inE_M w h)) (by decide) (List.mem_cons_of_mem _ mw_161) d_M_calculate_158,
  qq_cV X 1 rfl (c_I_otherRegister l) (fun hts => cwV 0 hts (evGV (mw_671) (mw_672) (mw_673) (mw_5) (mw_674)) rfl rfl rfl (by decide +kernel) ⟨Nat.le_of_ble_eq_true rfl, Nat.le_of_ble_eq_true rfl⟩) d_M_calculate_161,
  qq_ia X d_M_calculate_164,
  qq_isub X d_M_calculate_165,
  qq_ias X d_M_calculate_166,
  qq_go X 249 (by decide) d_M_calculate_167,
  qq_aln X 0 rfl d_M_calculate_170,
  qq_gf X 2 1 rfl (fun w h => List.mem_cons_of_mem _ (inE_M w h)) (by decide) (List.mem_cons_of_mem _ mw_162) d_M_calculate_171,
  qq_iln X 1 rfl d_M_calculate_174,
  qq_aln X 0 rfl d_M_calculate_175,
  qq_gf X 2 0 rfl (fun w h => List.mem_cons_of_mem _ (inE_M w h)) (by decide) (List.mem_cons_of_mem _ mw_161) d_M_calculate_176,
  qq_gf X 1 3 rfl (fun w h => List.mem_cons_of_mem _ (inE_I w h)) (by decide) (List.mem_cons_of_mem _ mw_79) d_M_calculate_179,
  qq_i2b X d_M_calculate_182,
  qq_ias X d_M_calculate_183,
  qq_go X 249 (by decide) d_M_calculate_184,
  qq_aln X 0 rfl d_M_calculate_187,
  qq_gf X 2 1 rfl (fun w h => List.mem_cons_of_mem _ (inE_M w h)) (by decide) (List.mem_cons_of_mem _ mw_162) d_M_calculate_188,
  qq_iln X 1 rfl d_M_calculate_191,
  qq_aln X 0 rfl d_M_calculate_192,
  qq_gf X 2 2 rfl (fun w h => List.mem_cons_of_mem _ (inE_M w h)) (by decide) (List.mem_cons_of_mem _ mw_163) d_M_calculate_193,
  qq_aln X 0 rfl d_M_calculate_196,
  qq_gf X 2 0 rfl (fun w h => List.mem_cons_of_mem _ (inE_M w h)) (by decide) (List.mem_cons_of_mem _ mw_161) d_M_calculate_197,
  qq_gf X 1 3 rfl (fun w h => List.mem_cons_of_mem _ (inE_I w h)) (by decide) (List.mem_cons_of_mem _ mw_79) d_M_calculate_200,
  qq_bp X 15 (by decide) d_M_calculate_203,
  qq_iand X d_M_calculate_205,
  qq_ia X d_M_calculate_206,
  qq_ias X d_M_calculate_207,
  qq_go X 249 (by decide) d_M_calculate_208,
  qq_aln X 0 rfl d_M_calculate_211,
  qq_gf X 2 2 rfl (fun w h => List.mem_cons_of_mem _ (inE_M w h)) (by decide) (List.mem_cons_of_mem _ mw_163) d_M_calculate_212,
  qq_aln X 0 rfl d_M_calculate_215,
  qq_gf X 2 0 rfl (fun w h => List.mem_cons_of_mem _ (inE_M w h)) (by decide) (List.mem_cons_of_mem _ mw_161) d_M_calculate_216,
  qq_gf X 1 3 rfl (fun w h => List.mem_cons_of_mem _ (inE_I w h)) (by decide) (List.mem_cons_of_mem _ mw_79) d_M_calculate_219,
  qq_bp X 15 (by decide) d_M_calculate_222,
  qq_iand X d_M_calculate_224,
  qq_aln X 0 rfl d_M_calculate_225,
  qq_gf X 2 1 rfl (fun w h => List.mem_cons_of_mem _ (inE_M w h)) (by decide) (List.mem_cons_of_mem _ mw_162) d_M_calculate_226,
  qq_iln X 1 rfl d_M_calculate_229,
  qq_ia X d_M_calculate_230,
  qq_ias X d_M_calculate_231,
  qq_go X 249 (by decide) d_M_calculate_232,
  qq_aln X 0 rfl d_M_calculate_235,
  qq_aln X 0 rfl d_M_calculate_236,
  qq_gf X 2 0 rfl (fun w h => List.mem_cons_of_mem _ (inE_M w h)) (by decide) (List.mem_cons_of_mem _ mw_161) d_M_calculate_237,
  qq_gf X 1 3 rfl (fun w h => List.mem_cons_of_mem _ (inE_I w h)) (by decide) (List.mem_cons_of_mem _ mw_79) d_M_calculate_240,
  qq_cV X 2 rfl (c_M_grow l) (fun hts => cwV 1 hts (evGV (mw_675) (mw_677) (mp_25) (mw_7) (mw_678)) rfl rfl rfl (by decide +kernel) ⟨Nat.le_of_ble_eq_true rfl, Nat.le_of_ble_eq_true rfl⟩) d_M_calculate_243,
  qq_go X 249 (by decide) d_M_calculate_246,
  qq_rv Z d_M_calculate_249, trivial⟩
def pre_M_calculate : List Value → ev_M → ev_L → Prop := fun as σ τ => as = [.ref 23]
def post_M_calculate : List Value → ev_M → ev_L → Unit → ev_M → ev_L → Prop := fun as σ τ _ σ' τ' => mvC σ' τ' = ms_calc (σ 24 2) (σ 24 1) (σ 24 3) (mvC σ τ) ∧ σ' 24 = σ 24 ∧ frC σ σ' τ τ'
set_option maxHeartbeats 4000000 in
set_option maxRecDepth 100000 in
theorem c_M_calculate (l : Launch) : ev_C ev_n l y_M_calculate ws_M_calculate rm_M_calculate evLY evCl pre_M_calculate post_M_calculate := by
  refine ev_meth0 (by decide) rfl ev_rop_v ?_ I_M_calculate (ok_M_calculate l) 60 ?_
  · rintro _ σ τ rfl
    exact Nat.le_of_ble_eq_true rfl
  · rintro _ σ τ rfl
    refine ⟨⟨_, rfl, by decide⟩, ?_⟩
    rintro _ σ τ ⟨rfl, rfl, rfl⟩
    have hr := sp_reg_in (σ 24 2) (σ 24 1)
    refine br_c (fun h => ?_) (fun h1 => br_c (fun h => ?_) (fun h4 => br_c (fun h => ?_) (fun h8 => br_c (fun h => ?_) (fun h16 => br_c (fun h => ?_) (fun h32 => br_c (fun h => ?_) (fun h48 => br_c (fun h => ?_) (fun h52 => br_c (fun h => ?_) (fun h56 => br_c (fun h => ?_) (fun h76 => ?_)))))))))
    · exact ⟨by unfold ms_calc mvC; rw [h]; rfl, rfl, frC_rf σ τ⟩
    · exact ⟨hr, hr, by unfold ms_calc mvC; rw [h]; rfl, rfl, frC_u _ _ _ (by decide)⟩
    · exact ⟨hr, hr, by unfold ms_calc mvC; rw [h]; rfl, rfl, frC_u _ _ _ (by decide)⟩
    · refine ⟨hr, ⟨⟨_, rfl, by decide⟩, ?_⟩⟩
      rintro _ σ τ ⟨rfl, rfl, rfl⟩
      exact ⟨pk_andIn _ 2 rfl (by decide), hr, by unfold ms_calc mvC; rw [h]; rfl, rfl, frC_u _ _ _ (by decide)⟩
    · refine ⟨hr, ⟨⟨_, rfl, by decide⟩, ?_⟩⟩
      rintro _ σ τ ⟨rfl, rfl, rfl⟩
      exact ⟨pk_andIn _ 2 rfl (by decide), hr, by unfold ms_calc mvC; rw [h]; rfl, rfl, frC_u _ _ _ (by decide)⟩
    · exact ⟨hr, by unfold ms_calc mvC; rw [h]; rfl, rfl, frC_u _ _ _ (by decide)⟩
    · exact ⟨pk_andIn _ 4 rfl (by decide), hr, by unfold ms_calc mvC; rw [h]; rfl, rfl, frC_u _ _ _ (by decide)⟩
    · exact ⟨hr, pk_andIn _ 4 rfl (by decide), by unfold ms_calc mvC; rw [h]; rfl, rfl, frC_u _ _ _ (by decide)⟩
    · refine ⟨⟨_, rfl⟩, ?_⟩
      rintro _ σ _ ⟨rfl, rfl⟩
      exact ⟨by unfold ms_calc mvC; rw [h]; rfl, rfl, frC_w _ _⟩
    · exact ⟨by simp [ms_calc, mvC, h4, h8, h16, h32, h48, h52, h56, h76], rfl, frC_rf σ τ⟩
