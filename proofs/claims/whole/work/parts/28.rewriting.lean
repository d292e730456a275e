/-! rewriting, as functions: the new bytes (below 256), the traps, the free place -/
abbrev rws : Type := (Nat → Int32) × (Nat → Int32) × Int32
def cutF (g : Nat → Int32) : Nat → Int32 := fun j => if j < 256 then g j else 0
def ntC (T : Nat → Int32) : Nat → Int32 := fun i => if i < 96 then (if T i = 0 then -1 else T i) else -1
def rvC (σ : ev_M) : rws := (cutF (σ 21), ntC (σ 22), σ 18 2)
def rw_app (v : Int32) (x : rws) : rws := match x with
  | (g, T, e) => (if 0 ≤ e ∧ e < 256 then upd g e.toNatClampNeg (v &&& 255) else g, T, e + 1)
def rw_jump (t : Int32) (x : rws) : rws := rw_app t (rw_app 69 x)
def rw_copy (op n m len : Int32) (x : rws) : rws := if 2 < len then rw_app m (if 1 < len then rw_app n (rw_app op x) else rw_app op x) else (if 1 < len then rw_app n (rw_app op x) else rw_app op x)
/-- what an instruction becomes -/
def rw_ins (kd op n m bh bt : Int32) (x : rws) : rws := if kd = 60 ∨ kd = 64 then rw_jump bt (rw_jump bh (rw_app 2 (rw_app op x))) else if kd = 68 then rw_jump bt x else if kd = 70 then rw_app bh (rw_app n (rw_app 77 x)) else rw_copy op n m (sp_len kd) x
def rw_at (f : Nat → Int32) (a : Int32) (x : rws) : rws := rw_ins (sp_kind (sp_at f a)) (sp_at f a) (sp_at f (a + 1)) (sp_at f (a + 2)) (a + sp_len (sp_kind (sp_at f a))) (a + sp_len (sp_kind (sp_at f a)) + (sp_at f (a + 1)).toInt8.toInt32) x
def rw_end (f : Nat → Int32) (a : Int32) (x : rws) : rws := if sp_ends (sp_kind (sp_at f a)) = true then x else rw_jump (a + sp_len (sp_kind (sp_at f a))) x
/-- the first instructions of a block: as many as a jump needs -/
def rw_first (f : Nat → Int32) (hd need : Int32) (x : rws) : rws := if need = 2 ∧ sp_len (sp_kind (sp_at f hd)) = 1 then rw_end f (hd + 1) (rw_at f (hd + 1) (rw_at f hd x)) else rw_end f hd (rw_at f hd x)
def rw_put (a v : Int32) (x : rws) : rws := match x with
  | (g, T, e) => (if 0 ≤ a ∧ a < 256 then upd g a.toNatClampNeg (v &&& 255) else g, T, e)
def rw_trap (a v : Int32) (x : rws) : rws := match x with
  | (g, T, e) => (g, if 0 ≤ a ∧ a < 96 then upd T a.toNatClampNeg v else T, e)
def rw_hook (hd sz st : Int32) (x : rws) : rws := if sz < 2 then rw_trap hd st (rw_put hd 2 x) else rw_put (hd + 1) st (rw_put hd 69 x)
def rw_blk (f : Nat → Int32) (k hd sz : Int32) (x : rws) : rws := rw_hook hd sz x.2.2 (rw_first f hd (if 2 < sz then 2 else sz) (rw_app k (rw_app 76 x)))
theorem cut_upd {g : Nat → Int32} {i : Nat} {v : Int32} (h : i < 256) : cutF (upd g i v) = upd (cutF g) i v := by
  funext j
  unfold cutF upd
  by_cases hj : j = i
  · subst hj; simp [h]
  · simp [hj]
theorem i_clt {a b : Int32} (h0 : 0 ≤ a) (h1 : a < b) : (a.toNatClampNeg : Int) < b.toInt := by
  have h2 := Int32.le_iff_toInt_le.mp h0
  have h3 := Int32.lt_iff_toInt_lt.mp h1
  have h4 : (0 : Int32).toInt = 0 := rfl
  have := i_cl (x := a) (by omega)
  omega
theorem rvC_put (σ : ev_M) (a v : Int32) : rvC (sp_put σ 21 a v) = rw_put a v (rvC σ) := by
  unfold sp_put rw_put rvC
  by_cases h : 0 ≤ a ∧ a < 256
  · rw [if_pos h]
    dsimp only
    rw [if_pos h, ← cut_upd (by have := i_clt h.1 h.2; have h2 : (256 : Int32).toInt = 256 := rfl; omega)]
    rfl
  · rw [if_neg h]
    dsimp only
    rw [if_neg h]
theorem rvC_app (σ : ev_M) (v : Int32) : rvC (sp_app σ v) = rw_app v (rvC σ) := by
  have e : rvC (sp_app σ v) = ((rvC (sp_put σ 21 (σ 18 2) v)).1, (rvC (sp_put σ 21 (σ 18 2) v)).2.1, σ 18 2 + 1) := rfl
  rw [e, rvC_put]
  rfl
/-- nothing but the second program and its window has changed -/
def frW (σ σ' : ev_M) : Prop := (∀ k, ¬ k = 18 → ¬ k = 19 → ¬ k = 21 → ¬ k = 22 → σ' k = σ k) ∧ σ' 18 3 = σ 18 3
theorem frW_rf (σ : ev_M) : frW σ σ := ⟨fun _ _ _ _ _ => rfl, rfl⟩
theorem frW_tr {σ σ1 σ2 : ev_M} (h1 : frW σ σ1) (h2 : frW σ1 σ2) : frW σ σ2 := ⟨fun k a b c d => (h2.1 k a b c d).trans (h1.1 k a b c d), h2.2.trans h1.2⟩
theorem frW_put (σ : ev_M) (a v : Int32) : frW σ (sp_put σ 21 a v) := by
  unfold sp_put
  split
  · exact ⟨fun k _ _ h _ => if_neg h, rfl⟩
  · exact frW_rf σ
theorem frW_app (σ : ev_M) (v : Int32) : frW σ (sp_app σ v) := frW_tr (frW_put σ (σ 18 2) v) ⟨fun k h _ _ _ => if_neg h, rfl⟩
theorem sp_put_19 (σ : ev_M) (a v : Int32) : sp_put σ 21 a v 19 = σ 19 := by
  unfold sp_put
  split <;> rfl
theorem sp_app_19 (σ : ev_M) (v : Int32) : sp_app σ v 19 = σ 19 := sp_put_19 σ (σ 18 2) v
theorem sp_app_2 (σ : ev_M) (v : Int32) : sp_app σ v 2 = σ 2 := (frW_app σ v).1 2 (by decide) (by decide) (by decide) (by decide)
def y_R_copyInstruction : MethodName := ⟨RX4, "copyInstruction", "()V"⟩
def ws_R_copyInstruction : List Cond := .code y_R_copyInstruction prog_6_method_10_code 1 none :: evW
theorem d_R_copyInstruction_0 : decode prog_6_method_10_code 0 = .ok (.aload_n 0, 1) := by decide +kernel
theorem d_R_copyInstruction_1 : decode prog_6_method_10_code 1 = .ok (.aload_n 0, 1) := by decide +kernel
theorem d_R_copyInstruction_2 : decode prog_6_method_10_code 2 = .ok (.getfield 12, 3) := by decide +kernel
theorem d_R_copyInstruction_5 : decode prog_6_method_10_code 5 = .ok (.getfield 95, 3) := by decide +kernel
theorem d_R_copyInstruction_8 : decode prog_6_method_10_code 8 = .ok (.invokevirtual 50, 3) := by decide +kernel
theorem d_R_copyInstruction_11 : decode prog_6_method_10_code 11 = .ok (.aload_n 0, 1) := by decide +kernel
theorem d_R_copyInstruction_12 : decode prog_6_method_10_code 12 = .ok (.getfield 12, 3) := by decide +kernel
theorem d_R_copyInstruction_15 : decode prog_6_method_10_code 15 = .ok (.invokevirtual 110, 3) := by decide +kernel
theorem d_R_copyInstruction_18 : decode prog_6_method_10_code 18 = .ok (.iconst 1, 1) := by decide +kernel
theorem d_R_copyInstruction_19 : decode prog_6_method_10_code 19 = .ok (.if_icmp .le 14, 3) := by decide +kernel
theorem d_R_copyInstruction_22 : decode prog_6_method_10_code 22 = .ok (.aload_n 0, 1) := by decide +kernel
theorem d_R_copyInstruction_23 : decode prog_6_method_10_code 23 = .ok (.aload_n 0, 1) := by decide +kernel
theorem d_R_copyInstruction_24 : decode prog_6_method_10_code 24 = .ok (.getfield 12, 3) := by decide +kernel
theorem d_R_copyInstruction_27 : decode prog_6_method_10_code 27 = .ok (.getfield 104, 3) := by decide +kernel
theorem d_R_copyInstruction_30 : decode prog_6_method_10_code 30 = .ok (.invokevirtual 50, 3) := by decide +kernel
theorem d_R_copyInstruction_33 : decode prog_6_method_10_code 33 = .ok (.aload_n 0, 1) := by decide +kernel
theorem d_R_copyInstruction_34 : decode prog_6_method_10_code 34 = .ok (.getfield 12, 3) := by decide +kernel
theorem d_R_copyInstruction_37 : decode prog_6_method_10_code 37 = .ok (.invokevirtual 110, 3) := by decide +kernel
theorem d_R_copyInstruction_40 : decode prog_6_method_10_code 40 = .ok (.iconst 2, 1) := by decide +kernel
theorem d_R_copyInstruction_41 : decode prog_6_method_10_code 41 = .ok (.if_icmp .le 14, 3) := by decide +kernel
theorem d_R_copyInstruction_44 : decode prog_6_method_10_code 44 = .ok (.aload_n 0, 1) := by decide +kernel
theorem d_R_copyInstruction_45 : decode prog_6_method_10_code 45 = .ok (.aload_n 0, 1) := by decide +kernel
theorem d_R_copyInstruction_46 : decode prog_6_method_10_code 46 = .ok (.getfield 12, 3) := by decide +kernel
theorem d_R_copyInstruction_49 : decode prog_6_method_10_code 49 = .ok (.getfield 113, 3) := by decide +kernel
theorem d_R_copyInstruction_52 : decode prog_6_method_10_code 52 = .ok (.invokevirtual 50, 3) := by decide +kernel
theorem d_R_copyInstruction_55 : decode prog_6_method_10_code 55 = .ok (.return_, 1) := by decide +kernel
def I_R_copyInstruction (P : Unit → ev_M → ev_L → Prop) : List (Nat × ev_T) := [(0, tt_al 0 1),
  (1, tt_al 0 2),
  (2, tt_gf evLY 4 0 5),
  (5, tt_gf evLY 1 1 8),
  (8, tt_cV evLY 4 1 ev_n pre_R_append post_R_append 11),
  (11, tt_al 0 12),
  (12, tt_gf evLY 4 0 15),
  (15, tt_cV evLY 1 0 ev_i pre_I_length post_I_length 18),
  (18, tt_k 1 19),
  (19, tt_icle 33 22),
  (22, tt_al 0 23),
  (23, tt_al 0 24),
  (24, tt_gf evLY 4 0 27),
  (27, tt_gf evLY 1 3 30),
  (30, tt_cV evLY 4 1 ev_n pre_R_append post_R_append 33),
  (33, tt_al 0 34),
  (34, tt_gf evLY 4 0 37),
  (37, tt_cV evLY 1 0 ev_i pre_I_length post_I_length 40),
  (40, tt_k 2 41),
  (41, tt_icle 55 44),
  (44, tt_al 0 45),
  (45, tt_al 0 46),
  (46, tt_gf evLY 4 0 49),
  (49, tt_gf evLY 1 4 52),
  (52, tt_cV evLY 4 1 ev_n pre_R_append post_R_append 55),
  (55, tt_rv P)]
abbrev rm_R_copyInstruction : Room := { frames := 2, cells := 0, slots := 0, locals := 64 }
set_option maxRecDepth 20000 in
theorem ok_R_copyInstruction (l : Launch) (J : ev_K) (P : Unit → ev_M → ev_L → Prop) (X : ev_X l rm_R_copyInstruction evLY evCl ws_R_copyInstruction prog_6_method_10_code 1 y_R_copyInstruction.cls J) (Z : ev_Z J prog_6_method_10_code .return_ ev_n P) : ev_oks J (I_R_copyInstruction P) :=
  ⟨qq_aln X 0 rfl d_R_copyInstruction_0,
  qq_aln X 0 rfl d_R_copyInstruction_1,
  qq_gf X 4 0 rfl (fun w h => List.mem_cons_of_mem _ (inE_R w h)) (by decide) (List.mem_cons_of_mem _ mw_140) d_R_copyInstruction_2,
  qq_gf X 1 1 rfl (fun w h => List.mem_cons_of_mem _ (inE_I w h)) (by decide) (List.mem_cons_of_mem _ mw_71) d_R_copyInstruction_5,
  qq_cV X 4 rfl (c_R_append l) (fun hts => cwV 1 hts (evGV (mw_535) (mw_537) (mp_10) (mw_6) (mw_538)) rfl rfl rfl (by decide +kernel) ⟨Nat.le_of_ble_eq_true rfl, Nat.le_of_ble_eq_true rfl⟩) d_R_copyInstruction_8,
  qq_aln X 0 rfl d_R_copyInstruction_11,
  qq_gf X 4 0 rfl (fun w h => List.mem_cons_of_mem _ (inE_R w h)) (by decide) (List.mem_cons_of_mem _ mw_140) d_R_copyInstruction_12,
  qq_cV X 1 rfl (c_I_length l) (fun hts => cwV 0 hts (evGV (mw_566) (mw_434) (mw_435) (mw_5) (mw_436)) rfl rfl rfl (by decide +kernel) ⟨Nat.le_of_ble_eq_true rfl, Nat.le_of_ble_eq_true rfl⟩) d_R_copyInstruction_15,
  qq_ic X 1 (by decide) d_R_copyInstruction_18,
  qq_icle X 33 (by decide) d_R_copyInstruction_19,
  qq_aln X 0 rfl d_R_copyInstruction_22,
  qq_aln X 0 rfl d_R_copyInstruction_23,
  qq_gf X 4 0 rfl (fun w h => List.mem_cons_of_mem _ (inE_R w h)) (by decide) (List.mem_cons_of_mem _ mw_140) d_R_copyInstruction_24,
  qq_gf X 1 3 rfl (fun w h => List.mem_cons_of_mem _ (inE_I w h)) (by decide) (List.mem_cons_of_mem _ mw_77) d_R_copyInstruction_27,
  qq_cV X 4 rfl (c_R_append l) (fun hts => cwV 1 hts (evGV (mw_535) (mw_537) (mp_10) (mw_6) (mw_538)) rfl rfl rfl (by decide +kernel) ⟨Nat.le_of_ble_eq_true rfl, Nat.le_of_ble_eq_true rfl⟩) d_R_copyInstruction_30,
  qq_aln X 0 rfl d_R_copyInstruction_33,
  qq_gf X 4 0 rfl (fun w h => List.mem_cons_of_mem _ (inE_R w h)) (by decide) (List.mem_cons_of_mem _ mw_140) d_R_copyInstruction_34,
  qq_cV X 1 rfl (c_I_length l) (fun hts => cwV 0 hts (evGV (mw_566) (mw_434) (mw_435) (mw_5) (mw_436)) rfl rfl rfl (by decide +kernel) ⟨Nat.le_of_ble_eq_true rfl, Nat.le_of_ble_eq_true rfl⟩) d_R_copyInstruction_37,
  qq_ic X 2 (by decide) d_R_copyInstruction_40,
  qq_icle X 55 (by decide) d_R_copyInstruction_41,
  qq_aln X 0 rfl d_R_copyInstruction_44,
  qq_aln X 0 rfl d_R_copyInstruction_45,
  qq_gf X 4 0 rfl (fun w h => List.mem_cons_of_mem _ (inE_R w h)) (by decide) (List.mem_cons_of_mem _ mw_140) d_R_copyInstruction_46,
  qq_gf X 1 4 rfl (fun w h => List.mem_cons_of_mem _ (inE_I w h)) (by decide) (List.mem_cons_of_mem _ mw_81) d_R_copyInstruction_49,
  qq_cV X 4 rfl (c_R_append l) (fun hts => cwV 1 hts (evGV (mw_535) (mw_537) (mp_10) (mw_6) (mw_538)) rfl rfl rfl (by decide +kernel) ⟨Nat.le_of_ble_eq_true rfl, Nat.le_of_ble_eq_true rfl⟩) d_R_copyInstruction_52,
  qq_rv Z d_R_copyInstruction_55, trivial⟩
def pre_R_copyInstruction : List Value → ev_M → ev_L → Prop := fun as _ _ => as = [.ref 18]
def post_R_copyInstruction : List Value → ev_M → ev_L → Unit → ev_M → ev_L → Prop := fun _ σ τ _ σ' τ' => rvC σ' = rw_copy (σ 19 1) (σ 19 3) (σ 19 4) (sp_len (σ 19 2)) (rvC σ) ∧ frW σ σ' ∧ σ' 19 = σ 19 ∧ τ' = τ
set_option maxHeartbeats 4000000 in
set_option maxRecDepth 100000 in
theorem c_R_copyInstruction (l : Launch) : ev_C ev_n l y_R_copyInstruction ws_R_copyInstruction rm_R_copyInstruction evLY evCl pre_R_copyInstruction post_R_copyInstruction := by
  refine ev_meth0 (by decide) rfl ev_rop_v ?_ I_R_copyInstruction (ok_R_copyInstruction l) 60 ?_
  · rintro _ σ τ rfl
    exact Nat.le_of_ble_eq_true rfl
  · rintro _ σ τ rfl
    refine ⟨⟨_, rfl⟩, ?_⟩
    rintro _ _ τ ⟨rfl, rfl⟩
    refine ⟨⟨_, rfl, by decide⟩, ?_⟩
    rintro _ _ τ ⟨rfl, rfl, rfl⟩
    rw [sp_app_19]
    refine br_c (fun h => ?_) (fun h => ?_)
    · refine ⟨⟨_, rfl, by decide⟩, ?_⟩
      rintro _ _ τ ⟨rfl, rfl, rfl⟩
      rw [sp_app_19]
      refine br_c (fun h2 => ?_) (fun h2 => ?_)
      · refine ⟨?_, frW_app σ _, sp_app_19 _ _, rfl⟩
        unfold rw_copy
        rw [if_neg (Int32.not_lt.mpr h2), if_neg (Int32.not_lt.mpr h), rvC_app]
      · refine ⟨⟨_, rfl⟩, ?_⟩
        rintro _ _ τ ⟨rfl, rfl⟩
        refine ⟨?_, frW_tr (frW_app σ _) (frW_app _ _), (sp_app_19 _ _).trans (sp_app_19 _ _), rfl⟩
        unfold rw_copy
        rw [if_pos (Int32.not_le.mp h2), if_neg (Int32.not_lt.mpr h), rvC_app, rvC_app, sp_app_19]
    · refine ⟨⟨_, rfl⟩, ?_⟩
      rintro _ _ τ ⟨rfl, rfl⟩
      refine ⟨⟨_, rfl, by decide⟩, ?_⟩
      rintro _ _ τ ⟨rfl, rfl, rfl⟩
      rw [sp_app_19, sp_app_19]
      refine br_c (fun h2 => ?_) (fun h2 => ?_)
      · refine ⟨?_, frW_tr (frW_app σ _) (frW_app _ _), (sp_app_19 _ _).trans (sp_app_19 _ _), rfl⟩
        unfold rw_copy
        rw [if_neg (Int32.not_lt.mpr h2), if_pos (Int32.not_le.mp h), rvC_app, rvC_app]
      · refine ⟨⟨_, rfl⟩, ?_⟩
        rintro _ _ τ ⟨rfl, rfl⟩
        refine ⟨?_, frW_tr (frW_app σ _) (frW_tr (frW_app _ _) (frW_app _ _)), (sp_app_19 _ _).trans ((sp_app_19 _ _).trans (sp_app_19 _ _)), rfl⟩
        unfold rw_copy
        rw [if_pos (Int32.not_le.mp h2), if_pos (Int32.not_le.mp h), rvC_app, rvC_app, rvC_app, sp_app_19, sp_app_19]
def y_R_moveInstruction : MethodName := ⟨RX4, "moveInstruction", "()V"⟩
def ws_R_moveInstruction : List Cond := .code y_R_moveInstruction prog_6_method_9_code 1 none :: evW
theorem d_R_moveInstruction_0 : decode prog_6_method_9_code 0 = .ok (.aload_n 0, 1) := by decide +kernel
theorem d_R_moveInstruction_1 : decode prog_6_method_9_code 1 = .ok (.getfield 12, 3) := by decide +kernel
theorem d_R_moveInstruction_4 : decode prog_6_method_9_code 4 = .ok (.invokevirtual 92, 3) := by decide +kernel
theorem d_R_moveInstruction_7 : decode prog_6_method_9_code 7 = .ok (.ifCond .eq 44, 3) := by decide +kernel
theorem d_R_moveInstruction_10 : decode prog_6_method_9_code 10 = .ok (.aload_n 0, 1) := by decide +kernel
theorem d_R_moveInstruction_11 : decode prog_6_method_9_code 11 = .ok (.aload_n 0, 1) := by decide +kernel
theorem d_R_moveInstruction_12 : decode prog_6_method_9_code 12 = .ok (.getfield 12, 3) := by decide +kernel
theorem d_R_moveInstruction_15 : decode prog_6_method_9_code 15 = .ok (.getfield 95, 3) := by decide +kernel
theorem d_R_moveInstruction_18 : decode prog_6_method_9_code 18 = .ok (.invokevirtual 50, 3) := by decide +kernel
theorem d_R_moveInstruction_21 : decode prog_6_method_9_code 21 = .ok (.aload_n 0, 1) := by decide +kernel
theorem d_R_moveInstruction_22 : decode prog_6_method_9_code 22 = .ok (.iconst 2, 1) := by decide +kernel
theorem d_R_moveInstruction_23 : decode prog_6_method_9_code 23 = .ok (.invokevirtual 50, 3) := by decide +kernel
theorem d_R_moveInstruction_26 : decode prog_6_method_9_code 26 = .ok (.aload_n 0, 1) := by decide +kernel
theorem d_R_moveInstruction_27 : decode prog_6_method_9_code 27 = .ok (.aload_n 0, 1) := by decide +kernel
theorem d_R_moveInstruction_28 : decode prog_6_method_9_code 28 = .ok (.getfield 12, 3) := by decide +kernel
theorem d_R_moveInstruction_31 : decode prog_6_method_9_code 31 = .ok (.invokevirtual 82, 3) := by decide +kernel
theorem d_R_moveInstruction_34 : decode prog_6_method_9_code 34 = .ok (.invokevirtual 89, 3) := by decide +kernel
theorem d_R_moveInstruction_37 : decode prog_6_method_9_code 37 = .ok (.aload_n 0, 1) := by decide +kernel
theorem d_R_moveInstruction_38 : decode prog_6_method_9_code 38 = .ok (.aload_n 0, 1) := by decide +kernel
theorem d_R_moveInstruction_39 : decode prog_6_method_9_code 39 = .ok (.getfield 12, 3) := by decide +kernel
theorem d_R_moveInstruction_42 : decode prog_6_method_9_code 42 = .ok (.invokevirtual 98, 3) := by decide +kernel
theorem d_R_moveInstruction_45 : decode prog_6_method_9_code 45 = .ok (.invokevirtual 89, 3) := by decide +kernel
theorem d_R_moveInstruction_48 : decode prog_6_method_9_code 48 = .ok (.goto 76, 3) := by decide +kernel
theorem d_R_moveInstruction_51 : decode prog_6_method_9_code 51 = .ok (.aload_n 0, 1) := by decide +kernel
theorem d_R_moveInstruction_52 : decode prog_6_method_9_code 52 = .ok (.getfield 12, 3) := by decide +kernel
theorem d_R_moveInstruction_55 : decode prog_6_method_9_code 55 = .ok (.getfield 101, 3) := by decide +kernel
theorem d_R_moveInstruction_58 : decode prog_6_method_9_code 58 = .ok (.bipush 68, 2) := by decide +kernel
theorem d_R_moveInstruction_60 : decode prog_6_method_9_code 60 = .ok (.if_icmp .ne 17, 3) := by decide +kernel
theorem d_R_moveInstruction_63 : decode prog_6_method_9_code 63 = .ok (.aload_n 0, 1) := by decide +kernel
theorem d_R_moveInstruction_64 : decode prog_6_method_9_code 64 = .ok (.aload_n 0, 1) := by decide +kernel
theorem d_R_moveInstruction_65 : decode prog_6_method_9_code 65 = .ok (.getfield 12, 3) := by decide +kernel
theorem d_R_moveInstruction_68 : decode prog_6_method_9_code 68 = .ok (.invokevirtual 98, 3) := by decide +kernel
theorem d_R_moveInstruction_71 : decode prog_6_method_9_code 71 = .ok (.invokevirtual 89, 3) := by decide +kernel
theorem d_R_moveInstruction_74 : decode prog_6_method_9_code 74 = .ok (.goto 50, 3) := by decide +kernel
theorem d_R_moveInstruction_77 : decode prog_6_method_9_code 77 = .ok (.aload_n 0, 1) := by decide +kernel
theorem d_R_moveInstruction_78 : decode prog_6_method_9_code 78 = .ok (.getfield 12, 3) := by decide +kernel
theorem d_R_moveInstruction_81 : decode prog_6_method_9_code 81 = .ok (.getfield 101, 3) := by decide +kernel
theorem d_R_moveInstruction_84 : decode prog_6_method_9_code 84 = .ok (.bipush 70, 2) := by decide +kernel
theorem d_R_moveInstruction_86 : decode prog_6_method_9_code 86 = .ok (.if_icmp .ne 34, 3) := by decide +kernel
theorem d_R_moveInstruction_89 : decode prog_6_method_9_code 89 = .ok (.aload_n 0, 1) := by decide +kernel
theorem d_R_moveInstruction_90 : decode prog_6_method_9_code 90 = .ok (.bipush 77, 2) := by decide +kernel
theorem d_R_moveInstruction_92 : decode prog_6_method_9_code 92 = .ok (.invokevirtual 50, 3) := by decide +kernel
theorem d_R_moveInstruction_95 : decode prog_6_method_9_code 95 = .ok (.aload_n 0, 1) := by decide +kernel
theorem d_R_moveInstruction_96 : decode prog_6_method_9_code 96 = .ok (.aload_n 0, 1) := by decide +kernel
theorem d_R_moveInstruction_97 : decode prog_6_method_9_code 97 = .ok (.getfield 12, 3) := by decide +kernel
theorem d_R_moveInstruction_100 : decode prog_6_method_9_code 100 = .ok (.getfield 104, 3) := by decide +kernel
theorem d_R_moveInstruction_103 : decode prog_6_method_9_code 103 = .ok (.invokevirtual 50, 3) := by decide +kernel
theorem d_R_moveInstruction_106 : decode prog_6_method_9_code 106 = .ok (.aload_n 0, 1) := by decide +kernel
theorem d_R_moveInstruction_107 : decode prog_6_method_9_code 107 = .ok (.aload_n 0, 1) := by decide +kernel
theorem d_R_moveInstruction_108 : decode prog_6_method_9_code 108 = .ok (.getfield 12, 3) := by decide +kernel
theorem d_R_moveInstruction_111 : decode prog_6_method_9_code 111 = .ok (.invokevirtual 82, 3) := by decide +kernel
theorem d_R_moveInstruction_114 : decode prog_6_method_9_code 114 = .ok (.invokevirtual 50, 3) := by decide +kernel
theorem d_R_moveInstruction_117 : decode prog_6_method_9_code 117 = .ok (.goto 7, 3) := by decide +kernel
theorem d_R_moveInstruction_120 : decode prog_6_method_9_code 120 = .ok (.aload_n 0, 1) := by decide +kernel
theorem d_R_moveInstruction_121 : decode prog_6_method_9_code 121 = .ok (.invokevirtual 107, 3) := by decide +kernel
theorem d_R_moveInstruction_124 : decode prog_6_method_9_code 124 = .ok (.return_, 1) := by decide +kernel
def I_R_moveInstruction (P : Unit → ev_M → ev_L → Prop) : List (Nat × ev_T) := [(0, tt_al 0 1),
  (1, tt_gf evLY 4 0 4),
  (4, tt_cV evLY 1 0 ev_b pre_I_isConditional post_I_isConditional 7),
  (7, tt_ifeq 51 10),
  (10, tt_al 0 11),
  (11, tt_al 0 12),
  (12, tt_gf evLY 4 0 15),
  (15, tt_gf evLY 1 1 18),
  (18, tt_cV evLY 4 1 ev_n pre_R_append post_R_append 21),
  (21, tt_al 0 22),
  (22, tt_k 2 23),
  (23, tt_cV evLY 4 1 ev_n pre_R_append post_R_append 26),
  (26, tt_al 0 27),
  (27, tt_al 0 28),
  (28, tt_gf evLY 4 0 31),
  (31, tt_cV evLY 1 0 ev_i pre_I_behind post_I_behind 34),
  (34, tt_cV evLY 4 1 ev_n pre_R_appendJump post_R_appendJump 37),
  (37, tt_al 0 38),
  (38, tt_al 0 39),
  (39, tt_gf evLY 4 0 42),
  (42, tt_cV evLY 1 0 ev_i pre_I_branchTarget post_I_branchTarget 45),
  (45, tt_cV evLY 4 1 ev_n pre_R_appendJump post_R_appendJump 48),
  (48, tt_go 124),
  (51, tt_al 0 52),
  (52, tt_gf evLY 4 0 55),
  (55, tt_gf evLY 1 2 58),
  (58, tt_k 68 60),
  (60, tt_icne 77 63),
  (63, tt_al 0 64),
  (64, tt_al 0 65),
  (65, tt_gf evLY 4 0 68),
  (68, tt_cV evLY 1 0 ev_i pre_I_branchTarget post_I_branchTarget 71),
  (71, tt_cV evLY 4 1 ev_n pre_R_appendJump post_R_appendJump 74),
  (74, tt_go 124),
  (77, tt_al 0 78),
  (78, tt_gf evLY 4 0 81),
  (81, tt_gf evLY 1 2 84),
  (84, tt_k 70 86),
  (86, tt_icne 120 89),
  (89, tt_al 0 90),
  (90, tt_k 77 92),
  (92, tt_cV evLY 4 1 ev_n pre_R_append post_R_append 95),
  (95, tt_al 0 96),
  (96, tt_al 0 97),
  (97, tt_gf evLY 4 0 100),
  (100, tt_gf evLY 1 3 103),
  (103, tt_cV evLY 4 1 ev_n pre_R_append post_R_append 106),
  (106, tt_al 0 107),
  (107, tt_al 0 108),
  (108, tt_gf evLY 4 0 111),
  (111, tt_cV evLY 1 0 ev_i pre_I_behind post_I_behind 114),
  (114, tt_cV evLY 4 1 ev_n pre_R_append post_R_append 117),
  (117, tt_go 124),
  (120, tt_al 0 121),
  (121, tt_cV evLY 4 0 ev_n pre_R_copyInstruction post_R_copyInstruction 124),
  (124, tt_rv P)]
abbrev rm_R_moveInstruction : Room := { frames := 3, cells := 0, slots := 0, locals := 96 }
set_option maxRecDepth 20000 in
theorem ok_R_moveInstruction (l : Launch) (J : ev_K) (P : Unit → ev_M → ev_L → Prop) (X : ev_X l rm_R_moveInstruction evLY evCl ws_R_moveInstruction prog_6_method_9_code 1 y_R_moveInstruction.cls J) (Z : ev_Z J prog_6_method_9_code .return_ ev_n P) : ev_oks J (I_R_moveInstruction P) :=
  ⟨qq_aln X 0 rfl d_R_moveInstruction_0,
  qq_gf X 4 0 rfl (fun w h => List.mem_cons_of_mem _ (inE_R w h)) (by decide) (List.mem_cons_of_mem _ mw_140) d_R_moveInstruction_1,
  qq_cV X 1 rfl (c_I_isConditional l) (fun hts => cwV 0 hts (evGV (mw_552) (mw_553) (mw_554) (mw_5) (mw_555)) rfl rfl rfl (by decide +kernel) ⟨Nat.le_of_ble_eq_true rfl, Nat.le_of_ble_eq_true rfl⟩) d_R_moveInstruction_4,
  qq_ifeq X 51 (by decide) d_R_moveInstruction_7,
  qq_aln X 0 rfl d_R_moveInstruction_10,
  qq_aln X 0 rfl d_R_moveInstruction_11,
  qq_gf X 4 0 rfl (fun w h => List.mem_cons_of_mem _ (inE_R w h)) (by decide) (List.mem_cons_of_mem _ mw_140) d_R_moveInstruction_12,
  qq_gf X 1 1 rfl (fun w h => List.mem_cons_of_mem _ (inE_I w h)) (by decide) (List.mem_cons_of_mem _ mw_71) d_R_moveInstruction_15,
  qq_cV X 4 rfl (c_R_append l) (fun hts => cwV 1 hts (evGV (mw_535) (mw_537) (mp_10) (mw_6) (mw_538)) rfl rfl rfl (by decide +kernel) ⟨Nat.le_of_ble_eq_true rfl, Nat.le_of_ble_eq_true rfl⟩) d_R_moveInstruction_18,
  qq_aln X 0 rfl d_R_moveInstruction_21,
  qq_ic X 2 (by decide) d_R_moveInstruction_22,
  qq_cV X 4 rfl (c_R_append l) (fun hts => cwV 1 hts (evGV (mw_535) (mw_537) (mp_10) (mw_6) (mw_538)) rfl rfl rfl (by decide +kernel) ⟨Nat.le_of_ble_eq_true rfl, Nat.le_of_ble_eq_true rfl⟩) d_R_moveInstruction_23,
  qq_aln X 0 rfl d_R_moveInstruction_26,
  qq_aln X 0 rfl d_R_moveInstruction_27,
  qq_gf X 4 0 rfl (fun w h => List.mem_cons_of_mem _ (inE_R w h)) (by decide) (List.mem_cons_of_mem _ mw_140) d_R_moveInstruction_28,
  qq_cV X 1 rfl (c_I_behind l) (fun hts => cwV 0 hts (evGV (mw_556) (mw_430) (mw_431) (mw_5) (mw_432)) rfl rfl rfl (by decide +kernel) ⟨Nat.le_of_ble_eq_true rfl, Nat.le_of_ble_eq_true rfl⟩) d_R_moveInstruction_31,
  qq_cV X 4 rfl (c_R_appendJump l) (fun hts => cwV 1 hts (evGV (mw_557) (mw_559) (mp_13) (mw_6) (mw_560)) rfl rfl rfl (by decide +kernel) ⟨Nat.le_of_ble_eq_true rfl, Nat.le_of_ble_eq_true rfl⟩) d_R_moveInstruction_34,
  qq_aln X 0 rfl d_R_moveInstruction_37,
  qq_aln X 0 rfl d_R_moveInstruction_38,
  qq_gf X 4 0 rfl (fun w h => List.mem_cons_of_mem _ (inE_R w h)) (by decide) (List.mem_cons_of_mem _ mw_140) d_R_moveInstruction_39,
  qq_cV X 1 rfl (c_I_branchTarget l) (fun hts => cwV 0 hts (evGV (mw_561) (mw_443) (mw_444) (mw_5) (mw_445)) rfl rfl rfl (by decide +kernel) ⟨Nat.le_of_ble_eq_true rfl, Nat.le_of_ble_eq_true rfl⟩) d_R_moveInstruction_42,
  qq_cV X 4 rfl (c_R_appendJump l) (fun hts => cwV 1 hts (evGV (mw_557) (mw_559) (mp_13) (mw_6) (mw_560)) rfl rfl rfl (by decide +kernel) ⟨Nat.le_of_ble_eq_true rfl, Nat.le_of_ble_eq_true rfl⟩) d_R_moveInstruction_45,
  qq_go X 124 (by decide) d_R_moveInstruction_48,
  qq_aln X 0 rfl d_R_moveInstruction_51,
  qq_gf X 4 0 rfl (fun w h => List.mem_cons_of_mem _ (inE_R w h)) (by decide) (List.mem_cons_of_mem _ mw_140) d_R_moveInstruction_52,
  qq_gf X 1 2 rfl (fun w h => List.mem_cons_of_mem _ (inE_I w h)) (by decide) (List.mem_cons_of_mem _ mw_73) d_R_moveInstruction_55,
  qq_bp X 68 (by decide) d_R_moveInstruction_58,
  qq_icne X 77 (by decide) d_R_moveInstruction_60,
  qq_aln X 0 rfl d_R_moveInstruction_63,
  qq_aln X 0 rfl d_R_moveInstruction_64,
  qq_gf X 4 0 rfl (fun w h => List.mem_cons_of_mem _ (inE_R w h)) (by decide) (List.mem_cons_of_mem _ mw_140) d_R_moveInstruction_65,
  qq_cV X 1 rfl (c_I_branchTarget l) (fun hts => cwV 0 hts (evGV (mw_561) (mw_443) (mw_444) (mw_5) (mw_445)) rfl rfl rfl (by decide +kernel) ⟨Nat.le_of_ble_eq_true rfl, Nat.le_of_ble_eq_true rfl⟩) d_R_moveInstruction_68,
  qq_cV X 4 rfl (c_R_appendJump l) (fun hts => cwV 1 hts (evGV (mw_557) (mw_559) (mp_13) (mw_6) (mw_560)) rfl rfl rfl (by decide +kernel) ⟨Nat.le_of_ble_eq_true rfl, Nat.le_of_ble_eq_true rfl⟩) d_R_moveInstruction_71,
  qq_go X 124 (by decide) d_R_moveInstruction_74,
  qq_aln X 0 rfl d_R_moveInstruction_77,
  qq_gf X 4 0 rfl (fun w h => List.mem_cons_of_mem _ (inE_R w h)) (by decide) (List.mem_cons_of_mem _ mw_140) d_R_moveInstruction_78,
  qq_gf X 1 2 rfl (fun w h => List.mem_cons_of_mem _ (inE_I w h)) (by decide) (List.mem_cons_of_mem _ mw_73) d_R_moveInstruction_81,
  qq_bp X 70 (by decide) d_R_moveInstruction_84,
  qq_icne X 120 (by decide) d_R_moveInstruction_86,
  qq_aln X 0 rfl d_R_moveInstruction_89,
  qq_bp X 77 (by decide) d_R_moveInstruction_90,
  qq_cV X 4 rfl (c_R_append l) (fun hts => cwV 1 hts (evGV (mw_535) (mw_537) (mp_10) (mw_6) (mw_538)) rfl rfl rfl (by decide +kernel) ⟨Nat.le_of_ble_eq_true rfl, Nat.le_of_ble_eq_true rfl⟩) d_R_moveInstruction_92,
  qq_aln X 0 rfl d_R_moveInstruction_95,
  qq_aln X 0 rfl d_R_moveInstruction_96,
  qq_gf X 4 0 rfl (fun w h => List.mem_cons_of_mem _ (inE_R w h)) (by decide) (List.mem_cons_of_mem _ mw_140) d_R_moveInstruction_97,
  qq_gf X 1 3 rfl (fun w h => List.mem_cons_of_mem _ (inE_I w h)) (by decide) (List.mem_cons_of_mem _ mw_77) d_R_moveInstruction_100,
  qq_cV X 4 rfl (c_R_append l) (fun hts => cwV 1 hts (evGV (mw_535) (mw_537) (mp_10) (mw_6) (mw_538)) rfl rfl rfl (by decide +kernel) ⟨Nat.le_of_ble_eq_true rfl, Nat.le_of_ble_eq_true rfl⟩) d_R_moveInstruction_103,
  qq_aln X 0 rfl d_R_moveInstruction_106,
  qq_aln X 0 rfl d_R_moveInstruction_107,
  qq_gf X 4 0 rfl (fun w h => List.mem_cons_of_mem _ (inE_R w h)) (by decide) (List.mem_cons_of_mem _ mw_140) d_R_moveInstruction_108,
  qq_cV X 1 rfl (c_I_behind l) (fun hts => cwV 0 hts (evGV (mw_556) (mw_430) (mw_431) (mw_5) (mw_432)) rfl rfl rfl (by decide +kernel) ⟨Nat.le_of_ble_eq_true rfl, Nat.le_of_ble_eq_true rfl⟩) d_R_moveInstruction_111,
  qq_cV X 4 rfl (c_R_append l) (fun hts => cwV 1 hts (evGV (mw_535) (mw_537) (mp_10) (mw_6) (mw_538)) rfl rfl rfl (by decide +kernel) ⟨Nat.le_of_ble_eq_true rfl, Nat.le_of_ble_eq_true rfl⟩) d_R_moveInstruction_114,
  qq_go X 124 (by decide) d_R_moveInstruction_117,
  qq_aln X 0 rfl d_R_moveInstruction_120,
  qq_cV X 4 rfl (c_R_copyInstruction l) (fun hts => cwV 0 hts (evGV (mw_562) (mw_564) (mp_14) (mw_6) (mw_565)) rfl rfl rfl (by decide +kernel) ⟨Nat.le_of_ble_eq_true rfl, Nat.le_of_ble_eq_true rfl⟩) d_R_moveInstruction_121,
  qq_rv Z d_R_moveInstruction_124, trivial⟩
def pre_R_moveInstruction : List Value → ev_M → ev_L → Prop := fun as _ _ => as = [.ref 18]
def post_R_moveInstruction : List Value → ev_M → ev_L → Unit → ev_M → ev_L → Prop := fun _ σ τ _ σ' τ' => rvC σ' = rw_ins (σ 19 2) (σ 19 1) (σ 19 3) (σ 19 4) (σ 19 0 + sp_len (σ 19 2)) (σ 19 0 + sp_len (σ 19 2) + (σ 19 3).toInt8.toInt32) (rvC σ) ∧ frW σ σ' ∧ σ' 19 = σ 19 ∧ τ' = τ
set_option maxHeartbeats 4000000 in
set_option maxRecDepth 100000 in
theorem c_R_moveInstruction (l : Launch) : ev_C ev_n l y_R_moveInstruction ws_R_moveInstruction rm_R_moveInstruction evLY evCl pre_R_moveInstruction post_R_moveInstruction := by
  refine ev_meth0 (by decide) rfl ev_rop_v ?_ I_R_moveInstruction (ok_R_moveInstruction l) 80 ?_
  · rintro _ σ τ rfl
    exact Nat.le_of_ble_eq_true rfl
  · rintro _ σ τ rfl
    refine ⟨⟨_, rfl, by decide⟩, ?_⟩
    rintro _ σ τ ⟨rfl, rfl, rfl⟩
    refine br_c (fun h => ?_) (fun h => ?_)
    · have hc : ¬ (σ 19 2 = 60 ∨ σ 19 2 = 64) := of_decide_eq_false (bz h)
      refine br_n (fun h68 => br_n (fun h70 => ?_) (fun h70 => ?_)) (fun h68 => ?_)
      · refine ⟨rfl, ?_⟩
        rintro _ σ1 τ ⟨hv, hf, h19, rfl⟩
        refine ⟨?_, hf, h19, rfl⟩
        rw [hv]
        unfold rw_ins
        rw [if_neg hc, if_neg h68, if_neg h70]
      · refine ⟨⟨_, rfl⟩, ?_⟩
        rintro _ _ τ ⟨rfl, rfl⟩
        refine ⟨⟨_, rfl⟩, ?_⟩
        rintro _ _ τ ⟨rfl, rfl⟩
        refine ⟨⟨_, rfl, by decide⟩, ?_⟩
        rintro _ _ τ ⟨rfl, rfl, rfl⟩
        refine ⟨⟨_, rfl⟩, ?_⟩
        rintro _ _ τ ⟨rfl, rfl⟩
        refine ⟨?_, frW_tr (frW_app σ _) (frW_tr (frW_app _ _) (frW_app _ _)), (sp_app_19 _ _).trans ((sp_app_19 _ _).trans (sp_app_19 _ _)), rfl⟩
        unfold rw_ins
        rw [if_neg hc, if_neg h68, if_pos h70, rvC_app, rvC_app, rvC_app, sp_app_19, sp_app_19]
      · refine ⟨⟨_, rfl, by decide⟩, ?_⟩
        rintro _ σ τ ⟨rfl, rfl, rfl⟩
        refine ⟨⟨_, rfl⟩, ?_⟩
        rintro _ _ τ ⟨rfl, rfl⟩
        refine ⟨?_, frW_tr (frW_app σ _) (frW_app _ _), (sp_app_19 _ _).trans (sp_app_19 _ _), rfl⟩
        unfold rw_ins
        rw [if_neg hc, if_pos h68, rvC_app, rvC_app]
        rfl
    · have hc : σ 19 2 = 60 ∨ σ 19 2 = 64 := of_decide_eq_true (bnz h)
      refine ⟨⟨_, rfl⟩, ?_⟩
      rintro _ _ τ ⟨rfl, rfl⟩
      refine ⟨⟨_, rfl⟩, ?_⟩
      rintro _ _ τ ⟨rfl, rfl⟩
      refine ⟨⟨_, rfl, by decide⟩, ?_⟩
      rintro _ _ τ ⟨rfl, rfl, rfl⟩
      refine ⟨⟨_, rfl⟩, ?_⟩
      rintro _ _ τ ⟨rfl, rfl⟩
      refine ⟨⟨_, rfl, by decide⟩, ?_⟩
      rintro _ _ τ ⟨rfl, rfl, rfl⟩
      refine ⟨⟨_, rfl⟩, ?_⟩
      rintro _ _ τ ⟨rfl, rfl⟩
      refine ⟨?_, frW_tr (frW_app σ _) (frW_tr (frW_app _ _) (frW_tr (frW_app _ _) (frW_tr (frW_app _ _) (frW_tr (frW_app _ _) (frW_app _ _))))), (sp_app_19 _ _).trans ((sp_app_19 _ _).trans ((sp_app_19 _ _).trans ((sp_app_19 _ _).trans ((sp_app_19 _ _).trans (sp_app_19 _ _))))), rfl⟩
      unfold rw_ins
      rw [if_pos hc, rvC_app, rvC_app, rvC_app, rvC_app, rvC_app, rvC_app, sp_app_19, sp_app_19, sp_app_19, sp_app_19]
      rfl
theorem rvC_trap (σ : ev_M) (a v : Int32) (hv : ¬ v = 0) : rvC (sp_putTrap σ 22 a v) = rw_trap a v (rvC σ) := by
  unfold sp_putTrap rw_trap rvC
  by_cases h : 0 ≤ a ∧ a < 96
  · rw [if_pos h]
    dsimp only
    rw [if_pos h]
    have h96 : a.toNatClampNeg < 96 := by have := i_clt h.1 h.2; have h2 : (96 : Int32).toInt = 96 := rfl; omega
    have e : ntC (upd (σ 22) a.toNatClampNeg v) = upd (ntC (σ 22)) a.toNatClampNeg v := by
      funext j
      unfold ntC upd
      by_cases hj : j = a.toNatClampNeg
      · simp [hj, h96, hv]
      · simp [hj]
    rw [← e]
    rfl
  · rw [if_neg h]
    dsimp only
    rw [if_neg h]
def y_R_hook : MethodName := ⟨RX4, "hook", "(III)V"⟩
def ws_R_hook : List Cond := .code y_R_hook prog_6_method_7_code 4 none :: evW
theorem d_R_hook_0 : decode prog_6_method_7_code 0 = .ok (.iload_n 2, 1) := by decide +kernel
theorem d_R_hook_1 : decode prog_6_method_7_code 1 = .ok (.iconst 2, 1) := by decide +kernel
theorem d_R_hook_2 : decode prog_6_method_7_code 2 = .ok (.if_icmp .ge 24, 3) := by decide +kernel
theorem d_R_hook_5 : decode prog_6_method_7_code 5 = .ok (.aload_n 0, 1) := by decide +kernel
theorem d_R_hook_6 : decode prog_6_method_7_code 6 = .ok (.getfield 21, 3) := by decide +kernel
theorem d_R_hook_9 : decode prog_6_method_7_code 9 = .ok (.iload_n 1, 1) := by decide +kernel
theorem d_R_hook_10 : decode prog_6_method_7_code 10 = .ok (.iconst 2, 1) := by decide +kernel
theorem d_R_hook_11 : decode prog_6_method_7_code 11 = .ok (.invokevirtual 68, 3) := by decide +kernel
theorem d_R_hook_14 : decode prog_6_method_7_code 14 = .ok (.aload_n 0, 1) := by decide +kernel
theorem d_R_hook_15 : decode prog_6_method_7_code 15 = .ok (.getfield 21, 3) := by decide +kernel
theorem d_R_hook_18 : decode prog_6_method_7_code 18 = .ok (.iload_n 1, 1) := by decide +kernel
theorem d_R_hook_19 : decode prog_6_method_7_code 19 = .ok (.iload_n 3, 1) := by decide +kernel
theorem d_R_hook_20 : decode prog_6_method_7_code 20 = .ok (.invokevirtual 72, 3) := by decide +kernel
theorem d_R_hook_23 : decode prog_6_method_7_code 23 = .ok (.goto 24, 3) := by decide +kernel
theorem d_R_hook_26 : decode prog_6_method_7_code 26 = .ok (.aload_n 0, 1) := by decide +kernel
theorem d_R_hook_27 : decode prog_6_method_7_code 27 = .ok (.getfield 21, 3) := by decide +kernel
theorem d_R_hook_30 : decode prog_6_method_7_code 30 = .ok (.iload_n 1, 1) := by decide +kernel
theorem d_R_hook_31 : decode prog_6_method_7_code 31 = .ok (.bipush 69, 2) := by decide +kernel
theorem d_R_hook_33 : decode prog_6_method_7_code 33 = .ok (.invokevirtual 68, 3) := by decide +kernel
theorem d_R_hook_36 : decode prog_6_method_7_code 36 = .ok (.aload_n 0, 1) := by decide +kernel
theorem d_R_hook_37 : decode prog_6_method_7_code 37 = .ok (.getfield 21, 3) := by decide +kernel
theorem d_R_hook_40 : decode prog_6_method_7_code 40 = .ok (.iload_n 1, 1) := by decide +kernel
theorem d_R_hook_41 : decode prog_6_method_7_code 41 = .ok (.iconst 1, 1) := by decide +kernel
theorem d_R_hook_42 : decode prog_6_method_7_code 42 = .ok (.iadd, 1) := by decide +kernel
theorem d_R_hook_43 : decode prog_6_method_7_code 43 = .ok (.iload_n 3, 1) := by decide +kernel
theorem d_R_hook_44 : decode prog_6_method_7_code 44 = .ok (.invokevirtual 68, 3) := by decide +kernel
theorem d_R_hook_47 : decode prog_6_method_7_code 47 = .ok (.return_, 1) := by decide +kernel
def I_R_hook (P : Unit → ev_M → ev_L → Prop) : List (Nat × ev_T) := [(0, tt_il 2 1),
  (1, tt_k 2 2),
  (2, tt_icge 26 5),
  (5, tt_al 0 6),
  (6, tt_gf evLY 4 1 9),
  (9, tt_il 1 10),
  (10, tt_k 2 11),
  (11, tt_cV evLY 3 2 ev_n pre_P_put post_P_put 14),
  (14, tt_al 0 15),
  (15, tt_gf evLY 4 1 18),
  (18, tt_il 1 19),
  (19, tt_il 3 20),
  (20, tt_cV evLY 3 2 ev_n pre_P_putTrap post_P_putTrap 23),
  (23, tt_go 47),
  (26, tt_al 0 27),
  (27, tt_gf evLY 4 1 30),
  (30, tt_il 1 31),
  (31, tt_k 69 33),
  (33, tt_cV evLY 3 2 ev_n pre_P_put post_P_put 36),
  (36, tt_al 0 37),
  (37, tt_gf evLY 4 1 40),
  (40, tt_il 1 41),
  (41, tt_k 1 42),
  (42, tt_iadd 43),
  (43, tt_il 3 44),
  (44, tt_cV evLY 3 2 ev_n pre_P_put post_P_put 47),
  (47, tt_rv P)]
abbrev rm_R_hook : Room := { frames := 1, cells := 0, slots := 0, locals := 32 }
set_option maxRecDepth 20000 in
theorem ok_R_hook (l : Launch) (J : ev_K) (P : Unit → ev_M → ev_L → Prop) (X : ev_X l rm_R_hook evLY evCl ws_R_hook prog_6_method_7_code 4 y_R_hook.cls J) (Z : ev_Z J prog_6_method_7_code .return_ ev_n P) : ev_oks J (I_R_hook P) :=
  ⟨qq_iln X 2 rfl d_R_hook_0,
  qq_ic X 2 (by decide) d_R_hook_1,
  qq_icge X 26 (by decide) d_R_hook_2,
  qq_aln X 0 rfl d_R_hook_5,
  qq_gf X 4 1 rfl (fun w h => List.mem_cons_of_mem _ (inE_R w h)) (by decide) (List.mem_cons_of_mem _ mw_141) d_R_hook_6,
  qq_iln X 1 rfl d_R_hook_9,
  qq_ic X 2 (by decide) d_R_hook_10,
  qq_cV X 3 rfl (c_P_put l) (fun hts => cwV 2 hts (evGV (mw_539) (mw_310) (mw_311) (mw_2) (mw_312)) rfl rfl rfl (by decide +kernel) ⟨Nat.le_of_ble_eq_true rfl, Nat.le_of_ble_eq_true rfl⟩) d_R_hook_11,
  qq_aln X 0 rfl d_R_hook_14,
  qq_gf X 4 1 rfl (fun w h => List.mem_cons_of_mem _ (inE_R w h)) (by decide) (List.mem_cons_of_mem _ mw_141) d_R_hook_15,
  qq_iln X 1 rfl d_R_hook_18,
  qq_iln X 3 rfl d_R_hook_19,
  qq_cV X 3 rfl (c_P_putTrap l) (fun hts => cwV 2 hts (evGV (mw_572) (mw_573) (mw_574) (mw_2) (mw_575)) rfl rfl rfl (by decide +kernel) ⟨Nat.le_of_ble_eq_true rfl, Nat.le_of_ble_eq_true rfl⟩) d_R_hook_20,
  qq_go X 47 (by decide) d_R_hook_23,
  qq_aln X 0 rfl d_R_hook_26,
  qq_gf X 4 1 rfl (fun w h => List.mem_cons_of_mem _ (inE_R w h)) (by decide) (List.mem_cons_of_mem _ mw_141) d_R_hook_27,
  qq_iln X 1 rfl d_R_hook_30,
  qq_bp X 69 (by decide) d_R_hook_31,
  qq_cV X 3 rfl (c_P_put l) (fun hts => cwV 2 hts (evGV (mw_539) (mw_310) (mw_311) (mw_2) (mw_312)) rfl rfl rfl (by decide +kernel) ⟨Nat.le_of_ble_eq_true rfl, Nat.le_of_ble_eq_true rfl⟩) d_R_hook_33,
  qq_aln X 0 rfl d_R_hook_36,
  qq_gf X 4 1 rfl (fun w h => List.mem_cons_of_mem _ (inE_R w h)) (by decide) (List.mem_cons_of_mem _ mw_141) d_R_hook_37,
  qq_iln X 1 rfl d_R_hook_40,
  qq_ic X 1 (by decide) d_R_hook_41,
  qq_iadd X d_R_hook_42,
  qq_iln X 3 rfl d_R_hook_43,
  qq_cV X 3 rfl (c_P_put l) (fun hts => cwV 2 hts (evGV (mw_539) (mw_310) (mw_311) (mw_2) (mw_312)) rfl rfl rfl (by decide +kernel) ⟨Nat.le_of_ble_eq_true rfl, Nat.le_of_ble_eq_true rfl⟩) d_R_hook_44,
  qq_rv Z d_R_hook_47, trivial⟩
def pre_R_hook : List Value → ev_M → ev_L → Prop := fun as _ _ => ∃ (a s t : Int32), as = [.ref 18, .int a, .int s, .int t] ∧ ¬ t = 0
def post_R_hook : List Value → ev_M → ev_L → Unit → ev_M → ev_L → Prop := fun as σ τ _ σ' τ' => match as with
  | [_, .int a, .int s, .int t] => rvC σ' = rw_hook a s t (rvC σ) ∧ frW σ σ' ∧ τ' = τ
  | _ => False
set_option maxHeartbeats 4000000 in
set_option maxRecDepth 100000 in
theorem c_R_hook (l : Launch) : ev_C ev_n l y_R_hook ws_R_hook rm_R_hook evLY evCl pre_R_hook post_R_hook := by
  refine ev_meth0 (by decide) rfl ev_rop_v ?_ I_R_hook (ok_R_hook l) 80 ?_
  · rintro _ σ τ ⟨a, s, t, rfl, h⟩
    exact Nat.le_of_ble_eq_true rfl
  · rintro _ σ τ ⟨a, s, t, rfl, ht⟩
    refine br_c (fun h => ?_) (fun h => ?_)
    · refine ⟨⟨_, _, _, rfl, by decide⟩, ?_⟩
      rintro _ _ τ ⟨rfl, rfl⟩
      refine ⟨⟨_, _, _, rfl, by decide⟩, ?_⟩
      rintro _ _ τ ⟨rfl, rfl⟩
      refine ⟨?_, frW_tr (frW_put σ _ _) (frW_put _ _ _), rfl⟩
      show rvC (sp_put (sp_put σ 21 a 69) 21 (a + 1) t) = _
      rw [rvC_put, rvC_put]
      exact (if_neg (Int32.not_lt.mpr h)).symm
    · refine ⟨⟨_, _, _, rfl, by decide⟩, ?_⟩
      rintro _ _ τ ⟨rfl, rfl⟩
      refine ⟨⟨_, _, rfl⟩, ?_⟩
      rintro _ _ τ ⟨rfl, rfl⟩
      refine ⟨?_, frW_tr (frW_put σ a 2) ?_, rfl⟩
      · show rvC (sp_putTrap (sp_put σ 21 a 2) 22 a t) = _
        rw [rvC_trap _ _ _ ht, rvC_put]
        exact (if_pos (Int32.not_le.mp h)).symm
      · unfold sp_putTrap
        split
        · exact ⟨fun k _ _ _ h => if_neg h, rfl⟩
        · exact frW_rf _
