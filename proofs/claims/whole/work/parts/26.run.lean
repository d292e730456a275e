/-! runs of steps -/
def ms_run (f : Nat → Int32) (tr : Int32 → Int32) (w : mst → mst) : Nat → mst → Int32 × mst
  | 0, x => (0, x)
  | n + 1, x => if (ms_step f tr (w x)).1 = 0 then ms_run f tr w n (ms_step f tr (w x)).2 else ms_step f tr (w x)
/-- where a machine can stand -/
def msR (x : mst) : Prop := match x with
  | (_, _, s, _, _, pc, h, sh, _) => (0 ≤ pc.toInt ∧ pc.toInt ≤ 256) ∧ (0 ≤ h.toInt ∧ h.toInt ≤ 8) ∧ (0 ≤ sh.toInt ∧ sh.toInt ≤ 40) ∧ ∀ i : Nat, (i : Int) < h.toInt → 0 ≤ (s i).toInt ∧ (s i).toInt ≤ 256
def byF (f : Nat → Int32) : Prop := ∀ i : Nat, i < 256 → 0 ≤ (f i).toInt ∧ (f i).toInt < 256
def trF (tr : Int32 → Int32) : Prop := ∀ a : Int32, tr a = -1 ∨ (0 ≤ (tr a).toInt ∧ (tr a).toInt ≤ 256)
theorem i_cl {x : Int32} (h : 0 ≤ x.toInt) : (x.toNatClampNeg : Int) = x.toInt := by
  show ((x.toInt.toNat : Nat) : Int) = x.toInt
  omega
theorem sp_at_by {f : Nat → Int32} (hf : byF f) (a : Int32) : 0 ≤ (sp_at f a).toInt ∧ (sp_at f a).toInt < 256 := by
  unfold sp_at
  split
  · rename_i h
    rw [Int32.le_iff_toInt_le, Int32.lt_iff_toInt_lt] at h
    have h0 : (0 : Int32).toInt = 0 := rfl
    have h1 : (256 : Int32).toInt = 256 := rfl
    have h2 := i_cl (x := a) (by omega)
    exact hf _ (by omega)
  · decide
theorem sp_len_3 (k : Int32) : (sp_len k).toInt = 1 ∨ (sp_len k).toInt = 2 ∨ (sp_len k).toInt = 3 := by
  unfold sp_len
  split
  · exact Or.inl rfl
  · split
    · exact Or.inr (Or.inr rfl)
    · exact Or.inr (Or.inl rfl)
theorem i_add {x y : Int32} (h1 : -1000000000 ≤ x.toInt) (h2 : x.toInt ≤ 1000000000) (h3 : -1000000000 ≤ y.toInt) (h4 : y.toInt ≤ 1000000000) : (x + y).toInt = x.toInt + y.toInt := by
  rw [Int32.toInt_add]
  exact Int.bmod_eq_of_le (by omega) (by omega)
theorem i_sub {x y : Int32} (h1 : -1000000000 ≤ x.toInt) (h2 : x.toInt ≤ 1000000000) (h3 : -1000000000 ≤ y.toInt) (h4 : y.toInt ≤ 1000000000) : (x - y).toInt = x.toInt - y.toInt := by
  rw [Int32.toInt_sub]
  exact Int.bmod_eq_of_le (by omega) (by omega)
theorem sp_br_R (t : Int32) : sp_br t = -1 ∨ (0 ≤ (sp_br t).toInt ∧ (sp_br t).toInt ≤ 256) := by
  unfold sp_br
  split
  · rename_i h
    rw [Int32.le_iff_toInt_le, Int32.lt_iff_toInt_lt] at h
    have h0 : (0 : Int32).toInt = 0 := rfl
    have h1 : (256 : Int32).toInt = 256 := rfl
    exact Or.inr (by omega)
  · exact Or.inl rfl
theorem ms_calc_sh (kd op n : Int32) (r c s o : Nat → Int32) (t : Nat → Int64) (pc h sh dn : Int32) : ∃ r' c' t', ms_calc kd op n (r, c, s, o, t, pc, h, sh, dn) = (r', c', s, o, t', pc, h, sh, dn) := by
  simp only [ms_calc]
  repeat' split
  all_goals exact ⟨_, _, _, rfl⟩
theorem ms_perf_R {f : Nat → Int32} {tr : Int32 → Int32} (hf : byF f) (ht : trF tr) {kd op n m bh : Int32} (hb : 0 ≤ bh.toInt ∧ bh.toInt ≤ 256) (hn : 0 ≤ n.toInt ∧ n.toInt < 256) (hm : 0 ≤ m.toInt ∧ m.toInt < 256) {x : mst} (hx : msR x) :
    ((ms_perf f tr kd op n m bh x).1 = -1 ∨ (0 ≤ (ms_perf f tr kd op n m bh x).1.toInt ∧ (ms_perf f tr kd op n m bh x).1.toInt ≤ 256)) ∧ msR (ms_perf f tr kd op n m bh x).2 := by
  obtain ⟨r, c, s, o, t, pc, h, sh, dn⟩ := x
  obtain ⟨hpc, hh, hsh, hst⟩ := hx
  have h0 : (0 : Int32).toInt = 0 := rfl
  have h1 : (1 : Int32).toInt = 1 := rfl
  have h8 : (8 : Int32).toInt = 8 := rfl
  have h40 : (40 : Int32).toInt = 40 := rfl
  have push : ∀ z : Int32, (0 ≤ z.toInt ∧ z.toInt ≤ 256) → h < 8 → msR (r, c, upd s h.toNatClampNeg z, o, t, pc, h + 1, sh, dn) := by
    intro z hz h7
    rw [Int32.lt_iff_toInt_lt, h8] at h7
    have e1 : (h + 1).toInt = h.toInt + 1 := by rw [i_add (by omega) (by omega) (by omega) (by omega), h1]
    refine ⟨hpc, by rw [e1]; omega, hsh, fun i hi => ?_⟩
    rw [e1] at hi
    unfold upd
    by_cases hi2 : i = h.toNatClampNeg
    · rw [if_pos hi2]; exact hz
    · rw [if_neg hi2]
      have := i_cl (x := h) (by omega)
      exact hst i (by omega)
  suffices key : ∀ y : Int32 × mst, y = ms_perf f tr kd op n m bh (r, c, s, o, t, pc, h, sh, dn) → (y.1 = -1 ∨ (0 ≤ y.1.toInt ∧ y.1.toInt ≤ 256)) ∧ msR y.2 from key _ rfl
  intro y hy
  by_cases k2 : kd = 2
  · have hy := hy.trans (if_pos k2)
    subst hy; exact ⟨ht pc, hpc, hh, hsh, hst⟩
  by_cases k3 : kd = 3
  · have hy := hy.trans ((if_neg k2).trans (if_pos k3))
    by_cases h7 : 0 < h
    · have hy := hy.trans (if_pos h7)
      rw [Int32.lt_iff_toInt_lt, h0] at h7
      have e1 : (h - 1).toInt = h.toInt - 1 := by rw [i_sub (by omega) (by omega) (by omega) (by omega), h1]
      have e2 := i_cl (x := h - 1) (by omega)
      subst hy
      exact ⟨Or.inr (hst _ (by omega)), hpc, by rw [e1]; omega, hsh, fun i hi => hst i (by rw [e1] at hi; omega)⟩
    · have hy := hy.trans (if_neg h7)
      subst hy; exact ⟨Or.inl rfl, hpc, hh, hsh, hst⟩
  by_cases k12 : kd = 12
  · have hy := hy.trans ((if_neg k2).trans ((if_neg k3).trans (if_pos k12)))
    by_cases h7 : sh < 40
    · have hy := hy.trans (if_pos h7)
      rw [Int32.lt_iff_toInt_lt, h40] at h7
      have e1 : (sh + 1).toInt = sh.toInt + 1 := by rw [i_add (by omega) (by omega) (by omega) (by omega), h1]
      subst hy
      exact ⟨Or.inr hb, hpc, hh, by rw [e1]; omega, hst⟩
    · have hy := hy.trans (if_neg h7)
      subst hy; exact ⟨Or.inl rfl, hpc, hh, hsh, hst⟩
  by_cases k60 : kd = 60
  · have hy := hy.trans ((if_neg k2).trans ((if_neg k3).trans ((if_neg k12).trans (if_pos k60))))
    subst hy
    refine ⟨?_, hpc, hh, hsh, hst⟩
    by_cases h7 : r (sp_reg kd op).toNatClampNeg = 0
    · rw [show ((if r (sp_reg kd op).toNatClampNeg = 0 then sp_br (bh + n.toInt8.toInt32) else bh, (r, c, s, o, t, pc, h, sh, dn)) : Int32 × mst).1 = sp_br (bh + n.toInt8.toInt32) from if_pos h7]
      exact sp_br_R _
    · rw [show ((if r (sp_reg kd op).toNatClampNeg = 0 then sp_br (bh + n.toInt8.toInt32) else bh, (r, c, s, o, t, pc, h, sh, dn)) : Int32 × mst).1 = bh from if_neg h7]
      exact Or.inr hb
  by_cases k64 : kd = 64
  · have hy := hy.trans ((if_neg k2).trans ((if_neg k3).trans ((if_neg k12).trans ((if_neg k60).trans (if_pos k64)))))
    subst hy
    refine ⟨?_, hpc, hh, hsh, hst⟩
    by_cases h7 : r (sp_reg kd op).toNatClampNeg < 0
    · rw [show ((if r (sp_reg kd op).toNatClampNeg < 0 then sp_br (bh + n.toInt8.toInt32) else bh, (r, c, s, o, t, pc, h, sh, dn)) : Int32 × mst).1 = sp_br (bh + n.toInt8.toInt32) from if_pos h7]
      exact sp_br_R _
    · rw [show ((if r (sp_reg kd op).toNatClampNeg < 0 then sp_br (bh + n.toInt8.toInt32) else bh, (r, c, s, o, t, pc, h, sh, dn)) : Int32 × mst).1 = bh from if_neg h7]
      exact Or.inr hb
  by_cases k68 : kd = 68
  · have hy := hy.trans ((if_neg k2).trans ((if_neg k3).trans ((if_neg k12).trans ((if_neg k60).trans ((if_neg k64).trans (if_pos k68))))))
    subst hy; exact ⟨sp_br_R _, hpc, hh, hsh, hst⟩
  by_cases k69 : kd = 69
  · have hy := hy.trans ((if_neg k2).trans ((if_neg k3).trans ((if_neg k12).trans ((if_neg k60).trans ((if_neg k64).trans ((if_neg k68).trans (if_pos k69)))))))
    subst hy; exact ⟨Or.inr (by show 0 ≤ n.toInt ∧ n.toInt ≤ 256; omega), hpc, hh, hsh, hst⟩
  by_cases k70 : kd = 70
  · have hy := hy.trans ((if_neg k2).trans ((if_neg k3).trans ((if_neg k12).trans ((if_neg k60).trans ((if_neg k64).trans ((if_neg k68).trans ((if_neg k69).trans (if_pos k70))))))))
    by_cases h7 : h < 8
    · have hy := hy.trans (if_pos h7)
      subst hy
      exact ⟨Or.inr (by show 0 ≤ n.toInt ∧ n.toInt ≤ 256; omega), push bh hb h7⟩
    · have hy := hy.trans (if_neg h7)
      subst hy; exact ⟨Or.inl rfl, hpc, hh, hsh, hst⟩
  by_cases k72 : kd = 72
  · have hy := hy.trans ((if_neg k2).trans ((if_neg k3).trans ((if_neg k12).trans ((if_neg k60).trans ((if_neg k64).trans ((if_neg k68).trans ((if_neg k69).trans ((if_neg k70).trans (if_pos k72)))))))))
    subst hy
    refine ⟨?_, hpc, hh, hsh, hst⟩
    show sp_look f n m (r (sp_reg kd op).toNatClampNeg) = -1 ∨ (0 ≤ (sp_look f n m (r (sp_reg kd op).toNatClampNeg)).toInt ∧ (sp_look f n m (r (sp_reg kd op).toNatClampNeg)).toInt ≤ 256)
    unfold sp_look
    split
    · exact Or.inl rfl
    · split
      · exact Or.inr (by have := sp_at_by hf (n + sp_fm (r (sp_reg kd op).toNatClampNeg) m); omega)
      · exact Or.inl rfl
  by_cases k77 : kd = 77
  · have hy := hy.trans ((if_neg k2).trans ((if_neg k3).trans ((if_neg k12).trans ((if_neg k60).trans ((if_neg k64).trans ((if_neg k68).trans ((if_neg k69).trans ((if_neg k70).trans ((if_neg k72).trans (if_pos k77))))))))))
    by_cases h7 : h < 8
    · have hy := hy.trans (if_pos h7)
      subst hy
      exact ⟨Or.inr (by show 0 ≤ n.toInt ∧ n.toInt ≤ 256; omega), push m (by omega) h7⟩
    · have hy := hy.trans (if_neg h7)
      subst hy; exact ⟨Or.inl rfl, hpc, hh, hsh, hst⟩
  have hy := hy.trans ((if_neg k2).trans ((if_neg k3).trans ((if_neg k12).trans ((if_neg k60).trans ((if_neg k64).trans ((if_neg k68).trans ((if_neg k69).trans ((if_neg k70).trans ((if_neg k72).trans (if_neg k77))))))))))
  obtain ⟨r', c', t', e⟩ := ms_calc_sh kd op n r c s o t pc h sh dn
  rw [e] at hy
  subst hy
  exact ⟨Or.inr hb, hpc, hh, hsh, hst⟩
theorem ms_go_R {y : mst} {nx : Int32} (h : msR y) (hn : 0 ≤ nx.toInt ∧ nx.toInt ≤ 256) : msR (ms_go y nx) := by
  obtain ⟨r, c, s, o, t, pc, h9, sh, dn⟩ := y
  exact ⟨hn, h.2⟩
theorem ms_1_R {y : mst} (h : msR y) : msR (ms_1 y) := by
  obtain ⟨r, c, s, o, t, pc, h9, sh, dn⟩ := y
  exact h
theorem ms_pc_R {y : mst} (h : msR y) : 0 ≤ (ms_pc y).toInt ∧ (ms_pc y).toInt ≤ 256 := by
  obtain ⟨r, c, s, o, t, pc, h9, sh, dn⟩ := y
  exact h.1
theorem ms_step_R {f : Nat → Int32} {tr : Int32 → Int32} (hf : byF f) (ht : trF tr) {x : mst} (hx : msR x) : msR (ms_step f tr x).2 := by
  suffices key : ∀ y : Int32 × mst, y = ms_step f tr x → msR y.2 from key _ rfl
  intro y hy
  unfold ms_step at hy
  have hpc := ms_pc_R hx
  have hl := sp_len_3 (sp_kind (sp_at f (ms_pc x)))
  have e1 : (ms_pc x + sp_len (sp_kind (sp_at f (ms_pc x)))).toInt = (ms_pc x).toInt + (sp_len (sp_kind (sp_at f (ms_pc x)))).toInt := i_add (by omega) (by omega) (by omega) (by omega)
  split at hy
  · rename_i hok
    have hb : 0 ≤ (ms_pc x + sp_len (sp_kind (sp_at f (ms_pc x)))).toInt ∧ (ms_pc x + sp_len (sp_kind (sp_at f (ms_pc x)))).toInt ≤ 256 := by
      have h4 := hok.2.2.2
      rw [Int32.le_iff_toInt_le] at h4
      have h5 : (256 : Int32).toInt = 256 := rfl
      omega
    have hP := ms_perf_R (kd := sp_kind (sp_at f (ms_pc x))) (op := sp_at f (ms_pc x)) hf ht hb (sp_at_by hf (ms_pc x + 1)) (sp_at_by hf (ms_pc x + 2)) hx
    generalize ms_perf f tr (sp_kind (sp_at f (ms_pc x))) (sp_at f (ms_pc x)) (sp_at f (ms_pc x + 1)) (sp_at f (ms_pc x + 2)) (ms_pc x + sp_len (sp_kind (sp_at f (ms_pc x)))) x = P at hy hP
    split at hy
    · subst hy; exact ms_1_R hx
    · split at hy
      · subst hy; exact hP.2
      · rename_i hn
        subst hy
        exact ms_go_R hP.2 (hP.1.resolve_left hn)
  · subst hy; exact hx
/-- the start of a run -/
def ms_begin (d : Nat → Int32) (x : mst) : mst := match x with
  | (r, c, s, o, t, _, _, _, _) => (sp_fill r 4 0, va_cpy d c 0 0 16, s, o, sp_fill t 64 0, 0, 0, 0, 0)
theorem ms_begin_R (d : Nat → Int32) (x : mst) : msR (ms_begin d x) := by
  obtain ⟨r, c, s, o, t, pc, h, sh, dn⟩ := x
  refine ⟨by decide, by decide, by decide, fun i hi => ?_⟩
  have : (0 : Int32).toInt = 0 := rfl
  omega
def y_M_start : MethodName := ⟨RX2, "start", "([I)V"⟩
def ws_M_start : List Cond := .code y_M_start prog_4_method_10_code 2 none :: evW
theorem d_M_start_0 : decode prog_4_method_10_code 0 = .ok (.aload_n 0, 1) := by decide +kernel
theorem d_M_start_1 : decode prog_4_method_10_code 1 = .ok (.getfield 18, 3) := by decide +kernel
theorem d_M_start_4 : decode prog_4_method_10_code 4 = .ok (.iconst 0, 1) := by decide +kernel
theorem d_M_start_5 : decode prog_4_method_10_code 5 = .ok (.invokestatic 48, 3) := by decide +kernel
theorem d_M_start_8 : decode prog_4_method_10_code 8 = .ok (.aload_n 0, 1) := by decide +kernel
theorem d_M_start_9 : decode prog_4_method_10_code 9 = .ok (.getfield 31, 3) := by decide +kernel
theorem d_M_start_12 : decode prog_4_method_10_code 12 = .ok (.lconst 0, 1) := by decide +kernel
theorem d_M_start_13 : decode prog_4_method_10_code 13 = .ok (.invokestatic 54, 3) := by decide +kernel
theorem d_M_start_16 : decode prog_4_method_10_code 16 = .ok (.aload_n 1, 1) := by decide +kernel
theorem d_M_start_17 : decode prog_4_method_10_code 17 = .ok (.iconst 0, 1) := by decide +kernel
theorem d_M_start_18 : decode prog_4_method_10_code 18 = .ok (.aload_n 0, 1) := by decide +kernel
theorem d_M_start_19 : decode prog_4_method_10_code 19 = .ok (.getfield 22, 3) := by decide +kernel
theorem d_M_start_22 : decode prog_4_method_10_code 22 = .ok (.iconst 0, 1) := by decide +kernel
theorem d_M_start_23 : decode prog_4_method_10_code 23 = .ok (.bipush 16, 2) := by decide +kernel
theorem d_M_start_25 : decode prog_4_method_10_code 25 = .ok (.invokestatic 57, 3) := by decide +kernel
theorem d_M_start_28 : decode prog_4_method_10_code 28 = .ok (.aload_n 0, 1) := by decide +kernel
theorem d_M_start_29 : decode prog_4_method_10_code 29 = .ok (.iconst 0, 1) := by decide +kernel
theorem d_M_start_30 : decode prog_4_method_10_code 30 = .ok (.putfield 42, 3) := by decide +kernel
theorem d_M_start_33 : decode prog_4_method_10_code 33 = .ok (.aload_n 0, 1) := by decide +kernel
theorem d_M_start_34 : decode prog_4_method_10_code 34 = .ok (.iconst 0, 1) := by decide +kernel
theorem d_M_start_35 : decode prog_4_method_10_code 35 = .ok (.putfield 39, 3) := by decide +kernel
theorem d_M_start_38 : decode prog_4_method_10_code 38 = .ok (.aload_n 0, 1) := by decide +kernel
theorem d_M_start_39 : decode prog_4_method_10_code 39 = .ok (.iconst 0, 1) := by decide +kernel
theorem d_M_start_40 : decode prog_4_method_10_code 40 = .ok (.putfield 35, 3) := by decide +kernel
theorem d_M_start_43 : decode prog_4_method_10_code 43 = .ok (.aload_n 0, 1) := by decide +kernel
theorem d_M_start_44 : decode prog_4_method_10_code 44 = .ok (.iconst 0, 1) := by decide +kernel
theorem d_M_start_45 : decode prog_4_method_10_code 45 = .ok (.putfield 45, 3) := by decide +kernel
theorem d_M_start_48 : decode prog_4_method_10_code 48 = .ok (.return_, 1) := by decide +kernel
def I_M_start (P : Unit → ev_M → ev_L → Prop) : List (Nat × ev_T) := [(0, tt_al 0 1),
  (1, tt_gf evLY 2 1 4),
  (4, tt_k 0 5),
  (5, tt_cS 2 ev_n pre_J_fillI post_J_fillI 8),
  (8, tt_al 0 9),
  (9, tt_gf evLY 2 5 12),
  (12, tt_lk 0 13),
  (13, tt_cS 2 ev_n pre_J_fillJ post_J_fillJ 16),
  (16, tt_al 1 17),
  (17, tt_k 0 18),
  (18, tt_al 0 19),
  (19, tt_gf evLY 2 2 22),
  (22, tt_k 0 23),
  (23, tt_k 16 25),
  (25, tt_cpy evLY 28),
  (28, tt_al 0 29),
  (29, tt_k 0 30),
  (30, tt_pf evLY 2 6 33),
  (33, tt_al 0 34),
  (34, tt_k 0 35),
  (35, tt_pf evLY 2 7 38),
  (38, tt_al 0 39),
  (39, tt_k 0 40),
  (40, tt_pf evLY 2 8 43),
  (43, tt_al 0 44),
  (44, tt_k 0 45),
  (45, tt_pf evLY 2 9 48),
  (48, tt_rv P)]
abbrev rm_M_start : Room := { frames := 1, cells := 0, slots := 0, locals := 32 }
set_option maxRecDepth 20000 in
theorem ok_M_start (l : Launch) (J : ev_K) (P : Unit → ev_M → ev_L → Prop) (X : ev_X l rm_M_start evLY evCl ws_M_start prog_4_method_10_code 2 y_M_start.cls J) (Z : ev_Z J prog_4_method_10_code .return_ ev_n P) : ev_oks J (I_M_start P) :=
  ⟨qq_aln X 0 rfl d_M_start_0,
  qq_gf X 2 1 rfl (fun w h => List.mem_cons_of_mem _ (inE_M w h)) (by decide) (List.mem_cons_of_mem _ mw_162) d_M_start_1,
  qq_ic X 0 (by decide) d_M_start_4,
  qq_cS X (c_J_fillI l) (fun hts => va_cwS 2 hts (evGS (mw_611) (mw_404) (mw_15) (mw_405)) rfl rfl rfl (by decide +kernel) ⟨Nat.le_of_ble_eq_true rfl, Nat.le_of_ble_eq_true rfl⟩) d_M_start_5,
  qq_aln X 0 rfl d_M_start_8,
  qq_gf X 2 5 rfl (fun w h => List.mem_cons_of_mem _ (inE_M w h)) (by decide) (List.mem_cons_of_mem _ mw_166) d_M_start_9,
  qq_lc X 0 (by decide) d_M_start_12,
  qq_cS X (c_J_fillJ l) (fun hts => va_cwS 2 hts (evGS (mw_612) (mw_613) (mw_15) (mw_614)) rfl rfl rfl (by decide +kernel) ⟨Nat.le_of_ble_eq_true rfl, Nat.le_of_ble_eq_true rfl⟩) d_M_start_13,
  qq_aln X 1 rfl d_M_start_16,
  qq_ic X 0 (by decide) d_M_start_17,
  qq_aln X 0 rfl d_M_start_18,
  qq_gf X 2 2 rfl (fun w h => List.mem_cons_of_mem _ (inE_M w h)) (by decide) (List.mem_cons_of_mem _ mw_163) d_M_start_19,
  qq_ic X 0 (by decide) d_M_start_22,
  qq_bp X 16 (by decide) d_M_start_23,
  qq_cpy X (List.mem_cons_of_mem _ mw_615) (List.mem_cons_of_mem _ mw_531) (List.mem_cons_of_mem _ mw_530) (List.mem_cons_of_mem _ mw_17) (by decide) (by decide) d_M_start_25,
  qq_aln X 0 rfl d_M_start_28,
  qq_ic X 0 (by decide) d_M_start_29,
  qq_pf X 2 6 rfl (fun w h => List.mem_cons_of_mem _ (inE_M w h)) (by decide) tyX2 tyX2_ok nmX2 rfl (by decide +kernel) (List.mem_cons_of_mem _ mw_167) d_M_start_30,
  qq_aln X 0 rfl d_M_start_33,
  qq_ic X 0 (by decide) d_M_start_34,
  qq_pf X 2 7 rfl (fun w h => List.mem_cons_of_mem _ (inE_M w h)) (by decide) tyX2 tyX2_ok nmX2 rfl (by decide +kernel) (List.mem_cons_of_mem _ mw_168) d_M_start_35,
  qq_aln X 0 rfl d_M_start_38,
  qq_ic X 0 (by decide) d_M_start_39,
  qq_pf X 2 8 rfl (fun w h => List.mem_cons_of_mem _ (inE_M w h)) (by decide) tyX2 tyX2_ok nmX2 rfl (by decide +kernel) (List.mem_cons_of_mem _ mw_169) d_M_start_40,
  qq_aln X 0 rfl d_M_start_43,
  qq_ic X 0 (by decide) d_M_start_44,
  qq_pf X 2 9 rfl (fun w h => List.mem_cons_of_mem _ (inE_M w h)) (by decide) tyX2 tyX2_ok nmX2 rfl (by decide +kernel) (List.mem_cons_of_mem _ mw_170) d_M_start_45,
  qq_rv Z d_M_start_48, trivial⟩
def pre_M_start : List Value → ev_M → ev_L → Prop := fun as σ τ => as = [.ref 23, .ref 7]
def post_M_start : List Value → ev_M → ev_L → Unit → ev_M → ev_L → Prop := fun as σ τ _ σ' τ' => mvC σ' τ' = ms_begin (σ 7) (mvC σ τ) ∧ frC σ σ' τ τ'
set_option maxHeartbeats 4000000 in
set_option maxRecDepth 100000 in
theorem c_M_start (l : Launch) : ev_C ev_n l y_M_start ws_M_start rm_M_start evLY evCl pre_M_start post_M_start := by
  refine ev_meth0 (by decide) rfl ev_rop_v ?_ I_M_start (ok_M_start l) 60 ?_
  · rintro _ σ τ rfl
    exact Nat.le_of_ble_eq_true rfl
  · rintro _ σ τ rfl
    refine ⟨⟨_, _, rfl, by decide⟩, ?_⟩
    rintro _ _ _ ⟨rfl, rfl⟩
    refine ⟨⟨_, rfl⟩, ?_⟩
    rintro _ _ _ ⟨rfl, rfl⟩
    refine ⟨by decide, rfl, fun k hk => ?_, fun k hk => if_neg hk⟩
    have h1 : ¬ k = 23 := by omega
    have h2 : ¬ k = 25 := by omega
    have h3 : ¬ k = 26 := by omega
    simp [ev_u, ev_p, h1, h2, h3]
def y_M_execute : MethodName := ⟨RX2, "execute", "(LBlockCounter$Program;I)I"⟩
def ws_M_execute : List Cond := .code y_M_execute prog_4_method_11_code 5 (some .int) :: evW
theorem d_M_execute_0 : decode prog_4_method_11_code 0 = .ok (.iconst 0, 1) := by decide +kernel
theorem d_M_execute_1 : decode prog_4_method_11_code 1 = .ok (.istore_n 3, 1) := by decide +kernel
theorem d_M_execute_2 : decode prog_4_method_11_code 2 = .ok (.iconst 0, 1) := by decide +kernel
theorem d_M_execute_3 : decode prog_4_method_11_code 3 = .ok (.istore 4, 2) := by decide +kernel
theorem d_M_execute_5 : decode prog_4_method_11_code 5 = .ok (.iload 4, 2) := by decide +kernel
theorem d_M_execute_7 : decode prog_4_method_11_code 7 = .ok (.iload_n 2, 1) := by decide +kernel
theorem d_M_execute_8 : decode prog_4_method_11_code 8 = .ok (.if_icmp .ge 19, 3) := by decide +kernel
theorem d_M_execute_11 : decode prog_4_method_11_code 11 = .ok (.iload_n 3, 1) := by decide +kernel
theorem d_M_execute_12 : decode prog_4_method_11_code 12 = .ok (.ifCond .ne 15, 3) := by decide +kernel
theorem d_M_execute_15 : decode prog_4_method_11_code 15 = .ok (.aload_n 0, 1) := by decide +kernel
theorem d_M_execute_16 : decode prog_4_method_11_code 16 = .ok (.aload_n 1, 1) := by decide +kernel
theorem d_M_execute_17 : decode prog_4_method_11_code 17 = .ok (.invokevirtual 63, 3) := by decide +kernel
theorem d_M_execute_20 : decode prog_4_method_11_code 20 = .ok (.istore_n 3, 1) := by decide +kernel
theorem d_M_execute_21 : decode prog_4_method_11_code 21 = .ok (.iinc 4 1, 3) := by decide +kernel
theorem d_M_execute_24 : decode prog_4_method_11_code 24 = .ok (.goto (-19), 3) := by decide +kernel
theorem d_M_execute_27 : decode prog_4_method_11_code 27 = .ok (.iload_n 3, 1) := by decide +kernel
theorem d_M_execute_28 : decode prog_4_method_11_code 28 = .ok (.ireturn, 1) := by decide +kernel
def I_M_execute (P : Int32 → ev_M → ev_L → Prop) : List (Nat × ev_T) := [(0, tt_k 0 1),
  (1, tt_is 3 2),
  (2, tt_k 0 3),
  (3, tt_is 4 5),
  (5, tt_il 4 7),
  (7, tt_il 2 8),
  (8, tt_icge 27 11),
  (11, tt_il 3 12),
  (12, tt_ifne 27 15),
  (15, tt_al 0 16),
  (16, tt_al 1 17),
  (17, tt_cV evLY 2 1 ev_i pre_M_step post_M_step 20),
  (20, tt_is 3 21),
  (21, tt_ii 4 1 24),
  (24, tt_go 5),
  (27, tt_il 3 28),
  (28, tt_ri P)]
abbrev rm_M_execute : Room := { frames := 6, cells := 0, slots := 0, locals := 192 }
set_option maxRecDepth 20000 in
theorem ok_M_execute (l : Launch) (J : ev_K) (P : Int32 → ev_M → ev_L → Prop) (X : ev_X l rm_M_execute evLY evCl ws_M_execute prog_4_method_11_code 5 y_M_execute.cls J) (Z : ev_Z J prog_4_method_11_code .ireturn ev_i P) : ev_oks J (I_M_execute P) :=
  ⟨qq_ic X 0 (by decide) d_M_execute_0,
  qq_isn X 3 rfl (by decide) d_M_execute_1,
  qq_ic X 0 (by decide) d_M_execute_2,
  qq_is X 4 (by decide) d_M_execute_3,
  qq_il X 4 d_M_execute_5,
  qq_iln X 2 rfl d_M_execute_7,
  qq_icge X 27 (by decide) d_M_execute_8,
  qq_iln X 3 rfl d_M_execute_11,
  qq_ifne X 27 (by decide) d_M_execute_12,
  qq_aln X 0 rfl d_M_execute_15,
  qq_aln X 1 rfl d_M_execute_16,
  qq_cV X 2 rfl (c_M_step l) (fun hts => cwV 1 hts (evGV (mw_620) (mw_622) (mp_16) (mw_7) (mw_623)) rfl rfl rfl (by decide +kernel) ⟨Nat.le_of_ble_eq_true rfl, Nat.le_of_ble_eq_true rfl⟩) d_M_execute_17,
  qq_isn X 3 rfl (by decide) d_M_execute_20,
  qq_ii X 4 1 (by decide) (by decide) d_M_execute_21,
  qq_go X 5 (by decide) d_M_execute_24,
  qq_iln X 3 rfl d_M_execute_27,
  qq_ri Z d_M_execute_28, trivial⟩
def pre_M_execute : List Value → ev_M → ev_L → Prop := fun as σ τ => ∃ (q : Nat) (z : Nat), as = [.ref 23, .ref q, .int (nI z)] ∧ (q = 1 ∨ q = 20) ∧ z ≤ 3000 ∧ byF (σ (q + 1)) ∧ trF (sp_trap (σ (q + 2))) ∧ msR (mvC σ τ)
def post_M_execute : List Value → ev_M → ev_L → Int32 → ev_M → ev_L → Prop := fun as σ τ r σ' τ' => match as with
  | [_, .ref q, .int z] => (r, mvC σ' τ') = ms_run (σ (q + 1)) (sp_trap (σ (q + 2))) (fun x => x) z.toNatClampNeg (mvC σ τ) ∧ frC σ σ' τ τ'
  | _ => False
set_option maxHeartbeats 4000000 in
set_option maxRecDepth 100000 in
theorem c_M_execute (l : Launch) : ev_C ev_i l y_M_execute ws_M_execute rm_M_execute evLY evCl pre_M_execute post_M_execute := by
  refine ev_methL (by decide) rfl ev_rop_i ?_ I_M_execute (ok_M_execute l) [5] 40 ?_
  · rintro _ σ τ ⟨q, z, rfl, h⟩
    exact Nat.le_of_ble_eq_true rfl
  · rintro _ σ τ ⟨q, z, rfl, hq, hz, hf, ht, hR⟩
    refine ⟨fun μ pc lv st σ' τ' n => st = [] ∧ n = 0 ∧ ((pc = 0 ∧ μ = 5000 ∧ lv = [.ref 23, .ref q, .int (nI z), .null, .null] ∧ σ' = σ ∧ τ' = τ) ∨ (pc = 5 ∧ ∃ (i : Nat) (o : Int32), i ≤ z ∧ μ = z - i ∧ lv = [.ref 23, .ref q, .int (nI z), .int o, .int (nI i)] ∧ frC σ σ' τ τ' ∧ msR (mvC σ' τ') ∧ ((o = 0 ∧ ms_run (σ (q + 1)) (sp_trap (σ (q + 2))) (fun x => x) (z - i) (mvC σ' τ') = ms_run (σ (q + 1)) (sp_trap (σ (q + 2))) (fun x => x) z (mvC σ τ)) ∨ (¬ o = 0 ∧ (o, mvC σ' τ') = ms_run (σ (q + 1)) (sp_trap (σ (q + 2))) (fun x => x) z (mvC σ τ))))), ⟨5000, rfl, rfl, Or.inl ⟨rfl, rfl, rfl, rfl, rfl⟩⟩, ?_⟩
    rintro μ pc lv st σ' τ' n ⟨rfl, rfl, ⟨rfl, rfl, rfl, rfl, rfl⟩ | ⟨rfl, i, o, hi, rfl, rfl, hfr, hR', hres⟩⟩
    · exact ⟨z, by omega, rfl, rfl, Or.inr ⟨rfl, 0, 0, Nat.zero_le _, rfl, rfl, frC_rf _ _, hR, Or.inl ⟨rfl, rfl⟩⟩⟩
    · have hcl : (nI z).toNatClampNeg = z := nI_clamp (by omega)
      refine br_c (fun h => ?_) (fun h => br_n (fun h2 => ?_) (fun h2 => ?_))
      · have hiz : z ≤ i := (nI_leI (by omega) (by omega)).mp h
        have e0 : z - i = 0 := by omega
        refine ⟨?_, hfr⟩
        rw [hcl]
        rcases hres with ⟨rfl, h3⟩ | ⟨_, h3⟩
        · rw [← h3, e0]; rfl
        · exact h3
      · refine ⟨?_, hfr⟩
        rw [hcl]
        rcases hres with ⟨h3, _⟩ | ⟨_, h3⟩
        · exact absurd h3 h2
        · exact h3
      · have hiz : i < z := Nat.not_le.mp fun q => h ((nI_leI (by omega) (by omega)).mpr q)
        have hres2 := (hres.resolve_right (fun w => w.1 h2)).2
        have e1 : z - i = (z - (i + 1)) + 1 := by omega
        have hcr : 0 ≤ σ' 23 7 ∧ (σ' 23 7).toInt ≤ 8 ∧ 0 ≤ σ' 23 8 := by
          have h3 := hR'.2.1
          have h4 := hR'.2.2.1
          exact ⟨Int32.le_iff_toInt_le.mpr h3.1, h3.2, Int32.le_iff_toInt_le.mpr h4.1⟩
        have eq1 : σ' (q + 1) = σ (q + 1) := hfr.1 _ (by rcases hq with rfl | rfl <;> omega)
        have eq2 : σ' (q + 2) = σ (q + 2) := hfr.1 _ (by rcases hq with rfl | rfl <;> omega)
        refine ⟨⟨q, rfl, hq, hcr⟩, ?_⟩
        rintro r σ2 τ2 ⟨hs, hf2⟩
        rw [eq1, eq2] at hs
        have hs1 : (ms_step (σ (q + 1)) (sp_trap (σ (q + 2))) (mvC σ' τ')).1 = r := by rw [← hs]
        have hs2 : (ms_step (σ (q + 1)) (sp_trap (σ (q + 2))) (mvC σ' τ')).2 = mvC σ2 τ2 := by rw [← hs]
        refine ⟨z - (i + 1), by omega, rfl, rfl, Or.inr ⟨rfl, i + 1, r, by omega, rfl, by rw [← nI_1], frC_tr hfr hf2, by rw [← hs2]; exact ms_step_R hf ht hR', ?_⟩⟩
        rw [e1] at hres2
        rw [← hres2]
        by_cases hr0 : r = 0
        · refine Or.inl ⟨hr0, ?_⟩
          show _ = ite _ _ _
          rw [if_pos (by rw [hs1]; exact hr0), hs2]
        · refine Or.inr ⟨hr0, ?_⟩
          show _ = ite _ _ _
          rw [if_neg (by rw [hs1]; exact hr0)]
          exact hs
