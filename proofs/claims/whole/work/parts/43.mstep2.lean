/-! the reference's step -/
theorem ms_perf_f {f : Nat → Int32} {tr : Int32 → Int32} {kd op n m bh : Int32} (hb : 0 ≤ bh.toInt) (hn : 0 ≤ n.toInt) {x : mst} (hx : msR x) (h1 : (ms_perf f tr kd op n m bh x).1 = -1) : (ms_perf f tr kd op n m bh x).2 = x := by
  obtain ⟨r, c, s, o, t, pc, h, sh, dn⟩ := x
  obtain ⟨hpc, hh, hsh, hst⟩ := hx
  have h0 : (0 : Int32).toInt = 0 := rfl
  have e1' : (1 : Int32).toInt = 1 := rfl
  revert h1
  suffices key : ∀ y : Int32 × mst, y = ms_perf f tr kd op n m bh (r, c, s, o, t, pc, h, sh, dn) → y.1 = -1 → y.2 = (r, c, s, o, t, pc, h, sh, dn) from key _ rfl
  intro y hy
  by_cases k2 : kd = 2
  · have hy := hy.trans (if_pos k2)
    subst hy; intro _; rfl
  by_cases k3 : kd = 3
  · have hy := hy.trans ((if_neg k2).trans (if_pos k3))
    by_cases h7 : 0 < h
    · have hy := hy.trans (if_pos h7)
      rw [Int32.lt_iff_toInt_lt, h0] at h7
      have e1 : (h - 1).toInt = h.toInt - 1 := by rw [i_sub (by omega) (by omega) (by omega) (by omega), e1']
      have e2 := i_cl (x := h - 1) (by omega)
      subst hy
      intro q
      exact absurd q (i_nm1 (hst _ (by omega)).1)
    · have hy := hy.trans (if_neg h7)
      subst hy; intro _; rfl
  by_cases k12 : kd = 12
  · have hy := hy.trans ((if_neg k2).trans ((if_neg k3).trans (if_pos k12)))
    by_cases h7 : sh < 40
    · have hy := hy.trans (if_pos h7)
      subst hy
      intro q
      exact absurd q (i_nm1 hb)
    · have hy := hy.trans (if_neg h7)
      subst hy; intro _; rfl
  by_cases k60 : kd = 60
  · have hy := hy.trans ((if_neg k2).trans ((if_neg k3).trans ((if_neg k12).trans (if_pos k60))))
    subst hy; intro _; rfl
  by_cases k64 : kd = 64
  · have hy := hy.trans ((if_neg k2).trans ((if_neg k3).trans ((if_neg k12).trans ((if_neg k60).trans (if_pos k64)))))
    subst hy; intro _; rfl
  by_cases k68 : kd = 68
  · have hy := hy.trans ((if_neg k2).trans ((if_neg k3).trans ((if_neg k12).trans ((if_neg k60).trans ((if_neg k64).trans (if_pos k68))))))
    subst hy; intro _; rfl
  by_cases k69 : kd = 69
  · have hy := hy.trans ((if_neg k2).trans ((if_neg k3).trans ((if_neg k12).trans ((if_neg k60).trans ((if_neg k64).trans ((if_neg k68).trans (if_pos k69)))))))
    subst hy; intro _; rfl
  by_cases k70 : kd = 70
  · have hy := hy.trans ((if_neg k2).trans ((if_neg k3).trans ((if_neg k12).trans ((if_neg k60).trans ((if_neg k64).trans ((if_neg k68).trans ((if_neg k69).trans (if_pos k70))))))))
    by_cases h7 : h < 8
    · have hy := hy.trans (if_pos h7)
      subst hy
      intro q
      exact absurd q (i_nm1 hn)
    · have hy := hy.trans (if_neg h7)
      subst hy; intro _; rfl
  by_cases k72 : kd = 72
  · have hy := hy.trans ((if_neg k2).trans ((if_neg k3).trans ((if_neg k12).trans ((if_neg k60).trans ((if_neg k64).trans ((if_neg k68).trans ((if_neg k69).trans ((if_neg k70).trans (if_pos k72)))))))))
    subst hy; intro _; rfl
  by_cases k77 : kd = 77
  · have hy := hy.trans ((if_neg k2).trans ((if_neg k3).trans ((if_neg k12).trans ((if_neg k60).trans ((if_neg k64).trans ((if_neg k68).trans ((if_neg k69).trans ((if_neg k70).trans ((if_neg k72).trans (if_pos k77))))))))))
    by_cases h7 : h < 8
    · have hy := hy.trans (if_pos h7)
      subst hy
      intro q
      exact absurd q (i_nm1 hn)
    · have hy := hy.trans (if_neg h7)
      subst hy; intro _; rfl
  have hy := hy.trans ((if_neg k2).trans ((if_neg k3).trans ((if_neg k12).trans ((if_neg k60).trans ((if_neg k64).trans ((if_neg k68).trans ((if_neg k69).trans ((if_neg k70).trans ((if_neg k72).trans (if_neg k77))))))))))
  subst hy
  intro q
  exact absurd q (i_nm1 hb)
def sd_fin (r : Bool) (x : mst) : mst := cond r (ms_1 x) x
def sd_post (y : Int32 × mst) (σ : ev_M) (τ : ev_L) (r : Bool) (σ' : ev_M) (τ' : ev_L) : Prop := frD σ σ' τ τ' ∧ (r = true ↔ ¬ y.1 = 2) ∧ sd_fin r (mvD σ' τ') = y.2 ∧ σ' 30 26 = (if y.1 = 0 then σ 30 26 else y.1)
theorem sd_conv {f : Nat → Int32} {tr : Int32 → Int32} {σ : ev_M} {τ : ev_L} {r : Bool} {σ' : ev_M} {τ' : ev_L} {kd bh : Int32} (hf : byF f) (hR : msR (mvD σ τ)) (h1 : (σ 30 22).toInt ≤ 255) (hk : sp_kind (sp_at f (σ 30 22)) = kd) (hkn : ¬ kd = -1) (hbh : σ 30 22 + sp_len kd = bh) (hb : bh.toInt ≤ 256)
    (h : sd_step f tr kd (sp_at f (σ 30 22)) (sp_at f (σ 30 22 + 1)) (sp_at f (σ 30 22 + 2)) bh σ τ r σ' τ') : sd_post (ms_step f tr (mvD σ τ)) σ τ r σ' τ' := by
  have hp0 : 0 ≤ (σ 30 22).toInt := hR.1.1
  have h256 : (256 : Int32).toInt = 256 := rfl
  have h00 : (0 : Int32).toInt = 0 := rfl
  have hok : ¬ ms_pc (mvD σ τ) < 0 ∧ ms_pc (mvD σ τ) < 256 ∧ ¬ sp_kind (sp_at f (ms_pc (mvD σ τ))) = -1 ∧ ms_pc (mvD σ τ) + sp_len (sp_kind (sp_at f (ms_pc (mvD σ τ)))) ≤ 256 := by
    show ¬ σ 30 22 < 0 ∧ σ 30 22 < 256 ∧ ¬ sp_kind (sp_at f (σ 30 22)) = -1 ∧ σ 30 22 + sp_len (sp_kind (sp_at f (σ 30 22))) ≤ 256
    rw [hk, hbh, Int32.lt_iff_toInt_lt, Int32.lt_iff_toInt_lt, Int32.le_iff_toInt_le, h256, h00]
    exact ⟨by omega, by omega, hkn, hb⟩
  have hl := sp_len_3 kd
  have e1 : bh.toInt = (σ 30 22).toInt + (sp_len kd).toInt := by rw [← hbh]; exact i_add (by omega) (by omega) (by omega) (by omega)
  obtain ⟨hfr, h⟩ := h
  refine ⟨hfr, ?_⟩
  rcases h with ⟨h2, rfl, h4, h5⟩ | ⟨h2, h3, rfl, h5, h6⟩ | ⟨h2, h3, rfl, h5, h6⟩
  · have e : ms_step f tr (mvD σ τ) = (1, ms_1 (mvD σ τ)) := (if_pos hok).trans (if_pos (show sp_kind (sp_at f (σ 30 22)) = 0 by rw [hk]; exact h2))
    rw [e]
    exact ⟨⟨fun _ => (show ¬ (1 : Int32) = 2 by decide), fun _ => rfl⟩, by rw [h5]; rfl, by rw [h4]; rfl⟩
  · have e : ms_step f tr (mvD σ τ) = (2, (ms_perf f tr kd (sp_at f (σ 30 22)) (sp_at f (σ 30 22 + 1)) (sp_at f (σ 30 22 + 2)) bh (mvD σ τ)).2) := by
      refine ((if_pos hok).trans (if_neg (show ¬ sp_kind (sp_at f (σ 30 22)) = 0 by rw [hk]; exact h2))).trans ?_
      show (if (ms_perf f tr (sp_kind (sp_at f (σ 30 22))) (sp_at f (σ 30 22)) (sp_at f (σ 30 22 + 1)) (sp_at f (σ 30 22 + 2)) (σ 30 22 + sp_len (sp_kind (sp_at f (σ 30 22)))) (mvD σ τ)).1 = -1 then _ else _) = _
      rw [hk, hbh, if_pos h3]
      show (_, (ms_perf f tr (sp_kind (sp_at f (σ 30 22))) (sp_at f (σ 30 22)) (sp_at f (σ 30 22 + 1)) (sp_at f (σ 30 22 + 2)) (σ 30 22 + sp_len (sp_kind (sp_at f (σ 30 22)))) (mvD σ τ)).2) = _
      rw [hk, hbh]
    rw [e]
    refine ⟨⟨fun q => (by cases q), fun q => absurd rfl q⟩, ?_, by rw [h5]; rfl⟩
    show mvD σ' τ' = _
    rw [h6, ms_perf_f (by omega) (sp_at_by hf _).1 hR h3]
  · have e : ms_step f tr (mvD σ τ) = (0, ms_go (ms_perf f tr kd (sp_at f (σ 30 22)) (sp_at f (σ 30 22 + 1)) (sp_at f (σ 30 22 + 2)) bh (mvD σ τ)).2 (ms_perf f tr kd (sp_at f (σ 30 22)) (sp_at f (σ 30 22 + 1)) (sp_at f (σ 30 22 + 2)) bh (mvD σ τ)).1) := by
      refine ((if_pos hok).trans (if_neg (show ¬ sp_kind (sp_at f (σ 30 22)) = 0 by rw [hk]; exact h2))).trans ?_
      show (if (ms_perf f tr (sp_kind (sp_at f (σ 30 22))) (sp_at f (σ 30 22)) (sp_at f (σ 30 22 + 1)) (sp_at f (σ 30 22 + 2)) (σ 30 22 + sp_len (sp_kind (sp_at f (σ 30 22)))) (mvD σ τ)).1 = -1 then _ else _) = _
      rw [hk, hbh, if_neg h3]
      show (_, ms_go (ms_perf f tr (sp_kind (sp_at f (σ 30 22))) (sp_at f (σ 30 22)) (sp_at f (σ 30 22 + 1)) (sp_at f (σ 30 22 + 2)) (σ 30 22 + sp_len (sp_kind (sp_at f (σ 30 22)))) (mvD σ τ)).2 (ms_perf f tr (sp_kind (sp_at f (σ 30 22))) (sp_at f (σ 30 22)) (sp_at f (σ 30 22 + 1)) (sp_at f (σ 30 22 + 2)) (σ 30 22 + sp_len (sp_kind (sp_at f (σ 30 22)))) (mvD σ τ)).1) = _
      rw [hk, hbh]
    rw [e]
    refine ⟨⟨fun _ => (show ¬ (0 : Int32) = 2 by decide), fun _ => rfl⟩, ?_, by rw [h5]; rfl⟩
    show ms_1 (mvD σ' τ') = ms_go _ _
    rw [h6, ms_go_set]
theorem res_conv {f : Nat → Int32} {tr : Int32 → Int32} {kd op n m bh nx : Int32} {σ : ev_M} {τ : ev_L} {r : Bool} {σ' : ev_M} (hk : ¬ kd = 0) (hP : ms_perf f tr kd op n m bh (mvD σ τ) = (nx, mvD σ τ)) (h : sd_res σ nx r σ') : sd_step f tr kd op n m bh σ τ r σ' τ := by
  unfold sd_step
  rw [hP]
  rcases h with ⟨h1, h2, rfl⟩ | ⟨h1, h2, rfl⟩
  · exact ⟨frD_f _ _ (by decide), Or.inr (Or.inl ⟨hk, h1, h2, rfl, rfl⟩)⟩
  · exact ⟨frD_f _ _ (by decide), Or.inr (Or.inr ⟨hk, h1, h2, rfl, rfl⟩)⟩
theorem sz0 {op : Int32} (h0 : 0 ≤ op.toInt) (h1 : op.toInt < 256) : (sd_size op = 0 → sp_kind op = -1) ∧ (¬ sd_size op = 0 → ¬ sp_kind op = -1 ∧ sp_len (sp_kind op) = sd_size op) ∧ (sd_size op = 1 ↔ op.toInt < 48) := by
  obtain ⟨j, hj, rfl⟩ := nI_of (x := op) (by rw [Int32.lt_iff_toInt_lt]; have : (0 : Int32).toInt = 0 := rfl; omega)
  rw [nI_toInt hj] at h1 h0 ⊢
  have key : ∀ n, n < 256 → (sd_size (nI n) = 0 → sp_kind (nI n) = -1) ∧ (¬ sd_size (nI n) = 0 → ¬ sp_kind (nI n) = -1 ∧ sp_len (sp_kind (nI n)) = sd_size (nI n)) ∧ (sd_size (nI n) = 1 ↔ (n : Int) < 48) := by decide +kernel
  exact key j (by omega)
def y_D_step : MethodName := ⟨RD, "step", "(I)Z"⟩
def ws_D_step : List Cond := .code y_D_step prog_9_method_37_code 6 (some .boolean) :: evW
theorem d_D_step_0 : decode prog_9_method_37_code 0 = .ok (.aload_n 0, 1) := by decide +kernel
theorem d_D_step_1 : decode prog_9_method_37_code 1 = .ok (.iload_n 1, 1) := by decide +kernel
theorem d_D_step_2 : decode prog_9_method_37_code 2 = .ok (.aload_n 0, 1) := by decide +kernel
theorem d_D_step_3 : decode prog_9_method_37_code 3 = .ok (.getfield 155, 3) := by decide +kernel
theorem d_D_step_6 : decode prog_9_method_37_code 6 = .ok (.invokevirtual 158, 3) := by decide +kernel
theorem d_D_step_9 : decode prog_9_method_37_code 9 = .ok (.istore_n 2, 1) := by decide +kernel
theorem d_D_step_10 : decode prog_9_method_37_code 10 = .ok (.iload_n 2, 1) := by decide +kernel
theorem d_D_step_11 : decode prog_9_method_37_code 11 = .ok (.invokestatic 97, 3) := by decide +kernel
theorem d_D_step_14 : decode prog_9_method_37_code 14 = .ok (.istore_n 3, 1) := by decide +kernel
theorem d_D_step_15 : decode prog_9_method_37_code 15 = .ok (.iload_n 3, 1) := by decide +kernel
theorem d_D_step_16 : decode prog_9_method_37_code 16 = .ok (.ifCond .eq 15, 3) := by decide +kernel
theorem d_D_step_19 : decode prog_9_method_37_code 19 = .ok (.aload_n 0, 1) := by decide +kernel
theorem d_D_step_20 : decode prog_9_method_37_code 20 = .ok (.getfield 155, 3) := by decide +kernel
theorem d_D_step_23 : decode prog_9_method_37_code 23 = .ok (.iload_n 3, 1) := by decide +kernel
theorem d_D_step_24 : decode prog_9_method_37_code 24 = .ok (.iadd, 1) := by decide +kernel
theorem d_D_step_25 : decode prog_9_method_37_code 25 = .ok (.sipush 256, 3) := by decide +kernel
theorem d_D_step_28 : decode prog_9_method_37_code 28 = .ok (.if_icmp .le 8, 3) := by decide +kernel
theorem d_D_step_31 : decode prog_9_method_37_code 31 = .ok (.aload_n 0, 1) := by decide +kernel
theorem d_D_step_32 : decode prog_9_method_37_code 32 = .ok (.invokevirtual 165, 3) := by decide +kernel
theorem d_D_step_35 : decode prog_9_method_37_code 35 = .ok (.ireturn, 1) := by decide +kernel
theorem d_D_step_36 : decode prog_9_method_37_code 36 = .ok (.iload_n 3, 1) := by decide +kernel
theorem d_D_step_37 : decode prog_9_method_37_code 37 = .ok (.iconst 1, 1) := by decide +kernel
theorem d_D_step_38 : decode prog_9_method_37_code 38 = .ok (.if_icmp .ne 10, 3) := by decide +kernel
theorem d_D_step_41 : decode prog_9_method_37_code 41 = .ok (.aload_n 0, 1) := by decide +kernel
theorem d_D_step_42 : decode prog_9_method_37_code 42 = .ok (.iload_n 1, 1) := by decide +kernel
theorem d_D_step_43 : decode prog_9_method_37_code 43 = .ok (.iload_n 2, 1) := by decide +kernel
theorem d_D_step_44 : decode prog_9_method_37_code 44 = .ok (.invokevirtual 175, 3) := by decide +kernel
theorem d_D_step_47 : decode prog_9_method_37_code 47 = .ok (.ireturn, 1) := by decide +kernel
theorem d_D_step_48 : decode prog_9_method_37_code 48 = .ok (.iload_n 2, 1) := by decide +kernel
theorem d_D_step_49 : decode prog_9_method_37_code 49 = .ok (.iconst 3, 1) := by decide +kernel
theorem d_D_step_50 : decode prog_9_method_37_code 50 = .ok (.iand, 1) := by decide +kernel
theorem d_D_step_51 : decode prog_9_method_37_code 51 = .ok (.istore 4, 2) := by decide +kernel
theorem d_D_step_53 : decode prog_9_method_37_code 53 = .ok (.aload_n 0, 1) := by decide +kernel
theorem d_D_step_54 : decode prog_9_method_37_code 54 = .ok (.iload_n 1, 1) := by decide +kernel
theorem d_D_step_55 : decode prog_9_method_37_code 55 = .ok (.aload_n 0, 1) := by decide +kernel
theorem d_D_step_56 : decode prog_9_method_37_code 56 = .ok (.getfield 155, 3) := by decide +kernel
theorem d_D_step_59 : decode prog_9_method_37_code 59 = .ok (.iconst 1, 1) := by decide +kernel
theorem d_D_step_60 : decode prog_9_method_37_code 60 = .ok (.iadd, 1) := by decide +kernel
theorem d_D_step_61 : decode prog_9_method_37_code 61 = .ok (.invokevirtual 158, 3) := by decide +kernel
theorem d_D_step_64 : decode prog_9_method_37_code 64 = .ok (.istore 5, 2) := by decide +kernel
theorem d_D_step_66 : decode prog_9_method_37_code 66 = .ok (.iload_n 2, 1) := by decide +kernel
theorem d_D_step_67 : decode prog_9_method_37_code 67 = .ok (.bipush 60, 2) := by decide +kernel
theorem d_D_step_69 : decode prog_9_method_37_code 69 = .ok (.if_icmp .lt 30, 3) := by decide +kernel
theorem d_D_step_72 : decode prog_9_method_37_code 72 = .ok (.iload_n 2, 1) := by decide +kernel
theorem d_D_step_73 : decode prog_9_method_37_code 73 = .ok (.bipush 64, 2) := by decide +kernel
theorem d_D_step_75 : decode prog_9_method_37_code 75 = .ok (.if_icmp .ge 24, 3) := by decide +kernel
theorem d_D_step_78 : decode prog_9_method_37_code 78 = .ok (.aload_n 0, 1) := by decide +kernel
theorem d_D_step_79 : decode prog_9_method_37_code 79 = .ok (.iload_n 1, 1) := by decide +kernel
theorem d_D_step_80 : decode prog_9_method_37_code 80 = .ok (.aload_n 0, 1) := by decide +kernel
theorem d_D_step_81 : decode prog_9_method_37_code 81 = .ok (.getfield 47, 3) := by decide +kernel
theorem d_D_step_84 : decode prog_9_method_37_code 84 = .ok (.iload 4, 2) := by decide +kernel
theorem d_D_step_86 : decode prog_9_method_37_code 86 = .ok (.iaload, 1) := by decide +kernel
theorem d_D_step_87 : decode prog_9_method_37_code 87 = .ok (.ifCond .ne 7, 3) := by decide +kernel
theorem d_D_step_90 : decode prog_9_method_37_code 90 = .ok (.iconst 1, 1) := by decide +kernel
theorem d_D_step_91 : decode prog_9_method_37_code 91 = .ok (.goto 4, 3) := by decide +kernel
theorem d_D_step_94 : decode prog_9_method_37_code 94 = .ok (.iconst 0, 1) := by decide +kernel
theorem d_D_step_95 : decode prog_9_method_37_code 95 = .ok (.invokevirtual 178, 3) := by decide +kernel
theorem d_D_step_98 : decode prog_9_method_37_code 98 = .ok (.ireturn, 1) := by decide +kernel
theorem d_D_step_99 : decode prog_9_method_37_code 99 = .ok (.iload_n 2, 1) := by decide +kernel
theorem d_D_step_100 : decode prog_9_method_37_code 100 = .ok (.bipush 64, 2) := by decide +kernel
theorem d_D_step_102 : decode prog_9_method_37_code 102 = .ok (.if_icmp .lt 30, 3) := by decide +kernel
theorem d_D_step_105 : decode prog_9_method_37_code 105 = .ok (.iload_n 2, 1) := by decide +kernel
theorem d_D_step_106 : decode prog_9_method_37_code 106 = .ok (.bipush 68, 2) := by decide +kernel
theorem d_D_step_108 : decode prog_9_method_37_code 108 = .ok (.if_icmp .ge 24, 3) := by decide +kernel
theorem d_D_step_111 : decode prog_9_method_37_code 111 = .ok (.aload_n 0, 1) := by decide +kernel
theorem d_D_step_112 : decode prog_9_method_37_code 112 = .ok (.iload_n 1, 1) := by decide +kernel
theorem d_D_step_113 : decode prog_9_method_37_code 113 = .ok (.aload_n 0, 1) := by decide +kernel
theorem d_D_step_114 : decode prog_9_method_37_code 114 = .ok (.getfield 47, 3) := by decide +kernel
theorem d_D_step_117 : decode prog_9_method_37_code 117 = .ok (.iload 4, 2) := by decide +kernel
theorem d_D_step_119 : decode prog_9_method_37_code 119 = .ok (.iaload, 1) := by decide +kernel
theorem d_D_step_120 : decode prog_9_method_37_code 120 = .ok (.ifCond .ge 7, 3) := by decide +kernel
theorem d_D_step_123 : decode prog_9_method_37_code 123 = .ok (.iconst 1, 1) := by decide +kernel
theorem d_D_step_124 : decode prog_9_method_37_code 124 = .ok (.goto 4, 3) := by decide +kernel
theorem d_D_step_127 : decode prog_9_method_37_code 127 = .ok (.iconst 0, 1) := by decide +kernel
theorem d_D_step_128 : decode prog_9_method_37_code 128 = .ok (.invokevirtual 178, 3) := by decide +kernel
theorem d_D_step_131 : decode prog_9_method_37_code 131 = .ok (.ireturn, 1) := by decide +kernel
theorem d_D_step_132 : decode prog_9_method_37_code 132 = .ok (.iload_n 2, 1) := by decide +kernel
theorem d_D_step_133 : decode prog_9_method_37_code 133 = .ok (.bipush 68, 2) := by decide +kernel
theorem d_D_step_135 : decode prog_9_method_37_code 135 = .ok (.if_icmp .ne 10, 3) := by decide +kernel
theorem d_D_step_138 : decode prog_9_method_37_code 138 = .ok (.aload_n 0, 1) := by decide +kernel
theorem d_D_step_139 : decode prog_9_method_37_code 139 = .ok (.iload_n 1, 1) := by decide +kernel
theorem d_D_step_140 : decode prog_9_method_37_code 140 = .ok (.iconst 1, 1) := by decide +kernel
theorem d_D_step_141 : decode prog_9_method_37_code 141 = .ok (.invokevirtual 178, 3) := by decide +kernel
theorem d_D_step_144 : decode prog_9_method_37_code 144 = .ok (.ireturn, 1) := by decide +kernel
theorem d_D_step_145 : decode prog_9_method_37_code 145 = .ok (.iload_n 2, 1) := by decide +kernel
theorem d_D_step_146 : decode prog_9_method_37_code 146 = .ok (.bipush 69, 2) := by decide +kernel
theorem d_D_step_148 : decode prog_9_method_37_code 148 = .ok (.if_icmp .ne 10, 3) := by decide +kernel
theorem d_D_step_151 : decode prog_9_method_37_code 151 = .ok (.aload_n 0, 1) := by decide +kernel
theorem d_D_step_152 : decode prog_9_method_37_code 152 = .ok (.iload 5, 2) := by decide +kernel
theorem d_D_step_154 : decode prog_9_method_37_code 154 = .ok (.invokevirtual 162, 3) := by decide +kernel
theorem d_D_step_157 : decode prog_9_method_37_code 157 = .ok (.ireturn, 1) := by decide +kernel
theorem d_D_step_158 : decode prog_9_method_37_code 158 = .ok (.iload_n 2, 1) := by decide +kernel
theorem d_D_step_159 : decode prog_9_method_37_code 159 = .ok (.bipush 70, 2) := by decide +kernel
theorem d_D_step_161 : decode prog_9_method_37_code 161 = .ok (.if_icmp .ne 16, 3) := by decide +kernel
theorem d_D_step_164 : decode prog_9_method_37_code 164 = .ok (.aload_n 0, 1) := by decide +kernel
theorem d_D_step_165 : decode prog_9_method_37_code 165 = .ok (.aload_n 0, 1) := by decide +kernel
theorem d_D_step_166 : decode prog_9_method_37_code 166 = .ok (.getfield 155, 3) := by decide +kernel
theorem d_D_step_169 : decode prog_9_method_37_code 169 = .ok (.iconst 2, 1) := by decide +kernel
theorem d_D_step_170 : decode prog_9_method_37_code 170 = .ok (.iadd, 1) := by decide +kernel
theorem d_D_step_171 : decode prog_9_method_37_code 171 = .ok (.iload 5, 2) := by decide +kernel
theorem d_D_step_173 : decode prog_9_method_37_code 173 = .ok (.invokevirtual 182, 3) := by decide +kernel
theorem d_D_step_176 : decode prog_9_method_37_code 176 = .ok (.ireturn, 1) := by decide +kernel
theorem d_D_step_177 : decode prog_9_method_37_code 177 = .ok (.iload_n 2, 1) := by decide +kernel
theorem d_D_step_178 : decode prog_9_method_37_code 178 = .ok (.bipush 77, 2) := by decide +kernel
theorem d_D_step_180 : decode prog_9_method_37_code 180 = .ok (.if_icmp .ne 21, 3) := by decide +kernel
theorem d_D_step_183 : decode prog_9_method_37_code 183 = .ok (.aload_n 0, 1) := by decide +kernel
theorem d_D_step_184 : decode prog_9_method_37_code 184 = .ok (.aload_n 0, 1) := by decide +kernel
theorem d_D_step_185 : decode prog_9_method_37_code 185 = .ok (.iload_n 1, 1) := by decide +kernel
theorem d_D_step_186 : decode prog_9_method_37_code 186 = .ok (.aload_n 0, 1) := by decide +kernel
theorem d_D_step_187 : decode prog_9_method_37_code 187 = .ok (.getfield 155, 3) := by decide +kernel
theorem d_D_step_190 : decode prog_9_method_37_code 190 = .ok (.iconst 2, 1) := by decide +kernel
theorem d_D_step_191 : decode prog_9_method_37_code 191 = .ok (.iadd, 1) := by decide +kernel
theorem d_D_step_192 : decode prog_9_method_37_code 192 = .ok (.invokevirtual 158, 3) := by decide +kernel
theorem d_D_step_195 : decode prog_9_method_37_code 195 = .ok (.iload 5, 2) := by decide +kernel
theorem d_D_step_197 : decode prog_9_method_37_code 197 = .ok (.invokevirtual 182, 3) := by decide +kernel
theorem d_D_step_200 : decode prog_9_method_37_code 200 = .ok (.ireturn, 1) := by decide +kernel
theorem d_D_step_201 : decode prog_9_method_37_code 201 = .ok (.iload_n 2, 1) := by decide +kernel
theorem d_D_step_202 : decode prog_9_method_37_code 202 = .ok (.invokestatic 88, 3) := by decide +kernel
theorem d_D_step_205 : decode prog_9_method_37_code 205 = .ok (.ifCond .eq 16, 3) := by decide +kernel
theorem d_D_step_208 : decode prog_9_method_37_code 208 = .ok (.aload_n 0, 1) := by decide +kernel
theorem d_D_step_209 : decode prog_9_method_37_code 209 = .ok (.iload_n 1, 1) := by decide +kernel
theorem d_D_step_210 : decode prog_9_method_37_code 210 = .ok (.aload_n 0, 1) := by decide +kernel
theorem d_D_step_211 : decode prog_9_method_37_code 211 = .ok (.getfield 47, 3) := by decide +kernel
theorem d_D_step_214 : decode prog_9_method_37_code 214 = .ok (.iload 4, 2) := by decide +kernel
theorem d_D_step_216 : decode prog_9_method_37_code 216 = .ok (.iaload, 1) := by decide +kernel
theorem d_D_step_217 : decode prog_9_method_37_code 217 = .ok (.invokevirtual 185, 3) := by decide +kernel
theorem d_D_step_220 : decode prog_9_method_37_code 220 = .ok (.ireturn, 1) := by decide +kernel
theorem d_D_step_221 : decode prog_9_method_37_code 221 = .ok (.iload_n 2, 1) := by decide +kernel
theorem d_D_step_222 : decode prog_9_method_37_code 222 = .ok (.bipush 76, 2) := by decide +kernel
theorem d_D_step_224 : decode prog_9_method_37_code 224 = .ok (.if_icmp .ne 20, 3) := by decide +kernel
theorem d_D_step_227 : decode prog_9_method_37_code 227 = .ok (.aload_n 0, 1) := by decide +kernel
theorem d_D_step_228 : decode prog_9_method_37_code 228 = .ok (.getfield 59, 3) := by decide +kernel
theorem d_D_step_231 : decode prog_9_method_37_code 231 = .ok (.iload 5, 2) := by decide +kernel
theorem d_D_step_233 : decode prog_9_method_37_code 233 = .ok (.bipush 63, 2) := by decide +kernel
theorem d_D_step_235 : decode prog_9_method_37_code 235 = .ok (.iand, 1) := by decide +kernel
theorem d_D_step_236 : decode prog_9_method_37_code 236 = .ok (.dup2, 1) := by decide +kernel
theorem d_D_step_237 : decode prog_9_method_37_code 237 = .ok (.laload, 1) := by decide +kernel
theorem d_D_step_238 : decode prog_9_method_37_code 238 = .ok (.lconst 1, 1) := by decide +kernel
theorem d_D_step_239 : decode prog_9_method_37_code 239 = .ok (.ladd, 1) := by decide +kernel
theorem d_D_step_240 : decode prog_9_method_37_code 240 = .ok (.lastore, 1) := by decide +kernel
theorem d_D_step_241 : decode prog_9_method_37_code 241 = .ok (.goto 65, 3) := by decide +kernel
theorem d_D_step_244 : decode prog_9_method_37_code 244 = .ok (.iload_n 2, 1) := by decide +kernel
theorem d_D_step_245 : decode prog_9_method_37_code 245 = .ok (.bipush 52, 2) := by decide +kernel
theorem d_D_step_247 : decode prog_9_method_37_code 247 = .ok (.if_icmp .ge 16, 3) := by decide +kernel
theorem d_D_step_250 : decode prog_9_method_37_code 250 = .ok (.aload_n 0, 1) := by decide +kernel
theorem d_D_step_251 : decode prog_9_method_37_code 251 = .ok (.getfield 47, 3) := by decide +kernel
theorem d_D_step_254 : decode prog_9_method_37_code 254 = .ok (.iload 4, 2) := by decide +kernel
theorem d_D_step_256 : decode prog_9_method_37_code 256 = .ok (.iload 5, 2) := by decide +kernel
theorem d_D_step_258 : decode prog_9_method_37_code 258 = .ok (.i2b, 1) := by decide +kernel
theorem d_D_step_259 : decode prog_9_method_37_code 259 = .ok (.iastore, 1) := by decide +kernel
theorem d_D_step_260 : decode prog_9_method_37_code 260 = .ok (.goto 46, 3) := by decide +kernel
theorem d_D_step_263 : decode prog_9_method_37_code 263 = .ok (.iload_n 2, 1) := by decide +kernel
theorem d_D_step_264 : decode prog_9_method_37_code 264 = .ok (.bipush 56, 2) := by decide +kernel
theorem d_D_step_266 : decode prog_9_method_37_code 266 = .ok (.if_icmp .ge 23, 3) := by decide +kernel
theorem d_D_step_269 : decode prog_9_method_37_code 269 = .ok (.aload_n 0, 1) := by decide +kernel
theorem d_D_step_270 : decode prog_9_method_37_code 270 = .ok (.getfield 47, 3) := by decide +kernel
theorem d_D_step_273 : decode prog_9_method_37_code 273 = .ok (.iload 4, 2) := by decide +kernel
theorem d_D_step_275 : decode prog_9_method_37_code 275 = .ok (.aload_n 0, 1) := by decide +kernel
theorem d_D_step_276 : decode prog_9_method_37_code 276 = .ok (.getfield 50, 3) := by decide +kernel
theorem d_D_step_279 : decode prog_9_method_37_code 279 = .ok (.iload 5, 2) := by decide +kernel
theorem d_D_step_281 : decode prog_9_method_37_code 281 = .ok (.bipush 15, 2) := by decide +kernel
theorem d_D_step_283 : decode prog_9_method_37_code 283 = .ok (.iand, 1) := by decide +kernel
theorem d_D_step_284 : decode prog_9_method_37_code 284 = .ok (.iaload, 1) := by decide +kernel
theorem d_D_step_285 : decode prog_9_method_37_code 285 = .ok (.iastore, 1) := by decide +kernel
theorem d_D_step_286 : decode prog_9_method_37_code 286 = .ok (.goto 20, 3) := by decide +kernel
theorem d_D_step_289 : decode prog_9_method_37_code 289 = .ok (.aload_n 0, 1) := by decide +kernel
theorem d_D_step_290 : decode prog_9_method_37_code 290 = .ok (.getfield 50, 3) := by decide +kernel
theorem d_D_step_293 : decode prog_9_method_37_code 293 = .ok (.iload 5, 2) := by decide +kernel
theorem d_D_step_295 : decode prog_9_method_37_code 295 = .ok (.bipush 15, 2) := by decide +kernel
theorem d_D_step_297 : decode prog_9_method_37_code 297 = .ok (.iand, 1) := by decide +kernel
theorem d_D_step_298 : decode prog_9_method_37_code 298 = .ok (.aload_n 0, 1) := by decide +kernel
theorem d_D_step_299 : decode prog_9_method_37_code 299 = .ok (.getfield 47, 3) := by decide +kernel
theorem d_D_step_302 : decode prog_9_method_37_code 302 = .ok (.iload 4, 2) := by decide +kernel
theorem d_D_step_304 : decode prog_9_method_37_code 304 = .ok (.iaload, 1) := by decide +kernel
theorem d_D_step_305 : decode prog_9_method_37_code 305 = .ok (.iastore, 1) := by decide +kernel
theorem d_D_step_306 : decode prog_9_method_37_code 306 = .ok (.aload_n 0, 1) := by decide +kernel
theorem d_D_step_307 : decode prog_9_method_37_code 307 = .ok (.aload_n 0, 1) := by decide +kernel
theorem d_D_step_308 : decode prog_9_method_37_code 308 = .ok (.getfield 155, 3) := by decide +kernel
theorem d_D_step_311 : decode prog_9_method_37_code 311 = .ok (.iconst 2, 1) := by decide +kernel
theorem d_D_step_312 : decode prog_9_method_37_code 312 = .ok (.iadd, 1) := by decide +kernel
theorem d_D_step_313 : decode prog_9_method_37_code 313 = .ok (.invokevirtual 162, 3) := by decide +kernel
theorem d_D_step_316 : decode prog_9_method_37_code 316 = .ok (.ireturn, 1) := by decide +kernel
def I_D_step (P : Bool → ev_M → ev_L → Prop) : List (Nat × ev_T) := [(0, tt_al 0 1),
  (1, tt_il 1 2),
  (2, tt_al 0 3),
  (3, tt_gf evLY 7 22 6),
  (6, tt_cV evLY 7 2 ev_i pre_D_at post_D_at 9),
  (9, tt_is 2 10),
  (10, tt_il 2 11),
  (11, tt_cS 1 ev_i pre_D_sizeOf post_D_sizeOf 14),
  (14, tt_is 3 15),
  (15, tt_il 3 16),
  (16, tt_ifeq 31 19),
  (19, tt_al 0 20),
  (20, tt_gf evLY 7 22 23),
  (23, tt_il 3 24),
  (24, tt_iadd 25),
  (25, tt_k 256 28),
  (28, tt_icle 36 31),
  (31, tt_al 0 32),
  (32, tt_cV evLY 7 0 ev_b pre_D_fault post_D_fault 35),
  (35, tt_rz P),
  (36, tt_il 3 37),
  (37, tt_k 1 38),
  (38, tt_icne 48 41),
  (41, tt_al 0 42),
  (42, tt_il 1 43),
  (43, tt_il 2 44),
  (44, tt_cV evLY 7 2 ev_b pre_D_doOne post_D_doOne 47),
  (47, tt_rz P),
  (48, tt_il 2 49),
  (49, tt_k 3 50),
  (50, tt_iand 51),
  (51, tt_is 4 53),
  (53, tt_al 0 54),
  (54, tt_il 1 55),
  (55, tt_al 0 56),
  (56, tt_gf evLY 7 22 59),
  (59, tt_k 1 60),
  (60, tt_iadd 61),
  (61, tt_cV evLY 7 2 ev_i pre_D_at post_D_at 64),
  (64, tt_is 5 66),
  (66, tt_il 2 67),
  (67, tt_k 60 69),
  (69, tt_iclt 99 72),
  (72, tt_il 2 73),
  (73, tt_k 64 75),
  (75, tt_icge 99 78),
  (78, tt_al 0 79),
  (79, tt_il 1 80),
  (80, tt_al 0 81),
  (81, tt_gf evLY 7 20 84),
  (84, tt_il 4 86),
  (86, tt_ia evLY 87),
  (87, tt_ifne 94 90),
  (90, tt_k 1 91),
  (91, tt_go 95),
  (94, tt_k 0 95),
  (95, tt_cV evLY 7 2 ev_b pre_D_branch post_D_branch 98),
  (98, tt_rz P),
  (99, tt_il 2 100),
  (100, tt_k 64 102),
  (102, tt_iclt 132 105),
  (105, tt_il 2 106),
  (106, tt_k 68 108),
  (108, tt_icge 132 111),
  (111, tt_al 0 112),
  (112, tt_il 1 113),
  (113, tt_al 0 114),
  (114, tt_gf evLY 7 20 117),
  (117, tt_il 4 119),
  (119, tt_ia evLY 120),
  (120, tt_ifge 127 123),
  (123, tt_k 1 124),
  (124, tt_go 128),
  (127, tt_k 0 128),
  (128, tt_cV evLY 7 2 ev_b pre_D_branch post_D_branch 131),
  (131, tt_rz P),
  (132, tt_il 2 133),
  (133, tt_k 68 135),
  (135, tt_icne 145 138),
  (138, tt_al 0 139),
  (139, tt_il 1 140),
  (140, tt_k 1 141),
  (141, tt_cV evLY 7 2 ev_b pre_D_branch post_D_branch 144),
  (144, tt_rz P),
  (145, tt_il 2 146),
  (146, tt_k 69 148),
  (148, tt_icne 158 151),
  (151, tt_al 0 152),
  (152, tt_il 5 154),
  (154, tt_cV evLY 7 1 ev_b pre_D_go post_D_go 157),
  (157, tt_rz P),
  (158, tt_il 2 159),
  (159, tt_k 70 161),
  (161, tt_icne 177 164),
  (164, tt_al 0 165),
  (165, tt_al 0 166),
  (166, tt_gf evLY 7 22 169),
  (169, tt_k 2 170),
  (170, tt_iadd 171),
  (171, tt_il 5 173),
  (173, tt_cV evLY 7 2 ev_b pre_D_push post_D_push 176),
  (176, tt_rz P),
  (177, tt_il 2 178),
  (178, tt_k 77 180),
  (180, tt_icne 201 183),
  (183, tt_al 0 184),
  (184, tt_al 0 185),
  (185, tt_il 1 186),
  (186, tt_al 0 187),
  (187, tt_gf evLY 7 22 190),
  (190, tt_k 2 191),
  (191, tt_iadd 192),
  (192, tt_cV evLY 7 2 ev_i pre_D_at post_D_at 195),
  (195, tt_il 5 197),
  (197, tt_cV evLY 7 2 ev_b pre_D_push post_D_push 200),
  (200, tt_rz P),
  (201, tt_il 2 202),
  (202, tt_cS 1 ev_b pre_D_isSwitch post_D_isSwitch 205),
  (205, tt_ifeq 221 208),
  (208, tt_al 0 209),
  (209, tt_il 1 210),
  (210, tt_al 0 211),
  (211, tt_gf evLY 7 20 214),
  (214, tt_il 4 216),
  (216, tt_ia evLY 217),
  (217, tt_cV evLY 7 2 ev_b pre_D_select post_D_select 220),
  (220, tt_rz P),
  (221, tt_il 2 222),
  (222, tt_k 76 224),
  (224, tt_icne 244 227),
  (227, tt_al 0 228),
  (228, tt_gf evLY 7 29 231),
  (231, tt_il 5 233),
  (233, tt_k 63 235),
  (235, tt_iand 236),
  (236, tt_dup2 237),
  (237, tt_la evLY 238),
  (238, tt_lk 1 239),
  (239, tt_ladd 240),
  (240, tt_las evLY 241),
  (241, tt_go 306),
  (244, tt_il 2 245),
  (245, tt_k 52 247),
  (247, tt_icge 263 250),
  (250, tt_al 0 251),
  (251, tt_gf evLY 7 20 254),
  (254, tt_il 4 256),
  (256, tt_il 5 258),
  (258, tt_i2b 259),
  (259, tt_ias evLY 260),
  (260, tt_go 306),
  (263, tt_il 2 264),
  (264, tt_k 56 266),
  (266, tt_icge 289 269),
  (269, tt_al 0 270),
  (270, tt_gf evLY 7 20 273),
  (273, tt_il 4 275),
  (275, tt_al 0 276),
  (276, tt_gf evLY 7 21 279),
  (279, tt_il 5 281),
  (281, tt_k 15 283),
  (283, tt_iand 284),
  (284, tt_ia evLY 285),
  (285, tt_ias evLY 286),
  (286, tt_go 306),
  (289, tt_al 0 290),
  (290, tt_gf evLY 7 21 293),
  (293, tt_il 5 295),
  (295, tt_k 15 297),
  (297, tt_iand 298),
  (298, tt_al 0 299),
  (299, tt_gf evLY 7 20 302),
  (302, tt_il 4 304),
  (304, tt_ia evLY 305),
  (305, tt_ias evLY 306),
  (306, tt_al 0 307),
  (307, tt_al 0 308),
  (308, tt_gf evLY 7 22 311),
  (311, tt_k 2 312),
  (312, tt_iadd 313),
  (313, tt_cV evLY 7 1 ev_b pre_D_go post_D_go 316),
  (316, tt_rz P)]
abbrev rm_D_step : Room := { frames := 2, cells := 0, slots := 0, locals := 64 }
set_option maxRecDepth 20000 in
theorem ok_D_step (l : Launch) (J : ev_K) (P : Bool → ev_M → ev_L → Prop) (X : ev_X l rm_D_step evLY evCl ws_D_step prog_9_method_37_code 6 y_D_step.cls J) (Z : ev_Z J prog_9_method_37_code .ireturn ev_b P) : ev_oks J (I_D_step P) :=
  ⟨qq_aln X 0 rfl d_D_step_0,
  qq_iln X 1 rfl d_D_step_1,
  qq_aln X 0 rfl d_D_step_2,
  qq_gf X 7 22 rfl (fun w h => List.mem_cons_of_mem _ (inE_D w h)) (by decide) (List.mem_cons_of_mem _ mw_776) d_D_step_3,
  qq_cV X 7 rfl (c_D_at l) (fun hts => cwV 2 hts (evGV (mw_964) (mw_966) (mp_41) (mw_8) (mw_967)) rfl rfl rfl (by decide +kernel) ⟨Nat.le_of_ble_eq_true rfl, Nat.le_of_ble_eq_true rfl⟩) d_D_step_6,
  qq_isn X 2 rfl (by decide) d_D_step_9,
  qq_iln X 2 rfl d_D_step_10,
  qq_cS X (c_D_sizeOf l) (fun hts => va_cwS 1 hts (evGS (mw_881) (mw_882) (mw_8) (mw_883)) rfl rfl rfl (by decide +kernel) ⟨Nat.le_of_ble_eq_true rfl, Nat.le_of_ble_eq_true rfl⟩) d_D_step_11,
  qq_isn X 3 rfl (by decide) d_D_step_14,
  qq_iln X 3 rfl d_D_step_15,
  qq_ifeq X 31 (by decide) d_D_step_16,
  qq_aln X 0 rfl d_D_step_19,
  qq_gf X 7 22 rfl (fun w h => List.mem_cons_of_mem _ (inE_D w h)) (by decide) (List.mem_cons_of_mem _ mw_776) d_D_step_20,
  qq_iln X 3 rfl d_D_step_23,
  qq_iadd X d_D_step_24,
  qq_sp X 256 (by decide) d_D_step_25,
  qq_icle X 36 (by decide) d_D_step_28,
  qq_aln X 0 rfl d_D_step_31,
  qq_cV X 7 rfl (c_D_fault l) (fun hts => cwV 0 hts (evGV (mw_968) (mw_970) (mp_42) (mw_8) (mw_971)) rfl rfl rfl (by decide +kernel) ⟨Nat.le_of_ble_eq_true rfl, Nat.le_of_ble_eq_true rfl⟩) d_D_step_32,
  qq_rz Z d_D_step_35,
  qq_iln X 3 rfl d_D_step_36,
  qq_ic X 1 (by decide) d_D_step_37,
  qq_icne X 48 (by decide) d_D_step_38,
  qq_aln X 0 rfl d_D_step_41,
  qq_iln X 1 rfl d_D_step_42,
  qq_iln X 2 rfl d_D_step_43,
  qq_cV X 7 rfl (c_D_doOne l) (fun hts => cwV 2 hts (evGV (mw_972) (mw_974) (mp_43) (mw_8) (mw_975)) rfl rfl rfl (by decide +kernel) ⟨Nat.le_of_ble_eq_true rfl, Nat.le_of_ble_eq_true rfl⟩) d_D_step_44,
  qq_rz Z d_D_step_47,
  qq_iln X 2 rfl d_D_step_48,
  qq_ic X 3 (by decide) d_D_step_49,
  qq_iand X d_D_step_50,
  qq_is X 4 (by decide) d_D_step_51,
  qq_aln X 0 rfl d_D_step_53,
  qq_iln X 1 rfl d_D_step_54,
  qq_aln X 0 rfl d_D_step_55,
  qq_gf X 7 22 rfl (fun w h => List.mem_cons_of_mem _ (inE_D w h)) (by decide) (List.mem_cons_of_mem _ mw_776) d_D_step_56,
  qq_ic X 1 (by decide) d_D_step_59,
  qq_iadd X d_D_step_60,
  qq_cV X 7 rfl (c_D_at l) (fun hts => cwV 2 hts (evGV (mw_964) (mw_966) (mp_41) (mw_8) (mw_967)) rfl rfl rfl (by decide +kernel) ⟨Nat.le_of_ble_eq_true rfl, Nat.le_of_ble_eq_true rfl⟩) d_D_step_61,
  qq_is X 5 (by decide) d_D_step_64,
  qq_iln X 2 rfl d_D_step_66,
  qq_bp X 60 (by decide) d_D_step_67,
  qq_iclt X 99 (by decide) d_D_step_69,
  qq_iln X 2 rfl d_D_step_72,
  qq_bp X 64 (by decide) d_D_step_73,
  qq_icge X 99 (by decide) d_D_step_75,
  qq_aln X 0 rfl d_D_step_78,
  qq_iln X 1 rfl d_D_step_79,
  qq_aln X 0 rfl d_D_step_80,
  qq_gf X 7 20 rfl (fun w h => List.mem_cons_of_mem _ (inE_D w h)) (by decide) (List.mem_cons_of_mem _ mw_774) d_D_step_81,
  qq_il X 4 d_D_step_84,
  qq_ia X d_D_step_86,
  qq_ifne X 94 (by decide) d_D_step_87,
  qq_ic X 1 (by decide) d_D_step_90,
  qq_go X 95 (by decide) d_D_step_91,
  qq_ic X 0 (by decide) d_D_step_94,
  qq_cV X 7 rfl (c_D_branch l) (fun hts => cwV 2 hts (evGV (mw_980) (mw_982) (mp_45) (mw_8) (mw_983)) rfl rfl rfl (by decide +kernel) ⟨Nat.le_of_ble_eq_true rfl, Nat.le_of_ble_eq_true rfl⟩) d_D_step_95,
  qq_rz Z d_D_step_98,
  qq_iln X 2 rfl d_D_step_99,
  qq_bp X 64 (by decide) d_D_step_100,
  qq_iclt X 132 (by decide) d_D_step_102,
  qq_iln X 2 rfl d_D_step_105,
  qq_bp X 68 (by decide) d_D_step_106,
  qq_icge X 132 (by decide) d_D_step_108,
  qq_aln X 0 rfl d_D_step_111,
  qq_iln X 1 rfl d_D_step_112,
  qq_aln X 0 rfl d_D_step_113,
  qq_gf X 7 20 rfl (fun w h => List.mem_cons_of_mem _ (inE_D w h)) (by decide) (List.mem_cons_of_mem _ mw_774) d_D_step_114,
  qq_il X 4 d_D_step_117,
  qq_ia X d_D_step_119,
  qq_ifge X 127 (by decide) d_D_step_120,
  qq_ic X 1 (by decide) d_D_step_123,
  qq_go X 128 (by decide) d_D_step_124,
  qq_ic X 0 (by decide) d_D_step_127,
  qq_cV X 7 rfl (c_D_branch l) (fun hts => cwV 2 hts (evGV (mw_980) (mw_982) (mp_45) (mw_8) (mw_983)) rfl rfl rfl (by decide +kernel) ⟨Nat.le_of_ble_eq_true rfl, Nat.le_of_ble_eq_true rfl⟩) d_D_step_128,
  qq_rz Z d_D_step_131,
  qq_iln X 2 rfl d_D_step_132,
  qq_bp X 68 (by decide) d_D_step_133,
  qq_icne X 145 (by decide) d_D_step_135,
  qq_aln X 0 rfl d_D_step_138,
  qq_iln X 1 rfl d_D_step_139,
  qq_ic X 1 (by decide) d_D_step_140,
  qq_cV X 7 rfl (c_D_branch l) (fun hts => cwV 2 hts (evGV (mw_980) (mw_982) (mp_45) (mw_8) (mw_983)) rfl rfl rfl (by decide +kernel) ⟨Nat.le_of_ble_eq_true rfl, Nat.le_of_ble_eq_true rfl⟩) d_D_step_141,
  qq_rz Z d_D_step_144,
  qq_iln X 2 rfl d_D_step_145,
  qq_bp X 69 (by decide) d_D_step_146,
  qq_icne X 158 (by decide) d_D_step_148,
  qq_aln X 0 rfl d_D_step_151,
  qq_il X 5 d_D_step_152,
  qq_cV X 7 rfl (c_D_go l) (fun hts => cwV 1 hts (evGV (mw_976) (mw_978) (mp_44) (mw_8) (mw_979)) rfl rfl rfl (by decide +kernel) ⟨Nat.le_of_ble_eq_true rfl, Nat.le_of_ble_eq_true rfl⟩) d_D_step_154,
  qq_rz Z d_D_step_157,
  qq_iln X 2 rfl d_D_step_158,
  qq_bp X 70 (by decide) d_D_step_159,
  qq_icne X 177 (by decide) d_D_step_161,
  qq_aln X 0 rfl d_D_step_164,
  qq_aln X 0 rfl d_D_step_165,
  qq_gf X 7 22 rfl (fun w h => List.mem_cons_of_mem _ (inE_D w h)) (by decide) (List.mem_cons_of_mem _ mw_776) d_D_step_166,
  qq_ic X 2 (by decide) d_D_step_169,
  qq_iadd X d_D_step_170,
  qq_il X 5 d_D_step_171,
  qq_cV X 7 rfl (c_D_push l) (fun hts => cwV 2 hts (evGV (mw_984) (mw_986) (mp_46) (mw_8) (mw_987)) rfl rfl rfl (by decide +kernel) ⟨Nat.le_of_ble_eq_true rfl, Nat.le_of_ble_eq_true rfl⟩) d_D_step_173,
  qq_rz Z d_D_step_176,
  qq_iln X 2 rfl d_D_step_177,
  qq_bp X 77 (by decide) d_D_step_178,
  qq_icne X 201 (by decide) d_D_step_180,
  qq_aln X 0 rfl d_D_step_183,
  qq_aln X 0 rfl d_D_step_184,
  qq_iln X 1 rfl d_D_step_185,
  qq_aln X 0 rfl d_D_step_186,
  qq_gf X 7 22 rfl (fun w h => List.mem_cons_of_mem _ (inE_D w h)) (by decide) (List.mem_cons_of_mem _ mw_776) d_D_step_187,
  qq_ic X 2 (by decide) d_D_step_190,
  qq_iadd X d_D_step_191,
  qq_cV X 7 rfl (c_D_at l) (fun hts => cwV 2 hts (evGV (mw_964) (mw_966) (mp_41) (mw_8) (mw_967)) rfl rfl rfl (by decide +kernel) ⟨Nat.le_of_ble_eq_true rfl, Nat.le_of_ble_eq_true rfl⟩) d_D_step_192,
  qq_il X 5 d_D_step_195,
  qq_cV X 7 rfl (c_D_push l) (fun hts => cwV 2 hts (evGV (mw_984) (mw_986) (mp_46) (mw_8) (mw_987)) rfl rfl rfl (by decide +kernel) ⟨Nat.le_of_ble_eq_true rfl, Nat.le_of_ble_eq_true rfl⟩) d_D_step_197,
  qq_rz Z d_D_step_200,
  qq_iln X 2 rfl d_D_step_201,
  qq_cS X (c_D_isSwitch l) (fun hts => va_cwS 1 hts (evGS (mw_891) (mw_892) (mw_8) (mw_893)) rfl rfl rfl (by decide +kernel) ⟨Nat.le_of_ble_eq_true rfl, Nat.le_of_ble_eq_true rfl⟩) d_D_step_202,
  qq_ifeq X 221 (by decide) d_D_step_205,
  qq_aln X 0 rfl d_D_step_208,
  qq_iln X 1 rfl d_D_step_209,
  qq_aln X 0 rfl d_D_step_210,
  qq_gf X 7 20 rfl (fun w h => List.mem_cons_of_mem _ (inE_D w h)) (by decide) (List.mem_cons_of_mem _ mw_774) d_D_step_211,
  qq_il X 4 d_D_step_214,
  qq_ia X d_D_step_216,
  qq_cV X 7 rfl (c_D_select l) (fun hts => cwV 2 hts (evGV (mw_988) (mw_990) (mp_47) (mw_8) (mw_991)) rfl rfl rfl (by decide +kernel) ⟨Nat.le_of_ble_eq_true rfl, Nat.le_of_ble_eq_true rfl⟩) d_D_step_217,
  qq_rz Z d_D_step_220,
  qq_iln X 2 rfl d_D_step_221,
  qq_bp X 76 (by decide) d_D_step_222,
  qq_icne X 244 (by decide) d_D_step_224,
  qq_aln X 0 rfl d_D_step_227,
  qq_gf X 7 29 rfl (fun w h => List.mem_cons_of_mem _ (inE_D w h)) (by decide) (List.mem_cons_of_mem _ mw_783) d_D_step_228,
  qq_il X 5 d_D_step_231,
  qq_bp X 63 (by decide) d_D_step_233,
  qq_iand X d_D_step_235,
  qq_dup2 X d_D_step_236,
  qq_la X d_D_step_237,
  qq_lc X 1 (by decide) d_D_step_238,
  qq_ladd X d_D_step_239,
  qq_las X d_D_step_240,
  qq_go X 306 (by decide) d_D_step_241,
  qq_iln X 2 rfl d_D_step_244,
  qq_bp X 52 (by decide) d_D_step_245,
  qq_icge X 263 (by decide) d_D_step_247,
  qq_aln X 0 rfl d_D_step_250,
  qq_gf X 7 20 rfl (fun w h => List.mem_cons_of_mem _ (inE_D w h)) (by decide) (List.mem_cons_of_mem _ mw_774) d_D_step_251,
  qq_il X 4 d_D_step_254,
  qq_il X 5 d_D_step_256,
  qq_i2b X d_D_step_258,
  qq_ias X d_D_step_259,
  qq_go X 306 (by decide) d_D_step_260,
  qq_iln X 2 rfl d_D_step_263,
  qq_bp X 56 (by decide) d_D_step_264,
  qq_icge X 289 (by decide) d_D_step_266,
  qq_aln X 0 rfl d_D_step_269,
  qq_gf X 7 20 rfl (fun w h => List.mem_cons_of_mem _ (inE_D w h)) (by decide) (List.mem_cons_of_mem _ mw_774) d_D_step_270,
  qq_il X 4 d_D_step_273,
  qq_aln X 0 rfl d_D_step_275,
  qq_gf X 7 21 rfl (fun w h => List.mem_cons_of_mem _ (inE_D w h)) (by decide) (List.mem_cons_of_mem _ mw_775) d_D_step_276,
  qq_il X 5 d_D_step_279,
  qq_bp X 15 (by decide) d_D_step_281,
  qq_iand X d_D_step_283,
  qq_ia X d_D_step_284,
  qq_ias X d_D_step_285,
  qq_go X 306 (by decide) d_D_step_286,
  qq_aln X 0 rfl d_D_step_289,
  qq_gf X 7 21 rfl (fun w h => List.mem_cons_of_mem _ (inE_D w h)) (by decide) (List.mem_cons_of_mem _ mw_775) d_D_step_290,
  qq_il X 5 d_D_step_293,
  qq_bp X 15 (by decide) d_D_step_295,
  qq_iand X d_D_step_297,
  qq_aln X 0 rfl d_D_step_298,
  qq_gf X 7 20 rfl (fun w h => List.mem_cons_of_mem _ (inE_D w h)) (by decide) (List.mem_cons_of_mem _ mw_774) d_D_step_299,
  qq_il X 4 d_D_step_302,
  qq_ia X d_D_step_304,
  qq_ias X d_D_step_305,
  qq_aln X 0 rfl d_D_step_306,
  qq_aln X 0 rfl d_D_step_307,
  qq_gf X 7 22 rfl (fun w h => List.mem_cons_of_mem _ (inE_D w h)) (by decide) (List.mem_cons_of_mem _ mw_776) d_D_step_308,
  qq_ic X 2 (by decide) d_D_step_311,
  qq_iadd X d_D_step_312,
  qq_cV X 7 rfl (c_D_go l) (fun hts => cwV 1 hts (evGV (mw_976) (mw_978) (mp_44) (mw_8) (mw_979)) rfl rfl rfl (by decide +kernel) ⟨Nat.le_of_ble_eq_true rfl, Nat.le_of_ble_eq_true rfl⟩) d_D_step_313,
  qq_rz Z d_D_step_316, trivial⟩
def pre_D_step : List Value → ev_M → ev_L → Prop := fun as σ τ => ∃ b : Int32, as = [.ref 30, .int b] ∧ (b = 0 ∨ b = 256) ∧ byF (fD σ b) ∧ msR (mvD σ τ) ∧ (σ 30 22).toInt ≤ 255
def post_D_step : List Value → ev_M → ev_L → Bool → ev_M → ev_L → Prop := fun as σ τ r σ' τ' => match as with
  | [_, .int b] => sd_post (ms_step (fD σ b) (trD σ b) (mvD σ τ)) σ τ r σ' τ'
  | _ => False
set_option maxHeartbeats 4000000 in
set_option maxRecDepth 100000 in
theorem c_D_step (l : Launch) : ev_C ev_b l y_D_step ws_D_step rm_D_step evLY evCl pre_D_step post_D_step := by
  refine ev_meth0 (by decide) rfl ev_rop_b ?_ I_D_step (ok_D_step l) 200 ?_
  · rintro _ σ τ ⟨b, rfl, hp⟩
    exact Nat.le_of_ble_eq_true rfl
  · rintro _ σ τ ⟨b, rfl, hb, hf, hR, h255⟩
    have hp0 : 0 ≤ (σ 30 22).toInt := hR.1.1
    have h256 : (256 : Int32).toInt = 256 := rfl
    obtain ⟨hv, hat⟩ := at_D (σ := σ) (b := b) (a := σ 30 22) hb (by omega) (by omega)
    have hop := sp_at_by hf (σ 30 22)
    obtain ⟨z1, z2, z3⟩ := sz0 hop.1 hop.2
    refine ⟨⟨_, _, rfl, hv⟩, ?_⟩
    rintro _ σ τ ⟨rfl, rfl, rfl⟩
    rw [hat]
    refine ⟨⟨_, rfl⟩, ?_⟩
    rintro _ σ τ ⟨rfl, rfl, rfl⟩
    refine br_c (fun hz => ?_) (fun hz => ?_)
    · refine ⟨rfl, ?_⟩
      rintro _ _ τ ⟨rfl, rfl, rfl⟩
      have e : ms_step (fD σ b) (trD σ b) (mvD σ τ) = (2, mvD σ τ) := if_neg fun q => q.2.2.1 (z1 hz)
      refine ⟨false, rfl, ?_⟩
      show sd_post _ _ _ _ _ _
      rw [e]
      exact ⟨frD_f _ _ (by decide), ⟨fun q => (by cases q), fun q => absurd rfl q⟩, rfl, rfl⟩
    obtain ⟨hkn, hlen⟩ := z2 hz
    refine br_c (fun hle => ?_) (fun hle => ?_)
    · have hl3 := sp_len_3 (sp_kind (sp_at (fD σ b) (σ 30 22)))
      rw [hlen] at hl3
      have ebh : (σ 30 22 + sd_size (sp_at (fD σ b) (σ 30 22))).toInt = (σ 30 22).toInt + (sd_size (sp_at (fD σ b) (σ 30 22))).toInt := i_add (by omega) (by omega) (by omega) (by omega)
      rw [Int32.le_iff_toInt_le, h256] at hle
      refine br_n (fun h1 => ?_) (fun h1 => ?_)
      · -- two or three bytes
        have h1' : ¬ (sd_size (sp_at (fD σ b) (σ 30 22))).toInt = 1 := fun q => h1 (Int32.toInt_inj.mp q)
        have h48 : 48 ≤ (sp_at (fD σ b) (σ 30 22)).toInt := by
          rcases Int.lt_or_le (sp_at (fD σ b) (σ 30 22)).toInt 48 with q | q
          · exact absurd (z3.mpr q) h1
          · exact q
        have e1 : (σ 30 22 + 1).toInt = (σ 30 22).toInt + 1 := i_add (by omega) (by omega) (by decide) (by decide)
        have e2 : (σ 30 22 + 2).toInt = (σ 30 22).toInt + 2 := i_add (by omega) (by omega) (by decide) (by decide)
        obtain ⟨hv1, hat1⟩ := at_D (σ := σ) (b := b) (a := σ 30 22 + 1) hb (by omega) (by omega)
        have hn := sp_at_by hf (σ 30 22 + 1)
        have hr : vp_in (sp_at (fD σ b) (σ 30 22) &&& 3) 4 := pk_andIn _ 2 rfl (by decide)
        have hn15 : vp_in (sp_at (fD σ b) (σ 30 22 + 1) &&& 15) 16 := pk_andIn _ 4 rfl (by decide)
        have hn63 : vp_in (sp_at (fD σ b) (σ 30 22 + 1) &&& 63) 64 := pk_andIn _ 6 rfl (by decide)
        refine ⟨⟨_, _, rfl, hv1⟩, ?_⟩
        rintro _ σ τ ⟨rfl, rfl, rfl⟩
        rw [hat1]
        have hnz : ¬ ((sp_at (fD σ b) (σ 30 22)).toInt = 71 ∨ 78 ≤ (sp_at (fD σ b) (σ 30 22)).toInt) := by
          intro q
          have key : ∀ n, n < 256 → (n = 71 ∨ 78 ≤ n) → sd_size (nI n) = 0 := by decide +kernel
          obtain ⟨j, hj, ej⟩ := nI_of (x := sp_at (fD σ b) (σ 30 22)) (by rw [Int32.lt_iff_toInt_lt]; have : (0 : Int32).toInt = 0 := rfl; omega)
          rw [ej, nI_toInt hj] at q hop
          exact hz (by rw [ej]; exact key j (by omega) (by omega))
        have cs : ((sp_at (fD σ b) (σ 30 22)).toInt < 52) ∨ (52 ≤ (sp_at (fD σ b) (σ 30 22)).toInt ∧ (sp_at (fD σ b) (σ 30 22)).toInt < 56) ∨ (56 ≤ (sp_at (fD σ b) (σ 30 22)).toInt ∧ (sp_at (fD σ b) (σ 30 22)).toInt < 60) ∨ (60 ≤ (sp_at (fD σ b) (σ 30 22)).toInt ∧ (sp_at (fD σ b) (σ 30 22)).toInt < 64) ∨ (64 ≤ (sp_at (fD σ b) (σ 30 22)).toInt ∧ (sp_at (fD σ b) (σ 30 22)).toInt < 68) ∨ (sp_at (fD σ b) (σ 30 22)).toInt = 68 ∨ (sp_at (fD σ b) (σ 30 22)).toInt = 69 ∨ (sp_at (fD σ b) (σ 30 22)).toInt = 70 ∨ (72 ≤ (sp_at (fD σ b) (σ 30 22)).toInt ∧ (sp_at (fD σ b) (σ 30 22)).toInt < 76) ∨ (sp_at (fD σ b) (σ 30 22)).toInt = 76 ∨ (sp_at (fD σ b) (σ 30 22)).toInt = 77 := by omega
        have hsw : (72 ≤ (sp_at (fD σ b) (σ 30 22)).toInt ∧ (sp_at (fD σ b) (σ 30 22)).toInt < 76) → sd_sw (sp_at (fD σ b) (σ 30 22)) = true := by
          intro q
          exact decide_eq_true (by simp only [Int32.lt_iff_toInt_lt, Int32.le_iff_toInt_le, Int32.reduceToInt]; omega)
        have hsw0 : ¬ (72 ≤ (sp_at (fD σ b) (σ 30 22)).toInt ∧ (sp_at (fD σ b) (σ 30 22)).toInt < 76) → sd_sw (sp_at (fD σ b) (σ 30 22)) = false := by
          intro q
          exact decide_eq_false (by simp only [Int32.lt_iff_toInt_lt, Int32.le_iff_toInt_le, Int32.reduceToInt]; omega)
        have conv : ∀ (kd bh : Int32) (r : Bool) (σ' : ev_M) (τ' : ev_L), sp_kind (sp_at (fD σ b) (σ 30 22)) = kd → ¬ kd = -1 → σ 30 22 + sp_len kd = bh → sd_step (fD σ b) (trD σ b) kd (sp_at (fD σ b) (σ 30 22)) (sp_at (fD σ b) (σ 30 22 + 1)) (sp_at (fD σ b) (σ 30 22 + 2)) bh σ τ r σ' τ' → ∃ b1 : Bool, (cond r 1 0 : Int32) = cond b1 1 0 ∧ post_D_step [.ref 30, .int b] σ τ b1 σ' τ' := by
          intro kd bh r σ' τ' hk hkn hbh hs
          refine ⟨r, rfl, sd_conv hf hR h255 hk hkn hbh ?_ hs⟩
          rw [← hbh, ← hk, hlen]
          omega
        rcases cs with c | c | c | c | c | c | c | c | c | c | c
        · -- SET
          have hk := kdl 48 52 48 (by decide +kernel) (op := sp_at (fD σ b) (σ 30 22)) (by omega) (by omega) (by decide)
          repeat (first | refine br_t (by simp only [Int32.lt_iff_toInt_lt, Int32.le_iff_toInt_le, ← Int32.toInt_inj, Int32.reduceToInt]; omega) ?_ | refine br_f (by simp only [Int32.lt_iff_toInt_lt, Int32.le_iff_toInt_le, ← Int32.toInt_inj, Int32.reduceToInt]; omega) ?_ | refine br_nt (by simp only [Int32.lt_iff_toInt_lt, Int32.le_iff_toInt_le, ← Int32.toInt_inj, Int32.reduceToInt]; omega) ?_ | refine br_nf (by simp only [Int32.lt_iff_toInt_lt, Int32.le_iff_toInt_le, ← Int32.toInt_inj, Int32.reduceToInt]; omega) ?_)
          refine ⟨⟨_, rfl⟩, ?_⟩
          rintro _ σ τ ⟨rfl, rfl, rfl⟩
          rw [hsw0 (by omega)]
          refine br_t rfl ?_
          repeat (first | refine br_t (by simp only [Int32.lt_iff_toInt_lt, Int32.le_iff_toInt_le, ← Int32.toInt_inj, Int32.reduceToInt]; omega) ?_ | refine br_f (by simp only [Int32.lt_iff_toInt_lt, Int32.le_iff_toInt_le, ← Int32.toInt_inj, Int32.reduceToInt]; omega) ?_ | refine br_nt (by simp only [Int32.lt_iff_toInt_lt, Int32.le_iff_toInt_le, ← Int32.toInt_inj, Int32.reduceToInt]; omega) ?_ | refine br_nf (by simp only [Int32.lt_iff_toInt_lt, Int32.le_iff_toInt_le, ← Int32.toInt_inj, Int32.reduceToInt]; omega) ?_)
          refine ⟨hr, ⟨_, rfl⟩, ?_⟩
          rintro _ _ τ ⟨rfl, rfl, rfl⟩
          refine conv 48 (σ 30 22 + 2) true _ _ hk (by decide) rfl ⟨frD_tr (frD_u _ _ _ (by decide)) (frD_f _ _ (by decide)), Or.inr (Or.inr ⟨by decide, i_nm1 (by show 0 ≤ (σ 30 22 + 2).toInt; omega), rfl, rfl, rfl⟩)⟩
        · -- LOAD
          have hk := kdl 52 56 52 (by decide +kernel) (op := sp_at (fD σ b) (σ 30 22)) (by omega) (by omega) (by decide)
          repeat (first | refine br_t (by simp only [Int32.lt_iff_toInt_lt, Int32.le_iff_toInt_le, ← Int32.toInt_inj, Int32.reduceToInt]; omega) ?_ | refine br_f (by simp only [Int32.lt_iff_toInt_lt, Int32.le_iff_toInt_le, ← Int32.toInt_inj, Int32.reduceToInt]; omega) ?_ | refine br_nt (by simp only [Int32.lt_iff_toInt_lt, Int32.le_iff_toInt_le, ← Int32.toInt_inj, Int32.reduceToInt]; omega) ?_ | refine br_nf (by simp only [Int32.lt_iff_toInt_lt, Int32.le_iff_toInt_le, ← Int32.toInt_inj, Int32.reduceToInt]; omega) ?_)
          refine ⟨⟨_, rfl⟩, ?_⟩
          rintro _ σ τ ⟨rfl, rfl, rfl⟩
          rw [hsw0 (by omega)]
          refine br_t rfl ?_
          repeat (first | refine br_t (by simp only [Int32.lt_iff_toInt_lt, Int32.le_iff_toInt_le, ← Int32.toInt_inj, Int32.reduceToInt]; omega) ?_ | refine br_f (by simp only [Int32.lt_iff_toInt_lt, Int32.le_iff_toInt_le, ← Int32.toInt_inj, Int32.reduceToInt]; omega) ?_ | refine br_nt (by simp only [Int32.lt_iff_toInt_lt, Int32.le_iff_toInt_le, ← Int32.toInt_inj, Int32.reduceToInt]; omega) ?_ | refine br_nf (by simp only [Int32.lt_iff_toInt_lt, Int32.le_iff_toInt_le, ← Int32.toInt_inj, Int32.reduceToInt]; omega) ?_)
          refine ⟨hn15, hr, ⟨_, rfl⟩, ?_⟩
          rintro _ _ τ ⟨rfl, rfl, rfl⟩
          refine conv 52 (σ 30 22 + 2) true _ _ hk (by decide) rfl ⟨frD_tr (frD_u _ _ _ (by decide)) (frD_f _ _ (by decide)), Or.inr (Or.inr ⟨by decide, i_nm1 (by show 0 ≤ (σ 30 22 + 2).toInt; omega), rfl, rfl, rfl⟩)⟩
        · -- STORE
          have hk := kdl 56 60 56 (by decide +kernel) (op := sp_at (fD σ b) (σ 30 22)) (by omega) (by omega) (by decide)
          repeat (first | refine br_t (by simp only [Int32.lt_iff_toInt_lt, Int32.le_iff_toInt_le, ← Int32.toInt_inj, Int32.reduceToInt]; omega) ?_ | refine br_f (by simp only [Int32.lt_iff_toInt_lt, Int32.le_iff_toInt_le, ← Int32.toInt_inj, Int32.reduceToInt]; omega) ?_ | refine br_nt (by simp only [Int32.lt_iff_toInt_lt, Int32.le_iff_toInt_le, ← Int32.toInt_inj, Int32.reduceToInt]; omega) ?_ | refine br_nf (by simp only [Int32.lt_iff_toInt_lt, Int32.le_iff_toInt_le, ← Int32.toInt_inj, Int32.reduceToInt]; omega) ?_)
          refine ⟨⟨_, rfl⟩, ?_⟩
          rintro _ σ τ ⟨rfl, rfl, rfl⟩
          rw [hsw0 (by omega)]
          refine br_t rfl ?_
          repeat (first | refine br_t (by simp only [Int32.lt_iff_toInt_lt, Int32.le_iff_toInt_le, ← Int32.toInt_inj, Int32.reduceToInt]; omega) ?_ | refine br_f (by simp only [Int32.lt_iff_toInt_lt, Int32.le_iff_toInt_le, ← Int32.toInt_inj, Int32.reduceToInt]; omega) ?_ | refine br_nt (by simp only [Int32.lt_iff_toInt_lt, Int32.le_iff_toInt_le, ← Int32.toInt_inj, Int32.reduceToInt]; omega) ?_ | refine br_nf (by simp only [Int32.lt_iff_toInt_lt, Int32.le_iff_toInt_le, ← Int32.toInt_inj, Int32.reduceToInt]; omega) ?_)
          refine ⟨hr, hn15, ⟨_, rfl⟩, ?_⟩
          rintro _ _ τ ⟨rfl, rfl, rfl⟩
          refine conv 56 (σ 30 22 + 2) true _ _ hk (by decide) rfl ⟨frD_tr (frD_u _ _ _ (by decide)) (frD_f _ _ (by decide)), Or.inr (Or.inr ⟨by decide, i_nm1 (by show 0 ≤ (σ 30 22 + 2).toInt; omega), rfl, rfl, rfl⟩)⟩
        · -- IF_ZERO
          have hk := kdl 60 64 60 (by decide +kernel) (op := sp_at (fD σ b) (σ 30 22)) (by omega) (by omega) (by decide)
          repeat (first | refine br_t (by simp only [Int32.lt_iff_toInt_lt, Int32.le_iff_toInt_le, ← Int32.toInt_inj, Int32.reduceToInt]; omega) ?_ | refine br_f (by simp only [Int32.lt_iff_toInt_lt, Int32.le_iff_toInt_le, ← Int32.toInt_inj, Int32.reduceToInt]; omega) ?_ | refine br_nt (by simp only [Int32.lt_iff_toInt_lt, Int32.le_iff_toInt_le, ← Int32.toInt_inj, Int32.reduceToInt]; omega) ?_ | refine br_nf (by simp only [Int32.lt_iff_toInt_lt, Int32.le_iff_toInt_le, ← Int32.toInt_inj, Int32.reduceToInt]; omega) ?_)
          refine ⟨hr, br_n (fun h => ?_) (fun h => ?_)⟩
          · refine ⟨⟨_, _, rfl, hb, hp0, by omega⟩, ?_⟩
            rintro r σ' _ ⟨hs, rfl⟩
            exact conv 60 (σ 30 22 + 2) r σ' _ hk (by decide) rfl (res_conv (by decide) (Prod.ext (if_neg h) rfl) hs)
          · refine ⟨⟨_, _, rfl, hb, hp0, by omega⟩, ?_⟩
            rintro r σ' _ ⟨hs, rfl⟩
            exact conv 60 (σ 30 22 + 2) r σ' _ hk (by decide) rfl (res_conv (by decide) (Prod.ext (if_pos h) rfl) hs)
        · -- IF_BELOW
          have hk := kdl 64 68 64 (by decide +kernel) (op := sp_at (fD σ b) (σ 30 22)) (by omega) (by omega) (by decide)
          repeat (first | refine br_t (by simp only [Int32.lt_iff_toInt_lt, Int32.le_iff_toInt_le, ← Int32.toInt_inj, Int32.reduceToInt]; omega) ?_ | refine br_f (by simp only [Int32.lt_iff_toInt_lt, Int32.le_iff_toInt_le, ← Int32.toInt_inj, Int32.reduceToInt]; omega) ?_ | refine br_nt (by simp only [Int32.lt_iff_toInt_lt, Int32.le_iff_toInt_le, ← Int32.toInt_inj, Int32.reduceToInt]; omega) ?_ | refine br_nf (by simp only [Int32.lt_iff_toInt_lt, Int32.le_iff_toInt_le, ← Int32.toInt_inj, Int32.reduceToInt]; omega) ?_)
          refine ⟨hr, br_c (fun h => ?_) (fun h => ?_)⟩
          · refine ⟨⟨_, _, rfl, hb, hp0, by omega⟩, ?_⟩
            rintro r σ' _ ⟨hs, rfl⟩
            exact conv 64 (σ 30 22 + 2) r σ' _ hk (by decide) rfl (res_conv (by decide) (Prod.ext (if_neg (Int32.not_lt.mpr h)) rfl) hs)
          · refine ⟨⟨_, _, rfl, hb, hp0, by omega⟩, ?_⟩
            rintro r σ' _ ⟨hs, rfl⟩
            exact conv 64 (σ 30 22 + 2) r σ' _ hk (by decide) rfl (res_conv (by decide) (Prod.ext (if_pos (Int32.not_le.mp h)) rfl) hs)
        · -- BRANCH
          have hk := kdl 68 69 68 (by decide +kernel) (op := sp_at (fD σ b) (σ 30 22)) (by omega) (by omega) (by decide)
          repeat (first | refine br_t (by simp only [Int32.lt_iff_toInt_lt, Int32.le_iff_toInt_le, ← Int32.toInt_inj, Int32.reduceToInt]; omega) ?_ | refine br_f (by simp only [Int32.lt_iff_toInt_lt, Int32.le_iff_toInt_le, ← Int32.toInt_inj, Int32.reduceToInt]; omega) ?_ | refine br_nt (by simp only [Int32.lt_iff_toInt_lt, Int32.le_iff_toInt_le, ← Int32.toInt_inj, Int32.reduceToInt]; omega) ?_ | refine br_nf (by simp only [Int32.lt_iff_toInt_lt, Int32.le_iff_toInt_le, ← Int32.toInt_inj, Int32.reduceToInt]; omega) ?_)
          refine ⟨⟨_, _, rfl, hb, hp0, by omega⟩, ?_⟩
          rintro r σ' _ ⟨hs, rfl⟩
          exact conv 68 (σ 30 22 + 2) r σ' _ hk (by decide) rfl (res_conv (by decide) rfl hs)
        · -- JUMP
          have hk := kdl 69 70 69 (by decide +kernel) (op := sp_at (fD σ b) (σ 30 22)) (by omega) (by omega) (by decide)
          repeat (first | refine br_t (by simp only [Int32.lt_iff_toInt_lt, Int32.le_iff_toInt_le, ← Int32.toInt_inj, Int32.reduceToInt]; omega) ?_ | refine br_f (by simp only [Int32.lt_iff_toInt_lt, Int32.le_iff_toInt_le, ← Int32.toInt_inj, Int32.reduceToInt]; omega) ?_ | refine br_nt (by simp only [Int32.lt_iff_toInt_lt, Int32.le_iff_toInt_le, ← Int32.toInt_inj, Int32.reduceToInt]; omega) ?_ | refine br_nf (by simp only [Int32.lt_iff_toInt_lt, Int32.le_iff_toInt_le, ← Int32.toInt_inj, Int32.reduceToInt]; omega) ?_)
          refine ⟨⟨_, rfl⟩, ?_⟩
          rintro _ _ τ ⟨rfl, rfl, rfl⟩
          refine conv 69 (σ 30 22 + 2) true _ _ hk (by decide) rfl ⟨frD_f _ _ (by decide), Or.inr (Or.inr ⟨by decide, i_nm1 hn.1, rfl, rfl, rfl⟩)⟩
        · -- CALL
          have hk := kdl 70 71 70 (by decide +kernel) (op := sp_at (fD σ b) (σ 30 22)) (by omega) (by omega) (by decide)
          repeat (first | refine br_t (by simp only [Int32.lt_iff_toInt_lt, Int32.le_iff_toInt_le, ← Int32.toInt_inj, Int32.reduceToInt]; omega) ?_ | refine br_f (by simp only [Int32.lt_iff_toInt_lt, Int32.le_iff_toInt_le, ← Int32.toInt_inj, Int32.reduceToInt]; omega) ?_ | refine br_nt (by simp only [Int32.lt_iff_toInt_lt, Int32.le_iff_toInt_le, ← Int32.toInt_inj, Int32.reduceToInt]; omega) ?_ | refine br_nf (by simp only [Int32.lt_iff_toInt_lt, Int32.le_iff_toInt_le, ← Int32.toInt_inj, Int32.reduceToInt]; omega) ?_)
          refine ⟨⟨_, _, rfl, hR.2.1.1, hR.2.1.2⟩, ?_⟩
          rintro r σ' τ ⟨rfl, ⟨h8, rfl, rfl⟩ | ⟨h8, rfl, rfl⟩⟩
          · refine conv 70 (σ 30 22 + 2) false _ _ hk (by decide) rfl ?_
            have hP : ms_perf (fD σ b) (trD σ b) 70 (sp_at (fD σ b) (σ 30 22)) (sp_at (fD σ b) (σ 30 22 + 1)) (sp_at (fD σ b) (σ 30 22 + 2)) (σ 30 22 + 2) (mvD σ τ) = (-1, mvD σ τ) := if_neg h8
            unfold sd_step
            rw [hP]
            exact ⟨frD_f _ _ (by decide), Or.inr (Or.inl ⟨by decide, rfl, rfl, rfl, rfl⟩)⟩
          · refine conv 70 (σ 30 22 + 2) true _ _ hk (by decide) rfl ?_
            have hP : ms_perf (fD σ b) (trD σ b) 70 (sp_at (fD σ b) (σ 30 22)) (sp_at (fD σ b) (σ 30 22 + 1)) (sp_at (fD σ b) (σ 30 22 + 2)) (σ 30 22 + 2) (mvD σ τ) = (sp_at (fD σ b) (σ 30 22 + 1), (σ 43, σ 44, upd (σ 45) (σ 30 23).toNatClampNeg (σ 30 22 + 2), σ 46, τ 47, σ 30 22, σ 30 23 + 1, σ 30 24, σ 30 25)) := if_pos h8
            unfold sd_step
            rw [hP]
            exact ⟨frD_tr (frD_u _ _ _ (by decide)) (frD_tr (frD_f _ _ (by decide)) (frD_f _ _ (by decide))), Or.inr (Or.inr ⟨by decide, i_nm1 hn.1, rfl, rfl, rfl⟩)⟩
        · -- SWITCH
          have hk := kdl 72 76 72 (by decide +kernel) (op := sp_at (fD σ b) (σ 30 22)) (by omega) (by omega) (by decide)
          have h3 : (sd_size (sp_at (fD σ b) (σ 30 22))).toInt = 3 := by rw [← hlen, hk]; rfl
          repeat (first | refine br_t (by simp only [Int32.lt_iff_toInt_lt, Int32.le_iff_toInt_le, ← Int32.toInt_inj, Int32.reduceToInt]; omega) ?_ | refine br_f (by simp only [Int32.lt_iff_toInt_lt, Int32.le_iff_toInt_le, ← Int32.toInt_inj, Int32.reduceToInt]; omega) ?_ | refine br_nt (by simp only [Int32.lt_iff_toInt_lt, Int32.le_iff_toInt_le, ← Int32.toInt_inj, Int32.reduceToInt]; omega) ?_ | refine br_nf (by simp only [Int32.lt_iff_toInt_lt, Int32.le_iff_toInt_le, ← Int32.toInt_inj, Int32.reduceToInt]; omega) ?_)
          refine ⟨⟨_, rfl⟩, ?_⟩
          rintro _ σ τ ⟨rfl, rfl, rfl⟩
          rw [hsw c]
          refine br_f (by decide) ?_
          refine ⟨hr, ⟨_, _, rfl, hb, hp0, by omega, hf⟩, ?_⟩
          rintro r σ' _ ⟨hs, rfl⟩
          exact conv 72 (σ 30 22 + 3) r σ' _ hk (by decide) rfl (res_conv (by decide) rfl hs)
        · -- COUNT
          have hk := kdl 76 77 76 (by decide +kernel) (op := sp_at (fD σ b) (σ 30 22)) (by omega) (by omega) (by decide)
          repeat (first | refine br_t (by simp only [Int32.lt_iff_toInt_lt, Int32.le_iff_toInt_le, ← Int32.toInt_inj, Int32.reduceToInt]; omega) ?_ | refine br_f (by simp only [Int32.lt_iff_toInt_lt, Int32.le_iff_toInt_le, ← Int32.toInt_inj, Int32.reduceToInt]; omega) ?_ | refine br_nt (by simp only [Int32.lt_iff_toInt_lt, Int32.le_iff_toInt_le, ← Int32.toInt_inj, Int32.reduceToInt]; omega) ?_ | refine br_nf (by simp only [Int32.lt_iff_toInt_lt, Int32.le_iff_toInt_le, ← Int32.toInt_inj, Int32.reduceToInt]; omega) ?_)
          refine ⟨⟨_, rfl⟩, ?_⟩
          rintro _ σ τ ⟨rfl, rfl, rfl⟩
          rw [hsw0 (by omega)]
          refine br_t rfl ?_
          repeat (first | refine br_t (by simp only [Int32.lt_iff_toInt_lt, Int32.le_iff_toInt_le, ← Int32.toInt_inj, Int32.reduceToInt]; omega) ?_ | refine br_f (by simp only [Int32.lt_iff_toInt_lt, Int32.le_iff_toInt_le, ← Int32.toInt_inj, Int32.reduceToInt]; omega) ?_ | refine br_nt (by simp only [Int32.lt_iff_toInt_lt, Int32.le_iff_toInt_le, ← Int32.toInt_inj, Int32.reduceToInt]; omega) ?_ | refine br_nf (by simp only [Int32.lt_iff_toInt_lt, Int32.le_iff_toInt_le, ← Int32.toInt_inj, Int32.reduceToInt]; omega) ?_)
          refine ⟨hn63, hn63, ⟨_, rfl⟩, ?_⟩
          rintro _ _ _ ⟨rfl, rfl, rfl⟩
          refine conv 76 (σ 30 22 + 2) true _ _ hk (by decide) rfl ⟨frD_tr (frD_w _ _) (frD_f _ _ (by decide)), Or.inr (Or.inr ⟨by decide, i_nm1 (by show 0 ≤ (σ 30 22 + 2).toInt; omega), rfl, rfl, rfl⟩)⟩
        · -- PUSH AND JUMP
          have hk := kdl 77 78 77 (by decide +kernel) (op := sp_at (fD σ b) (σ 30 22)) (by omega) (by omega) (by decide)
          have h3 : (sd_size (sp_at (fD σ b) (σ 30 22))).toInt = 3 := by rw [← hlen, hk]; rfl
          obtain ⟨hv2, hat2⟩ := at_D (σ := σ) (b := b) (a := σ 30 22 + 2) hb (by omega) (by omega)
          repeat (first | refine br_t (by simp only [Int32.lt_iff_toInt_lt, Int32.le_iff_toInt_le, ← Int32.toInt_inj, Int32.reduceToInt]; omega) ?_ | refine br_f (by simp only [Int32.lt_iff_toInt_lt, Int32.le_iff_toInt_le, ← Int32.toInt_inj, Int32.reduceToInt]; omega) ?_ | refine br_nt (by simp only [Int32.lt_iff_toInt_lt, Int32.le_iff_toInt_le, ← Int32.toInt_inj, Int32.reduceToInt]; omega) ?_ | refine br_nf (by simp only [Int32.lt_iff_toInt_lt, Int32.le_iff_toInt_le, ← Int32.toInt_inj, Int32.reduceToInt]; omega) ?_)
          refine ⟨⟨_, _, rfl, hv2⟩, ?_⟩
          rintro _ σ τ ⟨rfl, rfl, rfl⟩
          rw [hat2]
          refine ⟨⟨_, _, rfl, hR.2.1.1, hR.2.1.2⟩, ?_⟩
          rintro r σ' τ ⟨rfl, ⟨h8, rfl, rfl⟩ | ⟨h8, rfl, rfl⟩⟩
          · refine conv 77 (σ 30 22 + 3) false _ _ hk (by decide) rfl ?_
            have hP : ms_perf (fD σ b) (trD σ b) 77 (sp_at (fD σ b) (σ 30 22)) (sp_at (fD σ b) (σ 30 22 + 1)) (sp_at (fD σ b) (σ 30 22 + 2)) (σ 30 22 + 3) (mvD σ τ) = (-1, mvD σ τ) := if_neg h8
            unfold sd_step
            rw [hP]
            exact ⟨frD_f _ _ (by decide), Or.inr (Or.inl ⟨by decide, rfl, rfl, rfl, rfl⟩)⟩
          · refine conv 77 (σ 30 22 + 3) true _ _ hk (by decide) rfl ?_
            have hP : ms_perf (fD σ b) (trD σ b) 77 (sp_at (fD σ b) (σ 30 22)) (sp_at (fD σ b) (σ 30 22 + 1)) (sp_at (fD σ b) (σ 30 22 + 2)) (σ 30 22 + 3) (mvD σ τ) = (sp_at (fD σ b) (σ 30 22 + 1), (σ 43, σ 44, upd (σ 45) (σ 30 23).toNatClampNeg (sp_at (fD σ b) (σ 30 22 + 2)), σ 46, τ 47, σ 30 22, σ 30 23 + 1, σ 30 24, σ 30 25)) := if_pos h8
            unfold sd_step
            rw [hP]
            exact ⟨frD_tr (frD_u _ _ _ (by decide)) (frD_tr (frD_f _ _ (by decide)) (frD_f _ _ (by decide))), Or.inr (Or.inr ⟨by decide, i_nm1 hn.1, rfl, rfl, rfl⟩)⟩
      · -- one byte
        refine ⟨⟨_, _, rfl, hb, hop.1, z3.mp h1, hR, h255⟩, ?_⟩
        rintro r σ' τ' hs
        refine ⟨r, rfl, sd_conv hf hR h255 rfl hkn (by rw [hlen, h1]) ?_ hs⟩
        have e1 : (σ 30 22 + 1).toInt = (σ 30 22).toInt + 1 := i_add (by omega) (by omega) (by decide) (by decide)
        omega
    · refine ⟨rfl, ?_⟩
      rintro _ _ τ ⟨rfl, rfl, rfl⟩
      have e : ms_step (fD σ b) (trD σ b) (mvD σ τ) = (2, mvD σ τ) := if_neg fun q => hle (by rw [← hlen]; exact q.2.2.2)
      refine ⟨false, rfl, ?_⟩
      show sd_post _ _ _ _ _ _
      rw [e]
      exact ⟨frD_f _ _ (by decide), ⟨fun q => (by cases q), fun q => absurd rfl q⟩, rfl, rfl⟩
