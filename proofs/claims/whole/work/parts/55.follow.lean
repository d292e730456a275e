/-! analysis: marks that grow -/
def cntF (f : Nat → Int32) : Nat → Nat
  | 0 => 0
  | n + 1 => cntF f n + (if f n = 1 then 1 else 0)
theorem cntF_le (f : Nat → Int32) : ∀ n, cntF f n ≤ n
  | 0 => Nat.le_refl _
  | n + 1 => by
    have := cntF_le f n
    show cntF f n + _ ≤ n + 1
    split <;> omega
theorem cntF_lt (f : Nat → Int32) {x : Nat} (hx : ¬ f x = 1) : ∀ n, x < n → cntF f n < n
  | 0, h => by omega
  | n + 1, h => by
    show cntF f n + _ < n + 1
    by_cases hn : x = n
    · subst hn
      rw [if_neg hx]
      have := cntF_le f x
      omega
    · have := cntF_lt f hx n (by omega)
      split <;> omega
theorem cntF_same (f : Nat → Int32) (x : Nat) (v : Int32) : ∀ n, n ≤ x → cntF (upd f x v) n = cntF f n
  | 0, _ => rfl
  | n + 1, h => by
    have ih := cntF_same f x v n (by omega)
    show cntF (upd f x v) n + (if upd f x v n = 1 then 1 else 0) = cntF f n + _
    have e : upd f x v n = f n := if_neg (by omega)
    rw [ih, e]
theorem cntF_up (f : Nat → Int32) {x : Nat} (hx : ¬ f x = 1) : ∀ n, x < n → cntF (upd f x 1) n = cntF f n + 1
  | 0, h => by omega
  | n + 1, h => by
    show cntF (upd f x 1) n + (if upd f x 1 n = 1 then 1 else 0) = cntF f n + (if f n = 1 then 1 else 0) + 1
    by_cases hn : x = n
    · subst hn
      rw [cntF_same f x 1 x (Nat.le_refl _), if_neg hx]
      have e : upd f x 1 x = 1 := if_pos rfl
      rw [e, if_pos rfl]
    · have e : upd f x 1 n = f n := if_neg (fun q => hn q.symm)
      rw [cntF_up f hx n (by omega), e]
      omega
/-- the list of what was found -/
def anW (σ : ev_M) (c : Nat) : Prop := σ 8 9 = nI c ∧ c ≤ 96 ∧ (∀ x, x < 96 → (σ 11 x = 0 ∨ σ 11 x = 1) ∧ (σ 12 x = 0 ∨ σ 12 x = 1) ∧ (σ 13 x = 0 ∨ σ 13 x = 1)) ∧ (∀ j, j < c → ∃ x, x < 96 ∧ σ 10 j = nI x ∧ σ 11 x = 1) ∧ (∀ x, x < 96 → σ 11 x = 1 → ∃ j, j < c ∧ σ 10 j = nI x) ∧ c = cntF (σ 11) 96
def anF (σ σ' : ev_M) : Prop := (∀ k, ¬ k = 8 → (k < 9 ∨ 13 < k) → σ' k = σ k) ∧ σ' 8 10 = σ 8 10
theorem anF_rf (σ : ev_M) : anF σ σ := ⟨fun _ _ _ => rfl, rfl⟩
theorem anF_tr {σ σ1 σ2 : ev_M} (h1 : anF σ σ1) (h2 : anF σ1 σ2) : anF σ σ2 := ⟨fun k a b => (h2.1 k a b).trans (h1.1 k a b), h2.2.trans h1.2⟩
/-- the marks have grown by just these -/
def anG (σ σ' : ev_M) (F Hd T : Nat → Prop) : Prop := anF σ σ' ∧ (∃ c c', anW σ c ∧ anW σ' c' ∧ c ≤ c' ∧ ∀ j, j < c → σ' 10 j = σ 10 j) ∧ ∀ x, x < 96 → (σ' 11 x = 1 ↔ σ 11 x = 1 ∨ F x) ∧ (σ' 12 x = 1 ↔ σ 12 x = 1 ∨ Hd x) ∧ (σ' 13 x = 1 ↔ σ 13 x = 1 ∨ T x)
theorem anW_c {σ : ev_M} {c c' : Nat} (h : anW σ c) (h' : anW σ c') : c = c' := h.2.2.2.2.2.trans h'.2.2.2.2.2.symm
theorem anG_rf {σ : ev_M} {c : Nat} (h : anW σ c) : anG σ σ (fun _ => False) (fun _ => False) (fun _ => False) := ⟨anF_rf σ, ⟨c, c, h, h, Nat.le_refl _, fun _ _ => rfl⟩, fun x _ => ⟨by simp, by simp, by simp⟩⟩
theorem anG_tr {σ σ1 σ2 : ev_M} {F1 H1 T1 F2 H2 T2 : Nat → Prop} (g1 : anG σ σ1 F1 H1 T1) (g2 : anG σ1 σ2 F2 H2 T2) : anG σ σ2 (fun x => F1 x ∨ F2 x) (fun x => H1 x ∨ H2 x) (fun x => T1 x ∨ T2 x) := by
  obtain ⟨f1, ⟨c, c1, w, w1, l1, p1⟩, m1⟩ := g1
  obtain ⟨f2, ⟨c1', c2, w1', w2, l2, p2⟩, m2⟩ := g2
  have e := anW_c w1 w1'
  subst e
  refine ⟨anF_tr f1 f2, ⟨c, c2, w, w2, by omega, fun j hj => (p2 j (by omega)).trans (p1 j hj)⟩, fun x hx => ?_⟩
  obtain ⟨a1, b1, d1⟩ := m1 x hx
  obtain ⟨a2, b2, d2⟩ := m2 x hx
  exact ⟨by rw [a2, a1, or_assoc], by rw [b2, b1, or_assoc], by rw [d2, d1, or_assoc]⟩
theorem anG_eq {σ σ' : ev_M} {F Hd T F' H' T' : Nat → Prop} (g : anG σ σ' F Hd T) (e1 : ∀ x, x < 96 → (F x ↔ F' x)) (e2 : ∀ x, x < 96 → (Hd x ↔ H' x)) (e3 : ∀ x, x < 96 → (T x ↔ T' x)) : anG σ σ' F' H' T' := by
  obtain ⟨f, w, m⟩ := g
  refine ⟨f, w, fun x hx => ?_⟩
  obtain ⟨a, b, d⟩ := m x hx
  exact ⟨by rw [a, e1 x hx], by rw [b, e2 x hx], by rw [d, e3 x hx]⟩
theorem an_mark {σ : ev_M} {c x : Nat} (hw : anW σ c) (hx : x < 96) : anG σ (sp_mark σ (nI x)) (fun y => y = x) (fun _ => False) (fun _ => False) := by
  obtain ⟨h9, hc, hb, hl, hr, hcn⟩ := hw
  have hcl : (nI x).toNatClampNeg = x := nI_clamp (by omega)
  have hcc : (nI c).toNatClampNeg = c := nI_clamp (by omega)
  unfold sp_mark
  rw [hcl]
  by_cases h1 : σ 11 x = 1
  · rw [if_neg (fun q => by rw [h1] at q; exact absurd q.1 (by decide))]
    refine ⟨anF_rf σ, ⟨c, c, ⟨h9, hc, hb, hl, hr, hcn⟩, ⟨h9, hc, hb, hl, hr, hcn⟩, Nat.le_refl _, fun _ _ => rfl⟩, fun y hy => ⟨?_, by simp, by simp⟩⟩
    constructor
    · exact Or.inl
    · rintro (q | rfl)
      · exact q
      · exact h1
  · have h0 : σ 11 x = 0 := (hb x hx).1.resolve_right h1
    have hlt : c < 96 := by rw [hcn]; exact cntF_lt (σ 11) h1 96 hx
    rw [if_pos ⟨h0, by rw [h9]; exact nI_lt (b := 96) hlt (by omega)⟩, h9, hcc]
    have w' : anW (ev_u (ev_u (ev_u σ 11 x 1) 10 c (nI x)) 8 9 (nI c + 1)) (c + 1) := by
      refine ⟨by show nI c + 1 = _; rw [nI_1], by omega, fun y hy => ⟨?_, (hb y hy).2⟩, fun j hj => ?_, fun y hy hy1 => ?_, ?_⟩
      · show upd (σ 11) x 1 y = 0 ∨ upd (σ 11) x 1 y = 1
        unfold upd
        by_cases hyx : y = x
        · rw [if_pos hyx]; exact Or.inr rfl
        · rw [if_neg hyx]; exact (hb y hy).1
      · show ∃ z, z < 96 ∧ upd (σ 10) c (nI x) j = nI z ∧ upd (σ 11) x 1 z = 1
        unfold upd
        by_cases hjc : j = c
        · exact ⟨x, hx, by rw [if_pos hjc], by rw [if_pos rfl]⟩
        · obtain ⟨z, z1, z2, z3⟩ := hl j (by omega)
          refine ⟨z, z1, by rw [if_neg hjc]; exact z2, ?_⟩
          by_cases hzx : z = x
          · rw [if_pos hzx]
          · rw [if_neg hzx]; exact z3
      · have hy2 : upd (σ 11) x 1 y = 1 := hy1
        show ∃ j, j < c + 1 ∧ upd (σ 10) c (nI x) j = nI y
        unfold upd at hy2 ⊢
        by_cases hyx : y = x
        · exact ⟨c, by omega, by rw [if_pos rfl, hyx]⟩
        · rw [if_neg hyx] at hy2
          obtain ⟨j, j1, j2⟩ := hr y hy hy2
          exact ⟨j, by omega, by rw [if_neg (by omega)]; exact j2⟩
      · show c + 1 = cntF (upd (σ 11) x 1) 96
        rw [cntF_up (σ 11) h1 96 hx, ← hcn]
    refine ⟨⟨fun k a b => ?_, rfl⟩, ⟨c, c + 1, ⟨h9, hc, hb, hl, hr, hcn⟩, w', by omega, fun j hj => ?_⟩, fun y hy => ⟨?_, by show σ 12 y = 1 ↔ _; simp, by show σ 13 y = 1 ↔ _; simp⟩⟩
    · have q1 : ¬ k = 10 := by omega
      have q2 : ¬ k = 11 := by omega
      simp [ev_u, ev_p, a, q1, q2]
    · show upd (σ 10) c (nI x) j = σ 10 j
      unfold upd
      rw [if_neg (by omega)]
    · show upd (σ 11) x 1 y = 1 ↔ _
      unfold upd
      by_cases hyx : y = x
      · rw [if_pos hyx]; simp [hyx]
      · rw [if_neg hyx]; simp [hyx]
theorem an_hd {σ : ev_M} {c x : Nat} (hw : anW σ c) (hx : x < 96) : anG σ (ev_u σ 12 x 1) (fun _ => False) (fun y => y = x) (fun _ => False) := by
  obtain ⟨h9, hc, hb, hl, hr, hcn⟩ := hw
  have w' : anW (ev_u σ 12 x 1) c := by
    refine ⟨h9, hc, fun y hy => ⟨(hb y hy).1, ?_, (hb y hy).2.2⟩, hl, hr, hcn⟩
    show upd (σ 12) x 1 y = 0 ∨ upd (σ 12) x 1 y = 1
    unfold upd
    by_cases hyx : y = x
    · rw [if_pos hyx]; exact Or.inr rfl
    · rw [if_neg hyx]; exact (hb y hy).2.1
  refine ⟨⟨fun k a b => if_neg (by omega), rfl⟩, ⟨c, c, ⟨h9, hc, hb, hl, hr, hcn⟩, w', Nat.le_refl _, fun _ _ => rfl⟩, fun y hy => ⟨by show σ 11 y = 1 ↔ _; simp, ?_, by show σ 13 y = 1 ↔ _; simp⟩⟩
  show upd (σ 12) x 1 y = 1 ↔ _
  unfold upd
  by_cases hyx : y = x
  · rw [if_pos hyx]; simp [hyx]
  · rw [if_neg hyx]; simp [hyx]
theorem an_tb1 {σ : ev_M} {c x : Nat} (hw : anW σ c) (hx : x < 96) : anG σ (ev_u σ 13 x 1) (fun _ => False) (fun _ => False) (fun y => y = x) := by
  obtain ⟨h9, hc, hb, hl, hr, hcn⟩ := hw
  have w' : anW (ev_u σ 13 x 1) c := by
    refine ⟨h9, hc, fun y hy => ⟨(hb y hy).1, (hb y hy).2.1, ?_⟩, hl, hr, hcn⟩
    show upd (σ 13) x 1 y = 0 ∨ upd (σ 13) x 1 y = 1
    unfold upd
    by_cases hyx : y = x
    · rw [if_pos hyx]; exact Or.inr rfl
    · rw [if_neg hyx]; exact (hb y hy).2.2
  refine ⟨⟨fun k a b => if_neg (by omega), rfl⟩, ⟨c, c, ⟨h9, hc, hb, hl, hr, hcn⟩, w', Nat.le_refl _, fun _ _ => rfl⟩, fun y hy => ⟨by show σ 11 y = 1 ↔ _; simp, by show σ 12 y = 1 ↔ _; simp, ?_⟩⟩
  show upd (σ 13) x 1 y = 1 ↔ _
  unfold upd
  by_cases hyx : y = x
  · rw [if_pos hyx]; simp [hyx]
  · rw [if_neg hyx]; simp [hyx]
theorem an_head {σ : ev_M} {c x : Nat} (hw : anW σ c) (hx : x < 96) : anG σ (ev_u (sp_mark σ (nI x)) 12 (nI x).toNatClampNeg 1) (fun y => y = x) (fun y => y = x) (fun _ => False) := by
  have hcl : (nI x).toNatClampNeg = x := nI_clamp (by omega)
  rw [hcl]
  have g := an_mark hw hx
  obtain ⟨_, ⟨_, c', _, w', _⟩, _⟩ := id g
  exact anG_eq (anG_tr g (an_hd w' hx)) (fun y _ => by simp) (fun y _ => by simp) (fun y _ => by simp)
theorem i_in {a : Int32} (h : 0 ≤ a ∧ a < 96) : ∃ x : Nat, x < 96 ∧ a = nI x := by
  obtain ⟨j, hj, rfl⟩ := nI_of (x := a) (Int32.not_lt.mpr h.1)
  have h2 := Int32.lt_iff_toInt_lt.mp h.2
  rw [nI_toInt hj] at h2
  have h3 : (96 : Int32).toInt = 96 := rfl
  exact ⟨j, by omega, rfl⟩
theorem in_i {x : Nat} (h : x < 96) : 0 ≤ nI x ∧ nI x < 96 := ⟨nI_pos' (by omega), nI_lt (b := 96) h (by omega)⟩
theorem nI_inj {x y : Nat} (hx : x < 96) (hy : y < 96) (h : nI x = nI y) : x = y := (nI_eq (by omega) (by omega)).mp h
def y_A_followTable : MethodName := ⟨RX0, "followTable", "(LBlockCounter$Program;II)Z"⟩
def ws_A_followTable : List Cond := .code y_A_followTable prog_2_method_15_code 5 (some .boolean) :: evW
theorem d_A_followTable_0 : decode prog_2_method_15_code 0 = .ok (.iload_n 2, 1) := by decide +kernel
theorem d_A_followTable_1 : decode prog_2_method_15_code 1 = .ok (.istore 4, 2) := by decide +kernel
theorem d_A_followTable_3 : decode prog_2_method_15_code 3 = .ok (.iload 4, 2) := by decide +kernel
theorem d_A_followTable_5 : decode prog_2_method_15_code 5 = .ok (.iload_n 2, 1) := by decide +kernel
theorem d_A_followTable_6 : decode prog_2_method_15_code 6 = .ok (.iload_n 3, 1) := by decide +kernel
theorem d_A_followTable_7 : decode prog_2_method_15_code 7 = .ok (.iadd, 1) := by decide +kernel
theorem d_A_followTable_8 : decode prog_2_method_15_code 8 = .ok (.if_icmp .ge 44, 3) := by decide +kernel
theorem d_A_followTable_11 : decode prog_2_method_15_code 11 = .ok (.iload 4, 2) := by decide +kernel
theorem d_A_followTable_13 : decode prog_2_method_15_code 13 = .ok (.ifCond .lt 23, 3) := by decide +kernel
theorem d_A_followTable_16 : decode prog_2_method_15_code 16 = .ok (.iload 4, 2) := by decide +kernel
theorem d_A_followTable_18 : decode prog_2_method_15_code 18 = .ok (.bipush 96, 2) := by decide +kernel
theorem d_A_followTable_20 : decode prog_2_method_15_code 20 = .ok (.if_icmp .ge 16, 3) := by decide +kernel
theorem d_A_followTable_23 : decode prog_2_method_15_code 23 = .ok (.aload_n 0, 1) := by decide +kernel
theorem d_A_followTable_24 : decode prog_2_method_15_code 24 = .ok (.aload_n 1, 1) := by decide +kernel
theorem d_A_followTable_25 : decode prog_2_method_15_code 25 = .ok (.iload 4, 2) := by decide +kernel
theorem d_A_followTable_27 : decode prog_2_method_15_code 27 = .ok (.invokevirtual 122, 3) := by decide +kernel
theorem d_A_followTable_30 : decode prog_2_method_15_code 30 = .ok (.invokevirtual 62, 3) := by decide +kernel
theorem d_A_followTable_33 : decode prog_2_method_15_code 33 = .ok (.ifCond .ne 5, 3) := by decide +kernel
theorem d_A_followTable_36 : decode prog_2_method_15_code 36 = .ok (.iconst 0, 1) := by decide +kernel
theorem d_A_followTable_37 : decode prog_2_method_15_code 37 = .ok (.ireturn, 1) := by decide +kernel
theorem d_A_followTable_38 : decode prog_2_method_15_code 38 = .ok (.aload_n 0, 1) := by decide +kernel
theorem d_A_followTable_39 : decode prog_2_method_15_code 39 = .ok (.getfield 29, 3) := by decide +kernel
theorem d_A_followTable_42 : decode prog_2_method_15_code 42 = .ok (.iload 4, 2) := by decide +kernel
theorem d_A_followTable_44 : decode prog_2_method_15_code 44 = .ok (.iconst 1, 1) := by decide +kernel
theorem d_A_followTable_45 : decode prog_2_method_15_code 45 = .ok (.bastore, 1) := by decide +kernel
theorem d_A_followTable_46 : decode prog_2_method_15_code 46 = .ok (.iinc 4 1, 3) := by decide +kernel
theorem d_A_followTable_49 : decode prog_2_method_15_code 49 = .ok (.goto (-46), 3) := by decide +kernel
theorem d_A_followTable_52 : decode prog_2_method_15_code 52 = .ok (.iconst 1, 1) := by decide +kernel
theorem d_A_followTable_53 : decode prog_2_method_15_code 53 = .ok (.ireturn, 1) := by decide +kernel
def I_A_followTable (P : Bool → ev_M → ev_L → Prop) : List (Nat × ev_T) := [(0, tt_il 2 1),
  (1, tt_is 4 3),
  (3, tt_il 4 5),
  (5, tt_il 2 6),
  (6, tt_il 3 7),
  (7, tt_iadd 8),
  (8, tt_icge 52 11),
  (11, tt_il 4 13),
  (13, tt_iflt 36 16),
  (16, tt_il 4 18),
  (18, tt_k 96 20),
  (20, tt_icge 36 23),
  (23, tt_al 0 24),
  (24, tt_al 1 25),
  (25, tt_il 4 27),
  (27, tt_cV evLY 3 1 ev_i pre_P_at post_P_at 30),
  (30, tt_cV evLY 0 1 ev_b pre_A_comeToHead post_A_comeToHead 33),
  (33, tt_ifne 38 36),
  (36, tt_k 0 37),
  (37, tt_rz P),
  (38, tt_al 0 39),
  (39, tt_gf evLY 0 4 42),
  (42, tt_il 4 44),
  (44, tt_k 1 45),
  (45, tt_zas evLY 46),
  (46, tt_ii 4 1 49),
  (49, tt_go 3),
  (52, tt_k 1 53),
  (53, tt_rz P)]
abbrev rm_A_followTable : Room := { frames := 2, cells := 0, slots := 0, locals := 64 }
set_option maxRecDepth 20000 in
theorem ok_A_followTable (l : Launch) (J : ev_K) (P : Bool → ev_M → ev_L → Prop) (X : ev_X l rm_A_followTable evLY evCl ws_A_followTable prog_2_method_15_code 5 y_A_followTable.cls J) (Z : ev_Z J prog_2_method_15_code .ireturn ev_b P) : ev_oks J (I_A_followTable P) :=
  ⟨qq_iln X 2 rfl d_A_followTable_0,
  qq_is X 4 (by decide) d_A_followTable_1,
  qq_il X 4 d_A_followTable_3,
  qq_iln X 2 rfl d_A_followTable_5,
  qq_iln X 3 rfl d_A_followTable_6,
  qq_iadd X d_A_followTable_7,
  qq_icge X 52 (by decide) d_A_followTable_8,
  qq_il X 4 d_A_followTable_11,
  qq_iflt X 36 (by decide) d_A_followTable_13,
  qq_il X 4 d_A_followTable_16,
  qq_bp X 96 (by decide) d_A_followTable_18,
  qq_icge X 36 (by decide) d_A_followTable_20,
  qq_aln X 0 rfl d_A_followTable_23,
  qq_aln X 1 rfl d_A_followTable_24,
  qq_il X 4 d_A_followTable_25,
  qq_cV X 3 rfl (c_P_at l) (fun hts => cwV 1 hts (evGV (mw_454) (mw_423) (mw_424) (mw_2) (mw_425)) rfl rfl rfl (by decide +kernel) ⟨Nat.le_of_ble_eq_true rfl, Nat.le_of_ble_eq_true rfl⟩) d_A_followTable_27,
  qq_cV X 0 rfl (c_A_comeToHead l) (fun hts => cwV 1 hts (evGV (mw_406) (mw_408) (mp_3) (mw_4) (mw_409)) rfl rfl rfl (by decide +kernel) ⟨Nat.le_of_ble_eq_true rfl, Nat.le_of_ble_eq_true rfl⟩) d_A_followTable_30,
  qq_ifne X 38 (by decide) d_A_followTable_33,
  qq_ic X 0 (by decide) d_A_followTable_36,
  qq_rz Z d_A_followTable_37,
  qq_aln X 0 rfl d_A_followTable_38,
  qq_gf X 0 4 rfl (fun w h => List.mem_cons_of_mem _ (inE_A w h)) (by decide) (List.mem_cons_of_mem _ mw_99) d_A_followTable_39,
  qq_il X 4 d_A_followTable_42,
  qq_ic X 1 (by decide) d_A_followTable_44,
  qq_zas X d_A_followTable_45,
  qq_ii X 4 1 (by decide) (by decide) d_A_followTable_46,
  qq_go X 3 (by decide) d_A_followTable_49,
  qq_ic X 1 (by decide) d_A_followTable_52,
  qq_rz Z d_A_followTable_53, trivial⟩
def pre_A_followTable : List Value → ev_M → ev_L → Prop := fun as σ _ => ∃ b n c : Nat, as = [.ref 8, .ref 1, .int (nI b), .int (nI n)] ∧ b + n ≤ 96 ∧ anW σ c
def post_A_followTable : List Value → ev_M → ev_L → Bool → ev_M → ev_L → Prop := fun as σ τ r σ' τ' => match as with
  | [_, _, .int b, .int n] => τ' = τ ∧ anF σ σ' ∧ ((r = true ∧ (∀ i : Nat, i < n.toNatClampNeg → 0 ≤ sp_at (σ 2) (nI (b.toNatClampNeg + i)) ∧ sp_at (σ 2) (nI (b.toNatClampNeg + i)) < 96) ∧ anG σ σ' (fun x => ∃ i : Nat, i < n.toNatClampNeg ∧ sp_at (σ 2) (nI (b.toNatClampNeg + i)) = nI x) (fun x => ∃ i : Nat, i < n.toNatClampNeg ∧ sp_at (σ 2) (nI (b.toNatClampNeg + i)) = nI x) (fun x => ∃ i : Nat, i < n.toNatClampNeg ∧ b.toNatClampNeg + i = x)) ∨ (r = false ∧ ∃ i : Nat, i < n.toNatClampNeg ∧ ¬ (0 ≤ sp_at (σ 2) (nI (b.toNatClampNeg + i)) ∧ sp_at (σ 2) (nI (b.toNatClampNeg + i)) < 96)))
  | _ => False
set_option maxHeartbeats 4000000 in
set_option maxRecDepth 100000 in
theorem c_A_followTable (l : Launch) : ev_C ev_b l y_A_followTable ws_A_followTable rm_A_followTable evLY evCl pre_A_followTable post_A_followTable := by
  refine ev_methL (by decide) rfl ev_rop_b ?_ I_A_followTable (ok_A_followTable l) [3] 60 ?_
  · rintro _ σ τ ⟨b, n, c, rfl, h⟩
    exact Nat.le_of_ble_eq_true rfl
  · rintro _ σ τ ⟨b, n, c, rfl, hbn, hw⟩
    have hcb : (nI b).toNatClampNeg = b := nI_clamp (by omega)
    have hcn : (nI n).toNatClampNeg = n := nI_clamp (by omega)
    refine ⟨fun μ pc lv st σ' τ' z => st = [] ∧ z = 0 ∧ τ = τ' ∧ ((pc = 0 ∧ μ = 500 ∧ lv = [.ref 8, .ref 1, .int (nI b), .int (nI n), .null] ∧ σ = σ') ∨ (pc = 3 ∧ ∃ i : Nat, i ≤ n ∧ μ = n - i ∧ lv = [.ref 8, .ref 1, .int (nI b), .int (nI n), .int (nI (b + i))] ∧ (∀ j, j < i → 0 ≤ sp_at (σ 2) (nI (b + j)) ∧ sp_at (σ 2) (nI (b + j)) < 96) ∧ anG σ σ' (fun x => ∃ j, j < i ∧ sp_at (σ 2) (nI (b + j)) = nI x) (fun x => ∃ j, j < i ∧ sp_at (σ 2) (nI (b + j)) = nI x) (fun x => ∃ j, j < i ∧ b + j = x))), ⟨500, rfl, rfl, rfl, Or.inl ⟨rfl, rfl, rfl, rfl⟩⟩, ?_⟩
    rintro μ pc lv st σ' τ' z ⟨rfl, rfl, rfl, ⟨rfl, rfl, rfl, rfl⟩ | ⟨rfl, i, hi, rfl, rfl, hall, hg⟩⟩
    · refine ⟨n, by omega, rfl, rfl, rfl, Or.inr ⟨rfl, 0, Nat.zero_le _, rfl, rfl, fun j hj => by omega, anG_eq (anG_rf hw) (fun x _ => ?_) (fun x _ => ?_) (fun x _ => ?_)⟩⟩
      all_goals
        constructor
        · exact False.elim
        · rintro ⟨j, hj, _⟩
          omega
    · obtain ⟨hfr, ⟨c0, c1, w0, w1, _, _⟩, _⟩ := id hg
      have e2 : σ' 2 = σ 2 := hfr.1 2 (by decide) (by decide)
      have h9 : 0 ≤ (σ' 8 9).toInt := by rw [w1.1, nI_toInt (by have := w1.2.1; omega)]; omega
      refine br_c (fun h => ?_) (fun h => ?_)
      · rw [nI_add] at h
        have hin : b + n ≤ b + i := (nI_leI (by omega) (by omega)).mp h
        have : i = n := by omega
        subst this
        refine ⟨true, rfl, rfl, hfr, Or.inl ⟨rfl, ?_, ?_⟩⟩
        · rw [hcb, hcn]; exact hall
        · rw [hcb, hcn]; exact hg
      · rw [nI_add] at h
        have hin : i < n := by
          rcases Nat.lt_or_ge i n with q | q
          · exact q
          · exact absurd ((nI_leI (a := b + n) (b := b + i) (by omega) (by omega)).mpr (by omega)) h
        have hbi : b + i < 96 := by omega
        refine br_f (Int32.not_lt.mpr (in_i hbi).1) ?_
        refine br_f (Int32.not_le.mpr (in_i hbi).2) ?_
        refine ⟨⟨_, _, rfl, by decide⟩, ?_⟩
        rintro _ σ' τ ⟨rfl, rfl, rfl⟩
        rw [show σ' (1 + 1) = σ 2 from e2]
        refine ⟨⟨_, rfl, h9⟩, ?_⟩
        rintro _ σ2 τ ⟨rfl, ⟨hno, rfl, rfl⟩ | ⟨hok, rfl, rfl⟩⟩
        · refine br_nf rfl ?_
          refine ⟨false, rfl, rfl, hfr, Or.inr ⟨rfl, i, by rw [hcn]; exact hin, by rw [hcb]; exact hno⟩⟩
        · refine br_nt (by decide) ?_
          obtain ⟨x, hx, ex⟩ := i_in hok
          have hv : vp_in (nI (b + i)) 96 := vp_in_nI hbi (by omega)
          have hcbi : (nI (b + i)).toNatClampNeg = b + i := nI_clamp (by omega)
          refine ⟨hv, ⟨n - (i + 1), by omega, rfl, rfl, rfl, Or.inr ⟨rfl, i + 1, by omega, rfl, by rw [show b + (i + 1) = b + i + 1 by omega, ← nI_1], fun j hj => ?_, ?_⟩⟩⟩
          · by_cases hji : j = i
            · rw [hji]; exact hok
            · exact hall j (by omega)
          · rw [ex, hcbi]
            have g1 := an_head w1 hx
            obtain ⟨_, ⟨_, c2, _, w2, _⟩, _⟩ := id g1
            have g2 := an_tb1 (x := b + i) w2 hbi
            refine anG_eq (anG_tr hg (anG_tr g1 g2)) (fun y hy => ?_) (fun y hy => ?_) (fun y hy => ?_)
            · constructor
              · rintro (⟨j, j1, j2⟩ | rfl | q)
                · exact ⟨j, by omega, j2⟩
                · exact ⟨i, by omega, ex⟩
                · exact q.elim
              · rintro ⟨j, j1, j2⟩
                by_cases hji : j = i
                · subst hji
                  exact Or.inr (Or.inl (nI_inj hy hx (j2.symm.trans ex)))
                · exact Or.inl ⟨j, by omega, j2⟩
            · constructor
              · rintro (⟨j, j1, j2⟩ | rfl | q)
                · exact ⟨j, by omega, j2⟩
                · exact ⟨i, by omega, ex⟩
                · exact q.elim
              · rintro ⟨j, j1, j2⟩
                by_cases hji : j = i
                · subst hji
                  exact Or.inr (Or.inl (nI_inj hy hx (j2.symm.trans ex)))
                · exact Or.inl ⟨j, by omega, j2⟩
            · constructor
              · rintro (⟨j, j1, j2⟩ | q | rfl)
                · exact ⟨j, by omega, j2⟩
                · exact q.elim
                · exact ⟨i, by omega, rfl⟩
              · rintro ⟨j, j1, j2⟩
                by_cases hji : j = i
                · subst hji
                  exact Or.inr (Or.inr j2.symm)
                · exact Or.inl ⟨j, by omega, j2⟩
