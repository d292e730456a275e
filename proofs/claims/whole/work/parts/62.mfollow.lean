/-! the reference's marks: followTable, follow -/
def mN (f : Nat → Int32) : Nat → Nat
  | 0 => 0
  | n + 1 => mN f n + (if f n = 0 then 0 else 1)
theorem mN_le (f : Nat → Int32) : ∀ n, mN f n ≤ n
  | 0 => Nat.le_refl _
  | n + 1 => by
    have := mN_le f n
    show mN f n + _ ≤ n + 1
    split <;> omega
theorem mN_same {f g : Nat → Int32} : ∀ n, (∀ x, x < n → (f x = 0 ↔ g x = 0)) → mN f n = mN g n
  | 0, _ => rfl
  | n + 1, h => by
    show mN f n + _ = mN g n + _
    rw [mN_same n (fun x hx => h x (by omega))]
    simp only [h n (by omega)]
theorem mN_up {f : Nat → Int32} {x : Nat} {v : Int32} (hx : f x = 0) (hv : ¬ v = 0) : ∀ n, x < n → mN (upd f x v) n = mN f n + 1
  | 0, h => by omega
  | n + 1, h => by
    show mN (upd f x v) n + (if upd f x v n = 0 then 0 else 1) = mN f n + (if f n = 0 then 0 else 1) + 1
    by_cases hn : x = n
    · subst hn
      have e : upd f x v x = v := if_pos rfl
      rw [e, if_neg hv, if_pos hx, mN_same (f := upd f x v) (g := f) x (fun y hy => by rw [show upd f x v y = f y from if_neg (by omega)])]
    · have e : upd f x v n = f n := if_neg (fun q => hn q.symm)
      rw [mN_up hx hv n (by omega), e]
      omega
/-- how many marks there are -/
def dM (σ : ev_M) : Nat := mN (σ 36) 96 + mN (σ 37) 96
theorem dM_le (σ : ev_M) : dM σ ≤ 192 := by
  have h1 := mN_le (σ 36) 96
  have h2 := mN_le (σ 37) 96
  unfold dM
  omega
def dF (σ σ' : ev_M) : Prop := (∀ k, ¬ k = 30 → ¬ k = 36 → ¬ k = 37 → ¬ k = 39 → σ' k = σ k) ∧ ∀ j, ¬ j = 13 → ¬ j = 14 → σ' 30 j = σ 30 j
theorem dF_rf (σ : ev_M) : dF σ σ := ⟨fun _ _ _ _ _ => rfl, fun _ _ _ => rfl⟩
theorem dF_tr {σ σ1 σ2 : ev_M} (h1 : dF σ σ1) (h2 : dF σ1 σ2) : dF σ σ2 := ⟨fun k a b c d => (h2.1 k a b c d).trans (h1.1 k a b c d), fun j a b => (h2.2 j a b).trans (h1.2 j a b)⟩
def dG (σ σ' : ev_M) (F H T : Nat → Prop) : Prop := σ' 30 13 = σ 30 13 ∧ (∀ x, x < 96 → (σ' 36 x = 0 ↔ σ 36 x = 0 ∧ ¬ F x) ∧ (σ' 37 x = 0 ↔ σ 37 x = 0 ∧ ¬ H x) ∧ (σ' 39 x = 0 ↔ σ 39 x = 0 ∧ ¬ T x)) ∧ dM σ ≤ dM σ' ∧ (σ' 30 14 = 0 → σ 30 14 = 0 ∧ ∀ x, x < 96 → (σ' 36 x = 0 ↔ σ 36 x = 0)) ∧ (σ 30 14 = 0 → ¬ σ' 30 14 = 0 → dM σ < dM σ')
theorem dG_rf (σ : ev_M) : dG σ σ (fun _ => False) (fun _ => False) (fun _ => False) := ⟨rfl, fun x _ => ⟨by simp, by simp, by simp⟩, Nat.le_refl _, fun h => ⟨h, fun _ _ => Iff.rfl⟩, fun h g => absurd h g⟩
theorem dG_tr {σ σ1 σ2 : ev_M} {F1 H1 T1 F2 H2 T2 : Nat → Prop} (g1 : dG σ σ1 F1 H1 T1) (g2 : dG σ1 σ2 F2 H2 T2) : dG σ σ2 (fun x => F1 x ∨ F2 x) (fun x => H1 x ∨ H2 x) (fun x => T1 x ∨ T2 x) := by
  obtain ⟨a1, b1, c1, d1, e1⟩ := g1
  obtain ⟨a2, b2, c2, d2, e2⟩ := g2
  refine ⟨a2.trans a1, fun x hx => ?_, by omega, fun h => ⟨(d1 (d2 h).1).1, fun x hx => ((d2 h).2 x hx).trans ((d1 (d2 h).1).2 x hx)⟩, fun h h2 => ?_⟩
  · obtain ⟨p1, p2, p3⟩ := b1 x hx
    obtain ⟨q1, q2, q3⟩ := b2 x hx
    refine ⟨?_, ?_, ?_⟩
    · rw [q1, p1, not_or, and_assoc]
    · rw [q2, p2, not_or, and_assoc]
    · rw [q3, p3, not_or, and_assoc]
  · by_cases hm : σ1 30 14 = 0
    · have := e2 hm h2
      omega
    · have := e1 h hm
      omega
theorem dG_eq {σ σ' : ev_M} {F H T F' H' T' : Nat → Prop} (g : dG σ σ' F H T) (e1 : ∀ x, x < 96 → (F x ↔ F' x)) (e2 : ∀ x, x < 96 → (H x ↔ H' x)) (e3 : ∀ x, x < 96 → (T x ↔ T' x)) : dG σ σ' F' H' T' := by
  obtain ⟨a, b, c⟩ := g
  refine ⟨a, fun x hx => ?_, c⟩
  obtain ⟨p1, p2, p3⟩ := b x hx
  rw [← e1 x hx, ← e2 x hx, ← e3 x hx]
  exact ⟨p1, p2, p3⟩
def dP (σ σ' : ev_M) (ok : Prop) (F H T : Nat → Prop) : Prop := dF σ σ' ∧ ((ok ∧ dG σ σ' F H T) ∨ (¬ ok ∧ ¬ σ' 30 13 = 0))
theorem dP_rf (σ : ev_M) : dP σ σ True (fun _ => False) (fun _ => False) (fun _ => False) := ⟨dF_rf σ, Or.inl ⟨trivial, dG_rf σ⟩⟩
theorem dP_eq {σ σ' : ev_M} {ok ok' : Prop} {F H T F' H' T' : Nat → Prop} (g : dP σ σ' ok F H T) (e : ok ↔ ok') (e1 : ∀ x, x < 96 → (F x ↔ F' x)) (e2 : ∀ x, x < 96 → (H x ↔ H' x)) (e3 : ∀ x, x < 96 → (T x ↔ T' x)) : dP σ σ' ok' F' H' T' := by
  obtain ⟨f, ⟨h, g⟩ | ⟨h, g⟩⟩ := g
  · exact ⟨f, Or.inl ⟨e.mp h, dG_eq g e1 e2 e3⟩⟩
  · exact ⟨f, Or.inr ⟨fun q => h (e.mpr q), g⟩⟩
theorem dP_tr {σ σ1 σ2 : ev_M} {ok1 ok2 : Prop} {F1 H1 T1 F2 H2 T2 : Nat → Prop} (g1 : dP σ σ1 ok1 F1 H1 T1) (g2 : dP σ1 σ2 ok2 F2 H2 T2) : dP σ σ2 (ok1 ∧ ok2) (fun x => F1 x ∨ F2 x) (fun x => H1 x ∨ H2 x) (fun x => T1 x ∨ T2 x) := by
  obtain ⟨f1, g1⟩ := g1
  obtain ⟨f2, g2⟩ := g2
  refine ⟨dF_tr f1 f2, ?_⟩
  rcases g1 with ⟨h1, g1⟩ | ⟨h1, g1⟩
  · rcases g2 with ⟨h2, g2⟩ | ⟨h2, g2⟩
    · exact Or.inl ⟨⟨h1, h2⟩, dG_tr g1 g2⟩
    · exact Or.inr ⟨fun q => h2 q.2, g2⟩
  · refine Or.inr ⟨fun q => h1 q.1, ?_⟩
    rcases g2 with ⟨h2, g2⟩ | ⟨h2, g2⟩
    · rw [g2.1]; exact g1
    · exact g2
theorem d_mark {σ : ev_M} {x : Nat} (h : Int32) (hx : x < 96) : dF σ (sd_mark σ (nI x) h) ∧ dG σ (sd_mark σ (nI x) h) (fun y => y = x) (fun y => ¬ h = 0 ∧ y = x) (fun _ => False) := by
  have hcl : (nI x).toNatClampNeg = x := nI_clamp (by omega)
  have f : dF σ (sd_mark σ (nI x) h) := by
    refine ⟨fun k a b c d => ?_, fun j a b => ?_⟩
    · simp [sd_mark, ev_u, ev_p, a, b, c]
    · show upd (σ 30) 14 _ j = _
      exact if_neg b
  refine ⟨f, ?_⟩
  have e13 : sd_mark σ (nI x) h 30 13 = σ 30 13 := rfl
  have e14 : sd_mark σ (nI x) h 30 14 = sd_mo σ (nI x) h := rfl
  have e36 : sd_mark σ (nI x) h 36 = upd (σ 36) x 1 := by
    show upd (σ 36) (nI x).toNatClampNeg 1 = _
    rw [hcl]
  have e37 : sd_mark σ (nI x) h 37 = upd (σ 37) x (sd_hh σ (nI x) h) := by
    show upd (σ 37) (nI x).toNatClampNeg _ = _
    rw [hcl]
  have e39 : sd_mark σ (nI x) h 39 = σ 39 := rfl
  have mo : sd_mo σ (nI x) h = if ¬ σ 30 14 = 0 ∨ σ 36 x = 0 ∨ (¬ h = 0 ∧ σ 37 x = 0) then 1 else 0 := by unfold sd_mo; rw [hcl]
  have hh : sd_hh σ (nI x) h = if ¬ σ 37 x = 0 ∨ ¬ h = 0 then 1 else 0 := by unfold sd_hh; rw [hcl]
  have hh0 : sd_hh σ (nI x) h = 0 ↔ σ 37 x = 0 ∧ h = 0 := by
    rw [hh]
    by_cases q : ¬ σ 37 x = 0 ∨ ¬ h = 0
    · rw [if_pos q]
      refine ⟨fun w => absurd w (by decide), fun w => ?_⟩
      rcases q with q | q
      · exact absurd w.1 q
      · exact absurd w.2 q
    · rw [if_neg q]
      refine ⟨fun _ => ⟨Classical.byContradiction fun w => q (Or.inl w), Classical.byContradiction fun w => q (Or.inr w)⟩, fun _ => rfl⟩
  generalize sd_mark σ (nI x) h = X at *
  have m36 : ∀ y, X 36 y = 0 ↔ σ 36 y = 0 ∧ ¬ y = x := fun y => by
    rw [e36]
    unfold upd
    by_cases hyx : y = x
    · rw [if_pos hyx]; simp [hyx]
    · rw [if_neg hyx]; simp [hyx]
  have m37 : ∀ y, X 37 y = 0 ↔ σ 37 y = 0 ∧ ¬ (¬ h = 0 ∧ y = x) := fun y => by
    rw [e37]
    unfold upd
    by_cases hyx : y = x
    · rw [if_pos hyx, hh0, hyx]; simp
    · rw [if_neg hyx]; simp [hyx]
  have c36 : mN (X 36) 96 = mN (σ 36) 96 + (if σ 36 x = 0 then 1 else 0) := by
    rw [e36]
    by_cases q : σ 36 x = 0
    · rw [if_pos q, mN_up q (by decide) 96 hx]
    · rw [if_neg q, Nat.add_zero]
      refine mN_same (f := upd (σ 36) x 1) (g := σ 36) 96 (fun y _ => ?_)
      unfold upd
      by_cases hyx : y = x
      · rw [if_pos hyx, hyx]; exact ⟨fun w => absurd w (by decide), fun w => absurd w q⟩
      · rw [if_neg hyx]
  have c37 : mN (X 37) 96 = mN (σ 37) 96 + (if σ 37 x = 0 ∧ ¬ h = 0 then 1 else 0) := by
    rw [e37]
    by_cases q : σ 37 x = 0 ∧ ¬ h = 0
    · rw [if_pos q, mN_up q.1 (fun w => q.2 (hh0.mp w).2) 96 hx]
    · rw [if_neg q, Nat.add_zero]
      refine mN_same (f := upd (σ 37) x (sd_hh σ (nI x) h)) (g := σ 37) 96 (fun y _ => ?_)
      unfold upd
      by_cases hyx : y = x
      · rw [if_pos hyx, hyx, hh0]
        exact ⟨fun w => w.1, fun w => ⟨w, Classical.byContradiction fun z => q ⟨w, z⟩⟩⟩
      · rw [if_neg hyx]
  refine ⟨e13, fun y _ => ⟨m36 y, m37 y, by rw [e39]; simp⟩, ?_, fun q => ?_, fun q1 q2 => ?_⟩
  · unfold dM; omega
  · rw [e14, mo] at q
    by_cases w : ¬ σ 30 14 = 0 ∨ σ 36 x = 0 ∨ (¬ h = 0 ∧ σ 37 x = 0)
    · rw [if_pos w] at q; exact absurd q (by decide)
    · refine ⟨Classical.byContradiction fun z => w (Or.inl z), fun y _ => ?_⟩
      rw [m36]
      refine ⟨fun z => z.1, fun z => ⟨z, fun e => w (Or.inr (Or.inl (by rw [← e]; exact z)))⟩⟩
  · rw [e14, mo] at q2
    by_cases w : ¬ σ 30 14 = 0 ∨ σ 36 x = 0 ∨ (¬ h = 0 ∧ σ 37 x = 0)
    · unfold dM
      rw [c36, c37]
      rcases w with w | w | w
      · exact absurd q1 w
      · rw [if_pos w]; omega
      · rw [if_pos (⟨w.2, w.1⟩ : σ 37 x = 0 ∧ ¬ h = 0)]; omega
    · rw [if_neg w] at q2; exact absurd rfl q2
/-- what come does -/
theorem d_come {σ σ' : ev_M} {t h : Int32} (hp : (¬ (0 ≤ t ∧ t < 96) ∧ σ' = ev_u σ 30 13 1) ∨ ((0 ≤ t ∧ t < 96) ∧ σ' = sd_mark σ t h)) : dP σ σ' (0 ≤ t ∧ t < 96) (fun y => nI y = t) (fun y => ¬ h = 0 ∧ nI y = t) (fun _ => False) := by
  rcases hp with ⟨hn, rfl⟩ | ⟨hn, rfl⟩
  · refine ⟨⟨fun k a b c d => if_neg a, fun j a b => if_neg a⟩, Or.inr ⟨hn, by show ¬ (1 : Int32) = 0; decide⟩⟩
  · obtain ⟨x, hx, rfl⟩ := i_in hn
    obtain ⟨f, g⟩ := d_mark (σ := σ) h hx
    exact ⟨f, Or.inl ⟨hn, dG_eq g (fun y hy => (eqx hy hx rfl).symm) (fun y hy => by rw [eqx hy hx rfl]) (fun y hy => Iff.rfl)⟩⟩
/-- the reference's tables lie in the code -/
def dD (σ : ev_M) : Prop := ∃ n : Nat, n ≤ 4 ∧ σ 30 3 = nI n ∧ ∀ i, i < n → ∃ b m : Nat, σ 33 i = nI b ∧ σ 34 i = nI m ∧ 1 ≤ m ∧ b + m ≤ 96
theorem d_tab {σ : ev_M} {x : Nat} (hx : x < 96) : dP σ (ev_u σ 39 x 1) True (fun _ => False) (fun _ => False) (fun y => y = x) := by
  refine ⟨⟨fun k a b c d => if_neg d, fun j a b => rfl⟩, Or.inl ⟨trivial, rfl, fun y hy => ⟨by show σ 36 y = 0 ↔ _; simp, by show σ 37 y = 0 ↔ _; simp, ?_⟩, Nat.le_refl _, fun h => ⟨h, fun _ _ => Iff.rfl⟩, fun h g => absurd h g⟩⟩
  show upd (σ 39) x 1 y = 0 ↔ _
  unfold upd
  by_cases hyx : y = x
  · rw [if_pos hyx]; simp [hyx]
  · rw [if_neg hyx]; simp [hyx]
theorem dD_has {σ : ev_M} (h : dD σ) : ∀ b c, sd_has σ b c → ∃ i m : Nat, b = nI i ∧ c = nI m ∧ i + m ≤ 96 := by
  obtain ⟨n, hn, e, h2⟩ := h
  rintro b c ⟨i, hi, rfl, rfl⟩
  rw [e, nI_clamp (by omega)] at hi
  obtain ⟨b, m, e1, e2, h3, h4⟩ := h2 i hi
  exact ⟨b, m, e1, e2, h4⟩
/-- a table's entries lie in the code -/
def dTok (f : Nat → Int32) (b c : Int32) : Prop := ∀ i : Nat, i < c.toNatClampNeg → 0 ≤ sp_at f (nI (b.toNatClampNeg + i)) ∧ sp_at f (nI (b.toNatClampNeg + i)) < 96
def y_D_followTable : MethodName := ⟨RD, "followTable", "(II)V"⟩
def ws_D_followTable : List Cond := .code y_D_followTable prog_9_method_18_code 4 none :: evW
theorem d_D_followTable_0 : decode prog_9_method_18_code 0 = .ok (.aload_n 0, 1) := by decide +kernel
theorem d_D_followTable_1 : decode prog_9_method_18_code 1 = .ok (.iload_n 1, 1) := by decide +kernel
theorem d_D_followTable_2 : decode prog_9_method_18_code 2 = .ok (.iload_n 2, 1) := by decide +kernel
theorem d_D_followTable_3 : decode prog_9_method_18_code 3 = .ok (.invokevirtual 117, 3) := by decide +kernel
theorem d_D_followTable_6 : decode prog_9_method_18_code 6 = .ok (.ifCond .ne 9, 3) := by decide +kernel
theorem d_D_followTable_9 : decode prog_9_method_18_code 9 = .ok (.aload_n 0, 1) := by decide +kernel
theorem d_D_followTable_10 : decode prog_9_method_18_code 10 = .ok (.iconst 1, 1) := by decide +kernel
theorem d_D_followTable_11 : decode prog_9_method_18_code 11 = .ok (.putfield 91, 3) := by decide +kernel
theorem d_D_followTable_14 : decode prog_9_method_18_code 14 = .ok (.return_, 1) := by decide +kernel
theorem d_D_followTable_15 : decode prog_9_method_18_code 15 = .ok (.iload_n 1, 1) := by decide +kernel
theorem d_D_followTable_16 : decode prog_9_method_18_code 16 = .ok (.istore_n 3, 1) := by decide +kernel
theorem d_D_followTable_17 : decode prog_9_method_18_code 17 = .ok (.iload_n 3, 1) := by decide +kernel
theorem d_D_followTable_18 : decode prog_9_method_18_code 18 = .ok (.iload_n 1, 1) := by decide +kernel
theorem d_D_followTable_19 : decode prog_9_method_18_code 19 = .ok (.iload_n 2, 1) := by decide +kernel
theorem d_D_followTable_20 : decode prog_9_method_18_code 20 = .ok (.iadd, 1) := by decide +kernel
theorem d_D_followTable_21 : decode prog_9_method_18_code 21 = .ok (.if_icmp .ge 27, 3) := by decide +kernel
theorem d_D_followTable_24 : decode prog_9_method_18_code 24 = .ok (.aload_n 0, 1) := by decide +kernel
theorem d_D_followTable_25 : decode prog_9_method_18_code 25 = .ok (.getfield 35, 3) := by decide +kernel
theorem d_D_followTable_28 : decode prog_9_method_18_code 28 = .ok (.iload_n 3, 1) := by decide +kernel
theorem d_D_followTable_29 : decode prog_9_method_18_code 29 = .ok (.iconst 1, 1) := by decide +kernel
theorem d_D_followTable_30 : decode prog_9_method_18_code 30 = .ok (.bastore, 1) := by decide +kernel
theorem d_D_followTable_31 : decode prog_9_method_18_code 31 = .ok (.aload_n 0, 1) := by decide +kernel
theorem d_D_followTable_32 : decode prog_9_method_18_code 32 = .ok (.aload_n 0, 1) := by decide +kernel
theorem d_D_followTable_33 : decode prog_9_method_18_code 33 = .ok (.getfield 7, 3) := by decide +kernel
theorem d_D_followTable_36 : decode prog_9_method_18_code 36 = .ok (.iload_n 3, 1) := by decide +kernel
theorem d_D_followTable_37 : decode prog_9_method_18_code 37 = .ok (.iaload, 1) := by decide +kernel
theorem d_D_followTable_38 : decode prog_9_method_18_code 38 = .ok (.iconst 1, 1) := by decide +kernel
theorem d_D_followTable_39 : decode prog_9_method_18_code 39 = .ok (.invokevirtual 103, 3) := by decide +kernel
theorem d_D_followTable_42 : decode prog_9_method_18_code 42 = .ok (.iinc 3 1, 3) := by decide +kernel
theorem d_D_followTable_45 : decode prog_9_method_18_code 45 = .ok (.goto (-28), 3) := by decide +kernel
theorem d_D_followTable_48 : decode prog_9_method_18_code 48 = .ok (.return_, 1) := by decide +kernel
def I_D_followTable (P : Unit → ev_M → ev_L → Prop) : List (Nat × ev_T) := [(0, tt_al 0 1),
  (1, tt_il 1 2),
  (2, tt_il 2 3),
  (3, tt_cV evLY 7 2 ev_b pre_D_isDeclared post_D_isDeclared 6),
  (6, tt_ifne 15 9),
  (9, tt_al 0 10),
  (10, tt_k 1 11),
  (11, tt_pz evLY 7 13 14),
  (14, tt_rv P),
  (15, tt_il 1 16),
  (16, tt_is 3 17),
  (17, tt_il 3 18),
  (18, tt_il 1 19),
  (19, tt_il 2 20),
  (20, tt_iadd 21),
  (21, tt_icge 48 24),
  (24, tt_al 0 25),
  (25, tt_gf evLY 7 12 28),
  (28, tt_il 3 29),
  (29, tt_k 1 30),
  (30, tt_zas evLY 31),
  (31, tt_al 0 32),
  (32, tt_al 0 33),
  (33, tt_gf evLY 7 1 36),
  (36, tt_il 3 37),
  (37, tt_ia evLY 38),
  (38, tt_k 1 39),
  (39, tt_cV evLY 7 2 ev_n pre_D_come post_D_come 42),
  (42, tt_ii 3 1 45),
  (45, tt_go 17),
  (48, tt_rv P)]
abbrev rm_D_followTable : Room := { frames := 1, cells := 0, slots := 0, locals := 32 }
set_option maxRecDepth 20000 in
theorem ok_D_followTable (l : Launch) (J : ev_K) (P : Unit → ev_M → ev_L → Prop) (X : ev_X l rm_D_followTable evLY evCl ws_D_followTable prog_9_method_18_code 4 y_D_followTable.cls J) (Z : ev_Z J prog_9_method_18_code .return_ ev_n P) : ev_oks J (I_D_followTable P) :=
  ⟨qq_aln X 0 rfl d_D_followTable_0,
  qq_iln X 1 rfl d_D_followTable_1,
  qq_iln X 2 rfl d_D_followTable_2,
  qq_cV X 7 rfl (c_D_isDeclared l) (fun hts => cwV 2 hts (evGV (mw_898) (mw_900) (mp_32) (mw_8) (mw_901)) rfl rfl rfl (by decide +kernel) ⟨Nat.le_of_ble_eq_true rfl, Nat.le_of_ble_eq_true rfl⟩) d_D_followTable_3,
  qq_ifne X 15 (by decide) d_D_followTable_6,
  qq_aln X 0 rfl d_D_followTable_9,
  qq_ic X 1 (by decide) d_D_followTable_10,
  qq_pz X 7 13 rfl (fun w h => List.mem_cons_of_mem _ (inE_D w h)) (by decide) tyD tyD_ok nmD rfl (by decide +kernel) (List.mem_cons_of_mem _ mw_767) d_D_followTable_11,
  qq_rv Z d_D_followTable_14,
  qq_iln X 1 rfl d_D_followTable_15,
  qq_isn X 3 rfl (by decide) d_D_followTable_16,
  qq_iln X 3 rfl d_D_followTable_17,
  qq_iln X 1 rfl d_D_followTable_18,
  qq_iln X 2 rfl d_D_followTable_19,
  qq_iadd X d_D_followTable_20,
  qq_icge X 48 (by decide) d_D_followTable_21,
  qq_aln X 0 rfl d_D_followTable_24,
  qq_gf X 7 12 rfl (fun w h => List.mem_cons_of_mem _ (inE_D w h)) (by decide) (List.mem_cons_of_mem _ mw_766) d_D_followTable_25,
  qq_iln X 3 rfl d_D_followTable_28,
  qq_ic X 1 (by decide) d_D_followTable_29,
  qq_zas X d_D_followTable_30,
  qq_aln X 0 rfl d_D_followTable_31,
  qq_aln X 0 rfl d_D_followTable_32,
  qq_gf X 7 1 rfl (fun w h => List.mem_cons_of_mem _ (inE_D w h)) (by decide) (List.mem_cons_of_mem _ mw_755) d_D_followTable_33,
  qq_iln X 3 rfl d_D_followTable_36,
  qq_ia X d_D_followTable_37,
  qq_ic X 1 (by decide) d_D_followTable_38,
  qq_cV X 7 rfl (c_D_come l) (fun hts => cwV 2 hts (evGV (mw_873) (mw_875) (mp_28) (mw_8) (mw_876)) rfl rfl rfl (by decide +kernel) ⟨Nat.le_of_ble_eq_true rfl, Nat.le_of_ble_eq_true rfl⟩) d_D_followTable_39,
  qq_ii X 3 1 (by decide) (by decide) d_D_followTable_42,
  qq_go X 17 (by decide) d_D_followTable_45,
  qq_rv Z d_D_followTable_48, trivial⟩
def pre_D_followTable : List Value → ev_M → ev_L → Prop := fun as σ _ => ∃ b c : Int32, as = [.ref 30, .int b, .int c] ∧ dD σ
def post_D_followTable : List Value → ev_M → ev_L → Unit → ev_M → ev_L → Prop := fun as σ τ _ σ' τ' => match as with
  | [_, .int b, .int c] => τ' = τ ∧ dP σ σ' (sd_has σ b c ∧ dTok (σ 31) b c) (fun x => ∃ i : Nat, i < c.toNatClampNeg ∧ nI x = sp_at (σ 31) (nI (b.toNatClampNeg + i))) (fun x => ∃ i : Nat, i < c.toNatClampNeg ∧ nI x = sp_at (σ 31) (nI (b.toNatClampNeg + i))) (fun x => ∃ i : Nat, i < c.toNatClampNeg ∧ b.toNatClampNeg + i = x)
  | _ => False
set_option maxHeartbeats 4000000 in
set_option maxRecDepth 100000 in
theorem c_D_followTable (l : Launch) : ev_C ev_n l y_D_followTable ws_D_followTable rm_D_followTable evLY evCl pre_D_followTable post_D_followTable := by
  refine ev_methL (by decide) rfl ev_rop_v ?_ I_D_followTable (ok_D_followTable l) [17] 60 ?_
  · rintro _ σ τ ⟨b, c, rfl, h⟩
    exact Nat.le_of_ble_eq_true rfl
  · rintro _ σ τ ⟨b, c, rfl, hD⟩
    refine ⟨fun μ pc lv st σ' τ' z => st = [] ∧ z = 0 ∧ τ = τ' ∧ ((pc = 0 ∧ μ = 500 ∧ lv = [.ref 30, .int b, .int c, .null] ∧ σ = σ') ∨ (pc = 17 ∧ sd_has σ b c ∧ ∃ n m i : Nat, b = nI n ∧ c = nI m ∧ n + m ≤ 96 ∧ i ≤ m ∧ μ = m - i ∧ lv = [.ref 30, .int b, .int c, .int (nI (n + i))] ∧ dP σ σ' (∀ j, j < i → 0 ≤ sp_at (σ 31) (nI (n + j)) ∧ sp_at (σ 31) (nI (n + j)) < 96) (fun x => ∃ j : Nat, j < i ∧ nI x = sp_at (σ 31) (nI (n + j))) (fun x => ∃ j : Nat, j < i ∧ nI x = sp_at (σ 31) (nI (n + j))) (fun x => ∃ j : Nat, j < i ∧ n + j = x))), ⟨500, rfl, rfl, rfl, Or.inl ⟨rfl, rfl, rfl, rfl⟩⟩, ?_⟩
    rintro μ pc lv st σ' τ' z ⟨rfl, rfl, rfl, ⟨rfl, rfl, rfl, rfl⟩ | ⟨rfl, hh, n, m, i, rfl, rfl, hnm, him, rfl, rfl, hg⟩⟩
    · refine ⟨⟨b, c, rfl, by obtain ⟨k, h1, h2, _⟩ := hD; exact ⟨k, h1, h2⟩⟩, ?_⟩
      rintro r σ τ ⟨hr, rfl, rfl⟩
      refine br_n (fun h => ?_) (fun h => ?_)
      · have hrt := hr.mp (bnz h)
        obtain ⟨n, m, rfl, rfl, hnm⟩ := dD_has hD _ _ hrt
        refine ⟨m, by omega, rfl, rfl, rfl, Or.inr ⟨rfl, hrt, n, m, 0, rfl, rfl, hnm, Nat.zero_le _, rfl, rfl, dP_eq (dP_rf σ) ⟨fun _ j hj => by omega, fun _ => trivial⟩ (fun x _ => ⟨False.elim, fun ⟨j, hj, _⟩ => by omega⟩) (fun x _ => ⟨False.elim, fun ⟨j, hj, _⟩ => by omega⟩) (fun x _ => ⟨False.elim, fun ⟨j, hj, _⟩ => by omega⟩)⟩⟩
      · have hrf := bz h
        refine ⟨Or.inr rfl, rfl, ⟨fun k a b c d => if_neg a, fun j a b => if_neg a⟩, Or.inr ⟨fun q => ?_, by show ¬ (1 : Int32) = 0; decide⟩⟩
        have := hr.mpr q.1
        rw [hrf] at this
        cases this
    · have hcn : (nI n).toNatClampNeg = n := nI_clamp (by omega)
      have hcm : (nI m).toNatClampNeg = m := nI_clamp (by omega)
      have e31 : σ' 31 = σ 31 := hg.1.1 31 (by decide) (by decide) (by decide) (by decide)
      refine br_c (fun h => ?_) (fun h => ?_)
      · rw [nI_add] at h
        have hin : n + m ≤ n + i := (nI_leI (by omega) (by omega)).mp h
        have : i = m := by omega
        subst this
        refine ⟨rfl, ?_⟩
        refine dP_eq hg ⟨fun q => ⟨hh, ?_⟩, fun q => ?_⟩ (fun x _ => by rw [hcm, hcn]) (fun x _ => by rw [hcm, hcn]) (fun x _ => by rw [hcm, hcn])
        · unfold dTok
          rw [hcm, hcn]
          exact q
        · have := q.2
          unfold dTok at this
          rw [hcm, hcn] at this
          exact this
      · rw [nI_add] at h
        have hin : i < m := by
          rcases Nat.lt_or_ge i m with q | q
          · exact q
          · exact absurd ((nI_leI (a := n + m) (b := n + i) (by omega) (by omega)).mpr (by omega)) h
        have hci : (nI (n + i)).toNatClampNeg = n + i := nI_clamp (by omega)
        obtain ⟨v1, m1⟩ := m_at (σ := σ') (a := nI (n + i)) (by rw [nI_toInt (by omega)]; omega) (by rw [nI_toInt (by omega)]; omega)
        refine ⟨vp_in_nI (by omega) (by omega), v1, ?_⟩
        rw [hci] at m1
        rw [hci]
        refine ⟨⟨_, _, rfl⟩, ?_⟩
        rintro _ σ2 τ ⟨rfl, hc⟩
        have g1 := d_tab (σ := σ') (x := n + i) (by omega)
        have g2 := d_come hc
        have ex : (ev_u σ' 39 (n + i) 1) 31 (n + i) = sp_at (σ 31) (nI (n + i)) := by rw [← e31]; exact m1
        rw [show vp_nar FieldType.boolean 1 = 1 by decide, ex] at g2
        refine ⟨m - (i + 1), by omega, rfl, rfl, rfl, Or.inr ⟨rfl, hh, n, m, i + 1, rfl, rfl, hnm, by omega, rfl, by rw [show n + (i + 1) = n + i + 1 by omega, ← nI_1], ?_⟩⟩
        refine dP_eq (dP_tr hg (dP_tr g1 g2)) ⟨fun q j hj => ?_, fun q => ⟨fun j hj => q j (by omega), trivial, q i (by omega)⟩⟩ (fun x _ => ⟨?_, ?_⟩) (fun x _ => ⟨?_, ?_⟩) (fun x _ => ⟨?_, ?_⟩)
        · by_cases hji : j = i
          · rw [hji]; exact q.2.2
          · exact q.1 j (by omega)
        · rintro (⟨j, j1, j2⟩ | q | q)
          · exact ⟨j, by omega, j2⟩
          · exact q.elim
          · exact ⟨i, by omega, q⟩
        · rintro ⟨j, j1, j2⟩
          by_cases hji : j = i
          · subst hji; exact Or.inr (Or.inr j2)
          · exact Or.inl ⟨j, by omega, j2⟩
        · rintro (⟨j, j1, j2⟩ | q | q)
          · exact ⟨j, by omega, j2⟩
          · exact q.elim
          · exact ⟨i, by omega, q.2⟩
        · rintro ⟨j, j1, j2⟩
          by_cases hji : j = i
          · subst hji; exact Or.inr (Or.inr ⟨by decide, j2⟩)
          · exact Or.inl ⟨j, by omega, j2⟩
        · rintro (⟨j, j1, j2⟩ | q | q)
          · exact ⟨j, by omega, j2⟩
          · exact ⟨i, by omega, q.symm⟩
          · exact q.elim
        · rintro ⟨j, j1, j2⟩
          by_cases hji : j = i
          · subst hji; exact Or.inr (Or.inl j2.symm)
          · exact Or.inl ⟨j, by omega, j2⟩
