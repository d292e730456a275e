/-! what is reached from 0; Analysis.explore -/
def anR (f : Nat → Int32) (x : Nat) : Prop := ∀ S : Nat → Prop, S 0 → (∀ a t h, a < 96 → S a → t < 96 → an_sc f (nI a) (nI t) h → S t) → S x
def anH (f : Nat → Int32) (x : Nat) : Prop := x = 0 ∨ ∃ a, a < 96 ∧ anR f a ∧ an_sc f (nI a) (nI x) true
def anX (f : Nat → Int32) (x : Nat) : Prop := ∃ a, a < 96 ∧ anR f a ∧ an_tb f (nI a) x
def anAc (f : Nat → Int32) (Dc : Int32 → Int32 → Prop) : Prop := ∀ a, a < 96 → anR f a → ¬ an_bad f Dc (nI a)
def anAl (f : Nat → Int32) (Dc : Int32 → Int32 → Prop) : Prop := anAc f Dc ∧ anO f (fun x => anR f x ∧ x < 96) (anX f)
theorem anR_0 (f : Nat → Int32) : anR f 0 := fun _ h _ => h
theorem anR_s {f : Nat → Int32} {a t : Nat} {h : Bool} (ha : a < 96) (hr : anR f a) (ht : t < 96) (hs : an_sc f (nI a) (nI t) h) : anR f t := fun S h0 hc => hc a t h ha (hr S h0 hc) ht hs
theorem anH_R {f : Nat → Int32} {x : Nat} (hx : x < 96) (h : anH f x) : anR f x := by
  rcases h with rfl | ⟨a, ha, hr, hs⟩
  · exact anR_0 f
  · exact anR_s ha hr hx hs
theorem an_wkS {f : Nat → Int32} {Dc : Int32 → Int32 → Prop} (h : anAc f Dc) : wkS f (fun x => x < 96 ∧ anR f x) := by
  rintro x ⟨hx, hr⟩
  have hb := h x hx hr
  have hg : an_good f (nI x) := Classical.byContradiction fun q => hb (Or.inl q)
  refine ⟨hx, hg.1, fun he => ?_⟩
  have hs : an_sc f (nI x) (nI (x + lenN f x)) false := by
    rw [← nI_add, ← lenN_I]
    refine (sc_d ?_).mpr ⟨rfl, rfl⟩
    have he' : ¬ (anK f (nI x) = 0 ∨ anK f (nI x) = 3 ∨ (60 ≤ anK f (nI x) ∧ anK f (nI x) ≤ 72)) := fun q => he (decide_eq_true q)
    refine ⟨fun q => he' (Or.inl q), fun q => he' (Or.inr (Or.inl q)), ?_, ?_, ?_, ?_, ?_, ?_⟩ <;> (intro q; rw [q] at he'; exact he' (Or.inr (Or.inr (by decide))))
  have hi : 0 ≤ nI (x + lenN f x) ∧ nI (x + lenN f x) < 96 := Classical.byContradiction fun q => hb (Or.inr (Or.inr ⟨_, _, hs, q⟩))
  have hl := lenN_c f x
  have hlt : x + lenN f x < 96 := by
    have h2 := Int32.lt_iff_toInt_lt.mp hi.2
    rw [nI_toInt (by omega)] at h2
    have h3 : (96 : Int32).toInt = 96 := rfl
    omega
  exact ⟨hlt, anR_s hx hr hlt hs⟩
theorem bkN_1 (H : Nat → Int32) (h : ¬ H 0 = 0) : ∀ i, 1 ≤ bkN H (i + 1)
  | 0 => by
    show 1 ≤ if H 0 = 0 then 0 else 0 + 1
    rw [if_neg h]
    omega
  | i + 1 => by
    have := bkN_1 H h i
    show 1 ≤ if H (i + 1) = 0 then bkN H (i + 1) else bkN H (i + 1) + 1
    split <;> omega
theorem cntF_0 (f : Nat → Int32) : ∀ n, (∀ x, x < n → f x = 0) → cntF f n = 0
  | 0, _ => rfl
  | n + 1, h => by
    show cntF f n + _ = 0
    rw [cntF_0 f n (fun x hx => h x (by omega)), if_neg (by rw [h n (by omega)]; decide)]
theorem an_clear (σ : ev_M) : anW (sp_clear σ) 0 := by
  have z : ∀ g : Nat → Int32, ∀ x, x < 96 → sp_fill g 96 0 x = 0 := fun g x hx => if_pos hx
  have e11 : (sp_clear σ) 11 = sp_fill (σ 11) 96 0 := rfl
  have e12 : (sp_clear σ) 12 = sp_fill (σ 12) 96 0 := rfl
  have e13 : (sp_clear σ) 13 = sp_fill (σ 13) 96 0 := rfl
  have e9 : (sp_clear σ) 8 9 = 0 := rfl
  generalize sp_clear σ = X at *
  refine ⟨e9, by omega, fun x hx => ⟨Or.inl (by rw [e11]; exact z _ x hx), Or.inl (by rw [e12]; exact z _ x hx), Or.inl (by rw [e13]; exact z _ x hx)⟩, fun j hj => by omega, fun x hx h1 => ?_, ?_⟩
  · rw [e11, z _ x hx] at h1
    exact absurd h1 (by decide)
  · rw [e11, cntF_0 _ 96 (z _)]
/-- what explore leaves -/
def exF (σ σ' : ev_M) : Prop := ∀ k, (k < 8 ∨ 17 < k) → σ' k = σ k
def exT (σ σ' : ev_M) : Prop := anAl (σ 2) (sp_has σ) ∧ (∀ x, x < 96 → (σ' 12 x = 0 ↔ ¬ anH (σ 2) x)) ∧ σ' 8 10 = nI (bkN (σ' 12) 96) ∧ σ' 15 = bkH (σ' 12) (σ 15) 96 ∧ σ' 16 = bkB (σ 2) (σ' 12) (σ 16) 96 ∧ σ' 17 = bkC (σ 2) (σ' 12) (σ 17) 96 ∧ ∀ j, j < 96 → σ' 14 j = sd_last (σ' 15) (σ' 16) (nI j) (bkN (σ' 12) 96)
def exN (σ σ' : ev_M) : Prop := ¬ anAl (σ 2) (sp_has σ) ∧ σ' 8 10 = 0 ∧ σ' 15 = σ 15 ∧ σ' 16 = σ 16 ∧ σ' 17 = σ 17
/-- the worklist's invariant -/
def exI (σ σ' : ev_M) (c i : Nat) : Prop := anW σ' c ∧ i ≤ c ∧ exF σ σ' ∧ σ' 8 10 = 0 ∧ σ' 15 = σ 15 ∧ σ' 16 = σ 16 ∧ σ' 17 = σ 17 ∧ (∀ x, x < 96 → σ' 14 x = -1) ∧ σ' 11 0 = 1 ∧ σ' 12 0 = 1 ∧ (∀ x, x < 96 → (σ' 11 x = 1 → anR (σ 2) x) ∧ (σ' 12 x = 1 → anH (σ 2) x) ∧ (σ' 13 x = 1 → anX (σ 2) x)) ∧ ∀ j a, j < i → a < 96 → σ' 10 j = nI a → ¬ an_bad (σ 2) (sp_has σ) (nI a) ∧ ∀ t, t < 96 → (∀ h, an_sc (σ 2) (nI a) (nI t) h → σ' 11 t = 1) ∧ (an_sc (σ 2) (nI a) (nI t) true → σ' 12 t = 1) ∧ (an_tb (σ 2) (nI a) t → σ' 13 t = 1)
theorem exI_step {σ σ1 σ2 : ev_M} {c i a : Nat} (h : exI σ σ1 c i) (hi : i < c) (ha : a < 96) (hf : σ1 10 i = nI a) (hnb : ¬ an_bad (σ 2) (sp_has σ) (nI a)) (hg : anG σ1 σ2 (fun x => ∃ h, an_sc (σ 2) (nI a) (nI x) h) (fun x => an_sc (σ 2) (nI a) (nI x) true) (fun x => an_tb (σ 2) (nI a) x)) : ∃ c', exI σ σ2 c' (i + 1) := by
  obtain ⟨w, hic, hF, h10, h15, h16, h17, h14, m0, hd0, snd, cmp⟩ := h
  obtain ⟨⟨f1, f2⟩, ⟨c0, c1, w0, w1, l1, p1⟩, m⟩ := hg
  have ec := anW_c w w0
  subst ec
  have hRa : anR (σ 2) a := by
    obtain ⟨x, hx, e1, e2⟩ := w.2.2.2.1 i hi
    have : x = a := nI_inj hx ha (e1.symm.trans hf)
    subst this
    exact (snd x hx).1 e2
  refine ⟨c1, w1, by omega, fun k hk => (f1 k (by omega) (by omega)).trans (hF k hk), f2.trans h10, (f1 15 (by decide) (by decide)).trans h15, (f1 16 (by decide) (by decide)).trans h16, (f1 17 (by decide) (by decide)).trans h17, fun x hx => by rw [f1 14 (by decide) (by decide)]; exact h14 x hx, (m 0 (by omega)).1.mpr (Or.inl m0), (m 0 (by omega)).2.1.mpr (Or.inl hd0), fun x hx => ⟨fun q => ?_, fun q => ?_, fun q => ?_⟩, fun j b hj hb hjb => ?_⟩
  · rcases (m x hx).1.mp q with q | ⟨h, q⟩
    · exact (snd x hx).1 q
    · exact anR_s ha hRa hx q
  · rcases (m x hx).2.1.mp q with q | q
    · exact (snd x hx).2.1 q
    · exact Or.inr ⟨a, ha, hRa, q⟩
  · rcases (m x hx).2.2.mp q with q | q
    · exact (snd x hx).2.2 q
    · exact ⟨a, ha, hRa, q⟩
  · by_cases hji : j = i
    · subst hji
      rw [p1 j hi, hf] at hjb
      have : a = b := nI_inj ha hb hjb
      subst this
      exact ⟨hnb, fun t ht => ⟨fun h q => (m t ht).1.mpr (Or.inr ⟨h, q⟩), fun q => (m t ht).2.1.mpr (Or.inr q), fun q => (m t ht).2.2.mpr (Or.inr q)⟩⟩
    · rw [p1 j (by omega)] at hjb
      obtain ⟨q1, q2⟩ := cmp j b (by omega) hb hjb
      exact ⟨q1, fun t ht => ⟨fun h q => (m t ht).1.mpr (Or.inl ((q2 t ht).1 h q)), fun q => (m t ht).2.1.mpr (Or.inl ((q2 t ht).2.1 q)), fun q => (m t ht).2.2.mpr (Or.inl ((q2 t ht).2.2 q))⟩⟩
theorem an_tb_lt {f : Nat → Int32} {Dc : Int32 → Int32 → Prop} {a : Int32} {x : Nat} (hD : ∀ b c, Dc b c → (b.toNatClampNeg + c.toNatClampNeg ≤ 96)) (hb : ¬ an_bad f Dc a) (h : an_tb f a x) : x < 96 := by
  obtain ⟨hk, i, hi, rfl⟩ := h
  have : Dc (sp_at f (a + 1)) (sp_at f (a + 2)) := Classical.byContradiction fun q => hb (Or.inr (Or.inl ⟨hk, q⟩))
  have := hD _ _ this
  omega
theorem anD_has {σ : ev_M} (h : anD σ) : ∀ b c, sp_has σ b c → (b.toNatClampNeg + c.toNatClampNeg ≤ 96) := by
  obtain ⟨n, hn, e, h2⟩ := h
  rintro b c ⟨i, hi, rfl, rfl⟩
  rw [e, nI_clamp (by omega)] at hi
  obtain ⟨b, m, e1, e2, h3, h4⟩ := h2 i hi
  rw [e1, e2, nI_clamp (by omega), nI_clamp (by omega)]
  exact h4
/-- at the end of the worklist -/
theorem exI_end {σ σ1 : ev_M} {c i : Nat} (hD : anD σ) (h : exI σ σ1 c i) (hi : c ≤ i) : anAc (σ 2) (sp_has σ) ∧ ∀ x, x < 96 → (σ1 11 x = 1 ↔ anR (σ 2) x) ∧ (σ1 12 x = 1 ↔ anH (σ 2) x) ∧ (σ1 13 x = 1 ↔ anX (σ 2) x) := by
  obtain ⟨w, hic, hF, h10, h15, h16, h17, h14, m0, hd0, snd, cmp⟩ := h
  have all : ∀ x, x < 96 → σ1 11 x = 1 → ¬ an_bad (σ 2) (sp_has σ) (nI x) ∧ ∀ t, t < 96 → (∀ h, an_sc (σ 2) (nI x) (nI t) h → σ1 11 t = 1) ∧ (an_sc (σ 2) (nI x) (nI t) true → σ1 12 t = 1) ∧ (an_tb (σ 2) (nI x) t → σ1 13 t = 1) := by
    intro x hx h1
    obtain ⟨j, hj, ej⟩ := w.2.2.2.2.1 x hx h1
    exact cmp j x (by omega) hx ej
  have hR : ∀ x, x < 96 → anR (σ 2) x → σ1 11 x = 1 := by
    intro x hx hr
    exact (hr (fun y => y < 96 → σ1 11 y = 1) (fun _ => m0) (fun a t h ha hs ht q _ => ((all a ha (hs ha)).2 t ht).1 h q)) hx
  refine ⟨fun a ha hr => (all a ha (hR a ha hr)).1, fun x hx => ⟨⟨(snd x hx).1, hR x hx⟩, ⟨(snd x hx).2.1, ?_⟩, ⟨(snd x hx).2.2, ?_⟩⟩⟩
  · rintro (rfl | ⟨a, ha, hr, hs⟩)
    · exact hd0
    · exact ((all a ha (hR a ha hr)).2 x hx).2.1 hs
  · rintro ⟨a, ha, hr, hs⟩
    exact ((all a ha (hR a ha hr)).2 x hx).2.2 hs
theorem anO_eq {f : Nat → Int32} {F F' T T' : Nat → Prop} (h1 : ∀ x, F x ↔ F' x) (h2 : ∀ x, x < 96 → (T x ↔ T' x)) (h : anO f F T) : anO f F' T' := ⟨fun x y a b c d => h.1 x y a b ((h1 x).mpr c) ((h1 y).mpr d), fun x j a b c d e => h.2 x j a ((h1 x).mpr b) c d ((h2 j a).mpr e)⟩
def y_A_explore : MethodName := ⟨RX0, "explore", "(LBlockCounter$Program;LBlockCounter$Tables;)Z"⟩
def ws_A_explore : List Cond := .code y_A_explore prog_2_method_10_code 5 (some .boolean) :: evW
theorem d_A_explore_0 : decode prog_2_method_10_code 0 = .ok (.aload_n 0, 1) := by decide +kernel
theorem d_A_explore_1 : decode prog_2_method_10_code 1 = .ok (.invokevirtual 59, 3) := by decide +kernel
theorem d_A_explore_4 : decode prog_2_method_10_code 4 = .ok (.aload_n 0, 1) := by decide +kernel
theorem d_A_explore_5 : decode prog_2_method_10_code 5 = .ok (.iconst 0, 1) := by decide +kernel
theorem d_A_explore_6 : decode prog_2_method_10_code 6 = .ok (.invokevirtual 62, 3) := by decide +kernel
theorem d_A_explore_9 : decode prog_2_method_10_code 9 = .ok (.istore_n 3, 1) := by decide +kernel
theorem d_A_explore_10 : decode prog_2_method_10_code 10 = .ok (.iconst 0, 1) := by decide +kernel
theorem d_A_explore_11 : decode prog_2_method_10_code 11 = .ok (.istore 4, 2) := by decide +kernel
theorem d_A_explore_13 : decode prog_2_method_10_code 13 = .ok (.iload_n 3, 1) := by decide +kernel
theorem d_A_explore_14 : decode prog_2_method_10_code 14 = .ok (.ifCond .eq 39, 3) := by decide +kernel
theorem d_A_explore_17 : decode prog_2_method_10_code 17 = .ok (.iload 4, 2) := by decide +kernel
theorem d_A_explore_19 : decode prog_2_method_10_code 19 = .ok (.aload_n 0, 1) := by decide +kernel
theorem d_A_explore_20 : decode prog_2_method_10_code 20 = .ok (.getfield 66, 3) := by decide +kernel
theorem d_A_explore_23 : decode prog_2_method_10_code 23 = .ok (.if_icmp .ge 30, 3) := by decide +kernel
theorem d_A_explore_26 : decode prog_2_method_10_code 26 = .ok (.iload 4, 2) := by decide +kernel
theorem d_A_explore_28 : decode prog_2_method_10_code 28 = .ok (.bipush 96, 2) := by decide +kernel
theorem d_A_explore_30 : decode prog_2_method_10_code 30 = .ok (.if_icmp .ge 23, 3) := by decide +kernel
theorem d_A_explore_33 : decode prog_2_method_10_code 33 = .ok (.aload_n 0, 1) := by decide +kernel
theorem d_A_explore_34 : decode prog_2_method_10_code 34 = .ok (.aload_n 1, 1) := by decide +kernel
theorem d_A_explore_35 : decode prog_2_method_10_code 35 = .ok (.aload_n 2, 1) := by decide +kernel
theorem d_A_explore_36 : decode prog_2_method_10_code 36 = .ok (.aload_n 0, 1) := by decide +kernel
theorem d_A_explore_37 : decode prog_2_method_10_code 37 = .ok (.getfield 18, 3) := by decide +kernel
theorem d_A_explore_40 : decode prog_2_method_10_code 40 = .ok (.iload 4, 2) := by decide +kernel
theorem d_A_explore_42 : decode prog_2_method_10_code 42 = .ok (.iaload, 1) := by decide +kernel
theorem d_A_explore_43 : decode prog_2_method_10_code 43 = .ok (.invokevirtual 69, 3) := by decide +kernel
theorem d_A_explore_46 : decode prog_2_method_10_code 46 = .ok (.istore_n 3, 1) := by decide +kernel
theorem d_A_explore_47 : decode prog_2_method_10_code 47 = .ok (.iinc 4 1, 3) := by decide +kernel
theorem d_A_explore_50 : decode prog_2_method_10_code 50 = .ok (.goto (-37), 3) := by decide +kernel
theorem d_A_explore_53 : decode prog_2_method_10_code 53 = .ok (.iload_n 3, 1) := by decide +kernel
theorem d_A_explore_54 : decode prog_2_method_10_code 54 = .ok (.ifCond .eq 16, 3) := by decide +kernel
theorem d_A_explore_57 : decode prog_2_method_10_code 57 = .ok (.aload_n 0, 1) := by decide +kernel
theorem d_A_explore_58 : decode prog_2_method_10_code 58 = .ok (.aload_n 1, 1) := by decide +kernel
theorem d_A_explore_59 : decode prog_2_method_10_code 59 = .ok (.invokevirtual 73, 3) := by decide +kernel
theorem d_A_explore_62 : decode prog_2_method_10_code 62 = .ok (.ifCond .eq 8, 3) := by decide +kernel
theorem d_A_explore_65 : decode prog_2_method_10_code 65 = .ok (.aload_n 0, 1) := by decide +kernel
theorem d_A_explore_66 : decode prog_2_method_10_code 66 = .ok (.aload_n 1, 1) := by decide +kernel
theorem d_A_explore_67 : decode prog_2_method_10_code 67 = .ok (.invokevirtual 77, 3) := by decide +kernel
theorem d_A_explore_70 : decode prog_2_method_10_code 70 = .ok (.aload_n 0, 1) := by decide +kernel
theorem d_A_explore_71 : decode prog_2_method_10_code 71 = .ok (.invokevirtual 48, 3) := by decide +kernel
theorem d_A_explore_74 : decode prog_2_method_10_code 74 = .ok (.ireturn, 1) := by decide +kernel
def I_A_explore (P : Bool → ev_M → ev_L → Prop) : List (Nat × ev_T) := [(0, tt_al 0 1),
  (1, tt_cV evLY 0 0 ev_n pre_A_clear post_A_clear 4),
  (4, tt_al 0 5),
  (5, tt_k 0 6),
  (6, tt_cV evLY 0 1 ev_b pre_A_comeToHead post_A_comeToHead 9),
  (9, tt_is 3 10),
  (10, tt_k 0 11),
  (11, tt_is 4 13),
  (13, tt_il 3 14),
  (14, tt_ifeq 53 17),
  (17, tt_il 4 19),
  (19, tt_al 0 20),
  (20, tt_gf evLY 0 9 23),
  (23, tt_icge 53 26),
  (26, tt_il 4 28),
  (28, tt_k 96 30),
  (30, tt_icge 53 33),
  (33, tt_al 0 34),
  (34, tt_al 1 35),
  (35, tt_al 2 36),
  (36, tt_al 0 37),
  (37, tt_gf evLY 0 1 40),
  (40, tt_il 4 42),
  (42, tt_ia evLY 43),
  (43, tt_cV evLY 0 3 ev_b pre_A_follow post_A_follow 46),
  (46, tt_is 3 47),
  (47, tt_ii 4 1 50),
  (50, tt_go 13),
  (53, tt_il 3 54),
  (54, tt_ifeq 70 57),
  (57, tt_al 0 58),
  (58, tt_al 1 59),
  (59, tt_cV evLY 0 1 ev_b pre_A_isWithoutOverlap post_A_isWithoutOverlap 62),
  (62, tt_ifeq 70 65),
  (65, tt_al 0 66),
  (66, tt_al 1 67),
  (67, tt_cV evLY 0 1 ev_n pre_A_findBlocks post_A_findBlocks 70),
  (70, tt_al 0 71),
  (71, tt_cV evLY 0 0 ev_b pre_A_exists post_A_exists 74),
  (74, tt_rz P)]
abbrev rm_A_explore : Room := { frames := 5, cells := 0, slots := 0, locals := 160 }
set_option maxRecDepth 20000 in
theorem ok_A_explore (l : Launch) (J : ev_K) (P : Bool → ev_M → ev_L → Prop) (X : ev_X l rm_A_explore evLY evCl ws_A_explore prog_2_method_10_code 5 y_A_explore.cls J) (Z : ev_Z J prog_2_method_10_code .ireturn ev_b P) : ev_oks J (I_A_explore P) :=
  ⟨qq_aln X 0 rfl d_A_explore_0,
  qq_cV X 0 rfl (c_A_clear l) (fun hts => cwV 0 hts (evGV (mw_399) (mw_401) (mp_2) (mw_4) (mw_402)) rfl rfl rfl (by decide +kernel) ⟨Nat.le_of_ble_eq_true rfl, Nat.le_of_ble_eq_true rfl⟩) d_A_explore_1,
  qq_aln X 0 rfl d_A_explore_4,
  qq_ic X 0 (by decide) d_A_explore_5,
  qq_cV X 0 rfl (c_A_comeToHead l) (fun hts => cwV 1 hts (evGV (mw_406) (mw_408) (mp_3) (mw_4) (mw_409)) rfl rfl rfl (by decide +kernel) ⟨Nat.le_of_ble_eq_true rfl, Nat.le_of_ble_eq_true rfl⟩) d_A_explore_6,
  qq_isn X 3 rfl (by decide) d_A_explore_9,
  qq_ic X 0 (by decide) d_A_explore_10,
  qq_is X 4 (by decide) d_A_explore_11,
  qq_iln X 3 rfl d_A_explore_13,
  qq_ifeq X 53 (by decide) d_A_explore_14,
  qq_il X 4 d_A_explore_17,
  qq_aln X 0 rfl d_A_explore_19,
  qq_gf X 0 9 rfl (fun w h => List.mem_cons_of_mem _ (inE_A w h)) (by decide) (List.mem_cons_of_mem _ mw_104) d_A_explore_20,
  qq_icge X 53 (by decide) d_A_explore_23,
  qq_il X 4 d_A_explore_26,
  qq_bp X 96 (by decide) d_A_explore_28,
  qq_icge X 53 (by decide) d_A_explore_30,
  qq_aln X 0 rfl d_A_explore_33,
  qq_aln X 1 rfl d_A_explore_34,
  qq_aln X 2 rfl d_A_explore_35,
  qq_aln X 0 rfl d_A_explore_36,
  qq_gf X 0 1 rfl (fun w h => List.mem_cons_of_mem _ (inE_A w h)) (by decide) (List.mem_cons_of_mem _ mw_96) d_A_explore_37,
  qq_il X 4 d_A_explore_40,
  qq_ia X d_A_explore_42,
  qq_cV X 0 rfl (c_A_follow l) (fun hts => cwV 3 hts (evGV (mw_414) (mw_416) (mp_5) (mw_4) (mw_417)) rfl rfl rfl (by decide +kernel) ⟨Nat.le_of_ble_eq_true rfl, Nat.le_of_ble_eq_true rfl⟩) d_A_explore_43,
  qq_isn X 3 rfl (by decide) d_A_explore_46,
  qq_ii X 4 1 (by decide) (by decide) d_A_explore_47,
  qq_go X 13 (by decide) d_A_explore_50,
  qq_iln X 3 rfl d_A_explore_53,
  qq_ifeq X 70 (by decide) d_A_explore_54,
  qq_aln X 0 rfl d_A_explore_57,
  qq_aln X 1 rfl d_A_explore_58,
  qq_cV X 0 rfl (c_A_isWithoutOverlap l) (fun hts => cwV 1 hts (evGV (mw_455) (mw_457) (mp_7) (mw_4) (mw_458)) rfl rfl rfl (by decide +kernel) ⟨Nat.le_of_ble_eq_true rfl, Nat.le_of_ble_eq_true rfl⟩) d_A_explore_59,
  qq_ifeq X 70 (by decide) d_A_explore_62,
  qq_aln X 0 rfl d_A_explore_65,
  qq_aln X 1 rfl d_A_explore_66,
  qq_cV X 0 rfl (c_A_findBlocks l) (fun hts => cwV 1 hts (evGV (mw_459) (mw_461) (mp_8) (mw_4) (mw_462)) rfl rfl rfl (by decide +kernel) ⟨Nat.le_of_ble_eq_true rfl, Nat.le_of_ble_eq_true rfl⟩) d_A_explore_67,
  qq_aln X 0 rfl d_A_explore_70,
  qq_cV X 0 rfl (c_A_exists l) (fun hts => cwV 0 hts (evGV (mw_220) (mw_221) (mw_222) (mw_4) (mw_223)) rfl rfl rfl (by decide +kernel) ⟨Nat.le_of_ble_eq_true rfl, Nat.le_of_ble_eq_true rfl⟩) d_A_explore_71,
  qq_rz Z d_A_explore_74, trivial⟩
def pre_A_explore : List Value → ev_M → ev_L → Prop := fun as σ _ => as = [.ref 8, .ref 1, .ref 4] ∧ anD σ ∧ byF (σ 2)
def post_A_explore : List Value → ev_M → ev_L → Bool → ev_M → ev_L → Prop := fun _ σ τ r σ' τ' => τ' = τ ∧ exF σ σ' ∧ ((r = true ∧ exT σ σ') ∨ (r = false ∧ exN σ σ'))
set_option maxHeartbeats 4000000 in
set_option maxRecDepth 100000 in
theorem c_A_explore (l : Launch) : ev_C ev_b l y_A_explore ws_A_explore rm_A_explore evLY evCl pre_A_explore post_A_explore := by
  refine ev_methL (by decide) rfl ev_rop_b ?_ I_A_explore (ok_A_explore l) [13, 53] 60 ?_
  · rintro _ σ τ ⟨rfl, h⟩
    exact Nat.le_of_ble_eq_true rfl
  · rintro _ σ τ ⟨rfl, hD, hby⟩
    refine ⟨fun μ pc lv st σ' τ' z => st = [] ∧ z = 0 ∧ τ = τ' ∧ ((pc = 0 ∧ μ = 500 ∧ lv = [.ref 8, .ref 1, .ref 4, .null, .null] ∧ σ = σ') ∨ (pc = 13 ∧ ∃ c i : Nat, exI σ σ' c i ∧ μ = 200 - i ∧ lv = [.ref 8, .ref 1, .ref 4, .int 1, .int (nI i)]) ∨ (pc = 13 ∧ ∃ i : Int32, μ = 50 ∧ lv = [.ref 8, .ref 1, .ref 4, .int 0, .int i] ∧ exF σ σ' ∧ exN σ σ') ∨ (pc = 53 ∧ ∃ c i : Nat, exI σ σ' c i ∧ c ≤ i ∧ μ = 1 ∧ lv = [.ref 8, .ref 1, .ref 4, .int 1, .int (nI i)]) ∨ (pc = 53 ∧ ∃ i : Int32, μ = 1 ∧ lv = [.ref 8, .ref 1, .ref 4, .int 0, .int i] ∧ exF σ σ' ∧ exN σ σ')), ⟨500, rfl, rfl, rfl, Or.inl ⟨rfl, rfl, rfl, rfl⟩⟩, ?_⟩
    rintro μ pc lv st σ' τ' z ⟨rfl, rfl, rfl, ⟨rfl, rfl, rfl, rfl⟩ | ⟨rfl, c, i, hI, rfl, rfl⟩ | ⟨rfl, i, rfl, rfl, hF, hN⟩ | ⟨rfl, c, i, hI, hci, rfl, rfl⟩ | ⟨rfl, i, rfl, rfl, hF, hN⟩⟩
    · refine ⟨rfl, ?_⟩
      rintro _ σ1 τ ⟨rfl, rfl⟩
      have w0 := an_clear σ
      have cF : ∀ k, (k < 8 ∨ 17 < k) → sp_clear σ k = σ k := fun k hk => by
        have k8 : ¬ k = 8 := by omega
        have k14 : ¬ k = 14 := by omega
        have k11 : ¬ k = 11 := by omega
        have k12 : ¬ k = 12 := by omega
        have k13 : ¬ k = 13 := by omega
        simp [sp_clear, ev_u, ev_p, k8, k14, k11, k12, k13]
      have c10 : sp_clear σ 8 10 = 0 := rfl
      have c9 : sp_clear σ 8 9 = 0 := rfl
      have c15 : sp_clear σ 15 = σ 15 := rfl
      have c16 : sp_clear σ 16 = σ 16 := rfl
      have c17 : sp_clear σ 17 = σ 17 := rfl
      have c14 : ∀ x, x < 96 → sp_clear σ 14 x = -1 := fun x hx => if_pos hx
      have c11 : ∀ x, x < 96 → sp_clear σ 11 x = 0 := fun x hx => if_pos hx
      have c12 : ∀ x, x < 96 → sp_clear σ 12 x = 0 := fun x hx => if_pos hx
      have c13 : ∀ x, x < 96 → sp_clear σ 13 x = 0 := fun x hx => if_pos hx
      generalize sp_clear σ = X at *
      refine ⟨⟨_, rfl, by rw [c9]; decide⟩, ?_⟩
      rintro _ σ2 τ ⟨rfl, ⟨hno, rfl, rfl⟩ | ⟨hok, rfl, rfl⟩⟩
      · exact absurd (by decide) hno
      · have g := an_head (x := 0) w0 (by omega)
        have e0 : nI 0 = 0 := rfl
        rw [e0] at g
        generalize ev_u (sp_mark X 0) 12 (0 : Int32).toNatClampNeg 1 = Y at *
        obtain ⟨⟨f1, f2⟩, ⟨c0, c1, w0', w1, l1, p1⟩, m⟩ := g
        refine ⟨200, by omega, rfl, rfl, rfl, Or.inr (Or.inl ⟨rfl, c1, 0, ⟨w1, by omega, fun k hk => (f1 k (by omega) (by omega)).trans (cF k hk), f2.trans c10, (f1 15 (by decide) (by decide)).trans c15, (f1 16 (by decide) (by decide)).trans c16, (f1 17 (by decide) (by decide)).trans c17, fun x hx => by rw [f1 14 (by decide) (by decide)]; exact c14 x hx, (m 0 (by omega)).1.mpr (Or.inr rfl), (m 0 (by omega)).2.1.mpr (Or.inr rfl), fun x hx => ⟨fun q => ?_, fun q => ?_, fun q => ?_⟩, fun j a hj => by omega⟩, rfl, rfl⟩)⟩
        · rcases (m x hx).1.mp q with q | q
          · rw [c11 x hx] at q; exact absurd q (by decide)
          · rw [q]; exact anR_0 _
        · rcases (m x hx).2.1.mp q with q | q
          · rw [c12 x hx] at q; exact absurd q (by decide)
          · exact Or.inl q
        · rcases (m x hx).2.2.mp q with q | q
          · rw [c13 x hx] at q; exact absurd q (by decide)
          · exact q.elim
    · obtain ⟨w, hic, hF, h10, h15, h16, h17, h14, m0, hd0, snd, cmp⟩ := id hI
      have e2 : σ' 2 = σ 2 := hF 2 (by decide)
      have e4 : σ' 4 = σ 4 := hF 4 (by decide)
      have e5 : σ' 5 = σ 5 := hF 5 (by decide)
      have e6 : σ' 6 = σ 6 := hF 6 (by decide)
      have eh : sp_has σ' = sp_has σ := by unfold sp_has; rw [e4, e5, e6]
      have hD' : anD σ' := by unfold anD; rw [e4, e5, e6]; exact hD
      have hc96 := w.2.1
      refine br_f (by decide) ?_
      refine br_c (fun h => ?_) (fun h => ?_)
      · rw [w.1] at h
        exact ⟨1, by omega, rfl, rfl, rfl, Or.inr (Or.inr (Or.inr (Or.inl ⟨rfl, c, i, hI, (nI_leI (by omega) (by omega)).mp h, rfl, rfl⟩)))⟩
      · rw [w.1] at h
        have hlt : i < c := Nat.not_le.mp fun q => h ((nI_leI (by omega) (by omega)).mpr q)
        have hci : (nI i).toNatClampNeg = i := nI_clamp (by omega)
        refine br_f (by rw [Int32.le_iff_toInt_le, nI_toInt (by omega)]; have : (96 : Int32).toInt = 96 := rfl; omega) ?_
        obtain ⟨a, ha, ea, ma⟩ := w.2.2.2.1 i hlt
        refine ⟨vp_in_nI (by omega) (by omega), ?_⟩
        rw [hci, ea]
        refine ⟨⟨_, c, rfl, w, hD', by rw [e2]; exact hby⟩, ?_⟩
        rintro r σ2 τ ⟨rfl, f2, ⟨rfl, hnb, hg⟩ | ⟨rfl, hbad⟩⟩
        · rw [e2, eh] at hnb
          rw [e2] at hg
          obtain ⟨c', hI'⟩ := exI_step hI hlt ha ea hnb hg
          exact ⟨200 - (i + 1), by omega, rfl, rfl, rfl, Or.inr (Or.inl ⟨rfl, c', i + 1, hI', rfl, by rw [← nI_1]; rfl⟩)⟩
        · rw [e2, eh] at hbad
          refine ⟨50, by omega, rfl, rfl, rfl, Or.inr (Or.inr (Or.inl ⟨rfl, _, rfl, rfl, fun k hk => (f2.1 k (by omega) (by omega)).trans (hF k hk), ?_⟩))⟩
          refine ⟨fun q => q.1 a ha ((snd a ha).1 ma) hbad, f2.2.trans h10, (f2.1 15 (by decide) (by decide)).trans h15, (f2.1 16 (by decide) (by decide)).trans h16, (f2.1 17 (by decide) (by decide)).trans h17⟩
    · refine br_t rfl ?_
      exact ⟨1, by omega, rfl, rfl, rfl, Or.inr (Or.inr (Or.inr (Or.inr ⟨rfl, _, rfl, rfl, hF, hN⟩)))⟩
    · obtain ⟨w, hic, hF, h10, h15, h16, h17, h14, m0, hd0, snd, cmp⟩ := id hI
      have e2 : σ' 2 = σ 2 := hF 2 (by decide)
      obtain ⟨hac, hm⟩ := exI_end hD hI hci
      refine br_f (by decide) ?_
      refine ⟨⟨c, rfl, w, fun x hx hx1 => ?_⟩, ?_⟩
      · rw [e2]
        exact (an_wkS hac x ⟨hx, (hm x hx).1.mp hx1⟩).2.1
      rintro r σ2 τ ⟨rfl, hF2, hr⟩
      have hr2 : r = true ↔ anAl (σ 2) (sp_has σ) := by
        rw [hr, e2]
        constructor
        · intro q
          exact ⟨hac, anO_eq (fun x => ⟨fun ⟨a, b⟩ => ⟨(hm x b).1.mp a, b⟩, fun ⟨a, b⟩ => ⟨(hm x b).1.mpr a, b⟩⟩) (fun x hx => (hm x hx).2.2) q⟩
        · intro q
          exact anO_eq (fun x => ⟨fun ⟨a, b⟩ => ⟨(hm x b).1.mpr a, b⟩, fun ⟨a, b⟩ => ⟨(hm x b).1.mp a, b⟩⟩) (fun x hx => (hm x hx).2.2.symm) q.2
      have G : ∀ k, ¬ k = 9 → σ2 k = σ' k := hF2
      have bin : ∀ x, x < 96 → (σ2 12 x = 0 ↔ ¬ anH (σ 2) x) := fun x hx => by
        rw [G 12 (by decide), ← (hm x hx).2.1]
        rcases (w.2.2.1 x hx).2.1 with q | q <;> rw [q] <;> decide
      refine br_c (fun h => ?_) (fun h => ?_)
      · -- an overlap: nothing is found
        have hrf := bz h
        subst hrf
        have hn : ¬ anAl (σ 2) (sp_has σ) := fun q => by have := hr2.mpr q; cases this
        refine ⟨rfl, ?_⟩
        rintro r σ2 τ ⟨hr3, rfl, rfl⟩
        have h10' : σ2 8 10 = 0 := by rw [G 8 (by decide)]; exact h10
        have hrF : r = false := by
          rw [hr3, h10']
          rfl
        subst hrF
        exact ⟨false, rfl, rfl, fun k hk => (G k (by omega)).trans (hF k hk), Or.inr ⟨rfl, hn, h10', (G 15 (by decide)).trans h15, (G 16 (by decide)).trans h16, (G 17 (by decide)).trans h17⟩⟩
      · have hrt := bnz h
        subst hrt
        have hal := hr2.mp rfl
        have w2 : wkS (σ2 2) (fun x => x < 96 ∧ anR (σ 2) x) := by rw [G 2 (by decide), e2]; exact an_wkS hac
        refine ⟨⟨_, rfl, by rw [G 8 (by decide)]; exact h10, w2, fun x hx hz => ⟨hx, anH_R hx (Classical.byContradiction fun q => hz ((bin x hx).mpr q))⟩, fun x hx => by rw [G 14 (by decide)]; exact h14 x hx⟩, ?_⟩
        rintro _ σ3 τ ⟨rfl, q1, q2, q3, q4, q5, q6, q7⟩
        have e12 : σ3 12 = σ2 12 := q1 12 (by decide) (by decide) (by decide)
        have e22 : σ2 2 = σ 2 := (G 2 (by decide)).trans e2
        rw [e22, (G 16 (by decide)).trans h16, ← e12] at q5
        rw [e22, (G 17 (by decide)).trans h17, ← e12] at q6
        rw [(G 15 (by decide)).trans h15, ← e12] at q4
        rw [← e12] at q3 q7 bin
        have b1 : 1 ≤ bkN (σ3 12) 96 := bkN_1 (σ3 12) (fun q => (bin 0 (by omega)).mp q (Or.inl rfl)) 95
        have b2 := bkN_le (σ3 12) 96
        refine ⟨rfl, ?_⟩
        rintro r σ3 τ ⟨hr3, rfl, rfl⟩
        have hrT : r = true := by
          rw [hr3, q3]
          refine decide_eq_true ?_
          rw [Int32.lt_iff_toInt_lt, nI_toInt (by omega)]
          have : (0 : Int32).toInt = 0 := rfl
          omega
        subst hrT
        exact ⟨true, rfl, rfl, fun k hk => (q1 k (by omega) (by omega) (by omega)).trans ((G k (by omega)).trans (hF k hk)), Or.inl ⟨rfl, hal, bin, q3, q4, q5, q6, q7⟩⟩
    · refine br_t rfl ?_
      refine ⟨rfl, ?_⟩
      rintro r σ2 τ ⟨hr3, rfl, rfl⟩
      have hrF : r = false := by
        rw [hr3, hN.2.1]
        rfl
      subst hrF
      exact ⟨false, rfl, rfl, hF, Or.inr ⟨rfl, hN⟩⟩
