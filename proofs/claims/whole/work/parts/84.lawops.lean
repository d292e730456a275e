/-! one call on both sides: the relation stays, the answers agree -/
def rlD (σ : ev_M) : Prop := dD σ ∧ byF (σ 31) ∧ (∃ n : Nat, n ≤ 96 ∧ σ 30 15 = nI n ∧ (¬ σ 30 7 = 0 → ∀ k, k < n → vbD (σ 31) (σ 40 k) (σ 41 k))) ∧ (σ 30 7 = 0 ∨ σ 30 7 = 1) ∧ (¬ σ 30 8 = 0 → byF (fD σ 256) ∧ trF (trD σ 256)) ∧ (σ 30 24).toInt ≤ 40
theorem rlD_of {σ : ev_M} {τ : ev_L} (h : Rl σ τ) : rlD σ := by
  have hs := rl_shown h
  have hd := rl_dD h
  obtain ⟨⟨p1, p2, p3⟩, -, -, ⟨a1, a2, a3, a4, a5⟩, ⟨w1, w2⟩, -⟩ := h
  refine ⟨hd, by_ag p1 p2, ?_, ?_, fun q => ?_, by rw [← hs.1]; exact hs.2⟩
  · rcases a5 with ⟨q1, -⟩ | ⟨q1, n, n1, n96, b1, b2, b3, -⟩
    · obtain ⟨m, hm, em⟩ := a4
      exact ⟨m, hm, em, fun z => absurd q1 z⟩
    · refine ⟨n, n96, b2, fun _ k hk => ?_⟩
      rw [a1, a2, ← lk_vbD (at_ag p1)]
      exact (b3 k hk).1
  · rcases a5 with ⟨q1, -⟩ | ⟨q1, -⟩
    · exact Or.inl q1
    · exact Or.inr q1
  · rcases w2 with w2 | ⟨-, w3, w4, w5, w6⟩
    · exact absurd (w1.trans w2) q
    · refine ⟨by_ag (f := σ 21) (fun i hi => w3 i hi) w4, fun a => ?_⟩
      rw [← w5 a]
      exact w6 a
theorem rlD_mv {σ σ1 : ev_M} (h : rlD σ) (e : ∀ k, 29 < k → σ1 k = σ k) : rlD σ1 := by
  have e30 := e 30 (by omega)
  have e31 := e 31 (by omega)
  unfold rlD dD fD trD
  rw [e30, e31, e 33 (by omega), e 34 (by omega), e 40 (by omega), e 41 (by omega), e 32 (by omega)]
  exact h

theorem fr_L_poke {σ σ1 : ev_M} {τ τ1 : ev_L} {p0 p1 : Int32} {r : Int32} (hp : post_L_poke [.ref 0, .int p0, .int p1] σ τ r σ1 τ1) : ∀ k, 29 < k → σ1 k = σ k := by
  intro j hj
  rcases hp with ⟨v, hq, -⟩ | ⟨k, hq, -⟩
  · obtain ⟨ha, e1, -⟩ := hq
    have e : sp_put σ 2 p0 p1 = ev_u σ 2 p0.toNatClampNeg (p1 &&& 255) := if_pos ⟨ha.1, i_lt256 ha.2⟩
    rw [e1, e]
    show ev_u (ev_u (ev_u σ 2 _ _) 8 10 0) 18 3 0 j = σ j
    simp only [ev_u, ev_p]
    rw [if_neg (by omega), if_neg (by omega), if_neg (by omega)]
  · obtain ⟨-, -, e1, -⟩ := hq
    rw [e1]
theorem lw_poke {σ σ1 σ2 : ev_M} {τ τ1 τ2 : ev_L} {p0 p1 : Int32} {r : Int32} (h : Rl σ τ) (hp : post_L_poke [.ref 0, .int p0, .int p1] σ τ r σ1 τ1) (hd : post_D_poke [.ref 30, .int p0, .int p1] σ1 τ1 () σ2 τ2) : Rl σ2 τ2 ∧ σ2 30 0 = r := by
  rcases hp with ⟨v, hq, e⟩ | ⟨k, hq, e⟩
  · obtain ⟨h1, h2⟩ := rl_poke h hq hd
    exact ⟨h1, by rw [h2, e]⟩
  · obtain ⟨h1, h2, h3⟩ := rl_poke_x h hq hd
    exact ⟨h1, by rw [h3, e]⟩
theorem fr_L_declare {σ σ1 : ev_M} {τ τ1 : ev_L} {p0 p1 : Int32} {r : Int32} (hp : post_L_declare [.ref 0, .int p0, .int p1, .ref 48] σ τ r σ1 τ1) : ∀ k, 29 < k → σ1 k = σ k := by
  intro j hj
  rcases hp with ⟨v, τ9, hq, -⟩ | ⟨k, hq, -⟩
  · obtain ⟨-, -, -, e1, -⟩ := hq
    rw [e1]
    simp only [fgC, sp_tadd, ev_u, ev_p]
    rw [if_neg (by omega), if_neg (by omega), if_neg (by omega), if_neg (by omega), if_neg (by omega)]
  · obtain ⟨-, e1, -⟩ := hq
    rw [e1]
theorem lw_declare {σ σ1 σ2 : ev_M} {τ τ1 τ2 : ev_L} {p0 p1 : Int32} {r : Int32} {b : Int32} (h : Rl σ τ) (hp : post_L_declare [.ref 0, .int p0, .int p1, .ref 48] σ τ r σ1 τ1) (hd : post_D_declare [.ref 30, .int p0, .int p1] σ1 τ1 b σ2 τ2) : Rl σ2 τ2 ∧ σ2 30 0 = r ∧ (r = 0 → τ2 48 0 = b.toInt64) := by
  rcases hp with ⟨v, τ9, hq, e, e2⟩ | ⟨k, hq, e⟩
  · subst e2
    obtain ⟨h1, h2, h3, h4⟩ := rl_declare (τo := ev_w τ9 48 0 v.toInt64) h hq rfl rfl hd
    exact ⟨h1, by rw [h2, e], fun _ => by rw [h4, ← h3]; rfl⟩
  · obtain ⟨h1, h2, h3⟩ := rl_declare_x h hq hd
    rcases h2 with rfl | rfl
    · exact ⟨h1, by rw [h3, e]; rfl, fun q => absurd (e.symm.trans q) (by decide)⟩
    · exact ⟨h1, by rw [h3, e]; rfl, fun q => absurd (e.symm.trans q) (by decide)⟩
theorem fr_L_data {σ σ1 : ev_M} {τ τ1 : ev_L} {p0 p1 : Int32} {r : Int32} (hp : post_L_data [.ref 0, .int p0, .int p1] σ τ r σ1 τ1) : ∀ k, 29 < k → σ1 k = σ k := by
  intro j hj
  rcases hp with ⟨v, hq, -⟩ | ⟨k, hq, -⟩
  · obtain ⟨-, e1, -⟩ := hq
    rw [e1]
    simp only [ev_u, ev_p]
    rw [if_neg (by omega)]
  · obtain ⟨-, -, e1, -⟩ := hq
    rw [e1]
theorem lw_data {σ σ1 σ2 : ev_M} {τ τ1 τ2 : ev_L} {p0 p1 : Int32} {r : Int32} (h : Rl σ τ) (hp : post_L_data [.ref 0, .int p0, .int p1] σ τ r σ1 τ1) (hd : post_D_data [.ref 30, .int p0, .int p1] σ1 τ1 () σ2 τ2) : Rl σ2 τ2 ∧ σ2 30 0 = r := by
  rcases hp with ⟨v, hq, e⟩ | ⟨k, hq, e⟩
  · obtain ⟨h1, h2⟩ := rl_data h hq hd
    exact ⟨h1, by rw [h2, e]⟩
  · obtain ⟨h1, h2, h3⟩ := rl_data_x h hq hd
    exact ⟨h1, by rw [h3, e]⟩
theorem fr_L_analyse {σ σ1 : ev_M} {τ τ1 : ev_L} {r : Int32} (hp : post_L_analyse [.ref 0, .ref 48] σ τ r σ1 τ1) : ∀ k, 29 < k → σ1 k = σ k := by
  intro j hj
  rcases hp with ⟨v, τ9, hq, -⟩ | ⟨k, hq, -⟩
  · exact (hq.1 j (by omega)).trans (if_neg (by omega))
  · exact (hq.2.1 j (by omega)).trans (if_neg (by omega))
theorem lw_analyse {σ σ1 σ2 : ev_M} {τ τ1 τ2 : ev_L} {r : Int32} {b : Int32} (h : Rl σ τ) (hp : post_L_analyse [.ref 0, .ref 48] σ τ r σ1 τ1) (hd : post_D_analyse [.ref 30] σ1 τ1 b σ2 τ2) : Rl σ2 τ2 ∧ σ2 30 0 = r ∧ (r = 0 → τ2 48 0 = b.toInt64) := by
  rcases hp with ⟨v, τ9, hq, e, e2⟩ | ⟨k, hq, e⟩
  · subst e2
    obtain ⟨h1, h2, h3, h4⟩ := rl_analyse (τo := ev_w τ9 48 0 v.toInt64) h hq rfl rfl hd
    exact ⟨h1, by rw [h2, e], fun _ => by rw [h4, ← h3]; rfl⟩
  · obtain ⟨h1, h2, h3⟩ := rl_analyse_x h hq hd
    exact ⟨h1, by rw [h3, e], fun q => absurd (e.symm.trans q) (by decide)⟩
theorem fr_L_block {σ σ1 : ev_M} {τ τ1 : ev_L} {p0 p1 : Int32} {r : Int32} (hp : post_L_block [.ref 0, .int p0, .int p1, .ref 48] σ τ r σ1 τ1) : ∀ k, 29 < k → σ1 k = σ k := by
  intro j hj
  rcases hp with ⟨v, τ9, hq, -⟩ | ⟨k, hq, -⟩
  · obtain ⟨-, -, e1, -⟩ := hq
    rw [e1]
  · obtain ⟨-, e1, -⟩ := hq
    rw [e1]
theorem lw_block {σ σ1 σ2 : ev_M} {τ τ1 τ2 : ev_L} {p0 p1 : Int32} {r : Int32} {b : Int32} (h : Rl σ τ) (hp : post_L_block [.ref 0, .int p0, .int p1, .ref 48] σ τ r σ1 τ1) (hd : post_D_block [.ref 30, .int p0, .int p1] σ1 τ1 b σ2 τ2) : Rl σ2 τ2 ∧ σ2 30 0 = r ∧ (r = 0 → τ2 48 0 = b.toInt64) := by
  rcases hp with ⟨v, τ9, hq, e, e2⟩ | ⟨k, hq, e⟩
  · subst e2
    obtain ⟨h1, h2, h3, h4⟩ := rl_block (τo := ev_w τ9 48 0 v.toInt64) h hq rfl rfl hd
    exact ⟨h1, by rw [h2, e], fun _ => by rw [h4, ← h3]; rfl⟩
  · obtain ⟨h1, ⟨h2, h3⟩ | ⟨h2, h3⟩⟩ := rl_block_x h hq hd
    · subst h2
      exact ⟨h1, by rw [h3, e]; rfl, fun q => absurd (e.symm.trans q) (by decide)⟩
    · subst h2
      exact ⟨h1, by rw [h3, e]; rfl, fun q => absurd (e.symm.trans q) (by decide)⟩
theorem fr_L_rewrite {σ σ1 : ev_M} {τ τ1 : ev_L} {r : Int32} (hp : post_L_rewrite [.ref 0, .ref 48] σ τ r σ1 τ1) : ∀ k, 29 < k → σ1 k = σ k := by
  intro j hj
  rcases hp with ⟨v, τ9, hq, -⟩ | ⟨k, hq, -⟩
  · obtain ⟨-, -, -, -, -, hf, -⟩ := hq
    exact hf j (by omega) (by omega) (by omega) (by omega)
  · rcases hq.1 with ⟨-, -, e1⟩ | ⟨-, -, -, -, -, hf⟩
    · rw [e1]
    · exact hf j (by omega) (by omega) (by omega) (by omega)
theorem lw_rewrite {σ σ1 σ2 : ev_M} {τ τ1 τ2 : ev_L} {r : Int32} {b : Int32} (h : Rl σ τ) (hp : post_L_rewrite [.ref 0, .ref 48] σ τ r σ1 τ1) (hd : post_D_rewrite [.ref 30] σ1 τ1 b σ2 τ2) : Rl σ2 τ2 ∧ σ2 30 0 = r ∧ (r = 0 → τ2 48 0 = b.toInt64) := by
  rcases hp with ⟨v, τ9, hq, e, e2⟩ | ⟨k, hq, e⟩
  · subst e2
    obtain ⟨h1, h2, h3, h4⟩ := rl_rewrite (τo := ev_w τ9 48 0 v.toInt64) h hq rfl rfl hd
    exact ⟨h1, by rw [h2, e], fun _ => by rw [h4, ← h3]; rfl⟩
  · obtain ⟨h1, ⟨h2, h3⟩ | ⟨h2, h3⟩⟩ := rl_rewrite_x h hq hd
    · subst h2
      exact ⟨h1, by rw [h3, e]; rfl, fun q => absurd (e.symm.trans q) (by decide)⟩
    · subst h2
      exact ⟨h1, by rw [h3, e]; rfl, fun q => absurd (e.symm.trans q) (by decide)⟩
theorem fr_L_code {σ σ1 : ev_M} {τ τ1 : ev_L} {p0 p1 : Int32} {r : Int32} (hp : post_L_code [.ref 0, .int p0, .int p1, .ref 48] σ τ r σ1 τ1) : ∀ k, 29 < k → σ1 k = σ k := by
  intro j hj
  rcases hp with ⟨v, τ9, hq, -⟩ | ⟨k, hq, -⟩
  · obtain ⟨-, -, e1, -⟩ := hq
    rw [e1]
  · obtain ⟨-, e1, -⟩ := hq
    rw [e1]
theorem lw_code {σ σ1 σ2 : ev_M} {τ τ1 τ2 : ev_L} {p0 p1 : Int32} {r : Int32} {b : Int32} (h : Rl σ τ) (hp : post_L_code [.ref 0, .int p0, .int p1, .ref 48] σ τ r σ1 τ1) (hd : post_D_code [.ref 30, .int p0, .int p1] σ1 τ1 b σ2 τ2) : Rl σ2 τ2 ∧ σ2 30 0 = r ∧ (r = 0 → τ2 48 0 = b.toInt64) := by
  rcases hp with ⟨v, τ9, hq, e, e2⟩ | ⟨k, hq, e⟩
  · subst e2
    obtain ⟨h1, h2, h3, h4⟩ := rl_code (τo := ev_w τ9 48 0 v.toInt64) h hq rfl rfl hd
    exact ⟨h1, by rw [h2, e], fun _ => by rw [h4, ← h3]; rfl⟩
  · obtain ⟨h1, ⟨h2, h3⟩ | ⟨h2, h3⟩⟩ := rl_code_x h hq hd
    · subst h2
      exact ⟨h1, by rw [h3, e]; rfl, fun q => absurd (e.symm.trans q) (by decide)⟩
    · subst h2
      exact ⟨h1, by rw [h3, e]; rfl, fun q => absurd (e.symm.trans q) (by decide)⟩
theorem fr_L_run {σ σ1 : ev_M} {τ τ1 : ev_L} {p0 p1 : Int32} {r : Int32} (hp : post_L_run [.ref 0, .int p0, .int p1, .ref 48] σ τ r σ1 τ1) : ∀ k, 29 < k → σ1 k = σ k := by
  intro j hj
  rcases hp with ⟨v, τ9, hq, -⟩ | ⟨k, hq, -⟩
  · exact hq.2.2.1 j (by omega)
  · obtain ⟨-, e1, -⟩ := hq
    rw [e1]
theorem lw_run {σ σ1 σ2 : ev_M} {τ τ1 τ2 : ev_L} {p0 p1 : Int32} {r : Int32} {b : Int32} (h : Rl σ τ) (hp : post_L_run [.ref 0, .int p0, .int p1, .ref 48] σ τ r σ1 τ1) (hd : post_D_run [.ref 30, .int p0, .int p1] σ1 τ1 b σ2 τ2) : Rl σ2 τ2 ∧ σ2 30 0 = r ∧ (r = 0 → τ2 48 0 = b.toInt64) := by
  rcases hp with ⟨v, τ9, hq, e, e2⟩ | ⟨k, hq, e⟩
  · subst e2
    obtain ⟨h1, h2, h3, h4⟩ := rl_run (τo := ev_w τ9 48 0 v.toInt64) h hq rfl rfl hd
    exact ⟨h1, by rw [h2, e], fun _ => by rw [h4, ← h3]; rfl⟩
  · obtain ⟨h1, ⟨h2, h3⟩ | ⟨h2, h3⟩⟩ := rl_run_x h hq hd
    · subst h2
      exact ⟨h1, by rw [h3, e]; rfl, fun q => absurd (e.symm.trans q) (by decide)⟩
    · subst h2
      exact ⟨h1, by rw [h3, e]; rfl, fun q => absurd (e.symm.trans q) (by decide)⟩
theorem fr_L_register {σ σ1 : ev_M} {τ τ1 : ev_L} {p0 : Int32} {r : Int32} (hp : post_L_register [.ref 0, .int p0, .ref 48] σ τ r σ1 τ1) : ∀ k, 29 < k → σ1 k = σ k := by
  intro j hj
  rcases hp with ⟨v, τ9, hq, -⟩ | ⟨k, hq, -⟩
  · obtain ⟨-, -, e1, -⟩ := hq
    rw [e1]
  · obtain ⟨-, -, e1, -⟩ := hq
    rw [e1]
theorem lw_register {σ σ1 σ2 : ev_M} {τ τ1 τ2 : ev_L} {p0 : Int32} {r : Int32} {b : Int32} (h : Rl σ τ) (hp : post_L_register [.ref 0, .int p0, .ref 48] σ τ r σ1 τ1) (hd : post_D_register [.ref 30, .int p0] σ1 τ1 b σ2 τ2) : Rl σ2 τ2 ∧ σ2 30 0 = r ∧ (r = 0 → τ2 48 0 = b.toInt64) := by
  rcases hp with ⟨v, τ9, hq, e, e2⟩ | ⟨k, hq, e⟩
  · subst e2
    obtain ⟨h1, h2, h3, h4⟩ := rl_register (τo := ev_w τ9 48 0 v.toInt64) h hq rfl rfl hd
    exact ⟨h1, by rw [h2, e], fun _ => by rw [h4, ← h3]; rfl⟩
  · obtain ⟨h1, h2, h3⟩ := rl_register_x h hq hd
    exact ⟨h1, by rw [h3, e], fun q => absurd (e.symm.trans q) (by decide)⟩
theorem fr_L_cell {σ σ1 : ev_M} {τ τ1 : ev_L} {p0 : Int32} {r : Int32} (hp : post_L_cell [.ref 0, .int p0, .ref 48] σ τ r σ1 τ1) : ∀ k, 29 < k → σ1 k = σ k := by
  intro j hj
  rcases hp with ⟨v, τ9, hq, -⟩ | ⟨k, hq, -⟩
  · obtain ⟨-, -, e1, -⟩ := hq
    rw [e1]
  · obtain ⟨-, -, e1, -⟩ := hq
    rw [e1]
theorem lw_cell {σ σ1 σ2 : ev_M} {τ τ1 τ2 : ev_L} {p0 : Int32} {r : Int32} {b : Int32} (h : Rl σ τ) (hp : post_L_cell [.ref 0, .int p0, .ref 48] σ τ r σ1 τ1) (hd : post_D_cell [.ref 30, .int p0] σ1 τ1 b σ2 τ2) : Rl σ2 τ2 ∧ σ2 30 0 = r ∧ (r = 0 → τ2 48 0 = b.toInt64) := by
  rcases hp with ⟨v, τ9, hq, e, e2⟩ | ⟨k, hq, e⟩
  · subst e2
    obtain ⟨h1, h2, h3, h4⟩ := rl_cell (τo := ev_w τ9 48 0 v.toInt64) h hq rfl rfl hd
    exact ⟨h1, by rw [h2, e], fun _ => by rw [h4, ← h3]; rfl⟩
  · obtain ⟨h1, h2, h3⟩ := rl_cell_x h hq hd
    exact ⟨h1, by rw [h3, e], fun q => absurd (e.symm.trans q) (by decide)⟩
theorem fr_L_output {σ σ1 : ev_M} {τ τ1 : ev_L} {p0 : Int32} {r : Int32} (hp : post_L_output [.ref 0, .int p0, .ref 48] σ τ r σ1 τ1) : ∀ k, 29 < k → σ1 k = σ k := by
  intro j hj
  rcases hp with ⟨v, τ9, hq, -⟩ | ⟨k, hq, -⟩
  · obtain ⟨-, -, e1, -⟩ := hq
    rw [e1]
  · obtain ⟨-, -, e1, -⟩ := hq
    rw [e1]
theorem lw_output {σ σ1 σ2 : ev_M} {τ τ1 τ2 : ev_L} {p0 : Int32} {r : Int32} {b : Int32} (h : Rl σ τ) (hp : post_L_output [.ref 0, .int p0, .ref 48] σ τ r σ1 τ1) (hd : post_D_output [.ref 30, .int p0] σ1 τ1 b σ2 τ2) : Rl σ2 τ2 ∧ σ2 30 0 = r ∧ (r = 0 → τ2 48 0 = b.toInt64) := by
  rcases hp with ⟨v, τ9, hq, e, e2⟩ | ⟨k, hq, e⟩
  · subst e2
    obtain ⟨h1, h2, h3, h4⟩ := rl_output (τo := ev_w τ9 48 0 v.toInt64) h hq rfl rfl hd
    exact ⟨h1, by rw [h2, e], fun _ => by rw [h4, ← h3]; rfl⟩
  · obtain ⟨h1, h2, h3⟩ := rl_output_x h hq hd
    exact ⟨h1, by rw [h3, e], fun q => absurd (e.symm.trans q) (by decide)⟩
theorem fr_L_counter {σ σ1 : ev_M} {τ τ1 : ev_L} {p0 : Int32} {r : Int32} (hp : post_L_counter [.ref 0, .int p0, .ref 48] σ τ r σ1 τ1) : ∀ k, 29 < k → σ1 k = σ k := by
  intro j hj
  rcases hp with ⟨v, τ9, hq, -⟩ | ⟨k, hq, -⟩
  · obtain ⟨-, -, e1, -⟩ := hq
    rw [e1]
  · obtain ⟨-, -, e1, -⟩ := hq
    rw [e1]
theorem lw_counter {σ σ1 σ2 : ev_M} {τ τ1 τ2 : ev_L} {p0 : Int32} {r : Int32} {b : Int64} (h : Rl σ τ) (hp : post_L_counter [.ref 0, .int p0, .ref 48] σ τ r σ1 τ1) (hd : post_D_counter [.ref 30, .int p0] σ1 τ1 b σ2 τ2) : Rl σ2 τ2 ∧ σ2 30 0 = r ∧ (r = 0 → τ2 48 0 = b) := by
  rcases hp with ⟨v, τ9, hq, e, e2⟩ | ⟨k, hq, e⟩
  · subst e2
    obtain ⟨h1, h2, h3, h4⟩ := rl_counter (τo := ev_w τ9 48 0 v) h hq rfl rfl hd
    exact ⟨h1, by rw [h2, e], fun _ => by rw [h4, ← h3]; rfl⟩
  · obtain ⟨h1, h2, h3⟩ := rl_counter_x h hq hd
    exact ⟨h1, by rw [h3, e], fun q => absurd (e.symm.trans q) (by decide)⟩
theorem pb_L_poke {σ : ev_M} {τ : ev_L} (p0 p1 : Int32) : pre_L_poke [.ref 0, .int p0, .int p1] σ τ := ⟨p0, p1, rfl, p0, p1, rfl⟩
theorem pb_L_declare {σ : ev_M} {τ : ev_L} (h : Rl σ τ) (p0 p1 : Int32) : pre_L_declare [.ref 0, .int p0, .int p1, .ref 48] σ τ := by
  obtain ⟨-, ⟨⟨n, n4, en, -⟩, -⟩, -⟩ := h
  exact ⟨p0, p1, rfl, p0, p1, rfl, n, n4, en⟩
theorem pb_L_data {σ : ev_M} {τ : ev_L} (p0 p1 : Int32) : pre_L_data [.ref 0, .int p0, .int p1] σ τ := ⟨p0, p1, rfl, p0, p1, rfl⟩
theorem pb_L_analyse {σ : ev_M} {τ : ev_L} (h : Rl σ τ) : pre_L_analyse [.ref 0, .ref 48] σ τ := ⟨rfl, rfl, h.2.1.1, h.1.2.1⟩
theorem pb_L_block {σ : ev_M} {τ : ev_L} (h : Rl σ τ) (p0 p1 : Int32) : pre_L_block [.ref 0, .int p0, .int p1, .ref 48] σ τ := ⟨p0, p1, rfl, p0, p1, rfl, (rl_cap h).1⟩
theorem pb_L_rewrite {σ : ev_M} {τ : ev_L} (h : Rl σ τ) : pre_L_rewrite [.ref 0, .ref 48] σ τ := by
  obtain ⟨-, n, e, h1, h2⟩ := rl_cap h
  exact ⟨rfl, n, rfl, e, h1, h.1.2.2, h2⟩
theorem pb_L_code {σ : ev_M} {τ : ev_L} (h : Rl σ τ) (p0 p1 : Int32) : pre_L_code [.ref 0, .int p0, .int p1, .ref 48] σ τ := ⟨p0, p1, rfl, p0, p1, rfl, (rl_run0 h).2.2.1⟩
theorem pb_L_run {σ : ev_M} {τ : ev_L} (h : Rl σ τ) (p0 p1 : Int32) : pre_L_run [.ref 0, .int p0, .int p1, .ref 48] σ τ := by
  obtain ⟨h1, h2, h3, h4⟩ := rl_run0 h
  exact ⟨p0, p1, rfl, p0, p1, rfl, h3, h1, h2, (rl_cap h).1, h4⟩
theorem pb_L_register {σ : ev_M} {τ : ev_L} (p0 : Int32) : pre_L_register [.ref 0, .int p0, .ref 48] σ τ := ⟨p0, rfl, p0, rfl⟩
theorem pb_L_cell {σ : ev_M} {τ : ev_L} (p0 : Int32) : pre_L_cell [.ref 0, .int p0, .ref 48] σ τ := ⟨p0, rfl, p0, rfl⟩
theorem pb_L_output {σ : ev_M} {τ : ev_L} (h : Rl σ τ) (p0 : Int32) : pre_L_output [.ref 0, .int p0, .ref 48] σ τ := ⟨p0, rfl, p0, rfl, (rl_shown h).2⟩
theorem pb_L_counter {σ : ev_M} {τ : ev_L} (p0 : Int32) : pre_L_counter [.ref 0, .int p0, .ref 48] σ τ := ⟨p0, rfl, p0, rfl⟩
theorem pd_declare {σ : ev_M} {τ : ev_L} (h : rlD σ) (p0 p1 : Int32) : pre_D_declare [.ref 30, .int p0, .int p1] σ τ := by
  obtain ⟨⟨n, n4, en, -⟩, -⟩ := h
  exact ⟨p0, p1, rfl, by rw [en, nI_toInt (by omega)]; omega, by rw [en, nI_toInt (by omega)]; omega⟩
theorem pd_analyse {σ : ev_M} {τ : ev_L} (h : rlD σ) : pre_D_analyse [.ref 30] σ τ := ⟨rfl, h.1, h.2.1⟩
theorem pd_block {σ : ev_M} {τ : ev_L} (h : rlD σ) (p0 p1 : Int32) : pre_D_block [.ref 30, .int p0, .int p1] σ τ := by
  obtain ⟨-, -, ⟨n, n96, en, -⟩, h7, -⟩ := h
  exact ⟨p0, p1, rfl, h7, by rw [en, nI_toInt (by omega)]; omega⟩
theorem pd_blockAt {σ : ev_M} {τ : ev_L} (h : rlD σ) (p0 : Int32) : pre_D_blockAt [.ref 30, .int p0] σ τ := by
  obtain ⟨-, -, ⟨n, n96, en, -⟩, -⟩ := h
  exact ⟨p0, n, rfl, en, n96⟩
theorem pd_rewrite {σ : ev_M} {τ : ev_L} (h : rlD σ) : pre_D_rewrite [.ref 30] σ τ := by
  obtain ⟨-, hb, ⟨n, n96, en, hv⟩, -⟩ := h
  exact ⟨n, rfl, en, n96, fun q => ⟨hb, hv q⟩⟩
theorem pd_run {σ : ev_M} {τ : ev_L} (h : rlD σ) (p0 p1 : Int32) : pre_D_run [.ref 30, .int p0, .int p1] σ τ := by
  obtain ⟨-, hb, ⟨n, n96, en, -⟩, -, h8, -⟩ := h
  refine ⟨p0, p1, n, rfl, en, n96, fun _ => ?_, fun _ q => h8 q⟩
  intro i hi
  show 0 ≤ (σ 31 (0 + i)).toInt ∧ (σ 31 (0 + i)).toInt < 256
  rw [Nat.zero_add]
  exact hb i hi
theorem pd_output {σ : ev_M} {τ : ev_L} (h : rlD σ) (p0 : Int32) : pre_D_output [.ref 30, .int p0] σ τ := ⟨p0, rfl, h.2.2.2.2.2⟩
