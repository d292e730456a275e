/-! analyse -/
theorem rl_has {σ : ev_M} {τ : ev_L} (h : Rl σ τ) : sd_has σ = sp_has σ := by
  obtain ⟨-, ⟨-, t1, t2⟩, -⟩ := h
  funext b c
  unfold sd_has sp_has
  rw [t1]
  apply propext
  constructor
  · rintro ⟨i, hi, e1, e2⟩
    exact ⟨i, hi, (t2 i hi).1.symm.trans e1, (t2 i hi).2.symm.trans e2⟩
  · rintro ⟨i, hi, e1, e2⟩
    exact ⟨i, hi, (t2 i hi).1.trans e1, (t2 i hi).2.trans e2⟩
theorem rl_dD {σ : ev_M} {τ : ev_L} (h : Rl σ τ) : dD σ := by
  obtain ⟨-, ⟨⟨n, n4, en, tn⟩, t1, t2⟩, -⟩ := h
  refine ⟨n, n4, t1.trans en, fun i hi => ?_⟩
  obtain ⟨b, m, e1, e2, h1, h2⟩ := tn i hi
  have hi' : i < (σ 4 2).toNatClampNeg := by rw [en, nI_clamp (by omega)]; exact hi
  exact ⟨b, m, (t2 i hi').1.trans e1, (t2 i hi').2.trans e2, h1, h2⟩
theorem rl_an {σ σ1 σ2 : ev_M} {τ τo : ev_L} (h : Rl σ τ) (f1 : exF (ev_u σ 18 3 0) σ1) (hb : exT (ev_u σ 18 3 0) σ1 ∨ exN (ev_u σ 18 3 0) σ1) (h29 : τo 29 = τ 29) (h47 : τo 47 = τ 47) (hz : dzF σ1 σ2) (hd : dzT σ1 σ2 ∨ dzN σ1 σ2) : Rl σ2 τo ∧ ((exT (ev_u σ 18 3 0) σ1 ∧ dzT σ1 σ2 ∧ σ1 8 10 = σ2 30 15) ∨ (exN (ev_u σ 18 3 0) σ1 ∧ dzN σ1 σ2)) := by
  have hhas := rl_has h
  obtain ⟨⟨p1, p2, p3⟩, ⟨t0, t1, t2⟩, hS, ⟨a1, a2, a3, a4, -⟩, -, m1, m2⟩ := h
  have c : ∀ k, (k < 8 ∨ 17 < k) → ¬ k = 18 → σ1 k = σ k := fun k hk h18 => (f1 k hk).trans (if_neg h18)
  have c18 : σ1 18 3 = 0 := by rw [f1 18 (by omega)]; rfl
  have d : ∀ k, ¬ k = 30 → (k < 36 ∨ 42 < k) → σ2 k = σ1 k := hz.1
  have dc : ∀ k, (k < 8 ∨ 17 < k) → ¬ k = 18 → ¬ k = 30 → (k < 36 ∨ 42 < k) → σ2 k = σ k := fun k x y z w => (d k z w).trans (c k x y)
  have d30 : ∀ j, ¬ j = 0 → ¬ j = 7 → ¬ j = 8 → ¬ j = 13 → ¬ j = 14 → ¬ j = 15 → σ2 30 j = σ 30 j := fun j x1 x2 x3 x4 x5 x6 => (hz.2.1 j x1 x2 x3 x4 x5 x6).trans (congrFun (c 30 (by omega) (by omega)) j)
  have e31 : σ1 31 = σ 31 := c 31 (by omega) (by omega)
  have at31 : sp_at (σ1 31) = sp_at (σ 2) := by rw [e31]; exact (at_ag p1).symm
  have hh : sd_has σ1 = sp_has σ := by
    have : sd_has σ1 = sd_has σ := by
      unfold sd_has
      rw [c 30 (by omega) (by omega), c 33 (by omega) (by omega), c 34 (by omega) (by omega)]
    rw [this, hhas]
  have alE : anAl (σ1 31) (sd_has σ1) = anAl (σ 2) (sp_has σ) := by rw [hh, lk_Al at31]
  have hP : rlP σ2 := by
    unfold rlP
    rw [dc 2 (by omega) (by omega) (by omega) (by omega), dc 31 (by omega) (by omega) (by omega) (by omega), dc 3 (by omega) (by omega) (by omega) (by omega)]
    exact ⟨p1, p2, p3⟩
  have hT : rlT σ2 := by
    unfold rlT anD
    rw [dc 4 (by omega) (by omega) (by omega) (by omega), dc 5 (by omega) (by omega) (by omega) (by omega), dc 6 (by omega) (by omega) (by omega) (by omega), dc 33 (by omega) (by omega) (by omega) (by omega), dc 34 (by omega) (by omega) (by omega) (by omega), d30 3 (by omega) (by omega) (by omega) (by omega) (by omega) (by omega)]
    exact ⟨t0, t1, t2⟩
  have hS2 : σ2 35 = σ2 7 := by rw [dc 35 (by omega) (by omega) (by omega) (by omega), dc 7 (by omega) (by omega) (by omega) (by omega)]; exact hS
  have e18 : σ2 18 3 = 0 := by rw [d 18 (by omega) (by omega)]; exact c18
  have hW : rlW σ2 := ⟨hz.2.2.trans e18.symm, Or.inl e18⟩
  have eC : mvC σ2 τo = mvC σ τ := by
    unfold mvC
    rw [dc 25 (by omega) (by omega) (by omega) (by omega), dc 26 (by omega) (by omega) (by omega) (by omega), dc 27 (by omega) (by omega) (by omega) (by omega), dc 28 (by omega) (by omega) (by omega) (by omega), dc 23 (by omega) (by omega) (by omega) (by omega), h29]
  have eD : mvD σ2 τo = mvD σ τ := by
    unfold mvD
    rw [dc 43 (by omega) (by omega) (by omega) (by omega), dc 44 (by omega) (by omega) (by omega) (by omega), dc 45 (by omega) (by omega) (by omega) (by omega), dc 46 (by omega) (by omega) (by omega) (by omega), d30 22 (by omega) (by omega) (by omega) (by omega) (by omega) (by omega), d30 23 (by omega) (by omega) (by omega) (by omega) (by omega) (by omega), d30 24 (by omega) (by omega) (by omega) (by omega) (by omega) (by omega), d30 25 (by omega) (by omega) (by omega) (by omega) (by omega) (by omega), h47]
  have hM : rlM σ2 τo := ⟨by rw [eC, eD]; exact m1, by rw [eC]; exact m2⟩
  have e40 : σ1 40 = σ 15 := (c 40 (by omega) (by omega)).trans a1
  have e41 : σ1 41 = σ 16 := (c 41 (by omega) (by omega)).trans a2
  have e42 : σ1 42 = σ 17 := (c 42 (by omega) (by omega)).trans a3
  have b15 : σ2 15 = σ1 15 := d 15 (by omega) (by omega)
  have b16 : σ2 16 = σ1 16 := d 16 (by omega) (by omega)
  have b17 : σ2 17 = σ1 17 := d 17 (by omega) (by omega)
  have b8 : σ2 8 = σ1 8 := d 8 (by omega) (by omega)
  rcases hb with hb | hb <;> rcases hd with hd | hd
  · obtain ⟨x1, x2, x3, x4, x5, x6, x7⟩ := id hb
    obtain ⟨u1, u2, u3, u4, u5, u6, u7, u8⟩ := id hd
    have x1' : anAl (σ 2) (sp_has σ) := x1
    have hH2 : ∀ x, x < 96 → (σ2 37 x = 0 ↔ ¬ anH (σ 2) x) := fun x hx => by rw [u4 x hx, lk_H at31]
    have hH : ∀ x, x < 96 → (σ1 12 x = 0 ↔ σ2 37 x = 0) := fun x hx => (x2 x hx).trans (hH2 x hx).symm
    have hn : bkN (σ1 12) 96 = bkN (σ2 37) 96 := lk_bkN hH 96 (Nat.le_refl _)
    have h15 : σ2 15 = bkH (σ2 37) (σ 15) 96 := b15.trans (x4.trans (lk_bkH hH (σ 15) 96 (Nat.le_refl _)))
    have h16 : σ2 16 = bkB (σ 2) (σ2 37) (σ 16) 96 := b16.trans (x5.trans (lk_bkB rfl hH (σ 16) 96 (Nat.le_refl _)))
    have h17 : σ2 17 = bkC (σ 2) (σ2 37) (σ 17) 96 := b17.trans (x6.trans (lk_bkC rfl hH (σ 17) 96 (Nat.le_refl _)))
    have hn1 : 1 ≤ bkN (σ2 37) 96 := bkN_1 (σ2 37) (fun q => (hH2 0 (by omega)).mp q (Or.inl rfl)) 95
    have hn96 := bkN_le (σ2 37) 96
    have e810 : σ2 8 10 = nI (bkN (σ2 37) 96) := by rw [b8, ← hn]; exact x3
    refine ⟨⟨hP, hT, hS2, ⟨?_, ?_, ?_, ⟨_, hn96, u5⟩, Or.inr ⟨u3, bkN (σ2 37) 96, hn1, hn96, e810, u5, fun k hk => ?_, fun j hj => ?_, ?_⟩⟩, hW, hM⟩, Or.inl ⟨hb, hd, ?_⟩⟩
    · rw [u6, h15, e40]
    · rw [u7, h16, e41]
      exact lk_bkB at31 (fun _ _ => Iff.rfl) (σ 16) 96 (Nat.le_refl _)
    · rw [u8, h17, e42]
      exact lk_bkC at31 (fun _ _ => Iff.rfl) (σ 17) 96 (Nat.le_refl _)
    · obtain ⟨x, y1, y2, y3, y4, y5⟩ := bk_at (σ 2) (σ2 37) (σ 15) (σ 16) 96 k hk
      have hr : anR (σ 2) x := anH_R y1 (Classical.byContradiction fun q => y2 ((hH2 x y1).mpr q))
      obtain ⟨v1, v2, v3⟩ := vb_blk (H := σ2 37) x1'.1 y1 hr
      rw [dc 2 (by omega) (by omega) (by omega) (by omega), h15, h16, y4, y5]
      exact ⟨v1, by rw [nI_toInt (by omega), nI_toInt (by omega)]; omega⟩
    · rw [d 14 (by omega) (by omega), b15, b16, ← hn]
      exact x7 j hj
    · rw [h15, h16]
      exact blkO_of x1'.1 hH2
    · rw [← b8, e810, u5]
  · have hn := hd.1
    rw [alE] at hn
    exact absurd hb.1 hn
  · exact absurd hd.1 (by rw [alE]; exact hb.1)
  · obtain ⟨x1, x2, x3, x4, x5⟩ := id hb
    obtain ⟨u1, u2, u3, u4, u5, u6, u7⟩ := id hd
    refine ⟨⟨hP, hT, hS2, ⟨?_, ?_, ?_, ?_, Or.inl ⟨u3, by rw [b8]; exact x2⟩⟩, hW, hM⟩, Or.inr ⟨hb, hd⟩⟩
    · rw [u5, e40, b15, x3]; rfl
    · rw [u6, e41, b16, x4]; rfl
    · rw [u7, e42, b17, x5]; rfl
    · obtain ⟨m, hm, em⟩ := a4
      exact ⟨m, hm, by rw [u4, c 30 (by omega) (by omega)]; exact em⟩
theorem rl_analyse {σ σ1 σ2 : ev_M} {τ τ1 τo τ2 : ev_L} {v r : Int32} (h : Rl σ τ) (hb : post_B_analyse [.ref 0] σ τ v σ1 τ1) (h29 : τo 29 = τ1 29) (h47 : τo 47 = τ1 47) (hd : post_D_analyse [.ref 30] σ1 τo r σ2 τ2) : Rl σ2 τ2 ∧ σ2 30 0 = 0 ∧ v = r ∧ τ2 = τo := by
  obtain ⟨f1, hT, hv, e2⟩ := hb
  subst e2
  obtain ⟨e3, hz, hd⟩ := hd
  subst e3
  have hd' : dzT σ1 σ2 ∨ dzN σ1 σ2 := by
    rcases hd with ⟨-, q⟩ | ⟨-, q⟩
    · exact Or.inl q
    · exact Or.inr q
  obtain ⟨hR, ⟨-, q2, q3⟩ | ⟨q1, -⟩⟩ := rl_an h f1 (Or.inl hT) h29 h47 hz hd'
  · rcases hd with ⟨hr, -⟩ | ⟨-, q⟩
    · exact ⟨hR, q2.2.1, by rw [hv, hr, q3], rfl⟩
    · exact absurd q2.1 q.1
  · exact absurd hT.1 q1.1
theorem rl_analyse_x {σ σ1 σ2 : ev_M} {τ τ1 τ2 : ev_L} {r : Int32} {k : Nat} (h : Rl σ τ) (hb : px_B_analyse [.ref 0] σ τ k σ1 τ1) (hd : post_D_analyse [.ref 30] σ1 τ1 r σ2 τ2) : Rl σ2 τ2 ∧ k = 3 ∧ σ2 30 0 = 1 := by
  obtain ⟨e0, f1, hN, e2⟩ := hb
  subst e0 e2
  obtain ⟨e3, hz, hd⟩ := hd
  subst e3
  have hd' : dzT σ1 σ2 ∨ dzN σ1 σ2 := by
    rcases hd with ⟨-, q⟩ | ⟨-, q⟩
    · exact Or.inl q
    · exact Or.inr q
  obtain ⟨hR, ⟨q1, -⟩ | ⟨-, q2⟩⟩ := rl_an h f1 (Or.inr hN) rfl rfl hz hd'
  · exact absurd q1.1 hN.1
  · exact ⟨hR, rfl, q2.2.1⟩
/-! rewrite -/
theorem by_cut {g : Nat → Int32} (h : byF (cutF g)) : byF g := fun i hi => by
  have := h i hi
  unfold cutF at this
  rw [if_pos hi] at this
  exact this
theorem rl_rw {σ σ1 σ2 : ev_M} {τ τo : ev_L} {r : Int32} (h : Rl σ τ) (h0 : 0 < σ 8 10) (hrv : rvC σ1 = rw_all (σ 2) (σ 15) (σ 16) (σ 8 10).toNatClampNeg) (hf : frB σ σ1) (hs : (σ1 18 2 ≤ 256 ∧ σ1 18 3 = 1) ∨ (¬ σ1 18 2 ≤ 256 ∧ σ1 18 3 = 0)) (h29 : τo 29 = τ 29) (h47 : τo 47 = τ 47) {τ2 : ev_L} (hd : post_D_rewrite [.ref 30] σ1 τo r σ2 τ2) : Rl σ2 τ2 ∧ τ2 = τo ∧ ((σ1 18 2 ≤ 256 ∧ σ2 30 0 = 0 ∧ r = σ1 18 2 - 96) ∨ (¬ σ1 18 2 ≤ 256 ∧ σ2 30 0 = 2)) := by
  obtain ⟨e3, hd⟩ := hd
  subst e3
  obtain ⟨⟨p1, p2, p3⟩, ⟨t0, t1, t2⟩, hS, ⟨a1, a2, a3, a4, a5⟩, -, m1, m2⟩ := h
  have c : ∀ k, ¬ k = 18 → ¬ k = 19 → ¬ k = 21 → ¬ k = 22 → σ1 k = σ k := hf
  have c30 : σ1 30 = σ 30 := c 30 (by omega) (by omega) (by omega) (by omega)
  have c31 : σ1 31 = σ 31 := c 31 (by omega) (by omega) (by omega) (by omega)
  rcases a5 with ⟨-, q⟩ | ⟨a7, n, n1, n96, b1, b2, b3, b4, b5⟩
  · rw [q] at h0; exact absurd h0 (by decide)
  rcases hd with ⟨hno, -⟩ | ⟨-, hrD, d1, d2, d3, hres⟩
  · rw [c30, a7] at hno; exact absurd hno (by decide)
  have hcl : (σ 8 10).toNatClampNeg = n := by rw [b1]; exact nI_clamp (by omega)
  have hcl2 : (σ1 30 15).toNatClampNeg = n := by rw [c30, b2]; exact nI_clamp (by omega)
  have hall : rw_all (σ1 31) (σ1 40) (σ1 41) (σ1 30 15).toNatClampNeg = rw_all (σ 2) (σ 15) (σ 16) n := by
    rw [hcl2, c31, c 40 (by omega) (by omega) (by omega) (by omega), c 41 (by omega) (by omega) (by omega) (by omega), a1, a2]
    exact (lk_rwall p1 (σ 15) (σ 16) n).symm
  rw [hcl] at hrv
  rw [hall] at hrD
  have hE : rvC σ1 = rvD σ2 := hrv.trans hrD.symm
  have g1 : cutF (σ1 21) = cutF (fun i => σ2 31 (256 + i)) := congrArg Prod.fst hE
  have g2 : ntC (σ1 22) = ntD (σ2 32) := congrArg (fun x : rws => x.2.1) hE
  have g3 : σ1 18 2 = σ2 30 19 := congrArg (fun x : rws => x.2.2) hE
  have k1 : cutF (σ1 21) = (rw_all (σ 2) (σ 15) (σ 16) n).1 := congrArg Prod.fst hrv
  have k2 : ntC (σ1 22) = (rw_all (σ 2) (σ 15) (σ 16) n).2.1 := congrArg (fun x : rws => x.2.1) hrv
  have k3 : σ1 18 2 = (rw_all (σ 2) (σ 15) (σ 16) n).2.2 := congrArg (fun x : rws => x.2.2) hrv
  have dc : ∀ k, ¬ k = 18 → ¬ k = 19 → ¬ k = 21 → ¬ k = 22 → ¬ k = 30 → ¬ k = 31 → ¬ k = 32 → σ2 k = σ k := fun k x1 x2 x3 x4 x5 x6 x7 => (d1 k x5 x6 x7).trans (c k x1 x2 x3 x4)
  have d30 : ∀ j, ¬ j = 19 → ¬ j = 0 → ¬ j = 8 → σ2 30 j = σ 30 j := fun j x y z => (d2 j x y z).trans (congrFun c30 j)
  have e2 : σ2 2 = σ 2 := dc 2 (by omega) (by omega) (by omega) (by omega) (by omega) (by omega) (by omega)
  have e8 : σ2 8 = σ 8 := dc 8 (by omega) (by omega) (by omega) (by omega) (by omega) (by omega) (by omega)
  have e14 : σ2 14 = σ 14 := dc 14 (by omega) (by omega) (by omega) (by omega) (by omega) (by omega) (by omega)
  have e15 : σ2 15 = σ 15 := dc 15 (by omega) (by omega) (by omega) (by omega) (by omega) (by omega) (by omega)
  have e16 : σ2 16 = σ 16 := dc 16 (by omega) (by omega) (by omega) (by omega) (by omega) (by omega) (by omega)
  have e17 : σ2 17 = σ 17 := dc 17 (by omega) (by omega) (by omega) (by omega) (by omega) (by omega) (by omega)
  have e37 : σ2 37 = σ 37 := dc 37 (by omega) (by omega) (by omega) (by omega) (by omega) (by omega) (by omega)
  have hP : rlP σ2 := by
    unfold rlP
    rw [e2, dc 3 (by omega) (by omega) (by omega) (by omega) (by omega) (by omega) (by omega)]
    exact ⟨fun i hi => by rw [d3 i hi, c31]; exact p1 i hi, p2, p3⟩
  have hT : rlT σ2 := by
    unfold rlT anD
    rw [dc 4 (by omega) (by omega) (by omega) (by omega) (by omega) (by omega) (by omega), dc 5 (by omega) (by omega) (by omega) (by omega) (by omega) (by omega) (by omega), dc 6 (by omega) (by omega) (by omega) (by omega) (by omega) (by omega) (by omega), dc 33 (by omega) (by omega) (by omega) (by omega) (by omega) (by omega) (by omega), dc 34 (by omega) (by omega) (by omega) (by omega) (by omega) (by omega) (by omega), d30 3 (by omega) (by omega) (by omega)]
    exact ⟨t0, t1, t2⟩
  have hS2 : σ2 35 = σ2 7 := by rw [dc 35 (by omega) (by omega) (by omega) (by omega) (by omega) (by omega) (by omega), dc 7 (by omega) (by omega) (by omega) (by omega) (by omega) (by omega) (by omega)]; exact hS
  have hA : rlA σ2 := by
    refine ⟨?_, ?_, ?_, ?_, Or.inr ⟨by rw [d30 7 (by omega) (by omega) (by omega)]; exact a7, n, n1, n96, by rw [e8]; exact b1, by rw [d30 15 (by omega) (by omega) (by omega)]; exact b2, ?_, ?_, ?_⟩⟩
    · rw [dc 40 (by omega) (by omega) (by omega) (by omega) (by omega) (by omega) (by omega), e15]; exact a1
    · rw [dc 41 (by omega) (by omega) (by omega) (by omega) (by omega) (by omega) (by omega), e16]; exact a2
    · rw [dc 42 (by omega) (by omega) (by omega) (by omega) (by omega) (by omega) (by omega), e17]; exact a3
    · rw [d30 15 (by omega) (by omega) (by omega)]; exact a4
    · rw [e2, e15, e16]; exact b3
    · rw [e14, e15, e16]; exact b4
    · rw [e37, e15, e16]; exact b5
  have eC : mvC σ2 τ2 = mvC σ τ := by
    unfold mvC
    rw [dc 25 (by omega) (by omega) (by omega) (by omega) (by omega) (by omega) (by omega), dc 26 (by omega) (by omega) (by omega) (by omega) (by omega) (by omega) (by omega), dc 27 (by omega) (by omega) (by omega) (by omega) (by omega) (by omega) (by omega), dc 28 (by omega) (by omega) (by omega) (by omega) (by omega) (by omega) (by omega), dc 23 (by omega) (by omega) (by omega) (by omega) (by omega) (by omega) (by omega), h29]
  have eD : mvD σ2 τ2 = mvD σ τ := by
    unfold mvD
    rw [dc 43 (by omega) (by omega) (by omega) (by omega) (by omega) (by omega) (by omega), dc 44 (by omega) (by omega) (by omega) (by omega) (by omega) (by omega) (by omega), dc 45 (by omega) (by omega) (by omega) (by omega) (by omega) (by omega) (by omega), dc 46 (by omega) (by omega) (by omega) (by omega) (by omega) (by omega) (by omega), d30 22 (by omega) (by omega) (by omega), d30 23 (by omega) (by omega) (by omega), d30 24 (by omega) (by omega) (by omega), d30 25 (by omega) (by omega) (by omega), h47]
  have hM : rlM σ2 τ2 := ⟨by rw [eC, eD]; exact m1, by rw [eC]; exact m2⟩
  have e18 : σ2 18 = σ1 18 := d1 18 (by omega) (by omega) (by omega)
  have e21 : σ2 21 = σ1 21 := d1 21 (by omega) (by omega) (by omega)
  have e22 : σ2 22 = σ1 22 := d1 22 (by omega) (by omega) (by omega)
  rcases hs with ⟨s1, s2⟩ | ⟨s1, s2⟩
  · rcases hres with ⟨r1, r2, r3, r4⟩ | ⟨r1, -⟩
    · refine ⟨⟨hP, hT, hS2, hA, ⟨by rw [r4, e18, s2], Or.inr ⟨by rw [e18]; exact s2, ?_, ?_, ?_, ?_⟩⟩, hM⟩, rfl, Or.inl ⟨s1, r3, by rw [r2, g3]⟩⟩
      · rw [e21]; exact ag_cut g1
      · rw [e21]
        refine by_cut ?_
        rw [k1]
        exact rwB_all p2 n
      · intro a
        rw [e22, tr_nt, tr_D, g2]
      · intro a
        rw [e22, tr_nt]
        split
        · rw [k2]
          rcases rwT_all (σ 2) (σ 15) (σ 16) n n96 a.toNatClampNeg with z | ⟨z1, z2⟩
          · exact Or.inl z
          · rw [← k3] at z2
            have z3 := Int32.le_iff_toInt_le.mp s1
            have h256 : (256 : Int32).toInt = 256 := rfl
            exact Or.inr (by omega)
        · exact Or.inl rfl
    · rw [← g3] at r1; exact absurd s1 r1
  · rcases hres with ⟨r1, -⟩ | ⟨r1, r2, r3, r4⟩
    · rw [← g3] at r1; exact absurd r1 s1
    · exact ⟨⟨hP, hT, hS2, hA, ⟨by rw [r4, e18, s2], Or.inl (by rw [e18]; exact s2)⟩, hM⟩, rfl, Or.inr ⟨s1, r3⟩⟩
theorem rl_rewrite {σ σ1 σ2 : ev_M} {τ τ1 τo τ2 : ev_L} {v r : Int32} (h : Rl σ τ) (hb : post_B_rewrite [.ref 0] σ τ v σ1 τ1) (h29 : τo 29 = τ1 29) (h47 : τo 47 = τ1 47) (hd : post_D_rewrite [.ref 30] σ1 τo r σ2 τ2) : Rl σ2 τ2 ∧ σ2 30 0 = 0 ∧ v = r ∧ τ2 = τo := by
  obtain ⟨h0, hv, h1, h2, h3, h4, e2⟩ := hb
  subst e2
  obtain ⟨q1, q2, ⟨-, q3, q4⟩ | ⟨q3, -⟩⟩ := rl_rw h h0 h2 h4 (Or.inl ⟨h1, h3⟩) h29 h47 hd
  · exact ⟨q1, q3, by rw [hv, q4], q2⟩
  · exact absurd h1 q3
theorem rl_rewrite_x {σ σ1 σ2 : ev_M} {τ τ1 τ2 : ev_L} {r : Int32} {k : Nat} (h : Rl σ τ) (hb : px_B_rewrite [.ref 0] σ τ k σ1 τ1) (hd : post_D_rewrite [.ref 30] σ1 τ1 r σ2 τ2) : Rl σ2 τ2 ∧ ((k = 2 ∧ σ2 30 0 = 1) ∨ (k = 3 ∧ σ2 30 0 = 2)) := by
  obtain ⟨hb, e2⟩ := hb
  subst e2
  rcases hb with ⟨e0, h0, e1⟩ | ⟨e0, h0, h1, h2, h3, h4⟩
  · subst e0 e1
    obtain ⟨e3, hd⟩ := hd
    subst e3
    obtain ⟨-, -, -, ⟨-, -, -, -, a5⟩, -⟩ := id h
    rcases hd with ⟨-, -, e4⟩ | ⟨hn, -⟩
    · subst e4
      exact ⟨Rl_0 h 1, Or.inl ⟨rfl, rfl⟩⟩
    · rcases a5 with ⟨q, -⟩ | ⟨-, n, n1, n96, b1, -⟩
      · exact absurd q hn
      · refine absurd ?_ h0
        rw [b1, Int32.lt_iff_toInt_lt, nI_toInt (by omega)]
        have : (0 : Int32).toInt = 0 := rfl
        omega
  · subst e0
    obtain ⟨q1, q2, ⟨q3, -⟩ | ⟨-, q3⟩⟩ := rl_rw h h0 h2 h4 (Or.inr ⟨h1, h3⟩) rfl rfl hd
    · exact absurd q3 h1
    · exact ⟨q1, Or.inr ⟨rfl, q3⟩⟩
/-! run -/
theorem ms_run_R {f : Nat → Int32} {tr : Int32 → Int32} {w : mst → mst} (hf : byF f) (ht : trF tr) (hR : ∀ x, msR x → msR (w x)) : ∀ (n : Nat) (x : mst), msR x → msR (ms_run f tr w n x).2
  | 0, _, hx => hx
  | n + 1, x, hx => by
    unfold ms_run
    split
    · exact ms_run_R hf ht hR n _ (ms_step_R hf ht (hR x hx))
    · exact ms_step_R hf ht (hR x hx)
theorem rl_run0 {σ : ev_M} {τ : ev_L} (h : Rl σ τ) : byF (σ 2) ∧ trF (sp_trap (σ 3)) ∧ (σ 18 3 = 0 ∨ σ 18 3 = 1) ∧ (σ 18 3 = 1 → byF (σ 21) ∧ trF (sp_trap (σ 22))) := by
  obtain ⟨⟨-, p2, p3⟩, -, -, -, ⟨-, w⟩, -⟩ := h
  refine ⟨p2, fun a => Or.inl (tr_0 p3 a), ?_, fun q => ?_⟩
  · rcases w with w | ⟨w, -⟩
    · exact Or.inl w
    · exact Or.inr w
  · rcases w with w | ⟨-, -, w1, -, w2⟩
    · rw [w] at q; exact absurd q (by decide)
    · exact ⟨w1, w2⟩
theorem rl_run {σ σ1 σ2 : ev_M} {τ τ1 τo τ2 : ev_L} {z m v r : Int32} (h : Rl σ τ) (hb : post_B_run [.ref 0, .int z, .int m] σ τ v σ1 τ1) (h29 : τo 29 = τ1 29) (h47 : τo 47 = τ1 47) (hd : post_D_run [.ref 30, .int z, .int m] σ1 τo r σ2 τ2) : Rl σ2 τ2 ∧ σ2 30 0 = 0 ∧ v = r ∧ τ2 48 = τo 48 := by
  obtain ⟨hm, hv, f1, f2⟩ := hb
  have c : ∀ k, (k < 23 ∨ 29 < k) → σ1 k = σ k := f1
  obtain ⟨q1, q2, q3, q4⟩ := rl_run0 h
  obtain ⟨⟨p1, p2, p3⟩, ⟨t0, t1, t2⟩, hS, ⟨a1, a2, a3, a4, a5⟩, ⟨w1, w2⟩, m1, m2⟩ := id h
  have c30 : σ1 30 = σ 30 := c 30 (by omega)
  rcases hd with ⟨hno, -⟩ | ⟨-, hz, hx, -⟩ | ⟨-, hz, hrun, e0, g1, g2, g3⟩
  · exact absurd hm hno
  · rcases hv with ⟨z0, -⟩ | ⟨-, hy, -⟩
    · exact absurd z0 hz
    · rw [c30, w1, hy] at hx; exact absurd hx (by decide)
  have eD0 : mvD σ1 τo = mvC σ τ := by
    rw [m1]
    unfold mvD
    rw [c 43 (by omega), c 44 (by omega), c 45 (by omega), c 46 (by omega), c30, h47, f2 47 (by omega)]
  have e35 : σ1 35 = σ 7 := (c 35 (by omega)).trans hS
  rw [eD0, e35] at hrun
  have hB := ms_begin_R (σ 7) (mvC σ τ)
  have key : (v, mvC σ1 τ1) = (r, mvD σ2 τ2) ∧ msR (mvC σ1 τ1) := by
    rcases hv with ⟨z0, hv⟩ | ⟨zn, hy, hv⟩
    · have ef : agF (σ 2) (fD σ1 0) := fun i hi => by
        show σ 2 i = σ1 31 (0 + i)
        rw [c 31 (by omega), Nat.zero_add]
        exact p1 i hi
      have et : trD σ1 0 = sp_trap (σ 3) := funext fun a => (trD_0 σ1 a).trans (tr_0 p3 a).symm
      have ew : ∀ x, msR x → ms_w (σ 8 10) (σ 14) (σ 15) x = ms_wD σ1 x := by
        have e1 : ms_wD σ1 = ms_wD σ := by
          funext x
          unfold ms_wD
          rw [c30, c 37 (by omega), c 40 (by omega), c 41 (by omega)]
        rw [e1]
        intro x hx
        rcases a5 with ⟨y1, y2⟩ | ⟨y1, n, n1, n96, b1, b2, -, b4, b5⟩
        · exact lk_w0 y1 y2 x
        · exact lk_w n96 n1 (by rw [y1]; decide) b1 b2 a1 a2 b4 b5 x hx
      have e9 := lk_run (at_ag ef) q1 q2 ew (fun x hx => ms_w_R hx) m.toNatClampNeg _ hB
      have eb : sd_base z = 0 := if_pos z0
      have es : sd_w σ1 z = ms_wD σ1 := if_pos z0
      rw [eb, es, et, ← e9] at hrun
      refine ⟨hv.trans hrun.symm, ?_⟩
      have := ms_run_R q1 q2 (fun x hx => ms_w_R (c := σ 8 10) (f := σ 14) (g := σ 15) hx) m.toNatClampNeg _ hB
      rw [← hv] at this
      exact this
    · obtain ⟨y1, y2⟩ := q4 hy
      rcases w2 with w2 | ⟨-, w3, -, w5, -⟩
      · rw [w2] at hy; exact absurd hy (by decide)
      have ef : agF (σ 21) (fD σ1 256) := fun i hi => by
        show σ 21 i = σ1 31 ((256 : Int32).toNatClampNeg + i)
        rw [c 31 (by omega)]
        exact w3 i hi
      have et : trD σ1 256 = sp_trap (σ 22) := funext fun a => by
        rw [w5 a]
        unfold trD
        rw [c 32 (by omega)]
      have e9 := lk_run (w := fun x => x) (w' := fun x => x) (at_ag ef) y1 y2 (fun _ _ => rfl) (fun _ hx => hx) m.toNatClampNeg _ hB
      have eb : sd_base z = 256 := if_neg zn
      have es : sd_w σ1 z = fun x => x := if_neg zn
      rw [eb, es, et, ← e9] at hrun
      refine ⟨hv.trans hrun.symm, ?_⟩
      have := ms_run_R (w := fun x => x) y1 y2 (fun x hx => hx) m.toNatClampNeg _ hB
      rw [← hv] at this
      exact this
  obtain ⟨key, kR⟩ := key
  have kv : v = r := congrArg Prod.fst key
  have kM : mvC σ1 τ1 = mvD σ2 τ2 := congrArg Prod.snd key
  have d : ∀ k, ¬ k = 30 → (k < 43 ∨ 46 < k) → σ2 k = σ1 k := g1
  have dc : ∀ k, ¬ k = 30 → (k < 23 ∨ (29 < k ∧ k < 43)) → σ2 k = σ k := fun k x y => (d k x (by omega)).trans (c k (by omega))
  have d30 : ∀ j, ¬ j = 0 → (j < 22 ∨ 26 < j) → σ2 30 j = σ 30 j := fun j x y => (g2 j x y).trans (congrFun c30 j)
  have eC : mvC σ2 τ2 = mvC σ1 τ1 := by
    unfold mvC
    rw [d 25 (by omega) (by omega), d 26 (by omega) (by omega), d 27 (by omega) (by omega), d 28 (by omega) (by omega), d 23 (by omega) (by omega), g3 29 (by omega), h29]
  refine ⟨⟨?_, ?_, ?_, ?_, ?_, by rw [eC]; exact kM, by rw [eC]; exact kR⟩, e0, kv, g3 48 (by omega)⟩
  · unfold rlP
    rw [dc 2 (by omega) (by omega), dc 31 (by omega) (by omega), dc 3 (by omega) (by omega)]
    exact ⟨p1, p2, p3⟩
  · unfold rlT anD
    rw [dc 4 (by omega) (by omega), dc 5 (by omega) (by omega), dc 6 (by omega) (by omega), dc 33 (by omega) (by omega), dc 34 (by omega) (by omega), d30 3 (by omega) (by omega)]
    exact ⟨t0, t1, t2⟩
  · rw [dc 35 (by omega) (by omega), dc 7 (by omega) (by omega)]
    exact hS
  · unfold rlA rlB
    rw [dc 40 (by omega) (by omega), dc 41 (by omega) (by omega), dc 42 (by omega) (by omega), dc 15 (by omega) (by omega), dc 16 (by omega) (by omega), dc 17 (by omega) (by omega), d30 15 (by omega) (by omega), d30 7 (by omega) (by omega), dc 8 (by omega) (by omega), dc 2 (by omega) (by omega), dc 14 (by omega) (by omega), dc 37 (by omega) (by omega)]
    exact ⟨a1, a2, a3, a4, a5⟩
  · have e22 : trD σ2 256 = trD σ 256 := by
      unfold trD
      rw [dc 32 (by omega) (by omega)]
    unfold rlW
    rw [e22, d30 8 (by omega) (by omega), dc 18 (by omega) (by omega), dc 21 (by omega) (by omega), dc 31 (by omega) (by omega), dc 22 (by omega) (by omega)]
    exact ⟨w1, w2⟩
theorem rl_run_x {σ σ1 σ2 : ev_M} {τ τ1 τ2 : ev_L} {z m r : Int32} {k : Nat} (h : Rl σ τ) (hb : px_B_run [.ref 0, .int z, .int m] σ τ k σ1 τ1) (hd : post_D_run [.ref 30, .int z, .int m] σ1 τ1 r σ2 τ2) : Rl σ2 τ2 ∧ ((k = 1 ∧ σ2 30 0 = 1) ∨ (k = 2 ∧ σ2 30 0 = 2)) := by
  obtain ⟨hk, e1, e2⟩ := hb
  subst e1 e2
  obtain ⟨-, -, -, -, ⟨w1, w2⟩, -⟩ := id h
  rcases hk with ⟨e0, hno⟩ | ⟨e0, hy, n0, n1⟩
  · subst e0
    rcases hd with ⟨-, -, e4, e3⟩ | ⟨hy, -⟩ | ⟨hy, -⟩
    · subst e4 e3
      exact ⟨Rl_0 h 1, Or.inl ⟨rfl, rfl⟩⟩
    · exact absurd hy hno
    · exact absurd hy hno
  · subst e0
    have hs : σ1 18 3 = 0 := by
      rcases w2 with w | ⟨w, -⟩
      · exact w
      · exact absurd w n1
    rcases hd with ⟨hno, -⟩ | ⟨-, -, -, -, e4, e3⟩ | ⟨-, hz, -⟩
    · exact absurd hy hno
    · subst e4 e3
      exact ⟨Rl_0 h 2, Or.inr ⟨rfl, rfl⟩⟩
    · rcases hz with hz | hz
      · exact absurd hz n0
      · exact absurd (w1.trans hs) hz
