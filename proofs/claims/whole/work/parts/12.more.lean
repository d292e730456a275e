/-! more instructions: lengths, exclusive or, System.arraycopy of ints -/
section EVM
variable {l : Launch} {R : Room} {LY : List ev_D} {cl : List vw_C} {Ts : List Cond} {cc : ByteArray} {nL : Nat} {own : String} {J : ev_K} {pc : Nat}
def tt_ixor (nx : Nat) : ev_T := fun lv st σ τ n K => match st with
  | .int y :: .int x :: r => K nx lv (.int (x ^^^ y) :: r) σ τ n
  | _ => False
theorem qq_ixor (X : ev_X l R LY cl Ts cc nL own J) (d : decode cc pc = .ok (.ixor, 1)) : ev_ok J pc (tt_ixor (pc + 1)) := by
  obtain ⟨p, e, s, m, args, below, meth, c, Q, D, K3, ad, A, b0, b1, rfl, hx, hb, hml, hown, hts, hK, hD, hA, hc0, hc1⟩ := X
  intro lv st σ τ n K h hK2 H locs ls hP hS hL
  unfold tt_ixor at h
  split at h
  · refine lv_ixor hx hb d ?_
    exact hK2 _ _ _ _ _ _ h H locs ls hP hS hL
  · exact h.elim
def tt_alen (LY : List ev_D) (nx : Nat) : ev_T := fun lv st σ τ n K => match st with
  | .ref k :: r => ev_ly LY k (fun d => match d with
    | (0, z, _) => K nx lv (.int (Int32.ofNat z) :: r) σ τ n
    | (1, z, _) => K nx lv (.int (Int32.ofNat z) :: r) σ τ n
    | (2, z, _) => K nx lv (.int (Int32.ofNat z) :: r) σ τ n
    | _ => False)
  | _ => False
theorem qq_alen (X : ev_X l R LY cl Ts cc nL own J) (d : decode cc pc = .ok (.arraylength, 1)) : ev_ok J pc (tt_alen LY (pc + 1)) := by
  obtain ⟨p, e, s, m, args, below, meth, c, Q, D, K3, ad, A, b0, b1, rfl, hx, hb, hml, hown, hts, hK, hD, hA, hc0, hc1⟩ := X
  intro lv st σ τ n K h hK2 H locs ls hP hS hL
  unfold tt_alen at h
  split at h
  · rename_i k r
    obtain ⟨dd, h1, h2⟩ := ev_ly_k h
    split at h2
    · refine va_alen hx hb hK hP k 0 (by rw [ev_lay_get, h1]; rfl) rfl rfl d ?_
      exact hK2 _ _ _ _ _ _ h2 H locs ls hP hS hL
    · refine va_alen hx hb hK hP k 1 (by rw [ev_lay_get, h1]; rfl) rfl rfl d ?_
      exact hK2 _ _ _ _ _ _ h2 H locs ls hP hS hL
    · refine va_alen hx hb hK hP k 2 (by rw [ev_lay_get, h1]; rfl) rfl rfl d ?_
      exact hK2 _ _ _ _ _ _ h2 H locs ls hP hS hL
    · exact h2.elim
  · exact h.elim
def tt_cpy (LY : List ev_D) (nx : Nat) : ev_T := fun lv st σ τ n K => match st with
  | .int z :: .int dp :: .ref b :: .int sp :: .ref a :: r => ev_ly LY a (fun d => ev_ly LY b (fun d' => match d, d' with
    | (0, n0, _), (0, n1, _) => ev_rm r ((¬ sp < 0 ∧ ¬ dp < 0 ∧ ¬ z < 0 ∧ sp.toNatClampNeg + z.toNatClampNeg ≤ n0 ∧ dp.toNatClampNeg + z.toNatClampNeg ≤ n1) ∧ K nx lv r (ev_p σ b (va_cpy (σ a) (σ b) sp.toNatClampNeg dp.toNatClampNeg z.toNatClampNeg)) τ n)
    | _, _ => False))
  | _ => False
theorem qq_cpy (X : ev_X l R LY cl Ts cc nL own J) {index : Nat} (h1 : Cond.methodLink own index arraycopyName ∈ Ts) (h2 : Cond.native arraycopyName ∈ Ts) (h3 : Cond.static arraycopyName ∈ Ts) (h4 : Cond.initialized "java/lang/System" ∈ Ts) (hf : 1 ≤ R.frames) (hl : 26 ≤ R.locals) (d : decode cc pc = .ok (.invokestatic index, 3)) : ev_ok J pc (tt_cpy LY (pc + 3)) := by
  obtain ⟨p, e, s, m, args, below, meth, c, Q, D, K3, ad, A, b0, b1, rfl, hx, hb, hml, hown, hts, hK, hD, hA, hc0, hc1⟩ := X
  intro lv st σ τ n K h hK2 H locs ls hP hS hL
  unfold tt_cpy at h
  split at h
  · rename_i z dp b sp a r
    obtain ⟨da, g1, h⟩ := ev_ly_k h
    obtain ⟨db, g2, h⟩ := ev_ly_k h
    split at h
    · obtain ⟨hr, ⟨c1, c2, c3, c4, c5⟩, h⟩ := ev_rm_k h
      refine va_copyi hx hb (hml.trans hL.1.symm) hown (hts _ h1) (hts _ h2) (hts _ h3) (hts _ h4) hK hP (hD σ τ) hS a b 0 0 (a0 := ad a) (a := ad b) (c0 := K3.1) (c1 := K3.1) (f := σ a) (g := σ b) (ty := .int) (by rw [ev_lay_get, g1]; rfl) (by rw [ev_lay_get, g2]; rfl) rfl rfl rfl c1 c2 c3 c4 c5 (fun _ _ => rfl) hf (by rw [ev_cats, show nativeFrameWords "java/lang/System" "arraycopy" 5 = 7 from by decide]; omega) d (fun H1 locs1 hP1 _ hS1 => ?_)
      have hP2 : va_P D cl (ev_lay LY K3 ad (ev_p σ b (va_cpy (σ a) (σ b) sp.toNatClampNeg dp.toNatClampNeg z.toNatClampNeg)) τ) H1 := by
        have := ev_lay_set (K3 := K3) (ad := ad) (σ := σ) (τ := τ) (va_cpy (σ a) (σ b) sp.toNatClampNeg dp.toNatClampNeg z.toNatClampNeg) (τ b) g2
        rw [ev_p_same τ b] at this
        rw [← this]
        exact hP1
      exact hK2 _ _ _ _ _ _ h H1 locs1 ls hP2 hS1 hL
    · exact h.elim
  · exact h.elim
end EVM
