/-! links: what a rewriting leaves lies in its ranges -/
theorem and255_R (v : Int32) : 0 ≤ (v &&& 255).toInt ∧ (v &&& 255).toInt < 256 := by
  obtain ⟨j, hj, e⟩ := pk_andE v (m := 255) 8 rfl
  have h8 : (2 : Nat) ^ 8 = 256 := rfl
  rw [e, nI_toInt (by omega)]
  omega
theorem by_upd {g : Nat → Int32} (h : byF g) (i : Nat) (v : Int32) : byF (upd g i (v &&& 255)) := by
  intro j hj
  unfold upd
  split
  · exact and255_R v
  · exact h j hj
def rwB (x : rws) : Prop := byF x.1
theorem rwB_app {v : Int32} {x : rws} (h : rwB x) : rwB (rw_app v x) := by
  obtain ⟨g, T, e⟩ := x
  show byF (if 0 ≤ e ∧ e < 256 then upd g e.toNatClampNeg (v &&& 255) else g)
  split
  · exact by_upd h _ _
  · exact h
theorem rwB_put {a v : Int32} {x : rws} (h : rwB x) : rwB (rw_put a v x) := by
  obtain ⟨g, T, e⟩ := x
  show byF (if 0 ≤ a ∧ a < 256 then upd g a.toNatClampNeg (v &&& 255) else g)
  split
  · exact by_upd h _ _
  · exact h
theorem rwB_trap {a v : Int32} {x : rws} (h : rwB x) : rwB (rw_trap a v x) := by
  obtain ⟨g, T, e⟩ := x
  exact h
theorem rwB_jump {t : Int32} {x : rws} (h : rwB x) : rwB (rw_jump t x) := rwB_app (rwB_app h)
theorem rwB_copy {op n m k : Int32} {x : rws} (h : rwB x) : rwB (rw_copy op n m k x) := by
  unfold rw_copy
  have h1 : rwB (if 1 < k then rw_app n (rw_app op x) else rw_app op x) := by
    split
    · exact rwB_app (rwB_app h)
    · exact rwB_app h
  split
  · exact rwB_app h1
  · exact h1
theorem rwB_ins {kd op n m bh bt : Int32} {x : rws} (h : rwB x) : rwB (rw_ins kd op n m bh bt x) := by
  unfold rw_ins
  split
  · exact rwB_jump (rwB_jump (rwB_app (rwB_app h)))
  · split
    · exact rwB_jump h
    · split
      · exact rwB_app (rwB_app (rwB_app h))
      · exact rwB_copy h
theorem rwB_end {f : Nat → Int32} {a : Int32} {x : rws} (h : rwB x) : rwB (rw_end f a x) := by
  unfold rw_end
  split
  · exact h
  · exact rwB_jump h
theorem rwB_first {f : Nat → Int32} {a d : Int32} {x : rws} (h : rwB x) : rwB (rw_first f a d x) := by
  unfold rw_first
  split
  · exact rwB_end (rwB_ins (rwB_ins h))
  · exact rwB_end (rwB_ins h)
theorem rwB_hook {a s t : Int32} {x : rws} (h : rwB x) : rwB (rw_hook a s t x) := by
  unfold rw_hook
  split
  · exact rwB_trap (rwB_put h)
  · exact rwB_put (rwB_put h)
theorem rwB_all {f hd b : Nat → Int32} (hf : byF f) : ∀ n, rwB (rw_all f hd b n)
  | 0 => by
    intro i hi
    show 0 ≤ (cutF f i).toInt ∧ (cutF f i).toInt < 256
    unfold cutF
    rw [if_pos hi]
    exact hf i hi
  | n + 1 => rwB_hook (rwB_first (rwB_app (rwB_app (rwB_all hf n))))
/-! the traps -/
theorem rwK_app (v : Int32) (x : rws) : (rw_app v x).2.1 = x.2.1 := rfl
theorem rwK_put (a v : Int32) (x : rws) : (rw_put a v x).2.1 = x.2.1 := rfl
theorem rwK_jump (t : Int32) (x : rws) : (rw_jump t x).2.1 = x.2.1 := rfl
theorem rwK_copy (op n m k : Int32) (x : rws) : (rw_copy op n m k x).2.1 = x.2.1 := by
  unfold rw_copy
  repeat' split
  all_goals rfl
theorem rwK_ins (kd op n m bh bt : Int32) (x : rws) : (rw_ins kd op n m bh bt x).2.1 = x.2.1 := by
  unfold rw_ins
  split
  · rfl
  · split
    · rfl
    · split
      · rfl
      · exact rwK_copy _ _ _ _ _
theorem rwK_end (f : Nat → Int32) (a : Int32) (x : rws) : (rw_end f a x).2.1 = x.2.1 := by
  unfold rw_end
  split <;> rfl
theorem rwK_first (f : Nat → Int32) (a d : Int32) (x : rws) : (rw_first f a d x).2.1 = x.2.1 := by
  unfold rw_first
  split
  · rw [rwK_end]
    unfold rw_at
    rw [rwK_ins, rwK_ins]
  · rw [rwK_end]
    unfold rw_at
    rw [rwK_ins]
def rwT (x : rws) : Prop := ∀ i : Nat, x.2.1 i = -1 ∨ (96 ≤ (x.2.1 i).toInt ∧ (x.2.1 i).toInt ≤ x.2.2.toInt)
theorem rwK_hook {a s t : Int32} {x : rws} (i : Nat) : (rw_hook a s t x).2.1 i = x.2.1 i ∨ (rw_hook a s t x).2.1 i = t := by
  obtain ⟨g, T, e⟩ := x
  unfold rw_hook
  split
  · show (if 0 ≤ a ∧ a < 96 then upd T a.toNatClampNeg t else T) i = T i ∨ (if 0 ≤ a ∧ a < 96 then upd T a.toNatClampNeg t else T) i = t
    split
    · unfold upd
      split
      · exact Or.inr rfl
      · exact Or.inl rfl
    · exact Or.inl rfl
  · exact Or.inl rfl
theorem rwT_all (f hd b : Nat → Int32) : ∀ n, n ≤ 96 → rwT (rw_all f hd b n)
  | 0, _ => fun i => Or.inl rfl
  | n + 1, hn => by
    have ih := rwT_all f hd b n (by omega)
    obtain ⟨h1, h2⟩ := rw_free f hd b (k := n) (by omega)
    obtain ⟨d, hd1, hd2⟩ := rw_e_blk f (nI n) (hd n) (b n) (rw_all f hd b n)
    have he : (rw_all f hd b (n + 1)).2.2.toInt = (rw_all f hd b n).2.2.toInt + d := by
      show (rw_blk f (nI n) (hd n) (b n) (rw_all f hd b n)).2.2.toInt = _
      rw [hd2, i_add (by omega) (by omega) (by rw [nI_toInt (by omega)]; omega) (by rw [nI_toInt (by omega)]; omega), nI_toInt (by omega)]
    intro i
    have hk : (rw_all f hd b (n + 1)).2.1 i = (rw_all f hd b n).2.1 i ∨ (rw_all f hd b (n + 1)).2.1 i = (rw_all f hd b n).2.2 := by
      have := rwK_hook (a := hd n) (s := b n) (t := (rw_all f hd b n).2.2) (x := rw_first f (hd n) (if 2 < b n then 2 else b n) (rw_app (nI n) (rw_app 76 (rw_all f hd b n)))) i
      rw [rwK_first] at this
      exact this
    rcases hk with q | q
    · rw [q]
      rcases ih i with z | z
      · exact Or.inl z
      · exact Or.inr (by omega)
    · rw [q]
      exact Or.inr (by omega)
theorem tr_nt (g : Nat → Int32) (a : Int32) : sp_trap g a = if 0 ≤ a ∧ a < 96 then ntC g a.toNatClampNeg else -1 := by
  unfold sp_trap ntC
  by_cases hc : 0 ≤ a ∧ a < 96
  · have h1 := i_clt hc.1 hc.2
    have h2 : (96 : Int32).toInt = 96 := rfl
    have hlt : a.toNatClampNeg < 96 := by omega
    rw [if_pos hc, if_pos hlt]
    by_cases hz : g a.toNatClampNeg = 0
    · rw [if_pos hz, if_neg (fun q => q.2 hz)]
    · rw [if_neg hz, if_pos ⟨hc, hz⟩]
  · rw [if_neg hc, if_neg (fun q => hc q.1)]
theorem tr_D (σ : ev_M) (a : Int32) : trD σ 256 a = if 0 ≤ a ∧ a < 96 then ntD (σ 32) a.toNatClampNeg else -1 := by
  unfold trD ntD
  by_cases hc : 0 ≤ a ∧ a < 96
  · have h1 := i_clt hc.1 hc.2
    have h2 : (96 : Int32).toInt = 96 := rfl
    have hlt : a.toNatClampNeg < 96 := by omega
    rw [if_pos hc, if_pos hlt, if_pos ⟨by decide, hc⟩]
  · rw [if_neg hc, if_neg (fun q => hc q.2)]
theorem tr_0 {g : Nat → Int32} (h : ∀ i, i < 96 → g i = 0) (a : Int32) : sp_trap g a = -1 := by
  unfold sp_trap
  refine if_neg (fun q => ?_)
  have h1 := i_clt q.1.1 q.1.2
  have h2 : (96 : Int32).toInt = 96 := rfl
  exact q.2 (h _ (by omega))
theorem trD_0 (σ : ev_M) (a : Int32) : trD σ 0 a = -1 := if_neg (fun q => absurd q.1 (by decide))
theorem trF_m : trF (fun _ => -1) := fun _ => Or.inl rfl
/-! a head is counted alike -/
/-- blocks that lie one behind another, heads as marked -/
def blkO (H h b : Nat → Int32) (n : Nat) : Prop := ∀ j, j < 96 → ((¬ H j = 0 → ∃ k, k < n ∧ h k = nI j ∧ sd_last h b (nI j) n = nI k) ∧ (H j = 0 → ∀ k, k < n → ¬ h k = nI j))
theorem blkO_of {f H g g' : Nat → Int32} {Dc : Int32 → Int32 → Prop} (hac : anAc f Dc) (hH : ∀ x, x < 96 → (H x = 0 ↔ ¬ anH f x)) : blkO H (bkH H g 96) (bkB f H g' 96) (bkN H 96) := by
  intro j hj
  refine ⟨fun hz => ?_, fun hz k hk e => ?_⟩
  · have hlt := bkN_lt hz hj
    obtain ⟨x, h1, h2, h3, h4, h5⟩ := bk_at f H g g' 96 (bkN H j) hlt
    have hxj : x = j := bkN_inj h2 hz h3
    subst hxj
    have hr : anR f x := anH_R h1 (Classical.byContradiction fun q => hz ((hH x h1).mpr q))
    obtain ⟨-, r1, r2⟩ := vb_blk (H := H) hac h1 hr
    have hxi : (nI x).toInt = x := nI_toInt (by omega)
    have hwi : (nI ((wk f H 96 x 0).1 - x)).toInt = (((wk f H 96 x 0).1 - x : Nat) : Int) := nI_toInt (by omega)
    refine ⟨bkN H x, hlt, h4, sd_last_k ?_ _ hlt (fun k hk hk2 => ?_)⟩
    · rw [h4, h5, Int32.le_iff_toInt_le, Int32.lt_iff_toInt_lt, i_add (by omega) (by omega) (by omega) (by omega)]
      omega
    · obtain ⟨y, y1, y2, y3, y4, -⟩ := bk_at f H g g' 96 k hk2
      have hxy : x < y := by
        rcases Nat.lt_trichotomy x y with q | q | q
        · exact q
        · subst q; omega
        · have := bkN_lt y2 q; omega
      rw [y4, Int32.le_iff_toInt_le, hxi, nI_toInt (by omega)]
      omega
  · obtain ⟨x, h1, h2, h3, h4, -⟩ := bk_at f H g g' 96 k hk
    rw [h4] at e
    have := nI_inj h1 hj e
    subst this
    exact h2 hz
theorem lk_w {σ : ev_M} {n : Nat} (hn : n ≤ 96) (h1 : 1 ≤ n) (ha : ¬ σ 30 7 = 0) (e10 : σ 8 10 = nI n) (e15 : σ 30 15 = nI n) (e40 : σ 40 = σ 15) (e41 : σ 41 = σ 16) (h14 : ∀ j, j < 96 → σ 14 j = sd_last (σ 15) (σ 16) (nI j) n) (hO : blkO (σ 37) (σ 15) (σ 16) n) (x : mst) (hx : msR x) : ms_w (σ 8 10) (σ 14) (σ 15) x = ms_wD σ x := by
  have hpc : 0 ≤ (ms_pc x).toInt ∧ (ms_pc x).toInt ≤ 256 := by
    obtain ⟨r, c, s, o, t, pc, h, sh, dn⟩ := x
    exact hx.1
  have hcl : (σ 30 15).toNatClampNeg = n := by rw [e15]; exact nI_clamp (by omega)
  have h96 : (96 : Int32).toInt = 96 := rfl
  have h0 : (0 : Int32).toInt = 0 := rfl
  unfold ms_w ms_wD
  rw [hcl, e40, e41]
  generalize ms_pc x = a at *
  by_cases hlt : a < 96
  · have hlt2 := Int32.lt_iff_toInt_lt.mp hlt
    obtain ⟨j, hj, rfl⟩ := nI_of (x := a) (by rw [Int32.lt_iff_toInt_lt]; omega)
    have hji : (nI j).toInt = j := nI_toInt (by omega)
    have hj96 : j < 96 := by omega
    have hcj : (nI j).toNatClampNeg = j := nI_clamp (by omega)
    have hnum : sp_num (σ 8 10) (σ 14) (nI j) = sd_last (σ 15) (σ 16) (nI j) n := by
      unfold sp_num
      rw [if_pos ⟨by rw [e10, Int32.lt_iff_toInt_lt, nI_toInt (by omega)]; omega, by rw [Int32.le_iff_toInt_le]; omega, hlt⟩, hcj, h14 j hj96]
    have idx : ∀ k, k < n → sp_idx (σ 8 10) (σ 15) (nI k) = σ 15 k := by
      intro k hk
      unfold sp_idx
      rw [if_pos ⟨by rw [Int32.le_iff_toInt_le, nI_toInt (by omega)]; omega, by rw [e10, Int32.lt_iff_toInt_lt, nI_toInt (by omega), nI_toInt (by omega)]; omega⟩, nI_clamp (by omega)]
    have nm1 : ∀ k, k < n → ¬ nI k = -1 := by
      intro k hk q
      have := congrArg Int32.toInt q
      rw [nI_toInt (by omega)] at this
      have h9 : (-1 : Int32).toInt = -1 := rfl
      omega
    rw [hcj]
    by_cases hz : σ 37 j = 0
    · have hno := (hO j hj96).2 hz
      have e : sp_nhd (σ 8 10) (σ 14) (σ 15) (nI j) = -1 := by
        unfold sp_nhd
        refine if_neg (fun q => ?_)
        rw [hnum] at q
        rcases sd_last_v (σ 15) (σ 16) (nI j) n with z | ⟨k, k1, k2, -⟩
        · exact q.1 z
        · rw [k2, idx k k1] at q
          exact hno k k1 q.2
      rw [if_pos e, if_neg (fun q => q.2.2 hz)]
    · obtain ⟨k, k1, k2, k3⟩ := (hO j hj96).1 hz
      have e : sp_nhd (σ 8 10) (σ 14) (σ 15) (nI j) = nI k := by
        unfold sp_nhd
        rw [hnum, k3, idx k k1]
        exact if_pos ⟨nm1 k k1, k2⟩
      rw [e, if_neg (nm1 k k1), if_pos ⟨ha, hlt, hz⟩, k3]
  · have e : sp_nhd (σ 8 10) (σ 14) (σ 15) a = -1 := by
      unfold sp_nhd
      refine if_neg (fun q => q.1 ?_)
      unfold sp_num
      exact if_neg (fun z => hlt z.2.2)
    rw [if_pos e, if_neg (fun q => hlt q.2.1)]
theorem lk_w0 {σ : ev_M} (ha : σ 30 7 = 0) (e10 : σ 8 10 = 0) (x : mst) : ms_w (σ 8 10) (σ 14) (σ 15) x = ms_wD σ x := by
  have e : sp_nhd (σ 8 10) (σ 14) (σ 15) (ms_pc x) = -1 := by
    unfold sp_nhd
    refine if_neg (fun q => q.1 ?_)
    unfold sp_num
    exact if_neg (fun z => absurd z.1 (by rw [e10]; decide))
  unfold ms_w ms_wD
  rw [if_pos e, if_neg (fun q => q.1 ha)]
