/-! the class's cells and the reference's: what holds between two calls -/
def rlP (σ : ev_M) : Prop := agF (σ 2) (σ 31) ∧ byF (σ 2) ∧ ∀ i, i < 96 → σ 3 i = 0
def rlT (σ : ev_M) : Prop := anD σ ∧ σ 30 3 = σ 4 2 ∧ ∀ i, i < (σ 4 2).toNatClampNeg → σ 33 i = σ 5 i ∧ σ 34 i = σ 6 i
def rlB (σ : ev_M) : Prop := ∃ n : Nat, 1 ≤ n ∧ n ≤ 96 ∧ σ 8 10 = nI n ∧ σ 30 15 = nI n ∧ (∀ k, k < n → vbD (σ 2) (σ 15 k) (σ 16 k) ∧ (σ 15 k).toInt + (σ 16 k).toInt ≤ 96) ∧ (∀ j, j < 96 → σ 14 j = sd_last (σ 15) (σ 16) (nI j) n) ∧ blkO (σ 37) (σ 15) (σ 16) n
def rlA (σ : ev_M) : Prop := σ 40 = σ 15 ∧ σ 41 = σ 16 ∧ σ 42 = σ 17 ∧ (∃ m : Nat, m ≤ 96 ∧ σ 30 15 = nI m) ∧ ((σ 30 7 = 0 ∧ σ 8 10 = 0) ∨ (σ 30 7 = 1 ∧ rlB σ))
def rlW (σ : ev_M) : Prop := σ 30 8 = σ 18 3 ∧ (σ 18 3 = 0 ∨ (σ 18 3 = 1 ∧ agF (σ 21) (fun i => σ 31 (256 + i)) ∧ byF (σ 21) ∧ (∀ a, sp_trap (σ 22) a = trD σ 256 a) ∧ trF (sp_trap (σ 22))))
def rlM (σ : ev_M) (τ : ev_L) : Prop := mvC σ τ = mvD σ τ ∧ msR (mvC σ τ)
def Rl (σ : ev_M) (τ : ev_L) : Prop := rlP σ ∧ rlT σ ∧ σ 35 = σ 7 ∧ rlA σ ∧ rlW σ ∧ rlM σ τ
theorem Rl_0 {σ : ev_M} {τ : ev_L} (h : Rl σ τ) (x : Int32) : Rl (ev_u σ 30 0 x) τ := h
theorem Rl_t {σ : ev_M} {τ τ' : ev_L} (h : Rl σ τ) (h1 : τ' 29 = τ 29) (h2 : τ' 47 = τ 47) : Rl σ τ' := by
  obtain ⟨a, b, c, d, e, f, g⟩ := h
  refine ⟨a, b, c, d, e, ?_, ?_⟩
  · unfold mvC mvD at *
    rw [h1, h2]
    exact f
  · unfold mvC at *
    rw [h1]
    exact g
theorem rl_cap {σ : ev_M} {τ : ev_L} (h : Rl σ τ) : (σ 8 10).toInt ≤ 96 ∧ ∃ n : Nat, σ 8 10 = nI n ∧ n ≤ 96 ∧ ∀ k, k < n → vbC (σ 2) (σ 15 k) (σ 16 k) := by
  obtain ⟨-, -, -, ⟨-, -, -, -, q⟩, -, -⟩ := h
  rcases q with ⟨-, q⟩ | ⟨-, n, h1, h2, h3, -, h5, -⟩
  · rw [q]
    exact ⟨by decide, 0, rfl, by omega, fun k hk => by omega⟩
  · rw [h3]
    exact ⟨by rw [nI_toInt (by omega)]; omega, n, rfl, h2, fun k hk => (h5 k hk).1.1⟩
theorem i_lt256 {a : Int32} (h : a < 96) : a < 256 := by
  rw [Int32.lt_iff_toInt_lt] at h ⊢
  have h1 : (96 : Int32).toInt = 96 := rfl
  have h2 : (256 : Int32).toInt = 256 := rfl
  omega
/-! poke, declare, data -/
theorem rl_poke {σ σ1 σ2 : ev_M} {τ τ1 τ2 : ev_L} {a v : Int32} (h : Rl σ τ) (hb : post_B_poke [.ref 0, .int a, .int v] σ τ () σ1 τ1) (hd : post_D_poke [.ref 30, .int a, .int v] σ1 τ1 () σ2 τ2) : Rl σ2 τ2 ∧ σ2 30 0 = 0 := by
  obtain ⟨ha, e1, e2⟩ := hb
  subst e1 e2
  obtain ⟨e3, hd⟩ := hd
  subst e3
  rcases hd with ⟨hno, -⟩ | ⟨-, e4⟩
  · exact absurd ha hno
  · obtain ⟨⟨p1, p2, p3⟩, hT, hS, ⟨a1, a2, a3, a4, a5⟩, -, hM⟩ := h
    have e : sp_put σ 2 a v = ev_u σ 2 a.toNatClampNeg (v &&& 255) := if_pos ⟨ha.1, i_lt256 ha.2⟩
    rw [e] at e4
    subst e4
    refine ⟨⟨⟨fun i hi => ?_, by_upd p2 _ _, p3⟩, hT, hS, ⟨a1, a2, a3, a4, Or.inl ⟨rfl, rfl⟩⟩, ⟨rfl, Or.inl rfl⟩, hM⟩, rfl⟩
    show upd (σ 2) a.toNatClampNeg (v &&& 255) i = upd (σ 31) a.toNatClampNeg (v &&& 255) i
    unfold upd
    split
    · rfl
    · exact p1 i hi
theorem rl_poke_x {σ σ1 σ2 : ev_M} {τ τ1 τ2 : ev_L} {a v : Int32} {k : Nat} (h : Rl σ τ) (hb : px_B_poke [.ref 0, .int a, .int v] σ τ k σ1 τ1) (hd : post_D_poke [.ref 30, .int a, .int v] σ1 τ1 () σ2 τ2) : Rl σ2 τ2 ∧ k = 0 ∧ σ2 30 0 = 1 := by
  obtain ⟨e0, ha, e1, e2⟩ := hb
  subst e0 e1 e2
  obtain ⟨e3, hd⟩ := hd
  subst e3
  rcases hd with ⟨-, e4⟩ | ⟨hy, -⟩
  · subst e4
    exact ⟨Rl_0 h 1, rfl, rfl⟩
  · exact absurd hy ha
theorem okT_nat {b c : Int32} (h : sd_okT b c) : ∃ i m : Nat, b = nI i ∧ c = nI m ∧ 1 ≤ m ∧ i + m ≤ 96 := by
  obtain ⟨h1, h2, h3, h4⟩ := h
  rw [Int32.le_iff_toInt_le] at h1 h2 h3 h4
  have e0 : (0 : Int32).toInt = 0 := rfl
  have e1 : (1 : Int32).toInt = 1 := rfl
  have e96 : (96 : Int32).toInt = 96 := rfl
  rw [i_sub (by decide) (by decide) (by omega) (by omega)] at h4
  obtain ⟨i, hi, rfl⟩ := nI_of (x := b) (by rw [Int32.lt_iff_toInt_lt]; omega)
  obtain ⟨m, hm, rfl⟩ := nI_of (x := c) (by rw [Int32.lt_iff_toInt_lt]; omega)
  rw [nI_toInt hi] at h3 h4
  rw [nI_toInt hm] at h1 h2 h4
  exact ⟨i, m, rfl, rfl, by omega, by omega⟩
theorem rl_declare {σ σ1 σ2 : ev_M} {τ τ1 τo τ2 : ev_L} {b c v r : Int32} (h : Rl σ τ) (hb : post_B_declare [.ref 0, .int b, .int c] σ τ v σ1 τ1) (h29 : τo 29 = τ1 29) (h47 : τo 47 = τ1 47) (hd : post_D_declare [.ref 30, .int b, .int c] σ1 τo r σ2 τ2) : Rl σ2 τ2 ∧ σ2 30 0 = 0 ∧ v = r ∧ τ2 = τo := by
  obtain ⟨hok, hf, ev, e1, e2⟩ := hb
  subst ev e1 e2
  obtain ⟨e3, hd⟩ := hd
  subst e3
  have h' := Rl_t h h29 h47
  clear h
  obtain ⟨hP, ⟨⟨n, n4, en, tn⟩, t1, t2⟩, hS, ⟨a1, a2, a3, a4, a5⟩, -, hM⟩ := h'
  have hn : n < 4 := Nat.not_le.mp fun q => hf (by rw [en, Int32.le_iff_toInt_le, nI_toInt (by omega)]; have : (4 : Int32).toInt = 4 := rfl; omega)
  have hc4 : (σ 4 2).toNatClampNeg = n := by rw [en]; exact nI_clamp (by omega)
  have hc3 : (σ 30 3).toNatClampNeg = n := by rw [t1]; exact hc4
  rcases hd with ⟨hno, -⟩ | ⟨-, h4, -⟩ | ⟨-, -, er, e4⟩
  · exact absurd hok hno
  · have h4' : σ 30 3 = 4 := h4
    exact absurd (by rw [← t1, h4']; decide) hf
  · obtain ⟨i, m, eb, ec, m1, im⟩ := okT_nat hok
    subst e4 er
    refine ⟨⟨hP, ⟨⟨n + 1, by omega, ?_, fun j hj => ?_⟩, ?_, fun j hj => ?_⟩, hS, ⟨a1, a2, a3, a4, Or.inl ⟨rfl, rfl⟩⟩, ⟨rfl, Or.inl rfl⟩, hM⟩, rfl, ?_, rfl⟩
    · show σ 4 2 + 1 = nI (n + 1)
      rw [en, nI_1]
    · show ∃ b' m' : Nat, upd (σ 5) (σ 4 2).toNatClampNeg b j = nI b' ∧ upd (σ 6) (σ 4 2).toNatClampNeg c j = nI m' ∧ 1 ≤ m' ∧ b' + m' ≤ 96
      rw [hc4]
      unfold upd
      by_cases hjn : j = n
      · rw [if_pos hjn, if_pos hjn]
        exact ⟨i, m, eb, ec, m1, im⟩
      · rw [if_neg hjn, if_neg hjn]
        exact tn j (by omega)
    · show σ 30 3 + 1 = σ 4 2 + 1
      rw [t1]
    · have hj' : j < (σ 4 2 + 1).toNatClampNeg := hj
      rw [en, nI_1, nI_clamp (by omega)] at hj'
      show upd (σ 33) (σ 30 3).toNatClampNeg b j = upd (σ 5) (σ 4 2).toNatClampNeg b j ∧ upd (σ 34) (σ 30 3).toNatClampNeg c j = upd (σ 6) (σ 4 2).toNatClampNeg c j
      rw [hc4, hc3]
      unfold upd
      by_cases hjn : j = n
      · rw [if_pos hjn, if_pos hjn, if_pos hjn, if_pos hjn]
        exact ⟨rfl, rfl⟩
      · rw [if_neg hjn, if_neg hjn, if_neg hjn, if_neg hjn]
        exact t2 j (by omega)
    · show σ 4 2 + 1 = σ 30 3 + 1
      rw [t1]
theorem rl_declare_x {σ σ1 σ2 : ev_M} {τ τ1 τ2 : ev_L} {b c r : Int32} {k : Nat} (h : Rl σ τ) (hb : px_B_declare [.ref 0, .int b, .int c] σ τ k σ1 τ1) (hd : post_D_declare [.ref 30, .int b, .int c] σ1 τ1 r σ2 τ2) : Rl σ2 τ2 ∧ (k = 1 ∨ k = 2) ∧ σ2 30 0 = nI k := by
  obtain ⟨hk, e1, e2⟩ := hb
  subst e1 e2
  obtain ⟨e3, hd⟩ := hd
  subst e3
  obtain ⟨-, ⟨⟨n, n4, en, tn⟩, t1, t2⟩, -⟩ := id h
  rcases hk with ⟨e0, hno⟩ | ⟨e0, hok, h4⟩
  · subst e0
    rcases hd with ⟨-, -, e4⟩ | ⟨hok, -⟩ | ⟨hok, -⟩
    · subst e4
      exact ⟨Rl_0 h 1, Or.inl rfl, rfl⟩
    · exact absurd hok hno
    · exact absurd hok hno
  · subst e0
    rcases hd with ⟨hno, -⟩ | ⟨-, -, -, e4⟩ | ⟨-, hn4, -⟩
    · exact absurd hok hno
    · subst e4
      exact ⟨Rl_0 h 2, Or.inr rfl, rfl⟩
    · refine absurd ?_ hn4
      rw [en, Int32.le_iff_toInt_le, nI_toInt (by omega)] at h4
      have h9 : (4 : Int32).toInt = 4 := rfl
      have : n = 4 := by omega
      rw [t1, en, this]
      rfl
theorem rl_data {σ σ1 σ2 : ev_M} {τ τ1 τ2 : ev_L} {a v : Int32} (h : Rl σ τ) (hb : post_B_data [.ref 0, .int a, .int v] σ τ () σ1 τ1) (hd : post_D_data [.ref 30, .int a, .int v] σ1 τ1 () σ2 τ2) : Rl σ2 τ2 ∧ σ2 30 0 = 0 := by
  obtain ⟨ha, e1, e2⟩ := hb
  subst e1 e2
  obtain ⟨e3, hd⟩ := hd
  subst e3
  rcases hd with ⟨hno, -⟩ | ⟨-, e4⟩
  · exact absurd ha hno
  · obtain ⟨hP, hT, hS, hA, hW, hM⟩ := h
    subst e4
    refine ⟨⟨hP, hT, ?_, hA, hW, hM⟩, rfl⟩
    show upd (σ 35) a.toNatClampNeg v = upd (σ 7) a.toNatClampNeg v
    rw [hS]
theorem rl_data_x {σ σ1 σ2 : ev_M} {τ τ1 τ2 : ev_L} {a v : Int32} {k : Nat} (h : Rl σ τ) (hb : px_B_data [.ref 0, .int a, .int v] σ τ k σ1 τ1) (hd : post_D_data [.ref 30, .int a, .int v] σ1 τ1 () σ2 τ2) : Rl σ2 τ2 ∧ k = 0 ∧ σ2 30 0 = 1 := by
  obtain ⟨e0, ha, e1, e2⟩ := hb
  subst e0 e1 e2
  obtain ⟨e3, hd⟩ := hd
  subst e3
  rcases hd with ⟨-, e4⟩ | ⟨hy, -⟩
  · subst e4
    exact ⟨Rl_0 h 1, rfl, rfl⟩
  · exact absurd hy ha
/-! block, blockAt, code, steps, register, cell, output, counter -/
theorem rl_blk_iff {σ : ev_M} {τ : ev_L} (h : Rl σ τ) (k : Int32) : (0 ≤ k ∧ k < σ 8 10) ↔ (σ 30 7 = 1 ∧ 0 ≤ k ∧ k < σ 30 15) := by
  obtain ⟨-, -, -, ⟨-, -, -, -, q⟩, -, -⟩ := h
  rcases q with ⟨q1, q2⟩ | ⟨q1, n, -, -, h3, h4, -⟩
  · rw [q1, q2]
    constructor
    · intro z
      rw [Int32.le_iff_toInt_le, Int32.lt_iff_toInt_lt] at z
      omega
    · intro z
      exact absurd z.1 (by decide)
  · rw [q1, h3, h4]
    exact ⟨fun z => ⟨rfl, z⟩, fun z => z.2⟩
theorem rl_block {σ σ1 σ2 : ev_M} {τ τ1 τo τ2 : ev_L} {k w v r : Int32} (h : Rl σ τ) (hb : post_B_block [.ref 0, .int k, .int w] σ τ v σ1 τ1) (h29 : τo 29 = τ1 29) (h47 : τo 47 = τ1 47) (hd : post_D_block [.ref 30, .int k, .int w] σ1 τo r σ2 τ2) : Rl σ2 τ2 ∧ σ2 30 0 = 0 ∧ v = r ∧ τ2 = τo := by
  obtain ⟨hk, hv, e1, e2⟩ := hb
  subst e1 e2
  obtain ⟨e3, hd⟩ := hd
  subst e3
  have h' := Rl_t h h29 h47
  have hk' := (rl_blk_iff h k).mp hk
  obtain ⟨-, -, -, ⟨a1, a2, a3, -⟩, -⟩ := id h
  rcases hd with ⟨hno, -⟩ | ⟨-, hd⟩
  · exact absurd hk' hno
  · rcases hd with ⟨w0, er, e4⟩ | ⟨w0, er, e4⟩ | ⟨w0, er, e4⟩ | ⟨n0, n1, n2, er, e4⟩
    · subst e4
      refine ⟨Rl_0 h' 0, rfl, ?_, rfl⟩
      rcases hv with ⟨-, hv⟩ | ⟨z, -⟩ | ⟨z, -⟩
      · rw [hv, er, a1]
      · rw [w0] at z; exact absurd z (by decide)
      · rw [w0] at z; exact absurd z (by decide)
    · subst e4
      refine ⟨Rl_0 h' 0, rfl, ?_, rfl⟩
      rcases hv with ⟨z, -⟩ | ⟨-, hv⟩ | ⟨z, -⟩
      · rw [w0] at z; exact absurd z (by decide)
      · rw [hv, er, a2]
      · rw [w0] at z; exact absurd z (by decide)
    · subst e4
      refine ⟨Rl_0 h' 0, rfl, ?_, rfl⟩
      rcases hv with ⟨z, -⟩ | ⟨z, -⟩ | ⟨-, hv⟩
      · rw [w0] at z; exact absurd z (by decide)
      · rw [w0] at z; exact absurd z (by decide)
      · rw [hv, er, a3]
    · rcases hv with ⟨z, -⟩ | ⟨z, -⟩ | ⟨z, -⟩
      · exact absurd z n0
      · exact absurd z n1
      · exact absurd z n2
theorem rl_block_x {σ σ1 σ2 : ev_M} {τ τ1 τ2 : ev_L} {k w r : Int32} {q : Nat} (h : Rl σ τ) (hb : px_B_block [.ref 0, .int k, .int w] σ τ q σ1 τ1) (hd : post_D_block [.ref 30, .int k, .int w] σ1 τ1 r σ2 τ2) : Rl σ2 τ2 ∧ ((q = 0 ∧ σ2 30 0 = 1) ∨ (q = 1 ∧ σ2 30 0 = 2)) := by
  obtain ⟨hk, e1, e2⟩ := hb
  subst e1 e2
  obtain ⟨e3, hd⟩ := hd
  subst e3
  rcases hk with ⟨e0, hno⟩ | ⟨e0, hy, n0, n1, n2⟩
  · subst e0
    rcases hd with ⟨-, -, e4⟩ | ⟨hy, -⟩
    · subst e4
      exact ⟨Rl_0 h 1, Or.inl ⟨rfl, rfl⟩⟩
    · exact absurd ((rl_blk_iff h k).mpr hy) hno
  · subst e0
    rcases hd with ⟨hno, -⟩ | ⟨-, hd⟩
    · exact absurd ((rl_blk_iff h k).mp hy) hno
    · rcases hd with ⟨z, -⟩ | ⟨z, -⟩ | ⟨z, -⟩ | ⟨-, -, -, -, e4⟩
      · exact absurd z n0
      · exact absurd z n1
      · exact absurd z n2
      · subst e4
        exact ⟨Rl_0 h 2, Or.inr ⟨rfl, rfl⟩⟩
theorem rl_blockAt {σ σ1 σ2 : ev_M} {τ τ1 τ2 : ev_L} {a v r : Int32} (h : Rl σ τ) (hb : post_B_blockAt [.ref 0, .int a] σ τ v σ1 τ1) (hd : post_D_blockAt [.ref 30, .int a] σ1 τ1 r σ2 τ2) : Rl σ2 τ2 ∧ v = r := by
  obtain ⟨hv, e1, e2⟩ := hb
  subst e1 e2
  obtain ⟨hr, e4, e3⟩ := hd
  subst e3 e4
  refine ⟨Rl_0 h 0, ?_⟩
  rw [hv, hr]
  obtain ⟨-, -, -, ⟨a1, a2, -, -, q⟩, -⟩ := h
  have h0 : (0 : Int32).toInt = 0 := rfl
  have h96 : (96 : Int32).toInt = 96 := rfl
  rcases q with ⟨q1, q2⟩ | ⟨q1, n, n1, n96, h3, h4, h5, h6, h7⟩
  · rw [if_pos q1]
    unfold sp_num
    exact if_neg (fun z => absurd z.1 (by rw [q2]; decide))
  · rw [if_neg (by rw [q1]; decide), a1, a2, h4, nI_clamp (by omega)]
    unfold sp_num
    by_cases hc : 0 ≤ a ∧ a < 96
    · rw [if_pos ⟨by rw [h3, Int32.lt_iff_toInt_lt, nI_toInt (by omega)]; omega, hc⟩]
      have hc2 := hc
      rw [Int32.le_iff_toInt_le, Int32.lt_iff_toInt_lt] at hc2
      obtain ⟨j, hj, rfl⟩ := nI_of (x := a) (by rw [Int32.lt_iff_toInt_lt]; omega)
      rw [nI_toInt hj] at hc2
      rw [nI_clamp (by omega)]
      exact h6 j (by omega)
    · rw [if_neg (fun z => hc z.2)]
      rcases sd_last_v (σ1 15) (σ1 16) a n with z | ⟨k, k1, -, k3, k4⟩
      · exact z.symm
      · exfalso
        obtain ⟨⟨⟨g1, g2, g3, g4, g5, -⟩, -⟩, hle⟩ := h5 k k1
        rw [Int32.le_iff_toInt_le] at k3
        rw [Int32.lt_iff_toInt_lt, i_add (by omega) (by omega) (by omega) (by omega)] at k4
        exact hc ⟨by rw [Int32.le_iff_toInt_le]; omega, by rw [Int32.lt_iff_toInt_lt]; omega⟩
theorem rl_code {σ σ1 σ2 : ev_M} {τ τ1 τo τ2 : ev_L} {a z v r : Int32} (h : Rl σ τ) (hb : post_B_code [.ref 0, .int a, .int z] σ τ v σ1 τ1) (h29 : τo 29 = τ1 29) (h47 : τo 47 = τ1 47) (hd : post_D_code [.ref 30, .int a, .int z] σ1 τo r σ2 τ2) : Rl σ2 τ2 ∧ σ2 30 0 = 0 ∧ v = r ∧ τ2 = τo := by
  obtain ⟨ha, hv, e1, e2⟩ := hb
  subst e1 e2
  obtain ⟨e3, hd⟩ := hd
  subst e3
  have h' := Rl_t h h29 h47
  obtain ⟨⟨p1, -, -⟩, -, -, -, ⟨w1, w2⟩, -⟩ := id h
  have hci := i_clt ha.1 ha.2
  have h256 : (256 : Int32).toInt = 256 := rfl
  have hlt : a.toNatClampNeg < 256 := by omega
  rcases hd with ⟨hno, -⟩ | ⟨-, ⟨hz, hx, -⟩ | ⟨hz, er, e4⟩ | ⟨hz, hx, er, e4⟩⟩
  · exact absurd ha hno
  · rcases hv with ⟨z0, -⟩ | ⟨-, hy, -⟩
    · exact absurd z0 hz
    · rw [w1, hy] at hx
      exact absurd hx (by decide)
  · subst e4
    refine ⟨Rl_0 h' 0, rfl, ?_, rfl⟩
    rcases hv with ⟨-, hv⟩ | ⟨hn, -⟩
    · rw [hv, er]
      exact (if_pos ha).trans (p1 _ hlt)
    · exact absurd hz hn
  · subst e4
    refine ⟨Rl_0 h' 0, rfl, ?_, rfl⟩
    rcases hv with ⟨z0, -⟩ | ⟨-, hy, hv⟩
    · exact absurd z0 hz
    · rcases w2 with q | ⟨-, q, -⟩
      · rw [q] at hy; exact absurd hy (by decide)
      · rw [hv, er]
        have e : ((256 : Int32) + a).toNatClampNeg = 256 + a.toNatClampNeg := by
          have g1 := Int32.le_iff_toInt_le.mp ha.1
          have g2 := Int32.lt_iff_toInt_lt.mp ha.2
          have g0 : (0 : Int32).toInt = 0 := rfl
          have e9 : ((256 : Int32) + a).toInt = 256 + a.toInt := i_add (by decide) (by decide) (by omega) (by omega)
          have c1 := i_cl (x := 256 + a) (by omega)
          have c2 := i_cl (x := a) (by omega)
          omega
        rw [e]
        exact (if_pos ha).trans (q _ hlt)
theorem rl_code_x {σ σ1 σ2 : ev_M} {τ τ1 τ2 : ev_L} {a z r : Int32} {q : Nat} (h : Rl σ τ) (hb : px_B_code [.ref 0, .int a, .int z] σ τ q σ1 τ1) (hd : post_D_code [.ref 30, .int a, .int z] σ1 τ1 r σ2 τ2) : Rl σ2 τ2 ∧ ((q = 0 ∧ σ2 30 0 = 1) ∨ (q = 2 ∧ σ2 30 0 = 2)) := by
  obtain ⟨hk, e1, e2⟩ := hb
  subst e1 e2
  obtain ⟨e3, hd⟩ := hd
  subst e3
  obtain ⟨-, -, -, -, ⟨w1, w2⟩, -⟩ := id h
  rcases hk with ⟨e0, hno⟩ | ⟨e0, hy, n0, n1⟩
  · subst e0
    rcases hd with ⟨-, -, e4⟩ | ⟨hy, -⟩
    · subst e4
      exact ⟨Rl_0 h 1, Or.inl ⟨rfl, rfl⟩⟩
    · exact absurd hy hno
  · subst e0
    have hs : σ1 18 3 = 0 := by
      rcases w2 with w | ⟨w, -⟩
      · exact w
      · exact absurd w n1
    rcases hd with ⟨hno, -⟩ | ⟨-, ⟨-, -, -, e4⟩ | ⟨hz, -⟩ | ⟨-, hx, -⟩⟩
    · exact absurd hy hno
    · subst e4
      exact ⟨Rl_0 h 2, Or.inr ⟨rfl, rfl⟩⟩
    · exact absurd hz n0
    · exact absurd (w1.trans hs) hx
theorem rl_steps {σ σ1 σ2 : ev_M} {τ τ1 τ2 : ev_L} {v r : Int32} (h : Rl σ τ) (hb : post_B_steps [.ref 0] σ τ v σ1 τ1) (hd : post_D_steps [.ref 30] σ1 τ1 r σ2 τ2) : Rl σ2 τ2 ∧ v = r := by
  obtain ⟨hv, e1, e2⟩ := hb
  subst e1 e2
  obtain ⟨hr, e4, e3⟩ := hd
  subst e3 e4
  refine ⟨Rl_0 h 0, ?_⟩
  obtain ⟨-, -, -, -, -, m1, -⟩ := h
  rw [hv, hr]
  exact congrArg (fun x : mst => x.2.2.2.2.2.2.2.2) m1
theorem rl_reg {σ : ev_M} {τ : ev_L} (h : Rl σ τ) (i : Int32) : rgC σ i = sd_reg σ i := by
  obtain ⟨-, -, -, -, -, m1, -⟩ := h
  have e1 : σ 25 = σ 43 := congrArg (fun x : mst => x.1) m1
  have e2 : σ 23 6 = σ 30 22 := congrArg (fun x : mst => x.2.2.2.2.2.1) m1
  have e3 : σ 23 7 = σ 30 23 := congrArg (fun x : mst => x.2.2.2.2.2.2.1) m1
  have e4 : σ 23 8 = σ 30 24 := congrArg (fun x : mst => x.2.2.2.2.2.2.2.1) m1
  unfold rgC sd_reg
  rw [e1, e2, e3, e4]
theorem rl_register {σ σ1 σ2 : ev_M} {τ τ1 τo τ2 : ev_L} {i v r : Int32} (h : Rl σ τ) (hb : post_B_register [.ref 0, .int i] σ τ v σ1 τ1) (h29 : τo 29 = τ1 29) (h47 : τo 47 = τ1 47) (hd : post_D_register [.ref 30, .int i] σ1 τo r σ2 τ2) : Rl σ2 τ2 ∧ σ2 30 0 = 0 ∧ v = r ∧ τ2 = τo := by
  obtain ⟨hk, hv, e1, e2⟩ := hb
  subst e1 e2
  obtain ⟨e3, hd⟩ := hd
  subst e3
  rcases hd with ⟨hno, -⟩ | ⟨-, er, e4⟩
  · exact absurd hk hno
  · subst e4
    exact ⟨Rl_0 (Rl_t h h29 h47) 0, rfl, by rw [hv, er]; exact rl_reg h i, rfl⟩
theorem rl_cell {σ σ1 σ2 : ev_M} {τ τ1 τo τ2 : ev_L} {i v r : Int32} (h : Rl σ τ) (hb : post_B_cell [.ref 0, .int i] σ τ v σ1 τ1) (h29 : τo 29 = τ1 29) (h47 : τo 47 = τ1 47) (hd : post_D_cell [.ref 30, .int i] σ1 τo r σ2 τ2) : Rl σ2 τ2 ∧ σ2 30 0 = 0 ∧ v = r ∧ τ2 = τo := by
  obtain ⟨hk, hv, e1, e2⟩ := hb
  subst e1 e2
  obtain ⟨e3, hd⟩ := hd
  subst e3
  rcases hd with ⟨hno, -⟩ | ⟨-, er, e4⟩
  · exact absurd hk hno
  · subst e4
    refine ⟨Rl_0 (Rl_t h h29 h47) 0, rfl, ?_, rfl⟩
    obtain ⟨-, -, -, -, -, m1, -⟩ := h
    rw [hv, er]
    exact congrFun (congrArg (fun x : mst => x.2.1) m1) _
theorem rl_shown {σ : ev_M} {τ : ev_L} (h : Rl σ τ) : σ 23 8 = σ 30 24 ∧ (σ 23 8).toInt ≤ 40 := by
  obtain ⟨-, -, -, -, -, m1, m2⟩ := h
  exact ⟨congrArg (fun x : mst => x.2.2.2.2.2.2.2.1) m1, m2.2.2.1.2⟩
theorem rl_output {σ σ1 σ2 : ev_M} {τ τ1 τo τ2 : ev_L} {i v r : Int32} (h : Rl σ τ) (hb : post_B_output [.ref 0, .int i] σ τ v σ1 τ1) (h29 : τo 29 = τ1 29) (h47 : τo 47 = τ1 47) (hd : post_D_output [.ref 30, .int i] σ1 τo r σ2 τ2) : Rl σ2 τ2 ∧ σ2 30 0 = 0 ∧ v = r ∧ τ2 = τo := by
  obtain ⟨hk, hv, e1, e2⟩ := hb
  subst e1 e2
  obtain ⟨e3, hd⟩ := hd
  subst e3
  rw [(rl_shown h).1] at hk
  rcases hd with ⟨hno, -⟩ | ⟨-, er, e4⟩
  · exact absurd hk hno
  · subst e4
    refine ⟨Rl_0 (Rl_t h h29 h47) 0, rfl, ?_, rfl⟩
    obtain ⟨-, -, -, -, -, m1, -⟩ := h
    rw [hv, er]
    exact congrFun (congrArg (fun x : mst => x.2.2.2.1) m1) _
theorem rl_counter {σ σ1 σ2 : ev_M} {τ τ1 τo τ2 : ev_L} {i : Int32} {v r : Int64} (h : Rl σ τ) (hb : post_B_counter [.ref 0, .int i] σ τ v σ1 τ1) (h29 : τo 29 = τ1 29) (h47 : τo 47 = τ1 47) (hd : post_D_counter [.ref 30, .int i] σ1 τo r σ2 τ2) : Rl σ2 τ2 ∧ σ2 30 0 = 0 ∧ v = r ∧ τ2 = τo := by
  obtain ⟨hk, hv, e1, e2⟩ := hb
  subst e1 e2
  obtain ⟨e3, hd⟩ := hd
  subst e3
  rcases hd with ⟨hno, -⟩ | ⟨-, er, e4⟩
  · exact absurd hk hno
  · subst e4
    refine ⟨Rl_0 (Rl_t h h29 h47) 0, rfl, ?_, rfl⟩
    obtain ⟨-, -, -, -, -, m1, -⟩ := h
    rw [hv, er, h47]
    exact congrFun (congrArg (fun x : mst => x.2.2.2.2.1) m1) _
theorem rl_register_x {σ σ1 σ2 : ev_M} {τ τ1 τ2 : ev_L} {i : Int32} {r : Int32} {k : Nat} (h : Rl σ τ) (hb : px_B_register [.ref 0, .int i] σ τ k σ1 τ1) (hd : post_D_register [.ref 30, .int i] σ1 τ1 r σ2 τ2) : Rl σ2 τ2 ∧ k = 0 ∧ σ2 30 0 = 1 := by
  obtain ⟨e0, ha, e1, e2⟩ := hb
  subst e0 e1 e2
  obtain ⟨e3, hd⟩ := hd
  subst e3
  rcases hd with ⟨-, -, e4⟩ | ⟨hy, -⟩
  · subst e4
    exact ⟨Rl_0 h 1, rfl, rfl⟩
  · exact absurd hy ha
theorem rl_cell_x {σ σ1 σ2 : ev_M} {τ τ1 τ2 : ev_L} {i : Int32} {r : Int32} {k : Nat} (h : Rl σ τ) (hb : px_B_cell [.ref 0, .int i] σ τ k σ1 τ1) (hd : post_D_cell [.ref 30, .int i] σ1 τ1 r σ2 τ2) : Rl σ2 τ2 ∧ k = 0 ∧ σ2 30 0 = 1 := by
  obtain ⟨e0, ha, e1, e2⟩ := hb
  subst e0 e1 e2
  obtain ⟨e3, hd⟩ := hd
  subst e3
  rcases hd with ⟨-, -, e4⟩ | ⟨hy, -⟩
  · subst e4
    exact ⟨Rl_0 h 1, rfl, rfl⟩
  · exact absurd hy ha
theorem rl_output_x {σ σ1 σ2 : ev_M} {τ τ1 τ2 : ev_L} {i : Int32} {r : Int32} {k : Nat} (h : Rl σ τ) (hb : px_B_output [.ref 0, .int i] σ τ k σ1 τ1) (hd : post_D_output [.ref 30, .int i] σ1 τ1 r σ2 τ2) : Rl σ2 τ2 ∧ k = 0 ∧ σ2 30 0 = 1 := by
  obtain ⟨e0, ha, e1, e2⟩ := hb
  subst e0 e1 e2
  obtain ⟨e3, hd⟩ := hd
  subst e3
  rw [(rl_shown h).1] at ha
  rcases hd with ⟨-, -, e4⟩ | ⟨hy, -⟩
  · subst e4
    exact ⟨Rl_0 h 1, rfl, rfl⟩
  · exact absurd hy ha
theorem rl_counter_x {σ σ1 σ2 : ev_M} {τ τ1 τ2 : ev_L} {i : Int32} {r : Int64} {k : Nat} (h : Rl σ τ) (hb : px_B_counter [.ref 0, .int i] σ τ k σ1 τ1) (hd : post_D_counter [.ref 30, .int i] σ1 τ1 r σ2 τ2) : Rl σ2 τ2 ∧ k = 0 ∧ σ2 30 0 = 1 := by
  obtain ⟨e0, ha, e1, e2⟩ := hb
  subst e0 e1 e2
  obtain ⟨e3, hd⟩ := hd
  subst e3
  rcases hd with ⟨-, -, e4⟩ | ⟨hy, -⟩
  · subst e4
    exact ⟨Rl_0 h 1, rfl, rfl⟩
  · exact absurd hy ha
