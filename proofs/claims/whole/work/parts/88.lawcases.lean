/-! the law's calls, one by one -/
def lwCut : List Nat := [23, 857, 108, 156, 224, 272, 316, 384, 409, 453, 537, 621, 634, 690, 746, 802]
/-- where the law can stand -/
def lwC (pc : Nat) : Prop := pc = 108 ∨ pc = 156 ∨ pc = 224 ∨ pc = 272 ∨ pc = 316 ∨ pc = 384 ∨ pc = 409 ∨ pc = 453 ∨ pc = 537 ∨ pc = 621 ∨ pc = 634 ∨ pc = 690 ∨ pc = 746 ∨ pc = 802
def lwI (Lx μ pc : Nat) (lv st : List Value) (σ : ev_M) (τ : ev_L) (n : Nat) : Prop := st = [] ∧ Rl σ τ ∧ ((pc = 20 ∧ n = 0 ∧ μ = 9000 ∧ lv = [.ref 49, .ref 0, .ref 30, .ref 48, .null, .null, .null, .null]) ∨ ∃ (i : Nat) (v5 v6 v7 : Value), lv = [.ref 49, .ref 0, .ref 30, .ref 48, .int (nI i), v5, v6, v7] ∧ i ≤ 1536 ∧ ((pc = 23 ∧ 3 * n ≤ i ∧ μ = 3 * (2000 - i)) ∨ (lwC pc ∧ 3 * n ≤ i ∧ i + 3 ≤ Lx ∧ μ = 3 * (2000 - i) - 1) ∨ (pc = 857 ∧ 3 * n ≤ i + 3 ∧ i + 3 ≤ Lx ∧ μ = 3 * (2000 - i) - 2)))
def lwK (Lx μ : Nat) : ev_K := fun pc lv st σ τ n => ∃ μ', μ' < μ ∧ lwI Lx μ' pc lv st σ τ n
theorem lw_in1 {i Lx : Nat} (hL : Lx ≤ 1536) (hi : i + 3 ≤ Lx) : vp_in (nI i + 1) Lx := by
  rw [nI_1]
  exact vp_in_nI (by omega) (by omega)
theorem lw_in2 {i Lx : Nat} (hL : Lx ≤ 1536) (hi : i + 3 ≤ Lx) : vp_in (nI i + 2) Lx := by
  have e : nI i + 2 = nI (i + 2) := nI_add i 2
  rw [e]
  exact vp_in_nI (by omega) (by omega)
theorem lw_cmp (x : Int64) : lg_cmp x x = 0 := by
  unfold lg_cmp
  simp
set_option maxHeartbeats 4000000 in
set_option maxRecDepth 100000 in
theorem lc_poke {Lx i n : Nat} {xs : Nat → Int32} {σ : ev_M} {τ : ev_L} {v5 v6 v7 : Value} (hL : Lx ≤ 1536) (h : Rl σ τ) (hn : 3 * n ≤ i) (hi : i + 3 ≤ Lx) : ev_wp (I_law Lx xs) lwCut 60 108 [.ref 49, .ref 0, .ref 30, .ref 48, .int (nI i), v5, v6, v7] [] σ τ n (lwK Lx (3 * (2000 - i) - 1)) := by
  have a1 := lw_in1 hL hi
  have a2 := lw_in2 hL hi
  refine ⟨a1, ?_⟩
  refine ⟨a2, ?_⟩
  refine ⟨by omega, pb_L_poke _ _, ?_⟩
  rintro r σ1 τ1 hp
  have hD := rlD_mv (rlD_of h) (fr_L_poke hp)
  refine ⟨a1, ?_⟩
  refine ⟨a2, ?_⟩
  refine ⟨by omega, ⟨_, _, rfl⟩, ?_⟩
  rintro b σ2 τ2 hd
  obtain ⟨hR, h0⟩ := lw_poke h hp hd
  refine ⟨by omega, rfl, ?_⟩
  rintro _ σ2 τ2 ⟨rfl, rfl, rfl⟩
  refine br_t h0 ?_
  exact ⟨3 * (2000 - i) - 2, by omega, rfl, hR, Or.inr ⟨i, _, _, _, rfl, by omega, Or.inr (Or.inr ⟨rfl, by omega, hi, rfl⟩)⟩⟩
set_option maxHeartbeats 4000000 in
set_option maxRecDepth 100000 in
theorem lc_declare {Lx i n : Nat} {xs : Nat → Int32} {σ : ev_M} {τ : ev_L} {v5 v6 v7 : Value} (hL : Lx ≤ 1536) (h : Rl σ τ) (hn : 3 * n ≤ i) (hi : i + 3 ≤ Lx) : ev_wp (I_law Lx xs) lwCut 60 156 [.ref 49, .ref 0, .ref 30, .ref 48, .int (nI i), v5, v6, v7] [] σ τ n (lwK Lx (3 * (2000 - i) - 1)) := by
  have a1 := lw_in1 hL hi
  have a2 := lw_in2 hL hi
  refine ⟨a1, ?_⟩
  refine ⟨a2, ?_⟩
  refine ⟨by omega, pb_L_declare h _ _, ?_⟩
  rintro r σ1 τ1 hp
  have hD := rlD_mv (rlD_of h) (fr_L_declare hp)
  refine ⟨a1, ?_⟩
  refine ⟨a2, ?_⟩
  refine ⟨by omega, pd_declare hD _ _, ?_⟩
  rintro b σ2 τ2 hd
  obtain ⟨hR, h0, hv⟩ := lw_declare h hp hd
  refine ⟨by omega, rfl, ?_⟩
  rintro _ σ2 τ2 ⟨rfl, rfl, rfl⟩
  refine br_t h0 ?_
  refine br_n (fun hr => ?_) (fun hr => ?_)
  · exact ⟨3 * (2000 - i) - 2, by omega, rfl, hR, Or.inr ⟨i, _, _, _, rfl, by omega, Or.inr (Or.inr ⟨rfl, by omega, hi, rfl⟩)⟩⟩
  · refine ⟨vp_in01, ?_⟩
    refine br_t (by rw [show τ2 48 (0 : Int32).toNatClampNeg = τ2 48 0 from rfl, hv hr]; exact lw_cmp _) ?_
    exact ⟨3 * (2000 - i) - 2, by omega, rfl, hR, Or.inr ⟨i, _, _, _, rfl, by omega, Or.inr (Or.inr ⟨rfl, by omega, hi, rfl⟩)⟩⟩
set_option maxHeartbeats 4000000 in
set_option maxRecDepth 100000 in
theorem lc_data {Lx i n : Nat} {xs : Nat → Int32} {σ : ev_M} {τ : ev_L} {v5 v6 v7 : Value} (hL : Lx ≤ 1536) (h : Rl σ τ) (hn : 3 * n ≤ i) (hi : i + 3 ≤ Lx) : ev_wp (I_law Lx xs) lwCut 60 224 [.ref 49, .ref 0, .ref 30, .ref 48, .int (nI i), v5, v6, v7] [] σ τ n (lwK Lx (3 * (2000 - i) - 1)) := by
  have a1 := lw_in1 hL hi
  have a2 := lw_in2 hL hi
  refine ⟨a1, ?_⟩
  refine ⟨a2, ?_⟩
  refine ⟨by omega, pb_L_data _ _, ?_⟩
  rintro r σ1 τ1 hp
  have hD := rlD_mv (rlD_of h) (fr_L_data hp)
  refine ⟨a1, ?_⟩
  refine ⟨a2, ?_⟩
  refine ⟨by omega, ⟨_, _, rfl⟩, ?_⟩
  rintro b σ2 τ2 hd
  obtain ⟨hR, h0⟩ := lw_data h hp hd
  refine ⟨by omega, rfl, ?_⟩
  rintro _ σ2 τ2 ⟨rfl, rfl, rfl⟩
  refine br_t h0 ?_
  exact ⟨3 * (2000 - i) - 2, by omega, rfl, hR, Or.inr ⟨i, _, _, _, rfl, by omega, Or.inr (Or.inr ⟨rfl, by omega, hi, rfl⟩)⟩⟩
set_option maxHeartbeats 4000000 in
set_option maxRecDepth 100000 in
theorem lc_analyse {Lx i n : Nat} {xs : Nat → Int32} {σ : ev_M} {τ : ev_L} {v5 v6 v7 : Value} (hL : Lx ≤ 1536) (h : Rl σ τ) (hn : 3 * n ≤ i) (hi : i + 3 ≤ Lx) : ev_wp (I_law Lx xs) lwCut 60 272 [.ref 49, .ref 0, .ref 30, .ref 48, .int (nI i), v5, v6, v7] [] σ τ n (lwK Lx (3 * (2000 - i) - 1)) := by
  have a1 := lw_in1 hL hi
  have a2 := lw_in2 hL hi
  refine ⟨by omega, pb_L_analyse h, ?_⟩
  rintro r σ1 τ1 hp
  have hD := rlD_mv (rlD_of h) (fr_L_analyse hp)
  refine ⟨by omega, pd_analyse hD, ?_⟩
  rintro b σ2 τ2 hd
  obtain ⟨hR, h0, hv⟩ := lw_analyse h hp hd
  refine ⟨by omega, rfl, ?_⟩
  rintro _ σ2 τ2 ⟨rfl, rfl, rfl⟩
  refine br_t h0 ?_
  refine br_n (fun hr => ?_) (fun hr => ?_)
  · exact ⟨3 * (2000 - i) - 2, by omega, rfl, hR, Or.inr ⟨i, _, _, _, rfl, by omega, Or.inr (Or.inr ⟨rfl, by omega, hi, rfl⟩)⟩⟩
  · refine ⟨vp_in01, ?_⟩
    refine br_t (by rw [show τ2 48 (0 : Int32).toNatClampNeg = τ2 48 0 from rfl, hv hr]; exact lw_cmp _) ?_
    exact ⟨3 * (2000 - i) - 2, by omega, rfl, hR, Or.inr ⟨i, _, _, _, rfl, by omega, Or.inr (Or.inr ⟨rfl, by omega, hi, rfl⟩)⟩⟩
set_option maxHeartbeats 4000000 in
set_option maxRecDepth 100000 in
theorem lc_block {Lx i n : Nat} {xs : Nat → Int32} {σ : ev_M} {τ : ev_L} {v5 v6 v7 : Value} (hL : Lx ≤ 1536) (h : Rl σ τ) (hn : 3 * n ≤ i) (hi : i + 3 ≤ Lx) : ev_wp (I_law Lx xs) lwCut 60 316 [.ref 49, .ref 0, .ref 30, .ref 48, .int (nI i), v5, v6, v7] [] σ τ n (lwK Lx (3 * (2000 - i) - 1)) := by
  have a1 := lw_in1 hL hi
  have a2 := lw_in2 hL hi
  refine ⟨a1, ?_⟩
  refine ⟨a2, ?_⟩
  refine ⟨by omega, pb_L_block h _ _, ?_⟩
  rintro r σ1 τ1 hp
  have hD := rlD_mv (rlD_of h) (fr_L_block hp)
  refine ⟨a1, ?_⟩
  refine ⟨a2, ?_⟩
  refine ⟨by omega, pd_block hD _ _, ?_⟩
  rintro b σ2 τ2 hd
  obtain ⟨hR, h0, hv⟩ := lw_block h hp hd
  refine ⟨by omega, rfl, ?_⟩
  rintro _ σ2 τ2 ⟨rfl, rfl, rfl⟩
  refine br_t h0 ?_
  refine br_n (fun hr => ?_) (fun hr => ?_)
  · exact ⟨3 * (2000 - i) - 2, by omega, rfl, hR, Or.inr ⟨i, _, _, _, rfl, by omega, Or.inr (Or.inr ⟨rfl, by omega, hi, rfl⟩)⟩⟩
  · refine ⟨vp_in01, ?_⟩
    refine br_t (by rw [show τ2 48 (0 : Int32).toNatClampNeg = τ2 48 0 from rfl, hv hr]; exact lw_cmp _) ?_
    exact ⟨3 * (2000 - i) - 2, by omega, rfl, hR, Or.inr ⟨i, _, _, _, rfl, by omega, Or.inr (Or.inr ⟨rfl, by omega, hi, rfl⟩)⟩⟩
set_option maxHeartbeats 4000000 in
set_option maxRecDepth 100000 in
theorem lc_rewrite {Lx i n : Nat} {xs : Nat → Int32} {σ : ev_M} {τ : ev_L} {v5 v6 v7 : Value} (hL : Lx ≤ 1536) (h : Rl σ τ) (hn : 3 * n ≤ i) (hi : i + 3 ≤ Lx) : ev_wp (I_law Lx xs) lwCut 60 409 [.ref 49, .ref 0, .ref 30, .ref 48, .int (nI i), v5, v6, v7] [] σ τ n (lwK Lx (3 * (2000 - i) - 1)) := by
  have a1 := lw_in1 hL hi
  have a2 := lw_in2 hL hi
  refine ⟨by omega, pb_L_rewrite h, ?_⟩
  rintro r σ1 τ1 hp
  have hD := rlD_mv (rlD_of h) (fr_L_rewrite hp)
  refine ⟨by omega, pd_rewrite hD, ?_⟩
  rintro b σ2 τ2 hd
  obtain ⟨hR, h0, hv⟩ := lw_rewrite h hp hd
  refine ⟨by omega, rfl, ?_⟩
  rintro _ σ2 τ2 ⟨rfl, rfl, rfl⟩
  refine br_t h0 ?_
  refine br_n (fun hr => ?_) (fun hr => ?_)
  · exact ⟨3 * (2000 - i) - 2, by omega, rfl, hR, Or.inr ⟨i, _, _, _, rfl, by omega, Or.inr (Or.inr ⟨rfl, by omega, hi, rfl⟩)⟩⟩
  · refine ⟨vp_in01, ?_⟩
    refine br_t (by rw [show τ2 48 (0 : Int32).toNatClampNeg = τ2 48 0 from rfl, hv hr]; exact lw_cmp _) ?_
    exact ⟨3 * (2000 - i) - 2, by omega, rfl, hR, Or.inr ⟨i, _, _, _, rfl, by omega, Or.inr (Or.inr ⟨rfl, by omega, hi, rfl⟩)⟩⟩
set_option maxHeartbeats 4000000 in
set_option maxRecDepth 100000 in
theorem lc_register {Lx i n : Nat} {xs : Nat → Int32} {σ : ev_M} {τ : ev_L} {v5 v6 v7 : Value} (hL : Lx ≤ 1536) (h : Rl σ τ) (hn : 3 * n ≤ i) (hi : i + 3 ≤ Lx) : ev_wp (I_law Lx xs) lwCut 60 634 [.ref 49, .ref 0, .ref 30, .ref 48, .int (nI i), v5, v6, v7] [] σ τ n (lwK Lx (3 * (2000 - i) - 1)) := by
  have a1 := lw_in1 hL hi
  have a2 := lw_in2 hL hi
  refine ⟨a1, ?_⟩
  refine ⟨by omega, pb_L_register _, ?_⟩
  rintro r σ1 τ1 hp
  have hD := rlD_mv (rlD_of h) (fr_L_register hp)
  refine ⟨a1, ?_⟩
  refine ⟨by omega, ⟨_, rfl⟩, ?_⟩
  rintro b σ2 τ2 hd
  obtain ⟨hR, h0, hv⟩ := lw_register h hp hd
  refine ⟨by omega, rfl, ?_⟩
  rintro _ σ2 τ2 ⟨rfl, rfl, rfl⟩
  refine br_t h0 ?_
  refine br_n (fun hr => ?_) (fun hr => ?_)
  · exact ⟨3 * (2000 - i) - 2, by omega, rfl, hR, Or.inr ⟨i, _, _, _, rfl, by omega, Or.inr (Or.inr ⟨rfl, by omega, hi, rfl⟩)⟩⟩
  · refine ⟨vp_in01, ?_⟩
    refine br_t (by rw [show τ2 48 (0 : Int32).toNatClampNeg = τ2 48 0 from rfl, hv hr]; exact lw_cmp _) ?_
    exact ⟨3 * (2000 - i) - 2, by omega, rfl, hR, Or.inr ⟨i, _, _, _, rfl, by omega, Or.inr (Or.inr ⟨rfl, by omega, hi, rfl⟩)⟩⟩
set_option maxHeartbeats 4000000 in
set_option maxRecDepth 100000 in
theorem lc_cell {Lx i n : Nat} {xs : Nat → Int32} {σ : ev_M} {τ : ev_L} {v5 v6 v7 : Value} (hL : Lx ≤ 1536) (h : Rl σ τ) (hn : 3 * n ≤ i) (hi : i + 3 ≤ Lx) : ev_wp (I_law Lx xs) lwCut 60 690 [.ref 49, .ref 0, .ref 30, .ref 48, .int (nI i), v5, v6, v7] [] σ τ n (lwK Lx (3 * (2000 - i) - 1)) := by
  have a1 := lw_in1 hL hi
  have a2 := lw_in2 hL hi
  refine ⟨a1, ?_⟩
  refine ⟨by omega, pb_L_cell _, ?_⟩
  rintro r σ1 τ1 hp
  have hD := rlD_mv (rlD_of h) (fr_L_cell hp)
  refine ⟨a1, ?_⟩
  refine ⟨by omega, ⟨_, rfl⟩, ?_⟩
  rintro b σ2 τ2 hd
  obtain ⟨hR, h0, hv⟩ := lw_cell h hp hd
  refine ⟨by omega, rfl, ?_⟩
  rintro _ σ2 τ2 ⟨rfl, rfl, rfl⟩
  refine br_t h0 ?_
  refine br_n (fun hr => ?_) (fun hr => ?_)
  · exact ⟨3 * (2000 - i) - 2, by omega, rfl, hR, Or.inr ⟨i, _, _, _, rfl, by omega, Or.inr (Or.inr ⟨rfl, by omega, hi, rfl⟩)⟩⟩
  · refine ⟨vp_in01, ?_⟩
    refine br_t (by rw [show τ2 48 (0 : Int32).toNatClampNeg = τ2 48 0 from rfl, hv hr]; exact lw_cmp _) ?_
    exact ⟨3 * (2000 - i) - 2, by omega, rfl, hR, Or.inr ⟨i, _, _, _, rfl, by omega, Or.inr (Or.inr ⟨rfl, by omega, hi, rfl⟩)⟩⟩
set_option maxHeartbeats 4000000 in
set_option maxRecDepth 100000 in
theorem lc_output {Lx i n : Nat} {xs : Nat → Int32} {σ : ev_M} {τ : ev_L} {v5 v6 v7 : Value} (hL : Lx ≤ 1536) (h : Rl σ τ) (hn : 3 * n ≤ i) (hi : i + 3 ≤ Lx) : ev_wp (I_law Lx xs) lwCut 60 746 [.ref 49, .ref 0, .ref 30, .ref 48, .int (nI i), v5, v6, v7] [] σ τ n (lwK Lx (3 * (2000 - i) - 1)) := by
  have a1 := lw_in1 hL hi
  have a2 := lw_in2 hL hi
  refine ⟨a1, ?_⟩
  refine ⟨by omega, pb_L_output h _, ?_⟩
  rintro r σ1 τ1 hp
  have hD := rlD_mv (rlD_of h) (fr_L_output hp)
  refine ⟨a1, ?_⟩
  refine ⟨by omega, pd_output hD _, ?_⟩
  rintro b σ2 τ2 hd
  obtain ⟨hR, h0, hv⟩ := lw_output h hp hd
  refine ⟨by omega, rfl, ?_⟩
  rintro _ σ2 τ2 ⟨rfl, rfl, rfl⟩
  refine br_t h0 ?_
  refine br_n (fun hr => ?_) (fun hr => ?_)
  · exact ⟨3 * (2000 - i) - 2, by omega, rfl, hR, Or.inr ⟨i, _, _, _, rfl, by omega, Or.inr (Or.inr ⟨rfl, by omega, hi, rfl⟩)⟩⟩
  · refine ⟨vp_in01, ?_⟩
    refine br_t (by rw [show τ2 48 (0 : Int32).toNatClampNeg = τ2 48 0 from rfl, hv hr]; exact lw_cmp _) ?_
    exact ⟨3 * (2000 - i) - 2, by omega, rfl, hR, Or.inr ⟨i, _, _, _, rfl, by omega, Or.inr (Or.inr ⟨rfl, by omega, hi, rfl⟩)⟩⟩
set_option maxHeartbeats 4000000 in
set_option maxRecDepth 100000 in
theorem lc_counter {Lx i n : Nat} {xs : Nat → Int32} {σ : ev_M} {τ : ev_L} {v5 v6 v7 : Value} (hL : Lx ≤ 1536) (h : Rl σ τ) (hn : 3 * n ≤ i) (hi : i + 3 ≤ Lx) : ev_wp (I_law Lx xs) lwCut 60 802 [.ref 49, .ref 0, .ref 30, .ref 48, .int (nI i), v5, v6, v7] [] σ τ n (lwK Lx (3 * (2000 - i) - 1)) := by
  have a1 := lw_in1 hL hi
  have a2 := lw_in2 hL hi
  refine ⟨a1, ?_⟩
  refine ⟨by omega, pb_L_counter _, ?_⟩
  rintro r σ1 τ1 hp
  have hD := rlD_mv (rlD_of h) (fr_L_counter hp)
  refine ⟨a1, ?_⟩
  refine ⟨by omega, ⟨_, rfl⟩, ?_⟩
  rintro b σ2 τ2 hd
  obtain ⟨hR, h0, hv⟩ := lw_counter h hp hd
  refine ⟨by omega, rfl, ?_⟩
  rintro _ σ2 τ2 ⟨rfl, rfl, rfl⟩
  refine br_t h0 ?_
  refine br_n (fun hr => ?_) (fun hr => ?_)
  · exact ⟨3 * (2000 - i) - 2, by omega, rfl, hR, Or.inr ⟨i, _, _, _, rfl, by omega, Or.inr (Or.inr ⟨rfl, by omega, hi, rfl⟩)⟩⟩
  · refine ⟨vp_in01, ?_⟩
    refine br_t (by rw [show τ2 48 (0 : Int32).toNatClampNeg = τ2 48 0 from rfl, hv hr]; exact lw_cmp _) ?_
    exact ⟨3 * (2000 - i) - 2, by omega, rfl, hR, Or.inr ⟨i, _, _, _, rfl, by omega, Or.inr (Or.inr ⟨rfl, by omega, hi, rfl⟩)⟩⟩
set_option maxHeartbeats 4000000 in
set_option maxRecDepth 100000 in
theorem lc_code {Lx i n : Nat} {xs : Nat → Int32} {σ : ev_M} {τ : ev_L} {v5 v6 v7 : Value} (hL : Lx ≤ 1536) (h : Rl σ τ) (hn : 3 * n ≤ i) (hi : i + 3 ≤ Lx) : ev_wp (I_law Lx xs) lwCut 60 453 [.ref 49, .ref 0, .ref 30, .ref 48, .int (nI i), v5, v6, v7] [] σ τ n (lwK Lx (3 * (2000 - i) - 1)) := by
  have a1 := lw_in1 hL hi
  have a2 := lw_in2 hL hi
  refine ⟨a1, ?_⟩
  refine ⟨a2, ?_⟩
  refine br_c (fun hz => ?_) (fun hz => ?_)
  · refine ⟨by omega, pb_L_code h _ _, ?_⟩
    rintro r σ1 τ1 hp
    have hD := rlD_mv (rlD_of h) (fr_L_code hp)
    refine ⟨a1, ?_⟩
    refine ⟨a2, ?_⟩
    refine br_t hz ?_
    refine ⟨by omega, ⟨_, _, rfl⟩, ?_⟩
    rintro b σ2 τ2 hd
    obtain ⟨hR, h0, hv⟩ := lw_code h hp hd
    refine ⟨by omega, rfl, ?_⟩
    rintro _ σ2 τ2 ⟨rfl, rfl, rfl⟩
    refine br_t h0 ?_
    refine br_n (fun hr => ?_) (fun hr => ?_)
    · exact ⟨3 * (2000 - i) - 2, by omega, rfl, hR, Or.inr ⟨i, _, _, _, rfl, by omega, Or.inr (Or.inr ⟨rfl, by omega, hi, rfl⟩)⟩⟩
    · refine ⟨vp_in01, ?_⟩
      refine br_t (by rw [show τ2 48 (0 : Int32).toNatClampNeg = τ2 48 0 from rfl, hv hr]; exact lw_cmp _) ?_
      exact ⟨3 * (2000 - i) - 2, by omega, rfl, hR, Or.inr ⟨i, _, _, _, rfl, by omega, Or.inr (Or.inr ⟨rfl, by omega, hi, rfl⟩)⟩⟩
  · refine ⟨by omega, pb_L_code h _ _, ?_⟩
    rintro r σ1 τ1 hp
    have hD := rlD_mv (rlD_of h) (fr_L_code hp)
    refine ⟨a1, ?_⟩
    refine ⟨a2, ?_⟩
    refine br_f hz ?_
    refine ⟨by omega, ⟨_, _, rfl⟩, ?_⟩
    rintro b σ2 τ2 hd
    obtain ⟨hR, h0, hv⟩ := lw_code h hp hd
    refine ⟨by omega, rfl, ?_⟩
    rintro _ σ2 τ2 ⟨rfl, rfl, rfl⟩
    refine br_t h0 ?_
    refine br_n (fun hr => ?_) (fun hr => ?_)
    · exact ⟨3 * (2000 - i) - 2, by omega, rfl, hR, Or.inr ⟨i, _, _, _, rfl, by omega, Or.inr (Or.inr ⟨rfl, by omega, hi, rfl⟩)⟩⟩
    · refine ⟨vp_in01, ?_⟩
      refine br_t (by rw [show τ2 48 (0 : Int32).toNatClampNeg = τ2 48 0 from rfl, hv hr]; exact lw_cmp _) ?_
      exact ⟨3 * (2000 - i) - 2, by omega, rfl, hR, Or.inr ⟨i, _, _, _, rfl, by omega, Or.inr (Or.inr ⟨rfl, by omega, hi, rfl⟩)⟩⟩
set_option maxHeartbeats 4000000 in
set_option maxRecDepth 100000 in
theorem lc_run {Lx i n : Nat} {xs : Nat → Int32} {σ : ev_M} {τ : ev_L} {v5 v6 v7 : Value} (hL : Lx ≤ 1536) (h : Rl σ τ) (hn : 3 * n ≤ i) (hi : i + 3 ≤ Lx) : ev_wp (I_law Lx xs) lwCut 60 537 [.ref 49, .ref 0, .ref 30, .ref 48, .int (nI i), v5, v6, v7] [] σ τ n (lwK Lx (3 * (2000 - i) - 1)) := by
  have a1 := lw_in1 hL hi
  have a2 := lw_in2 hL hi
  refine ⟨a1, ?_⟩
  refine br_c (fun hz => ?_) (fun hz => ?_)
  · refine ⟨a2, ?_⟩
    refine ⟨by omega, pb_L_run h _ _, ?_⟩
    rintro r σ1 τ1 hp
    have hD := rlD_mv (rlD_of h) (fr_L_run hp)
    refine ⟨a1, ?_⟩
    refine br_t hz ?_
    refine ⟨a2, ?_⟩
    refine ⟨by omega, pd_run hD _ _, ?_⟩
    rintro b σ2 τ2 hd
    obtain ⟨hR, h0, hv⟩ := lw_run h hp hd
    refine ⟨by omega, rfl, ?_⟩
    rintro _ σ2 τ2 ⟨rfl, rfl, rfl⟩
    refine br_t h0 ?_
    refine br_n (fun hr => ?_) (fun hr => ?_)
    · exact ⟨3 * (2000 - i) - 2, by omega, rfl, hR, Or.inr ⟨i, _, _, _, rfl, by omega, Or.inr (Or.inr ⟨rfl, by omega, hi, rfl⟩)⟩⟩
    · refine ⟨vp_in01, ?_⟩
      refine br_t (by rw [show τ2 48 (0 : Int32).toNatClampNeg = τ2 48 0 from rfl, hv hr]; exact lw_cmp _) ?_
      exact ⟨3 * (2000 - i) - 2, by omega, rfl, hR, Or.inr ⟨i, _, _, _, rfl, by omega, Or.inr (Or.inr ⟨rfl, by omega, hi, rfl⟩)⟩⟩
  · refine ⟨a2, ?_⟩
    refine ⟨by omega, pb_L_run h _ _, ?_⟩
    rintro r σ1 τ1 hp
    have hD := rlD_mv (rlD_of h) (fr_L_run hp)
    refine ⟨a1, ?_⟩
    refine br_f hz ?_
    refine ⟨a2, ?_⟩
    refine ⟨by omega, pd_run hD _ _, ?_⟩
    rintro b σ2 τ2 hd
    obtain ⟨hR, h0, hv⟩ := lw_run h hp hd
    refine ⟨by omega, rfl, ?_⟩
    rintro _ σ2 τ2 ⟨rfl, rfl, rfl⟩
    refine br_t h0 ?_
    refine br_n (fun hr => ?_) (fun hr => ?_)
    · exact ⟨3 * (2000 - i) - 2, by omega, rfl, hR, Or.inr ⟨i, _, _, _, rfl, by omega, Or.inr (Or.inr ⟨rfl, by omega, hi, rfl⟩)⟩⟩
    · refine ⟨vp_in01, ?_⟩
      refine br_t (by rw [show τ2 48 (0 : Int32).toNatClampNeg = τ2 48 0 from rfl, hv hr]; exact lw_cmp _) ?_
      exact ⟨3 * (2000 - i) - 2, by omega, rfl, hR, Or.inr ⟨i, _, _, _, rfl, by omega, Or.inr (Or.inr ⟨rfl, by omega, hi, rfl⟩)⟩⟩
set_option maxHeartbeats 4000000 in
set_option maxRecDepth 100000 in
theorem lc_blockAt {Lx i n : Nat} {xs : Nat → Int32} {σ : ev_M} {τ : ev_L} {v5 v6 v7 : Value} (hL : Lx ≤ 1536) (h : Rl σ τ) (hn : 3 * n ≤ i) (hi : i + 3 ≤ Lx) : ev_wp (I_law Lx xs) lwCut 60 384 [.ref 49, .ref 0, .ref 30, .ref 48, .int (nI i), v5, v6, v7] [] σ τ n (lwK Lx (3 * (2000 - i) - 1)) := by
  have a1 := lw_in1 hL hi
  have a2 := lw_in2 hL hi
  refine ⟨a1, ?_⟩
  refine ⟨by omega, ⟨_, rfl⟩, ?_⟩
  rintro v σ1 τ1 hb
  have hD : rlD σ1 := rlD_mv (rlD_of h) (fun k _ => by rw [hb.2.1])
  refine ⟨a1, ?_⟩
  refine ⟨by omega, pd_blockAt hD _, ?_⟩
  rintro b σ2 τ2 hd
  obtain ⟨hR, hv⟩ := rl_blockAt h hb hd
  refine br_t hv ?_
  exact ⟨3 * (2000 - i) - 2, by omega, rfl, hR, Or.inr ⟨i, _, _, _, rfl, by omega, Or.inr (Or.inr ⟨rfl, by omega, hi, rfl⟩)⟩⟩
set_option maxHeartbeats 4000000 in
set_option maxRecDepth 100000 in
theorem lc_steps {Lx i n : Nat} {xs : Nat → Int32} {σ : ev_M} {τ : ev_L} {v5 v6 v7 : Value} (hL : Lx ≤ 1536) (h : Rl σ τ) (hn : 3 * n ≤ i) (hi : i + 3 ≤ Lx) : ev_wp (I_law Lx xs) lwCut 60 621 [.ref 49, .ref 0, .ref 30, .ref 48, .int (nI i), v5, v6, v7] [] σ τ n (lwK Lx (3 * (2000 - i) - 1)) := by
  have a1 := lw_in1 hL hi
  have a2 := lw_in2 hL hi
  refine ⟨by omega, rfl, ?_⟩
  rintro v σ1 τ1 hb
  refine ⟨by omega, rfl, ?_⟩
  rintro b σ2 τ2 hd
  obtain ⟨hR, hv⟩ := rl_steps h hb hd
  refine br_t hv ?_
  exact ⟨3 * (2000 - i) - 2, by omega, rfl, hR, Or.inr ⟨i, _, _, _, rfl, by omega, Or.inr (Or.inr ⟨rfl, by omega, hi, rfl⟩)⟩⟩
