/-! the face: what each call does -/
def fgC (σ : ev_M) : ev_M := ev_u (ev_u σ 8 10 0) 18 3 0
def pre_B_forgetFindings : List Value → ev_M → ev_L → Prop := fun as _ _ => as = [.ref 0]
def post_B_forgetFindings : List Value → ev_M → ev_L → Unit → ev_M → ev_L → Prop := fun _ σ τ _ σ' τ' => σ' = fgC σ ∧ τ' = τ
def pre_B_poke : List Value → ev_M → ev_L → Prop := fun as _ _ => ∃ a v : Int32, as = [.ref 0, .int a, .int v]
def post_B_poke : List Value → ev_M → ev_L → Unit → ev_M → ev_L → Prop := fun as σ τ _ σ' τ' => match as with
  | [_, .int a, .int v] => (0 ≤ a ∧ a < 96) ∧ σ' = fgC (sp_put σ 2 a v) ∧ τ' = τ
  | _ => False
def px_B_poke : List Value → ev_M → ev_L → Nat → ev_M → ev_L → Prop := fun as σ τ k σ' τ' => match as with
  | [_, .int a, .int _] => k = 0 ∧ ¬ (0 ≤ a ∧ a < 96) ∧ σ' = σ ∧ τ' = τ
  | _ => False
def pre_B_declare : List Value → ev_M → ev_L → Prop := fun as σ _ => ∃ b c : Int32, as = [.ref 0, .int b, .int c] ∧ ∃ n : Nat, n ≤ 4 ∧ σ 4 2 = nI n
def post_B_declare : List Value → ev_M → ev_L → Int32 → ev_M → ev_L → Prop := fun as σ τ r σ' τ' => match as with
  | [_, .int b, .int c] => sd_okT b c ∧ ¬ 4 ≤ σ 4 2 ∧ r = σ 4 2 + 1 ∧ σ' = fgC (sp_tadd σ b c) ∧ τ' = τ
  | _ => False
def px_B_declare : List Value → ev_M → ev_L → Nat → ev_M → ev_L → Prop := fun as σ τ k σ' τ' => match as with
  | [_, .int b, .int c] => ((k = 1 ∧ ¬ sd_okT b c) ∨ (k = 2 ∧ sd_okT b c ∧ 4 ≤ σ 4 2)) ∧ σ' = σ ∧ τ' = τ
  | _ => False
def pre_B_data : List Value → ev_M → ev_L → Prop := fun as _ _ => ∃ a v : Int32, as = [.ref 0, .int a, .int v]
def post_B_data : List Value → ev_M → ev_L → Unit → ev_M → ev_L → Prop := fun as σ τ _ σ' τ' => match as with
  | [_, .int a, .int v] => (0 ≤ a ∧ a < 16) ∧ σ' = ev_u σ 7 a.toNatClampNeg v ∧ τ' = τ
  | _ => False
def px_B_data : List Value → ev_M → ev_L → Nat → ev_M → ev_L → Prop := fun as σ τ k σ' τ' => match as with
  | [_, .int a, .int _] => k = 0 ∧ ¬ (0 ≤ a ∧ a < 16) ∧ σ' = σ ∧ τ' = τ
  | _ => False
def pre_B_analyse : List Value → ev_M → ev_L → Prop := fun as σ _ => as = [.ref 0] ∧ anD σ ∧ byF (σ 2)
def post_B_analyse : List Value → ev_M → ev_L → Int32 → ev_M → ev_L → Prop := fun _ σ τ r σ' τ' => exF (ev_u σ 18 3 0) σ' ∧ exT (ev_u σ 18 3 0) σ' ∧ r = σ' 8 10 ∧ τ' = τ
def px_B_analyse : List Value → ev_M → ev_L → Nat → ev_M → ev_L → Prop := fun _ σ τ k σ' τ' => k = 3 ∧ exF (ev_u σ 18 3 0) σ' ∧ exN (ev_u σ 18 3 0) σ' ∧ τ' = τ
def pre_B_block : List Value → ev_M → ev_L → Prop := fun as σ _ => ∃ k w : Int32, as = [.ref 0, .int k, .int w] ∧ (σ 8 10).toInt ≤ (96 : Nat)
def post_B_block : List Value → ev_M → ev_L → Int32 → ev_M → ev_L → Prop := fun as σ τ r σ' τ' => match as with
  | [_, .int k, .int w] => (0 ≤ k ∧ k < σ 8 10) ∧ ((w = 0 ∧ r = σ 15 k.toNatClampNeg) ∨ (w = 1 ∧ r = σ 16 k.toNatClampNeg) ∨ (w = 2 ∧ r = σ 17 k.toNatClampNeg)) ∧ σ' = σ ∧ τ' = τ
  | _ => False
def px_B_block : List Value → ev_M → ev_L → Nat → ev_M → ev_L → Prop := fun as σ τ q σ' τ' => match as with
  | [_, .int k, .int w] => ((q = 0 ∧ ¬ (0 ≤ k ∧ k < σ 8 10)) ∨ (q = 1 ∧ (0 ≤ k ∧ k < σ 8 10) ∧ ¬ w = 0 ∧ ¬ w = 1 ∧ ¬ w = 2)) ∧ σ' = σ ∧ τ' = τ
  | _ => False
def pre_B_blockAt : List Value → ev_M → ev_L → Prop := fun as _ _ => ∃ a : Int32, as = [.ref 0, .int a]
def post_B_blockAt : List Value → ev_M → ev_L → Int32 → ev_M → ev_L → Prop := fun as σ τ r σ' τ' => match as with
  | [_, .int a] => r = sp_num (σ 8 10) (σ 14) a ∧ σ' = σ ∧ τ' = τ
  | _ => False
def frB (σ σ' : ev_M) : Prop := ∀ k, ¬ k = 18 → ¬ k = 19 → ¬ k = 21 → ¬ k = 22 → σ' k = σ k
def pre_B_rewrite : List Value → ev_M → ev_L → Prop := fun as σ _ => ∃ n : Nat, as = [.ref 0] ∧ σ 8 10 = nI n ∧ n ≤ 96 ∧ (∀ i, i < 96 → σ 3 i = 0) ∧ ∀ k, k < n → vbC (σ 2) (σ 15 k) (σ 16 k)
def post_B_rewrite : List Value → ev_M → ev_L → Int32 → ev_M → ev_L → Prop := fun _ σ τ r σ' τ' => 0 < σ 8 10 ∧ r = σ' 18 2 - 96 ∧ σ' 18 2 ≤ 256 ∧ rvC σ' = rw_all (σ 2) (σ 15) (σ 16) (σ 8 10).toNatClampNeg ∧ σ' 18 3 = 1 ∧ frB σ σ' ∧ τ' = τ
def px_B_rewrite : List Value → ev_M → ev_L → Nat → ev_M → ev_L → Prop := fun _ σ τ q σ' τ' => ((q = 2 ∧ ¬ 0 < σ 8 10 ∧ σ' = σ) ∨ (q = 3 ∧ 0 < σ 8 10 ∧ ¬ σ' 18 2 ≤ 256 ∧ rvC σ' = rw_all (σ 2) (σ 15) (σ 16) (σ 8 10).toNatClampNeg ∧ σ' 18 3 = 0 ∧ frB σ σ')) ∧ τ' = τ
def pre_B_code : List Value → ev_M → ev_L → Prop := fun as σ _ => ∃ a z : Int32, as = [.ref 0, .int a, .int z] ∧ (σ 18 3 = 0 ∨ σ 18 3 = 1)
def post_B_code : List Value → ev_M → ev_L → Int32 → ev_M → ev_L → Prop := fun as σ τ r σ' τ' => match as with
  | [_, .int a, .int z] => (0 ≤ a ∧ a < 256) ∧ ((z = 0 ∧ r = sp_at (σ 2) a) ∨ (¬ z = 0 ∧ σ 18 3 = 1 ∧ r = sp_at (σ 21) a)) ∧ σ' = σ ∧ τ' = τ
  | _ => False
def px_B_code : List Value → ev_M → ev_L → Nat → ev_M → ev_L → Prop := fun as σ τ q σ' τ' => match as with
  | [_, .int a, .int z] => ((q = 0 ∧ ¬ (0 ≤ a ∧ a < 256)) ∨ (q = 2 ∧ (0 ≤ a ∧ a < 256) ∧ ¬ z = 0 ∧ ¬ σ 18 3 = 1)) ∧ σ' = σ ∧ τ' = τ
  | _ => False
def pre_B_run : List Value → ev_M → ev_L → Prop := fun as σ _ => ∃ z m : Int32, as = [.ref 0, .int z, .int m] ∧ (σ 18 3 = 0 ∨ σ 18 3 = 1) ∧ byF (σ 2) ∧ trF (sp_trap (σ 3)) ∧ (σ 8 10).toInt ≤ 96 ∧ (σ 18 3 = 1 → byF (σ 21) ∧ trF (sp_trap (σ 22)))
def post_B_run : List Value → ev_M → ev_L → Int32 → ev_M → ev_L → Prop := fun as σ τ r σ' τ' => match as with
  | [_, .int z, .int m] => (0 ≤ m ∧ m ≤ 3000) ∧ ((z = 0 ∧ (r, mvC σ' τ') = ms_run (σ 2) (sp_trap (σ 3)) (ms_w (σ 8 10) (σ 14) (σ 15)) m.toNatClampNeg (ms_begin (σ 7) (mvC σ τ))) ∨ (¬ z = 0 ∧ σ 18 3 = 1 ∧ (r, mvC σ' τ') = ms_run (σ 21) (sp_trap (σ 22)) (fun x => x) m.toNatClampNeg (ms_begin (σ 7) (mvC σ τ)))) ∧ frC σ σ' τ τ'
  | _ => False
def px_B_run : List Value → ev_M → ev_L → Nat → ev_M → ev_L → Prop := fun as σ τ q σ' τ' => match as with
  | [_, .int z, .int m] => ((q = 1 ∧ ¬ (0 ≤ m ∧ m ≤ 3000)) ∨ (q = 2 ∧ (0 ≤ m ∧ m ≤ 3000) ∧ ¬ z = 0 ∧ ¬ σ 18 3 = 1)) ∧ σ' = σ ∧ τ' = τ
  | _ => False
def pre_B_steps : List Value → ev_M → ev_L → Prop := fun as _ _ => as = [.ref 0]
def post_B_steps : List Value → ev_M → ev_L → Int32 → ev_M → ev_L → Prop := fun _ σ τ r σ' τ' => r = σ 23 9 ∧ σ' = σ ∧ τ' = τ
def rgC (σ : ev_M) (i : Int32) : Int32 := if i < 4 then σ 25 i.toNatClampNeg else if i = 4 then σ 23 6 else if i = 5 then σ 23 7 else σ 23 8
def pre_B_register : List Value → ev_M → ev_L → Prop := fun as _ _ => ∃ i : Int32, as = [.ref 0, .int i]
def post_B_register : List Value → ev_M → ev_L → Int32 → ev_M → ev_L → Prop := fun as σ τ r σ' τ' => match as with
  | [_, .int i] => (0 ≤ i ∧ i ≤ 6) ∧ r = rgC σ i ∧ σ' = σ ∧ τ' = τ
  | _ => False
def px_B_register : List Value → ev_M → ev_L → Nat → ev_M → ev_L → Prop := fun as σ τ q σ' τ' => match as with
  | [_, .int i] => q = 0 ∧ ¬ (0 ≤ i ∧ i ≤ 6) ∧ σ' = σ ∧ τ' = τ
  | _ => False
def pre_B_cell : List Value → ev_M → ev_L → Prop := fun as _ _ => ∃ i : Int32, as = [.ref 0, .int i]
def post_B_cell : List Value → ev_M → ev_L → Int32 → ev_M → ev_L → Prop := fun as σ τ r σ' τ' => match as with
  | [_, .int i] => (0 ≤ i ∧ i < 16) ∧ r = σ 26 i.toNatClampNeg ∧ σ' = σ ∧ τ' = τ
  | _ => False
def px_B_cell : List Value → ev_M → ev_L → Nat → ev_M → ev_L → Prop := fun as σ τ q σ' τ' => match as with
  | [_, .int i] => q = 0 ∧ ¬ (0 ≤ i ∧ i < 16) ∧ σ' = σ ∧ τ' = τ
  | _ => False
def pre_B_output : List Value → ev_M → ev_L → Prop := fun as σ _ => ∃ i : Int32, as = [.ref 0, .int i] ∧ (σ 23 8).toInt ≤ (40 : Nat)
def post_B_output : List Value → ev_M → ev_L → Int32 → ev_M → ev_L → Prop := fun as σ τ r σ' τ' => match as with
  | [_, .int i] => (0 ≤ i ∧ i < σ 23 8) ∧ r = σ 28 i.toNatClampNeg ∧ σ' = σ ∧ τ' = τ
  | _ => False
def px_B_output : List Value → ev_M → ev_L → Nat → ev_M → ev_L → Prop := fun as σ τ q σ' τ' => match as with
  | [_, .int i] => q = 0 ∧ ¬ (0 ≤ i ∧ i < σ 23 8) ∧ σ' = σ ∧ τ' = τ
  | _ => False
def pre_B_counter : List Value → ev_M → ev_L → Prop := fun as _ _ => ∃ i : Int32, as = [.ref 0, .int i]
def post_B_counter : List Value → ev_M → ev_L → Int64 → ev_M → ev_L → Prop := fun as σ τ r σ' τ' => match as with
  | [_, .int i] => (0 ≤ i ∧ i < 64) ∧ r = τ 29 i.toNatClampNeg ∧ σ' = σ ∧ τ' = τ
  | _ => False
def px_B_counter : List Value → ev_M → ev_L → Nat → ev_M → ev_L → Prop := fun as σ τ q σ' τ' => match as with
  | [_, .int i] => q = 0 ∧ ¬ (0 ≤ i ∧ i < 64) ∧ σ' = σ ∧ τ' = τ
  | _ => False
theorem vp_in_lt {a b : Int32} {z : Nat} (h : ¬ a < 0) (h2 : a < b) (hb : b.toInt = z) : vp_in a z := by
  intro q
  rcases q with q | q
  · exact h q
  · have h1 := i_clt (Int32.not_lt.mp h) h2
    omega
theorem andK {a b m : Int32} (k : Nat) (hk : k ≤ 8) (hm : m.toBitVec.toNat = 2 ^ k - 1) (h : ¬ a < 0) (h2 : a < b) (hb : b.toInt = (2 ^ k : Nat)) : a &&& m = a := by
  obtain ⟨j, hj, rfl⟩ := nI_of h
  have h1 := Int32.lt_iff_toInt_lt.mp h2
  rw [nI_toInt hj, hb] at h1
  rw [pk_andN (by omega) k hm, Nat.mod_eq_of_lt (by omega)]
theorem and15 {a : Int32} (h : ¬ a < 0) (h2 : a < 16) : a &&& 15 = a := andK (b := 16) 4 (by omega) rfl h h2 rfl
theorem and63 {a : Int32} (h : ¬ a < 0) (h2 : a < 64) : a &&& 63 = a := andK (b := 64) 6 (by omega) rfl h h2 rfl
theorem and3 {a : Int32} (h : ¬ a < 0) (h2 : a < 4) : a &&& 3 = a := andK (b := 4) 2 (by omega) rfl h h2 rfl
