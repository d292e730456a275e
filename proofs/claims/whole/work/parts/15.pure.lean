/-! numbers -/
theorem br_n {c A B : Prop} (a : ¬ c → A) (b : c → B) : (¬ c → A) ∧ (c → B) := ⟨a, b⟩
theorem i_vin {a b : Int32} {n : Nat} (hb : b.toInt = n) (h1 : ¬ a < 0) (h2 : ¬ b ≤ a) : vp_in a n := by
  rw [vp_in_iff]
  rw [Int32.lt_iff_toInt_lt] at h1
  rw [Int32.le_iff_toInt_le] at h2
  have : (0 : Int32).toInt = 0 := rfl
  omega
theorem i_vin2 {a b : Int32} {n : Nat} (hb : b.toInt = n) (h1 : 0 ≤ a) (h2 : a < b) : vp_in a n := by
  rw [vp_in_iff]
  rw [Int32.le_iff_toInt_le] at h1
  rw [Int32.lt_iff_toInt_lt] at h2
  have : (0 : Int32).toInt = 0 := rfl
  omega
/-- the byte at an address; 0 outside -/
def sp_at (f : Nat → Int32) (a : Int32) : Int32 := if 0 ≤ a ∧ a < 256 then f a.toNatClampNeg else 0
theorem sp_at_in {f : Nat → Int32} {a : Int32} (h : ¬ a < 0) (h2 : ¬ 256 ≤ a) : sp_at f a = f a.toNatClampNeg := if_pos ⟨Int32.not_lt.mp h, Int32.not_le.mp h2⟩
theorem sp_at_lo {f : Nat → Int32} {a : Int32} (h : a < 0) : sp_at f a = 0 := if_neg fun q => absurd (Int32.not_lt.mpr q.1) (fun w => w h)
theorem sp_at_hi {f : Nat → Int32} {a : Int32} (h : 256 ≤ a) : sp_at f a = 0 := if_neg fun q => absurd (Int32.not_le.mpr q.2) (fun w => w h)
