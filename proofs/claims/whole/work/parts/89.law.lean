/-! the law's loop -/
set_option maxHeartbeats 4000000 in
set_option maxRecDepth 100000 in
theorem lw_loop (l : Launch) (hst : l.stackTraces = false) (J : ev_K) (Lx : Nat) (xs : Nat → Int32) (hL : Lx ≤ 1536) (X9 : lx_X l room_1 evLY evCl (.tt :: evW) code 8 "BlockCounterLaw" 512 Lx xs J) (Z : lx_Z J code 512) : ∀ (μ pc : Nat) (lv st : List Value) (σ : ev_M) (τ : ev_L) (n : Nat), lwI Lx μ pc lv st σ τ n → J pc lv st σ τ n := by
  refine ev_loop (ok_law l hst J Lx xs X9 Z) (cut := lwCut) 60 (lwI Lx) ?_
  rintro μ pc lv st σ τ n ⟨rfl, h, ⟨rfl, rfl, rfl, rfl⟩ | ⟨i, v5, v6, v7, rfl, hi, ⟨rfl, hn, rfl⟩ | ⟨hc, hn, hiL, rfl⟩ | ⟨rfl, hn, hiL, rfl⟩⟩⟩
  · exact ⟨6000, by omega, rfl, h, Or.inr ⟨0, .null, .null, .null, rfl, by omega, Or.inl ⟨rfl, by omega, by omega⟩⟩⟩
  · have e3 : (Int32.ofNat Lx - 3).toInt = (Lx : Int) - 3 := by
      have e0 : (nI Lx).toInt = Lx := nI_toInt (by omega)
      have h3 : (3 : Int32).toInt = 3 := rfl
      show (nI Lx - 3).toInt = _
      rw [i_sub (by omega) (by omega) (by decide) (by decide), e0, h3]
    have ei : (nI i).toInt = i := nI_toInt (by omega)
    refine br_c (fun hgt => ?_) (fun hgt => ?_)
    · exact ⟨by omega, rfl⟩
    · have hiL : i + 3 ≤ Lx := by
        have := Int32.not_lt.mp hgt
        rw [Int32.le_iff_toInt_le] at this
        omega
      refine ⟨vp_in_nI (by omega) (by omega), ?_⟩
      have go : ∀ pc, lwC pc → lwK Lx (3 * (2000 - i)) pc [.ref 49, .ref 0, .ref 30, .ref 48, .int (nI i), v5, v6, v7] [] σ τ n := fun pc hc => ⟨3 * (2000 - i) - 1, by omega, rfl, h, Or.inr ⟨i, v5, v6, v7, rfl, hi, Or.inr (Or.inl ⟨hc, hn, hiL, rfl⟩)⟩⟩
      have go9 : lwK Lx (3 * (2000 - i)) 857 [.ref 49, .ref 0, .ref 30, .ref 48, .int (nI i), v5, v6, v7] [] σ τ n := ⟨3 * (2000 - i) - 2, by omega, rfl, h, Or.inr ⟨i, v5, v6, v7, rfl, hi, Or.inr (Or.inr ⟨rfl, by omega, hiL, rfl⟩)⟩⟩
      exact ⟨fun _ => go 108 (by unfold lwC; decide), fun _ => ⟨fun _ => go 156 (by unfold lwC; decide), fun _ => ⟨fun _ => go 224 (by unfold lwC; decide), fun _ => ⟨fun _ => go 272 (by unfold lwC; decide), fun _ => ⟨fun _ => go 316 (by unfold lwC; decide), fun _ => ⟨fun _ => go 384 (by unfold lwC; decide), fun _ => ⟨fun _ => go 409 (by unfold lwC; decide), fun _ => ⟨fun _ => go 453 (by unfold lwC; decide), fun _ => ⟨fun _ => go 537 (by unfold lwC; decide), fun _ => ⟨fun _ => go 621 (by unfold lwC; decide), fun _ => ⟨fun _ => go 634 (by unfold lwC; decide), fun _ => ⟨fun _ => go 690 (by unfold lwC; decide), fun _ => ⟨fun _ => go 746 (by unfold lwC; decide), fun _ => ⟨fun _ => go 802 (by unfold lwC; decide), fun _ => go9⟩⟩⟩⟩⟩⟩⟩⟩⟩⟩⟩⟩⟩⟩
  · rcases hc with rfl | rfl | rfl | rfl | rfl | rfl | rfl | rfl | rfl | rfl | rfl | rfl | rfl | rfl
    · exact lc_poke hL h hn hiL
    · exact lc_declare hL h hn hiL
    · exact lc_data hL h hn hiL
    · exact lc_analyse hL h hn hiL
    · exact lc_block hL h hn hiL
    · exact lc_blockAt hL h hn hiL
    · exact lc_rewrite hL h hn hiL
    · exact lc_code hL h hn hiL
    · exact lc_run hL h hn hiL
    · exact lc_steps hL h hn hiL
    · exact lc_register hL h hn hiL
    · exact lc_cell hL h hn hiL
    · exact lc_output hL h hn hiL
    · exact lc_counter hL h hn hiL
  · have e : nI i + 3 = nI (i + 3) := nI_add i 3
    exact ⟨3 * (2000 - (i + 3)), by omega, rfl, h, Or.inr ⟨i + 3, v5, v6, v7, by rw [← e], by omega, Or.inl ⟨rfl, hn, rfl⟩⟩⟩
