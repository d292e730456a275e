/-! the blocks, one behind another; Analysis.findBlocks -/
def bkN (H : Nat → Int32) : Nat → Nat
  | 0 => 0
  | i + 1 => if H i = 0 then bkN H i else bkN H i + 1
def bkH (H g : Nat → Int32) : Nat → Nat → Int32
  | 0 => g
  | i + 1 => if H i = 0 then bkH H g i else upd (bkH H g i) (bkN H i) (nI i)
def bkB (f H g : Nat → Int32) : Nat → Nat → Int32
  | 0 => g
  | i + 1 => if H i = 0 then bkB f H g i else upd (bkB f H g i) (bkN H i) (nI ((wk f H 96 i 0).1 - i))
def bkC (f H g : Nat → Int32) : Nat → Nat → Int32
  | 0 => g
  | i + 1 => if H i = 0 then bkC f H g i else upd (bkC f H g i) (bkN H i) (nI (wk f H 96 i 0).2)
theorem bkN_le (H : Nat → Int32) : ∀ i, bkN H i ≤ i
  | 0 => Nat.le_refl _
  | i + 1 => by
    have := bkN_le H i
    unfold bkN
    split <;> omega
theorem sd_last_up (h b : Nat → Int32) (a x y : Int32) (m : Nat) : ∀ n, n ≤ m → sd_last (upd h m x) (upd b m y) a n = sd_last h b a n
  | 0, _ => rfl
  | n + 1, hn => by
    have ih := sd_last_up h b a x y m n (by omega)
    have e1 : upd h m x n = h n := if_neg (by omega)
    have e2 : upd b m y n = b n := if_neg (by omega)
    show (if upd h m x n ≤ a ∧ a < upd h m x n + upd b m y n then nI n else sd_last (upd h m x) (upd b m y) a n) = _
    rw [ih, e1, e2]
    rfl
def fbQ (σ σ' : ev_M) (i : Nat) : Prop := (∀ k, ¬ k = 8 → ¬ k = 9 → (k < 14 ∨ 17 < k) → σ' k = σ k) ∧ σ' 8 9 = σ 8 9 ∧ σ' 8 10 = nI (bkN (σ 12) i) ∧ σ' 15 = bkH (σ 12) (σ 15) i ∧ σ' 16 = bkB (σ 2) (σ 12) (σ 16) i ∧ σ' 17 = bkC (σ 2) (σ 12) (σ 17) i ∧ ∀ j, j < 96 → σ' 14 j = sd_last (σ' 15) (σ' 16) (nI j) (bkN (σ 12) i)
def y_A_findBlocks : MethodName := ⟨RX0, "findBlocks", "(LBlockCounter$Program;)V"⟩
def ws_A_findBlocks : List Cond := .code y_A_findBlocks prog_2_method_17_code 3 none :: evW
theorem d_A_findBlocks_0 : decode prog_2_method_17_code 0 = .ok (.iconst 0, 1) := by decide +kernel
theorem d_A_findBlocks_1 : decode prog_2_method_17_code 1 = .ok (.istore_n 2, 1) := by decide +kernel
theorem d_A_findBlocks_2 : decode prog_2_method_17_code 2 = .ok (.iload_n 2, 1) := by decide +kernel
theorem d_A_findBlocks_3 : decode prog_2_method_17_code 3 = .ok (.bipush 96, 2) := by decide +kernel
theorem d_A_findBlocks_5 : decode prog_2_method_17_code 5 = .ok (.if_icmp .ge 33, 3) := by decide +kernel
theorem d_A_findBlocks_8 : decode prog_2_method_17_code 8 = .ok (.aload_n 0, 1) := by decide +kernel
theorem d_A_findBlocks_9 : decode prog_2_method_17_code 9 = .ok (.getfield 26, 3) := by decide +kernel
theorem d_A_findBlocks_12 : decode prog_2_method_17_code 12 = .ok (.iload_n 2, 1) := by decide +kernel
theorem d_A_findBlocks_13 : decode prog_2_method_17_code 13 = .ok (.baload, 1) := by decide +kernel
theorem d_A_findBlocks_14 : decode prog_2_method_17_code 14 = .ok (.ifCond .eq 18, 3) := by decide +kernel
theorem d_A_findBlocks_17 : decode prog_2_method_17_code 17 = .ok (.aload_n 0, 1) := by decide +kernel
theorem d_A_findBlocks_18 : decode prog_2_method_17_code 18 = .ok (.getfield 44, 3) := by decide +kernel
theorem d_A_findBlocks_21 : decode prog_2_method_17_code 21 = .ok (.bipush 96, 2) := by decide +kernel
theorem d_A_findBlocks_23 : decode prog_2_method_17_code 23 = .ok (.if_icmp .ge 9, 3) := by decide +kernel
theorem d_A_findBlocks_26 : decode prog_2_method_17_code 26 = .ok (.aload_n 0, 1) := by decide +kernel
theorem d_A_findBlocks_27 : decode prog_2_method_17_code 27 = .ok (.aload_n 1, 1) := by decide +kernel
theorem d_A_findBlocks_28 : decode prog_2_method_17_code 28 = .ok (.iload_n 2, 1) := by decide +kernel
theorem d_A_findBlocks_29 : decode prog_2_method_17_code 29 = .ok (.invokevirtual 127, 3) := by decide +kernel
theorem d_A_findBlocks_32 : decode prog_2_method_17_code 32 = .ok (.iinc 2 1, 3) := by decide +kernel
theorem d_A_findBlocks_35 : decode prog_2_method_17_code 35 = .ok (.goto (-33), 3) := by decide +kernel
theorem d_A_findBlocks_38 : decode prog_2_method_17_code 38 = .ok (.return_, 1) := by decide +kernel
def I_A_findBlocks (P : Unit → ev_M → ev_L → Prop) : List (Nat × ev_T) := [(0, tt_k 0 1),
  (1, tt_is 2 2),
  (2, tt_il 2 3),
  (3, tt_k 96 5),
  (5, tt_icge 38 8),
  (8, tt_al 0 9),
  (9, tt_gf evLY 0 3 12),
  (12, tt_il 2 13),
  (13, tt_za evLY 14),
  (14, tt_ifeq 32 17),
  (17, tt_al 0 18),
  (18, tt_gf evLY 0 10 21),
  (21, tt_k 96 23),
  (23, tt_icge 32 26),
  (26, tt_al 0 27),
  (27, tt_al 1 28),
  (28, tt_il 2 29),
  (29, tt_cV evLY 0 2 ev_n pre_A_addBlock post_A_addBlock 32),
  (32, tt_ii 2 1 35),
  (35, tt_go 2),
  (38, tt_rv P)]
abbrev rm_A_findBlocks : Room := { frames := 4, cells := 0, slots := 0, locals := 128 }
set_option maxRecDepth 20000 in
theorem ok_A_findBlocks (l : Launch) (J : ev_K) (P : Unit → ev_M → ev_L → Prop) (X : ev_X l rm_A_findBlocks evLY evCl ws_A_findBlocks prog_2_method_17_code 3 y_A_findBlocks.cls J) (Z : ev_Z J prog_2_method_17_code .return_ ev_n P) : ev_oks J (I_A_findBlocks P) :=
  ⟨qq_ic X 0 (by decide) d_A_findBlocks_0,
  qq_isn X 2 rfl (by decide) d_A_findBlocks_1,
  qq_iln X 2 rfl d_A_findBlocks_2,
  qq_bp X 96 (by decide) d_A_findBlocks_3,
  qq_icge X 38 (by decide) d_A_findBlocks_5,
  qq_aln X 0 rfl d_A_findBlocks_8,
  qq_gf X 0 3 rfl (fun w h => List.mem_cons_of_mem _ (inE_A w h)) (by decide) (List.mem_cons_of_mem _ mw_98) d_A_findBlocks_9,
  qq_iln X 2 rfl d_A_findBlocks_12,
  qq_za X d_A_findBlocks_13,
  qq_ifeq X 32 (by decide) d_A_findBlocks_14,
  qq_aln X 0 rfl d_A_findBlocks_17,
  qq_gf X 0 10 rfl (fun w h => List.mem_cons_of_mem _ (inE_A w h)) (by decide) (List.mem_cons_of_mem _ mw_105) d_A_findBlocks_18,
  qq_bp X 96 (by decide) d_A_findBlocks_21,
  qq_icge X 32 (by decide) d_A_findBlocks_23,
  qq_aln X 0 rfl d_A_findBlocks_26,
  qq_aln X 1 rfl d_A_findBlocks_27,
  qq_iln X 2 rfl d_A_findBlocks_28,
  qq_cV X 0 rfl (c_A_addBlock l) (fun hts => cwV 2 hts (evGV (mw_463) (mw_465) (mp_9) (mw_4) (mw_466)) rfl rfl rfl (by decide +kernel) ⟨Nat.le_of_ble_eq_true rfl, Nat.le_of_ble_eq_true rfl⟩) d_A_findBlocks_29,
  qq_ii X 2 1 (by decide) (by decide) d_A_findBlocks_32,
  qq_go X 2 (by decide) d_A_findBlocks_35,
  qq_rv Z d_A_findBlocks_38, trivial⟩
def pre_A_findBlocks : List Value → ev_M → ev_L → Prop := fun as σ _ => ∃ (S : Nat → Prop), as = [.ref 8, .ref 1] ∧ σ 8 10 = 0 ∧ wkS (σ 2) S ∧ (∀ x, x < 96 → ¬ σ 12 x = 0 → S x) ∧ ∀ x, x < 96 → σ 14 x = -1
def post_A_findBlocks : List Value → ev_M → ev_L → Unit → ev_M → ev_L → Prop := fun _ σ τ _ σ' τ' => τ' = τ ∧ fbQ σ σ' 96
set_option maxHeartbeats 4000000 in
set_option maxRecDepth 100000 in
theorem c_A_findBlocks (l : Launch) : ev_C ev_n l y_A_findBlocks ws_A_findBlocks rm_A_findBlocks evLY evCl pre_A_findBlocks post_A_findBlocks := by
  refine ev_methL (by decide) rfl ev_rop_v ?_ I_A_findBlocks (ok_A_findBlocks l) [2] 60 ?_
  · rintro _ σ τ ⟨S, rfl, h⟩
    exact Nat.le_of_ble_eq_true rfl
  · rintro _ σ τ ⟨S, rfl, h0, hS, hH, h14⟩
    refine ⟨fun μ pc lv st σ' τ' z => st = [] ∧ z = 0 ∧ τ = τ' ∧ ((pc = 0 ∧ μ = 500 ∧ lv = [.ref 8, .ref 1, .null] ∧ σ = σ') ∨ (pc = 2 ∧ ∃ i : Nat, i ≤ 96 ∧ μ = 96 - i ∧ lv = [.ref 8, .ref 1, .int (nI i)] ∧ fbQ σ σ' i)), ⟨500, rfl, rfl, rfl, Or.inl ⟨rfl, rfl, rfl, rfl⟩⟩, ?_⟩
    rintro μ pc lv st σ' τ' z ⟨rfl, rfl, rfl, ⟨rfl, rfl, rfl, rfl⟩ | ⟨rfl, i, hi, rfl, rfl, hq⟩⟩
    · exact ⟨96, by omega, rfl, rfl, rfl, Or.inr ⟨rfl, 0, by omega, rfl, rfl, fun _ _ _ _ => rfl, rfl, h0, rfl, rfl, rfl, h14⟩⟩
    · obtain ⟨hF, h9, hn, h15, h16, h17, hnum⟩ := hq
      have e12 : σ' 12 = σ 12 := hF 12 (by decide) (by decide) (by decide)
      have e2 : σ' 2 = σ 2 := hF 2 (by decide) (by decide) (by decide)
      have hbi := bkN_le (σ 12) i
      refine br_c (fun h => ?_) (fun h => ?_)
      · have : 96 ≤ i := (nI_leI (a := 96) (by omega) (by omega)).mp h
        have : i = 96 := by omega
        subst this
        exact ⟨rfl, hF, h9, hn, h15, h16, h17, hnum⟩
      · have hin : i < 96 := Nat.not_le.mp fun q => h ((nI_leI (a := 96) (by omega) (by omega)).mpr q)
        have hci : (nI i).toNatClampNeg = i := nI_clamp (by omega)
        refine ⟨vp_in_nI hin (by omega), ?_⟩
        rw [hci, e12]
        refine br_c (fun hz => ?_) (fun hz => ?_)
        · refine ⟨96 - (i + 1), by omega, rfl, rfl, rfl, Or.inr ⟨rfl, i + 1, by omega, rfl, by rw [← nI_1], ?_⟩⟩
          have eN : bkN (σ 12) (i + 1) = bkN (σ 12) i := if_pos hz
          have eH : bkH (σ 12) (σ 15) (i + 1) = bkH (σ 12) (σ 15) i := if_pos hz
          have eB : bkB (σ 2) (σ 12) (σ 16) (i + 1) = bkB (σ 2) (σ 12) (σ 16) i := if_pos hz
          have eC : bkC (σ 2) (σ 12) (σ 17) (i + 1) = bkC (σ 2) (σ 12) (σ 17) i := if_pos hz
          exact ⟨hF, h9, by rw [eN]; exact hn, by rw [eH]; exact h15, by rw [eB]; exact h16, by rw [eC]; exact h17, by rw [eN]; exact hnum⟩
        · refine br_f (by rw [hn, Int32.le_iff_toInt_le, nI_toInt (by omega)]; have : (96 : Int32).toInt = 96 := rfl; omega) ?_
          have hSi := hH i hin hz
          refine ⟨⟨i, bkN (σ 12) i, S, rfl, hn, by omega, by rw [e2]; exact hS, hSi⟩, ?_⟩
          rintro _ σ2 τ ⟨rfl, hA⟩
          have hA2 : anA σ' σ2 (bkN (σ 12) i) i (wk (σ 2) (σ 12) 96 i 0).1 (wk (σ 2) (σ 12) 96 i 0).2 := by
            rw [hn, nI_clamp (by omega), hci, e2, e12] at hA
            exact hA
          obtain ⟨a1, a2, a3, a4, a5, a6, a7⟩ := hA2
          obtain ⟨r1, r2, r3, r4⟩ := wk_R (H := σ 12) hS 96 i 0 (by omega) hSi
          have eN : bkN (σ 12) (i + 1) = bkN (σ 12) i + 1 := if_neg hz
          have eH : bkH (σ 12) (σ 15) (i + 1) = upd (bkH (σ 12) (σ 15) i) (bkN (σ 12) i) (nI i) := if_neg hz
          have eB : bkB (σ 2) (σ 12) (σ 16) (i + 1) = upd (bkB (σ 2) (σ 12) (σ 16) i) (bkN (σ 12) i) (nI ((wk (σ 2) (σ 12) 96 i 0).1 - i)) := if_neg hz
          have eC : bkC (σ 2) (σ 12) (σ 17) (i + 1) = upd (bkC (σ 2) (σ 12) (σ 17) i) (bkN (σ 12) i) (nI (wk (σ 2) (σ 12) 96 i 0).2) := if_neg hz
          refine ⟨96 - (i + 1), by omega, rfl, rfl, rfl, Or.inr ⟨rfl, i + 1, by omega, rfl, by rw [← nI_1], ?_⟩⟩
          refine ⟨fun k x y z => (a1 k x y z).trans (hF k x y z), a2.trans h9, by rw [eN]; exact a3, by rw [eH, a5, h15], by rw [eB, a6, h16], by rw [eC, a7, h17], fun j hj => ?_⟩
          rw [a4, a5, a6, eN]
          generalize (wk (σ 2) (σ 12) 96 i 0).1 = E at *
          show (if i ≤ j ∧ j < E then nI (bkN (σ 12) i) else σ' 14 j) = (if upd (σ' 15) (bkN (σ 12) i) (nI i) (bkN (σ 12) i) ≤ nI j ∧ nI j < upd (σ' 15) (bkN (σ 12) i) (nI i) (bkN (σ 12) i) + upd (σ' 16) (bkN (σ 12) i) (nI (E - i)) (bkN (σ 12) i) then nI (bkN (σ 12) i) else sd_last (upd (σ' 15) (bkN (σ 12) i) (nI i)) (upd (σ' 16) (bkN (σ 12) i) (nI (E - i))) (nI j) (bkN (σ 12) i))
          rw [sd_last_up _ _ _ _ _ _ _ (Nat.le_refl _), hnum j hj]
          have u1 : upd (σ' 15) (bkN (σ 12) i) (nI i) (bkN (σ 12) i) = nI i := if_pos rfl
          have u2 : upd (σ' 16) (bkN (σ 12) i) (nI (E - i)) (bkN (σ 12) i) = nI (E - i) := if_pos rfl
          rw [u1, u2, nI_add]
          have t1 : nI i ≤ nI j ↔ i ≤ j := nI_leI (by omega) (by omega)
          have t2 : nI j < nI (i + (E - i)) ↔ j < E := (nI_ltI (by omega) (by omega)).trans (by omega)
          simp only [t1, t2]
