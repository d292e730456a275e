/-! Rewriting.moveFirst, build -/
theorem len_cases (k : Int32) : sp_len k = 1 ∨ sp_len k = 2 ∨ sp_len k = 3 := by
  unfold sp_len
  split
  · exact Or.inl rfl
  · split
    · exact Or.inr (Or.inr rfl)
    · exact Or.inr (Or.inl rfl)
theorem frW_rd2 (σ : ev_M) (f : Nat → Int32) (a : Int32) : frW σ (sp_rd2 σ 19 f a) := ⟨fun k _ h _ _ => by simp [sp_rd2, sp_rd1, ev_u, ev_p, h], rfl⟩
def y_R_moveFirst : MethodName := ⟨RX4, "moveFirst", "(LBlockCounter$Program;II)V"⟩
def ws_R_moveFirst : List Cond := .code y_R_moveFirst prog_6_method_8_code 6 none :: evW
theorem d_R_moveFirst_0 : decode prog_6_method_8_code 0 = .ok (.iload_n 2, 1) := by decide +kernel
theorem d_R_moveFirst_1 : decode prog_6_method_8_code 1 = .ok (.istore 4, 2) := by decide +kernel
theorem d_R_moveFirst_3 : decode prog_6_method_8_code 3 = .ok (.iconst 0, 1) := by decide +kernel
theorem d_R_moveFirst_4 : decode prog_6_method_8_code 4 = .ok (.istore 5, 2) := by decide +kernel
theorem d_R_moveFirst_6 : decode prog_6_method_8_code 6 = .ok (.iload 5, 2) := by decide +kernel
theorem d_R_moveFirst_8 : decode prog_6_method_8_code 8 = .ok (.iload_n 3, 1) := by decide +kernel
theorem d_R_moveFirst_9 : decode prog_6_method_8_code 9 = .ok (.if_icmp .ge 45, 3) := by decide +kernel
theorem d_R_moveFirst_12 : decode prog_6_method_8_code 12 = .ok (.iload 4, 2) := by decide +kernel
theorem d_R_moveFirst_14 : decode prog_6_method_8_code 14 = .ok (.iload_n 2, 1) := by decide +kernel
theorem d_R_moveFirst_15 : decode prog_6_method_8_code 15 = .ok (.iload_n 3, 1) := by decide +kernel
theorem d_R_moveFirst_16 : decode prog_6_method_8_code 16 = .ok (.iadd, 1) := by decide +kernel
theorem d_R_moveFirst_17 : decode prog_6_method_8_code 17 = .ok (.if_icmp .ge 37, 3) := by decide +kernel
theorem d_R_moveFirst_20 : decode prog_6_method_8_code 20 = .ok (.aload_n 0, 1) := by decide +kernel
theorem d_R_moveFirst_21 : decode prog_6_method_8_code 21 = .ok (.getfield 12, 3) := by decide +kernel
theorem d_R_moveFirst_24 : decode prog_6_method_8_code 24 = .ok (.aload_n 1, 1) := by decide +kernel
theorem d_R_moveFirst_25 : decode prog_6_method_8_code 25 = .ok (.iload 4, 2) := by decide +kernel
theorem d_R_moveFirst_27 : decode prog_6_method_8_code 27 = .ok (.bipush 96, 2) := by decide +kernel
theorem d_R_moveFirst_29 : decode prog_6_method_8_code 29 = .ok (.invokevirtual 75, 3) := by decide +kernel
theorem d_R_moveFirst_32 : decode prog_6_method_8_code 32 = .ok (.ifCond .eq 16, 3) := by decide +kernel
theorem d_R_moveFirst_35 : decode prog_6_method_8_code 35 = .ok (.aload_n 0, 1) := by decide +kernel
theorem d_R_moveFirst_36 : decode prog_6_method_8_code 36 = .ok (.invokevirtual 79, 3) := by decide +kernel
theorem d_R_moveFirst_39 : decode prog_6_method_8_code 39 = .ok (.aload_n 0, 1) := by decide +kernel
theorem d_R_moveFirst_40 : decode prog_6_method_8_code 40 = .ok (.getfield 12, 3) := by decide +kernel
theorem d_R_moveFirst_43 : decode prog_6_method_8_code 43 = .ok (.invokevirtual 82, 3) := by decide +kernel
theorem d_R_moveFirst_46 : decode prog_6_method_8_code 46 = .ok (.istore 4, 2) := by decide +kernel
theorem d_R_moveFirst_48 : decode prog_6_method_8_code 48 = .ok (.iinc 5 1, 3) := by decide +kernel
theorem d_R_moveFirst_51 : decode prog_6_method_8_code 51 = .ok (.goto (-45), 3) := by decide +kernel
theorem d_R_moveFirst_54 : decode prog_6_method_8_code 54 = .ok (.aload_n 0, 1) := by decide +kernel
theorem d_R_moveFirst_55 : decode prog_6_method_8_code 55 = .ok (.getfield 12, 3) := by decide +kernel
theorem d_R_moveFirst_58 : decode prog_6_method_8_code 58 = .ok (.invokevirtual 85, 3) := by decide +kernel
theorem d_R_moveFirst_61 : decode prog_6_method_8_code 61 = .ok (.ifCond .ne 9, 3) := by decide +kernel
theorem d_R_moveFirst_64 : decode prog_6_method_8_code 64 = .ok (.aload_n 0, 1) := by decide +kernel
theorem d_R_moveFirst_65 : decode prog_6_method_8_code 65 = .ok (.iload 4, 2) := by decide +kernel
theorem d_R_moveFirst_67 : decode prog_6_method_8_code 67 = .ok (.invokevirtual 89, 3) := by decide +kernel
theorem d_R_moveFirst_70 : decode prog_6_method_8_code 70 = .ok (.return_, 1) := by decide +kernel
def I_R_moveFirst (P : Unit → ev_M → ev_L → Prop) : List (Nat × ev_T) := [(0, tt_il 2 1),
  (1, tt_is 4 3),
  (3, tt_k 0 4),
  (4, tt_is 5 6),
  (6, tt_il 5 8),
  (8, tt_il 3 9),
  (9, tt_icge 54 12),
  (12, tt_il 4 14),
  (14, tt_il 2 15),
  (15, tt_il 3 16),
  (16, tt_iadd 17),
  (17, tt_icge 54 20),
  (20, tt_al 0 21),
  (21, tt_gf evLY 4 0 24),
  (24, tt_al 1 25),
  (25, tt_il 4 27),
  (27, tt_k 96 29),
  (29, tt_cV evLY 1 3 ev_b pre_I_read post_I_read 32),
  (32, tt_ifeq 48 35),
  (35, tt_al 0 36),
  (36, tt_cV evLY 4 0 ev_n pre_R_moveInstruction post_R_moveInstruction 39),
  (39, tt_al 0 40),
  (40, tt_gf evLY 4 0 43),
  (43, tt_cV evLY 1 0 ev_i pre_I_behind post_I_behind 46),
  (46, tt_is 4 48),
  (48, tt_ii 5 1 51),
  (51, tt_go 6),
  (54, tt_al 0 55),
  (55, tt_gf evLY 4 0 58),
  (58, tt_cV evLY 1 0 ev_b pre_I_endsBlock post_I_endsBlock 61),
  (61, tt_ifne 70 64),
  (64, tt_al 0 65),
  (65, tt_il 4 67),
  (67, tt_cV evLY 4 1 ev_n pre_R_appendJump post_R_appendJump 70),
  (70, tt_rv P)]
abbrev rm_R_moveFirst : Room := { frames := 4, cells := 0, slots := 0, locals := 128 }
set_option maxRecDepth 20000 in
theorem ok_R_moveFirst (l : Launch) (J : ev_K) (P : Unit → ev_M → ev_L → Prop) (X : ev_X l rm_R_moveFirst evLY evCl ws_R_moveFirst prog_6_method_8_code 6 y_R_moveFirst.cls J) (Z : ev_Z J prog_6_method_8_code .return_ ev_n P) : ev_oks J (I_R_moveFirst P) :=
  ⟨qq_iln X 2 rfl d_R_moveFirst_0,
  qq_is X 4 (by decide) d_R_moveFirst_1,
  qq_ic X 0 (by decide) d_R_moveFirst_3,
  qq_is X 5 (by decide) d_R_moveFirst_4,
  qq_il X 5 d_R_moveFirst_6,
  qq_iln X 3 rfl d_R_moveFirst_8,
  qq_icge X 54 (by decide) d_R_moveFirst_9,
  qq_il X 4 d_R_moveFirst_12,
  qq_iln X 2 rfl d_R_moveFirst_14,
  qq_iln X 3 rfl d_R_moveFirst_15,
  qq_iadd X d_R_moveFirst_16,
  qq_icge X 54 (by decide) d_R_moveFirst_17,
  qq_aln X 0 rfl d_R_moveFirst_20,
  qq_gf X 4 0 rfl (fun w h => List.mem_cons_of_mem _ (inE_R w h)) (by decide) (List.mem_cons_of_mem _ mw_140) d_R_moveFirst_21,
  qq_aln X 1 rfl d_R_moveFirst_24,
  qq_il X 4 d_R_moveFirst_25,
  qq_bp X 96 (by decide) d_R_moveFirst_27,
  qq_cV X 1 rfl (c_I_read l) (fun hts => cwV 3 hts (evGV (mw_547) (mw_419) (mw_420) (mw_5) (mw_421)) rfl rfl rfl (by decide +kernel) ⟨Nat.le_of_ble_eq_true rfl, Nat.le_of_ble_eq_true rfl⟩) d_R_moveFirst_29,
  qq_ifeq X 48 (by decide) d_R_moveFirst_32,
  qq_aln X 0 rfl d_R_moveFirst_35,
  qq_cV X 4 rfl (c_R_moveInstruction l) (fun hts => cwV 0 hts (evGV (mw_548) (mw_550) (mp_12) (mw_6) (mw_551)) rfl rfl rfl (by decide +kernel) ⟨Nat.le_of_ble_eq_true rfl, Nat.le_of_ble_eq_true rfl⟩) d_R_moveFirst_36,
  qq_aln X 0 rfl d_R_moveFirst_39,
  qq_gf X 4 0 rfl (fun w h => List.mem_cons_of_mem _ (inE_R w h)) (by decide) (List.mem_cons_of_mem _ mw_140) d_R_moveFirst_40,
  qq_cV X 1 rfl (c_I_behind l) (fun hts => cwV 0 hts (evGV (mw_556) (mw_430) (mw_431) (mw_5) (mw_432)) rfl rfl rfl (by decide +kernel) ⟨Nat.le_of_ble_eq_true rfl, Nat.le_of_ble_eq_true rfl⟩) d_R_moveFirst_43,
  qq_is X 4 (by decide) d_R_moveFirst_46,
  qq_ii X 5 1 (by decide) (by decide) d_R_moveFirst_48,
  qq_go X 6 (by decide) d_R_moveFirst_51,
  qq_aln X 0 rfl d_R_moveFirst_54,
  qq_gf X 4 0 rfl (fun w h => List.mem_cons_of_mem _ (inE_R w h)) (by decide) (List.mem_cons_of_mem _ mw_140) d_R_moveFirst_55,
  qq_cV X 1 rfl (c_I_endsBlock l) (fun hts => cwV 0 hts (evGV (mw_567) (mw_468) (mw_469) (mw_5) (mw_470)) rfl rfl rfl (by decide +kernel) ⟨Nat.le_of_ble_eq_true rfl, Nat.le_of_ble_eq_true rfl⟩) d_R_moveFirst_58,
  qq_ifne X 70 (by decide) d_R_moveFirst_61,
  qq_aln X 0 rfl d_R_moveFirst_64,
  qq_il X 4 d_R_moveFirst_65,
  qq_cV X 4 rfl (c_R_appendJump l) (fun hts => cwV 1 hts (evGV (mw_557) (mw_559) (mp_13) (mw_6) (mw_560)) rfl rfl rfl (by decide +kernel) ⟨Nat.le_of_ble_eq_true rfl, Nat.le_of_ble_eq_true rfl⟩) d_R_moveFirst_67,
  qq_rv Z d_R_moveFirst_70, trivial⟩
def pre_R_moveFirst : List Value → ev_M → ev_L → Prop := fun as σ _ => ∃ (hd nd : Int32), as = [.ref 18, .ref 1, .int hd, .int nd] ∧ (nd = 1 ∨ nd = 2) ∧ 0 ≤ hd.toInt ∧ hd.toInt < 96 ∧ sp_okR (σ 2) hd 96 ∧ (nd = 2 → sp_len (sp_kind (sp_at (σ 2) hd)) = 1 → sp_okR (σ 2) (hd + 1) 96)
def post_R_moveFirst : List Value → ev_M → ev_L → Unit → ev_M → ev_L → Prop := fun as σ τ _ σ' τ' => match as with
  | [_, _, .int hd, .int nd] => rvC σ' = rw_first (σ 2) hd nd (rvC σ) ∧ frW σ σ' ∧ τ' = τ
  | _ => False
set_option maxHeartbeats 4000000 in
set_option maxRecDepth 100000 in
theorem c_R_moveFirst (l : Launch) : ev_C ev_n l y_R_moveFirst ws_R_moveFirst rm_R_moveFirst evLY evCl pre_R_moveFirst post_R_moveFirst := by
  refine ev_meth0 (by decide) rfl ev_rop_v ?_ I_R_moveFirst (ok_R_moveFirst l) 100 ?_
  · rintro _ σ τ ⟨hd, nd, rfl, h⟩
    exact Nat.le_of_ble_eq_true rfl
  · rintro _ σ τ ⟨hd, nd, rfl, hnd, h0, h96, hok, hok2⟩
    have e1 : (hd + 1).toInt = hd.toInt + 1 := i_add (by omega) (by omega) (by decide) (by decide)
    have e2 : (hd + 2).toInt = hd.toInt + 2 := i_add (by omega) (by omega) (by decide) (by decide)
    -- the end
    have tail : ∀ (σ2 : ev_M) (τ2 : ev_L) (a : Int32), σ2 19 2 = sp_kind (sp_at (σ 2) a) → rw_first (σ 2) hd nd (rvC σ) = rw_end (σ 2) a (rvC σ2) → frW σ σ2 → τ2 = τ → pre_I_endsBlock [.ref 19] σ2 τ2 ∧ ∀ (v : Bool) (σ3 : ev_M) (τ3 : ev_L), post_I_endsBlock [.ref 19] σ2 τ2 v σ3 τ3 → (¬ (cond v 1 0 : Int32) = 0 → post_R_moveFirst [.ref 18, .ref 1, .int hd, .int nd] σ τ () σ3 τ3) ∧ ((cond v 1 0 : Int32) = 0 → pre_R_appendJump [.ref 18, .int (a + sp_len (sp_kind (sp_at (σ 2) a)))] σ3 τ3 ∧ ∀ (u : Unit) (σ4 : ev_M) (τ4 : ev_L), post_R_appendJump [.ref 18, .int (a + sp_len (sp_kind (sp_at (σ 2) a)))] σ3 τ3 u σ4 τ4 → post_R_moveFirst [.ref 18, .ref 1, .int hd, .int nd] σ τ () σ4 τ4) := by
      rintro σ2 τ2 a hk hv hf rfl
      refine ⟨⟨_, rfl, by decide⟩, ?_⟩
      rintro _ _ _ ⟨rfl, rfl, rfl⟩
      refine ⟨fun h => ?_, fun h => ⟨⟨_, rfl⟩, ?_⟩⟩
      · refine ⟨?_, hf, rfl⟩
        rw [hv]
        have h2 := bnz h
        rw [hk] at h2
        exact (if_pos h2).symm
      · rintro _ _ _ ⟨rfl, rfl⟩
        refine ⟨?_, frW_tr hf (frW_tr (frW_app _ _) (frW_app _ _)), rfl⟩
        rw [hv, rvC_app, rvC_app]
        have h2 := bz h
        rw [hk] at h2
        exact (if_neg (by rw [h2]; decide)).symm
    have hl1 := len_cases (sp_kind (sp_at (σ 2) hd))
    have hn0 : ¬ nd ≤ 0 := by rcases hnd with rfl | rfl <;> decide
    have hnh : ¬ hd + nd ≤ hd := by
      rw [Int32.le_iff_toInt_le]
      rcases hnd with rfl | rfl <;> omega
    refine br_f hn0 (br_f hnh ?_)
    refine ⟨⟨_, _, _, _, rfl, by decide⟩, ?_⟩
    rintro _ σ1 τ ⟨rfl, ⟨rfl, _, rfl⟩ | ⟨rfl, hno, _⟩⟩
    · refine br_f (by decide) ?_
      refine ⟨rfl, ?_⟩
      rintro _ σ2 τ ⟨hv, hf, h19, rfl⟩
      have hv1 : rvC σ2 = rw_at (σ 2) hd (rvC σ) := hv
      have hf1 : frW σ σ2 := frW_tr (frW_rd2 σ (σ 2) hd) hf
      have hk1 : σ2 19 2 = sp_kind (sp_at (σ 2) hd) := by rw [h19]; rfl
      have ha1 : σ2 19 0 = hd := by rw [h19]; rfl
      have hσ2 : σ2 2 = σ 2 := hf1.1 2 (by decide) (by decide) (by decide) (by decide)
      refine ⟨⟨_, rfl, by decide⟩, ?_⟩
      rintro _ σ2 τ ⟨rfl, rfl, rfl⟩
      rw [ha1, hk1]
      rcases hnd with rfl | rfl
      · refine br_t (show (1 : Int32) ≤ 0 + 1 by decide) ?_
        refine tail _ _ hd hk1 ?_ hf1 rfl
        rw [hv1]
        exact if_neg fun q => absurd q.1 (by decide)
      · refine br_f (show ¬ (2 : Int32) ≤ 0 + 1 by decide) ?_
        rcases hl1 with hl | hl | hl
        · rw [hl]
          refine br_f (by rw [Int32.le_iff_toInt_le]; omega) ?_
          refine ⟨⟨_, _, _, _, rfl, by decide⟩, ?_⟩
          rintro _ σ3 τ ⟨rfl, ⟨rfl, _, rfl⟩ | ⟨rfl, hno, _⟩⟩
          · refine br_f (by decide) ?_
            refine ⟨rfl, ?_⟩
            rintro _ σ4 τ ⟨hv', hf', h19', rfl⟩
            have hv2 : rvC σ4 = rw_at (σ 2) (hd + 1) (rvC σ2) := by rw [← hσ2]; exact hv'
            have hf2 : frW σ σ4 := frW_tr hf1 (frW_tr (frW_rd2 σ2 (σ2 2) (hd + 1)) hf')
            have hk2 : σ4 19 2 = sp_kind (sp_at (σ 2) (hd + 1)) := by rw [h19', ← hσ2]; rfl
            have ha2 : σ4 19 0 = hd + 1 := by rw [h19']; rfl
            refine ⟨⟨_, rfl, by decide⟩, ?_⟩
            rintro _ σ4 τ ⟨rfl, rfl, rfl⟩
            rw [ha2, hk2]
            refine br_t (show (2 : Int32) ≤ 0 + 1 + 1 by decide) ?_
            refine tail _ _ (hd + 1) hk2 ?_ hf2 rfl
            rw [hv2, hv1]
            exact if_pos ⟨rfl, hl⟩
          · exact absurd (by rw [show σ2 (1 + 1) = σ 2 from hσ2]; exact hok2 rfl hl) hno
        · refine br_t (by rw [hl, Int32.le_iff_toInt_le]; omega) ?_
          refine tail _ _ hd hk1 ?_ hf1 rfl
          rw [hv1]
          exact if_neg fun q => absurd (hl.symm.trans q.2) (by decide)
        · have e3 : (hd + 3).toInt = hd.toInt + 3 := i_add (by omega) (by omega) (by decide) (by decide)
          refine br_t (by rw [hl, Int32.le_iff_toInt_le]; omega) ?_
          refine tail _ _ hd hk1 ?_ hf1 rfl
          rw [hv1]
          exact if_neg fun q => absurd (hl.symm.trans q.2) (by decide)
    · exact absurd hok hno
/-- a rewriting of n blocks -/
def rw_all (f h b : Nat → Int32) : Nat → rws
  | 0 => (cutF f, fun _ => -1, 96)
  | k + 1 => rw_blk f (nI k) (h k) (b k) (rw_all f h b k)
/-- how far the free place moves -/
def rw_e (N : Nat) (x y : rws) : Prop := ∃ d : Nat, d ≤ N ∧ y.2.2 = x.2.2 + nI d
theorem rw_e_app (v : Int32) (x : rws) : rw_e 1 x (rw_app v x) := ⟨1, Nat.le_refl _, rfl⟩
theorem rw_e_tr {N M : Nat} {x y z : rws} (h1 : rw_e N x y) (h2 : rw_e M y z) : rw_e (N + M) x z := by
  obtain ⟨d, hd, e⟩ := h1
  obtain ⟨d', hd', e'⟩ := h2
  exact ⟨d + d', by omega, by rw [e', e, Int32.add_assoc, nI_add]⟩
theorem rw_e_le {N M : Nat} {x y : rws} (h : N ≤ M) (h1 : rw_e N x y) : rw_e M x y := by
  obtain ⟨d, hd, e⟩ := h1
  exact ⟨d, by omega, e⟩
theorem rw_e_0 {N : Nat} {x : rws} : rw_e N x x := ⟨0, Nat.zero_le _, by rw [show nI 0 = 0 from rfl]; simp⟩
theorem rw_e_jump (t : Int32) (x : rws) : rw_e 2 x (rw_jump t x) := rw_e_tr (rw_e_app 69 x) (rw_e_app t _)
theorem rw_e_copy (op n m k : Int32) (x : rws) : rw_e 3 x (rw_copy op n m k x) := by
  unfold rw_copy
  have h1 : rw_e 2 x (if 1 < k then rw_app n (rw_app op x) else rw_app op x) := by
    split
    · exact rw_e_tr (rw_e_app op x) (rw_e_app n _)
    · exact rw_e_le (by omega) (rw_e_app op x)
  split
  · exact rw_e_tr h1 (rw_e_app m _)
  · exact rw_e_le (by omega) h1
theorem rw_e_ins (kd op n m bh bt : Int32) (x : rws) : rw_e 6 x (rw_ins kd op n m bh bt x) := by
  unfold rw_ins
  split
  · exact rw_e_tr (rw_e_tr (rw_e_tr (rw_e_app op x) (rw_e_app 2 _)) (rw_e_jump bh _)) (rw_e_jump bt _)
  · split
    · exact rw_e_le (by omega) (rw_e_jump bt x)
    · split
      · exact rw_e_le (by omega) (rw_e_tr (rw_e_tr (rw_e_app 77 x) (rw_e_app n _)) (rw_e_app bh _))
      · exact rw_e_le (by omega) (rw_e_copy op n m _ x)
theorem rw_e_end (f : Nat → Int32) (a : Int32) (x : rws) : rw_e 2 x (rw_end f a x) := by
  unfold rw_end
  split
  · exact rw_e_0
  · exact rw_e_jump _ _
theorem rw_e_first (f : Nat → Int32) (a d : Int32) (x : rws) : rw_e 14 x (rw_first f a d x) := by
  unfold rw_first
  split
  · exact rw_e_tr (rw_e_tr (rw_e_ins _ _ _ _ _ _ x) (rw_e_ins _ _ _ _ _ _ _)) (rw_e_end _ _ _)
  · exact rw_e_le (by omega) (rw_e_tr (rw_e_ins _ _ _ _ _ _ x) (rw_e_end _ _ _))
theorem rw_e_hook (a s t : Int32) (x : rws) : (rw_hook a s t x).2.2 = x.2.2 := by
  obtain ⟨g, T, e⟩ := x
  unfold rw_hook
  split <;> rfl
theorem rw_e_blk (f : Nat → Int32) (k a s : Int32) (x : rws) : rw_e 16 x (rw_blk f k a s x) := by
  have h := rw_e_tr (rw_e_tr (rw_e_app 76 x) (rw_e_app k _)) (rw_e_first f a (if 2 < s then 2 else s) _)
  obtain ⟨d, hd, e⟩ := h
  exact ⟨d, hd, by unfold rw_blk; rw [rw_e_hook]; exact e⟩
theorem rw_e_all (f h b : Nat → Int32) : ∀ k : Nat, rw_e (16 * k) (rw_all f h b 0) (rw_all f h b k)
  | 0 => rw_e_0
  | k + 1 => rw_e_le (by omega) (rw_e_tr (rw_e_all f h b k) (rw_e_blk f (nI k) (h k) (b k) _))
theorem rw_free (f h b : Nat → Int32) {k : Nat} (hk : k ≤ 96) : 96 ≤ (rw_all f h b k).2.2.toInt ∧ (rw_all f h b k).2.2.toInt ≤ 1632 := by
  obtain ⟨d, hd, e⟩ := rw_e_all f h b k
  have e0 : (rw_all f h b 0).2.2 = 96 := rfl
  have h96 : (96 : Int32).toInt = 96 := rfl
  have hdi : (nI d).toInt = d := nI_toInt (by omega)
  rw [e, e0, i_add (by decide) (by decide) (by omega) (by omega)]
  omega
/-- what rewriting needs of a block -/
def vbC (f : Nat → Int32) (hd sz : Int32) : Prop := 0 ≤ hd.toInt ∧ hd.toInt < 96 ∧ 1 ≤ sz.toInt ∧ sz.toInt ≤ 96 ∧ sp_okR f hd 96 ∧ (2 ≤ sz.toInt → sp_len (sp_kind (sp_at f hd)) = 1 → sp_okR f (hd + 1) 96)
def y_R_build : MethodName := ⟨RX4, "build", "(LBlockCounter$Program;LBlockCounter$Analysis;)Z"⟩
def ws_R_build : List Cond := .code y_R_build prog_6_method_6_code 7 (some .boolean) :: evW
theorem d_R_build_0 : decode prog_6_method_6_code 0 = .ok (.aload_n 0, 1) := by decide +kernel
theorem d_R_build_1 : decode prog_6_method_6_code 1 = .ok (.getfield 21, 3) := by decide +kernel
theorem d_R_build_4 : decode prog_6_method_6_code 4 = .ok (.aload_n 1, 1) := by decide +kernel
theorem d_R_build_5 : decode prog_6_method_6_code 5 = .ok (.invokevirtual 33, 3) := by decide +kernel
theorem d_R_build_8 : decode prog_6_method_6_code 8 = .ok (.aload_n 0, 1) := by decide +kernel
theorem d_R_build_9 : decode prog_6_method_6_code 9 = .ok (.bipush 96, 2) := by decide +kernel
theorem d_R_build_11 : decode prog_6_method_6_code 11 = .ok (.putfield 29, 3) := by decide +kernel
theorem d_R_build_14 : decode prog_6_method_6_code 14 = .ok (.iconst 0, 1) := by decide +kernel
theorem d_R_build_15 : decode prog_6_method_6_code 15 = .ok (.istore_n 3, 1) := by decide +kernel
theorem d_R_build_16 : decode prog_6_method_6_code 16 = .ok (.iload_n 3, 1) := by decide +kernel
theorem d_R_build_17 : decode prog_6_method_6_code 17 = .ok (.aload_n 2, 1) := by decide +kernel
theorem d_R_build_18 : decode prog_6_method_6_code 18 = .ok (.invokevirtual 37, 3) := by decide +kernel
theorem d_R_build_21 : decode prog_6_method_6_code 21 = .ok (.if_icmp .ge 63, 3) := by decide +kernel
theorem d_R_build_24 : decode prog_6_method_6_code 24 = .ok (.aload_n 0, 1) := by decide +kernel
theorem d_R_build_25 : decode prog_6_method_6_code 25 = .ok (.getfield 29, 3) := by decide +kernel
theorem d_R_build_28 : decode prog_6_method_6_code 28 = .ok (.istore 4, 2) := by decide +kernel
theorem d_R_build_30 : decode prog_6_method_6_code 30 = .ok (.aload_n 2, 1) := by decide +kernel
theorem d_R_build_31 : decode prog_6_method_6_code 31 = .ok (.iload_n 3, 1) := by decide +kernel
theorem d_R_build_32 : decode prog_6_method_6_code 32 = .ok (.invokevirtual 43, 3) := by decide +kernel
theorem d_R_build_35 : decode prog_6_method_6_code 35 = .ok (.istore 5, 2) := by decide +kernel
theorem d_R_build_37 : decode prog_6_method_6_code 37 = .ok (.aload_n 2, 1) := by decide +kernel
theorem d_R_build_38 : decode prog_6_method_6_code 38 = .ok (.iload_n 3, 1) := by decide +kernel
theorem d_R_build_39 : decode prog_6_method_6_code 39 = .ok (.invokevirtual 47, 3) := by decide +kernel
theorem d_R_build_42 : decode prog_6_method_6_code 42 = .ok (.istore 6, 2) := by decide +kernel
theorem d_R_build_44 : decode prog_6_method_6_code 44 = .ok (.aload_n 0, 1) := by decide +kernel
theorem d_R_build_45 : decode prog_6_method_6_code 45 = .ok (.bipush 76, 2) := by decide +kernel
theorem d_R_build_47 : decode prog_6_method_6_code 47 = .ok (.invokevirtual 50, 3) := by decide +kernel
theorem d_R_build_50 : decode prog_6_method_6_code 50 = .ok (.aload_n 0, 1) := by decide +kernel
theorem d_R_build_51 : decode prog_6_method_6_code 51 = .ok (.iload_n 3, 1) := by decide +kernel
theorem d_R_build_52 : decode prog_6_method_6_code 52 = .ok (.invokevirtual 50, 3) := by decide +kernel
theorem d_R_build_55 : decode prog_6_method_6_code 55 = .ok (.aload_n 0, 1) := by decide +kernel
theorem d_R_build_56 : decode prog_6_method_6_code 56 = .ok (.aload_n 1, 1) := by decide +kernel
theorem d_R_build_57 : decode prog_6_method_6_code 57 = .ok (.iload 5, 2) := by decide +kernel
theorem d_R_build_59 : decode prog_6_method_6_code 59 = .ok (.iload 6, 2) := by decide +kernel
theorem d_R_build_61 : decode prog_6_method_6_code 61 = .ok (.iconst 2, 1) := by decide +kernel
theorem d_R_build_62 : decode prog_6_method_6_code 62 = .ok (.invokestatic 54, 3) := by decide +kernel
theorem d_R_build_65 : decode prog_6_method_6_code 65 = .ok (.invokevirtual 60, 3) := by decide +kernel
theorem d_R_build_68 : decode prog_6_method_6_code 68 = .ok (.aload_n 0, 1) := by decide +kernel
theorem d_R_build_69 : decode prog_6_method_6_code 69 = .ok (.iload 5, 2) := by decide +kernel
theorem d_R_build_71 : decode prog_6_method_6_code 71 = .ok (.iload 6, 2) := by decide +kernel
theorem d_R_build_73 : decode prog_6_method_6_code 73 = .ok (.iload 4, 2) := by decide +kernel
theorem d_R_build_75 : decode prog_6_method_6_code 75 = .ok (.invokevirtual 64, 3) := by decide +kernel
theorem d_R_build_78 : decode prog_6_method_6_code 78 = .ok (.iinc 3 1, 3) := by decide +kernel
theorem d_R_build_81 : decode prog_6_method_6_code 81 = .ok (.goto (-65), 3) := by decide +kernel
theorem d_R_build_84 : decode prog_6_method_6_code 84 = .ok (.aload_n 0, 1) := by decide +kernel
theorem d_R_build_85 : decode prog_6_method_6_code 85 = .ok (.aload_n 0, 1) := by decide +kernel
theorem d_R_build_86 : decode prog_6_method_6_code 86 = .ok (.getfield 29, 3) := by decide +kernel
theorem d_R_build_89 : decode prog_6_method_6_code 89 = .ok (.sipush 256, 3) := by decide +kernel
theorem d_R_build_92 : decode prog_6_method_6_code 92 = .ok (.if_icmp .gt 7, 3) := by decide +kernel
theorem d_R_build_95 : decode prog_6_method_6_code 95 = .ok (.iconst 1, 1) := by decide +kernel
theorem d_R_build_96 : decode prog_6_method_6_code 96 = .ok (.goto 4, 3) := by decide +kernel
theorem d_R_build_99 : decode prog_6_method_6_code 99 = .ok (.iconst 0, 1) := by decide +kernel
theorem d_R_build_100 : decode prog_6_method_6_code 100 = .ok (.putfield 25, 3) := by decide +kernel
theorem d_R_build_103 : decode prog_6_method_6_code 103 = .ok (.aload_n 0, 1) := by decide +kernel
theorem d_R_build_104 : decode prog_6_method_6_code 104 = .ok (.getfield 25, 3) := by decide +kernel
theorem d_R_build_107 : decode prog_6_method_6_code 107 = .ok (.ireturn, 1) := by decide +kernel
def I_R_build (P : Bool → ev_M → ev_L → Prop) : List (Nat × ev_T) := [(0, tt_al 0 1),
  (1, tt_gf evLY 4 1 4),
  (4, tt_al 1 5),
  (5, tt_cV evLY 3 1 ev_n pre_P_becomeCopyOf post_P_becomeCopyOf 8),
  (8, tt_al 0 9),
  (9, tt_k 96 11),
  (11, tt_pf evLY 4 2 14),
  (14, tt_k 0 15),
  (15, tt_is 3 16),
  (16, tt_il 3 17),
  (17, tt_al 2 18),
  (18, tt_cV evLY 0 0 ev_i pre_A_size post_A_size 21),
  (21, tt_icge 84 24),
  (24, tt_al 0 25),
  (25, tt_gf evLY 4 2 28),
  (28, tt_is 4 30),
  (30, tt_al 2 31),
  (31, tt_il 3 32),
  (32, tt_cV evLY 0 1 ev_i pre_A_headOf post_A_headOf 35),
  (35, tt_is 5 37),
  (37, tt_al 2 38),
  (38, tt_il 3 39),
  (39, tt_cV evLY 0 1 ev_i pre_A_bytesOf post_A_bytesOf 42),
  (42, tt_is 6 44),
  (44, tt_al 0 45),
  (45, tt_k 76 47),
  (47, tt_cV evLY 4 1 ev_n pre_R_append post_R_append 50),
  (50, tt_al 0 51),
  (51, tt_il 3 52),
  (52, tt_cV evLY 4 1 ev_n pre_R_append post_R_append 55),
  (55, tt_al 0 56),
  (56, tt_al 1 57),
  (57, tt_il 5 59),
  (59, tt_il 6 61),
  (61, tt_k 2 62),
  (62, tt_cS 2 ev_i pre_JM_min post_JM_min 65),
  (65, tt_cV evLY 4 3 ev_n pre_R_moveFirst post_R_moveFirst 68),
  (68, tt_al 0 69),
  (69, tt_il 5 71),
  (71, tt_il 6 73),
  (73, tt_il 4 75),
  (75, tt_cV evLY 4 3 ev_n pre_R_hook post_R_hook 78),
  (78, tt_ii 3 1 81),
  (81, tt_go 16),
  (84, tt_al 0 85),
  (85, tt_al 0 86),
  (86, tt_gf evLY 4 2 89),
  (89, tt_k 256 92),
  (92, tt_icgt 99 95),
  (95, tt_k 1 96),
  (96, tt_go 100),
  (99, tt_k 0 100),
  (100, tt_pz evLY 4 3 103),
  (103, tt_al 0 104),
  (104, tt_gf evLY 4 3 107),
  (107, tt_rz P)]
abbrev rm_R_build : Room := { frames := 5, cells := 0, slots := 0, locals := 160 }
set_option maxRecDepth 20000 in
theorem ok_R_build (l : Launch) (J : ev_K) (P : Bool → ev_M → ev_L → Prop) (X : ev_X l rm_R_build evLY evCl ws_R_build prog_6_method_6_code 7 y_R_build.cls J) (Z : ev_Z J prog_6_method_6_code .ireturn ev_b P) : ev_oks J (I_R_build P) :=
  ⟨qq_aln X 0 rfl d_R_build_0,
  qq_gf X 4 1 rfl (fun w h => List.mem_cons_of_mem _ (inE_R w h)) (by decide) (List.mem_cons_of_mem _ mw_141) d_R_build_1,
  qq_aln X 1 rfl d_R_build_4,
  qq_cV X 3 rfl (c_P_becomeCopyOf l) (fun hts => cwV 1 hts (evGV (mw_525) (mw_526) (mw_527) (mw_2) (mw_528)) rfl rfl rfl (by decide +kernel) ⟨Nat.le_of_ble_eq_true rfl, Nat.le_of_ble_eq_true rfl⟩) d_R_build_5,
  qq_aln X 0 rfl d_R_build_8,
  qq_bp X 96 (by decide) d_R_build_9,
  qq_pf X 4 2 rfl (fun w h => List.mem_cons_of_mem _ (inE_R w h)) (by decide) tyX4 tyX4_ok nmX4 rfl (by decide +kernel) (List.mem_cons_of_mem _ mw_142) d_R_build_11,
  qq_ic X 0 (by decide) d_R_build_14,
  qq_isn X 3 rfl (by decide) d_R_build_15,
  qq_iln X 3 rfl d_R_build_16,
  qq_aln X 2 rfl d_R_build_17,
  qq_cV X 0 rfl (c_A_size l) (fun hts => cwV 0 hts (evGV (mw_532) (mw_488) (mw_489) (mw_4) (mw_490)) rfl rfl rfl (by decide +kernel) ⟨Nat.le_of_ble_eq_true rfl, Nat.le_of_ble_eq_true rfl⟩) d_R_build_18,
  qq_icge X 84 (by decide) d_R_build_21,
  qq_aln X 0 rfl d_R_build_24,
  qq_gf X 4 2 rfl (fun w h => List.mem_cons_of_mem _ (inE_R w h)) (by decide) (List.mem_cons_of_mem _ mw_142) d_R_build_25,
  qq_is X 4 (by decide) d_R_build_28,
  qq_aln X 2 rfl d_R_build_30,
  qq_iln X 3 rfl d_R_build_31,
  qq_cV X 0 rfl (c_A_headOf l) (fun hts => cwV 1 hts (evGV (mw_533) (mw_500) (mw_501) (mw_4) (mw_502)) rfl rfl rfl (by decide +kernel) ⟨Nat.le_of_ble_eq_true rfl, Nat.le_of_ble_eq_true rfl⟩) d_R_build_32,
  qq_is X 5 (by decide) d_R_build_35,
  qq_aln X 2 rfl d_R_build_37,
  qq_iln X 3 rfl d_R_build_38,
  qq_cV X 0 rfl (c_A_bytesOf l) (fun hts => cwV 1 hts (evGV (mw_534) (mw_504) (mw_505) (mw_4) (mw_506)) rfl rfl rfl (by decide +kernel) ⟨Nat.le_of_ble_eq_true rfl, Nat.le_of_ble_eq_true rfl⟩) d_R_build_39,
  qq_is X 6 (by decide) d_R_build_42,
  qq_aln X 0 rfl d_R_build_44,
  qq_bp X 76 (by decide) d_R_build_45,
  qq_cV X 4 rfl (c_R_append l) (fun hts => cwV 1 hts (evGV (mw_535) (mw_537) (mp_10) (mw_6) (mw_538)) rfl rfl rfl (by decide +kernel) ⟨Nat.le_of_ble_eq_true rfl, Nat.le_of_ble_eq_true rfl⟩) d_R_build_47,
  qq_aln X 0 rfl d_R_build_50,
  qq_iln X 3 rfl d_R_build_51,
  qq_cV X 4 rfl (c_R_append l) (fun hts => cwV 1 hts (evGV (mw_535) (mw_537) (mp_10) (mw_6) (mw_538)) rfl rfl rfl (by decide +kernel) ⟨Nat.le_of_ble_eq_true rfl, Nat.le_of_ble_eq_true rfl⟩) d_R_build_52,
  qq_aln X 0 rfl d_R_build_55,
  qq_aln X 1 rfl d_R_build_56,
  qq_il X 5 d_R_build_57,
  qq_il X 6 d_R_build_59,
  qq_ic X 2 (by decide) d_R_build_61,
  qq_cS X (c_JM_min l) (fun hts => va_cwS 2 hts (evGS (mw_540) (mw_541) (mw_18) (mw_542)) rfl rfl rfl (by decide +kernel) ⟨Nat.le_of_ble_eq_true rfl, Nat.le_of_ble_eq_true rfl⟩) d_R_build_62,
  qq_cV X 4 rfl (c_R_moveFirst l) (fun hts => cwV 3 hts (evGV (mw_543) (mw_545) (mp_11) (mw_6) (mw_546)) rfl rfl rfl (by decide +kernel) ⟨Nat.le_of_ble_eq_true rfl, Nat.le_of_ble_eq_true rfl⟩) d_R_build_65,
  qq_aln X 0 rfl d_R_build_68,
  qq_il X 5 d_R_build_69,
  qq_il X 6 d_R_build_71,
  qq_il X 4 d_R_build_73,
  qq_cV X 4 rfl (c_R_hook l) (fun hts => cwV 3 hts (evGV (mw_568) (mw_570) (mp_15) (mw_6) (mw_571)) rfl rfl rfl (by decide +kernel) ⟨Nat.le_of_ble_eq_true rfl, Nat.le_of_ble_eq_true rfl⟩) d_R_build_75,
  qq_ii X 3 1 (by decide) (by decide) d_R_build_78,
  qq_go X 16 (by decide) d_R_build_81,
  qq_aln X 0 rfl d_R_build_84,
  qq_aln X 0 rfl d_R_build_85,
  qq_gf X 4 2 rfl (fun w h => List.mem_cons_of_mem _ (inE_R w h)) (by decide) (List.mem_cons_of_mem _ mw_142) d_R_build_86,
  qq_sp X 256 (by decide) d_R_build_89,
  qq_icgt X 99 (by decide) d_R_build_92,
  qq_ic X 1 (by decide) d_R_build_95,
  qq_go X 100 (by decide) d_R_build_96,
  qq_ic X 0 (by decide) d_R_build_99,
  qq_pz X 4 3 rfl (fun w h => List.mem_cons_of_mem _ (inE_R w h)) (by decide) tyX4 tyX4_ok nmX4 rfl (by decide +kernel) (List.mem_cons_of_mem _ mw_143) d_R_build_100,
  qq_aln X 0 rfl d_R_build_103,
  qq_gf X 4 3 rfl (fun w h => List.mem_cons_of_mem _ (inE_R w h)) (by decide) (List.mem_cons_of_mem _ mw_143) d_R_build_104,
  qq_rz Z d_R_build_107, trivial⟩
def pre_R_build : List Value → ev_M → ev_L → Prop := fun as σ _ => ∃ n : Nat, as = [.ref 18, .ref 1, .ref 8] ∧ σ 8 10 = nI n ∧ n ≤ 96 ∧ (∀ i, i < 96 → σ 3 i = 0) ∧ ∀ k, k < n → vbC (σ 2) (σ 15 k) (σ 16 k)
def post_R_build : List Value → ev_M → ev_L → Bool → ev_M → ev_L → Prop := fun _ σ τ r σ' τ' => r = decide (σ' 18 2 ≤ 256) ∧ rvC σ' = rw_all (σ 2) (σ 15) (σ 16) (σ 8 10).toNatClampNeg ∧ σ' 18 3 = cond r 1 0 ∧ (∀ k, ¬ k = 18 → ¬ k = 19 → ¬ k = 21 → ¬ k = 22 → σ' k = σ k) ∧ τ' = τ
set_option maxHeartbeats 4000000 in
set_option maxRecDepth 100000 in
theorem c_R_build (l : Launch) : ev_C ev_b l y_R_build ws_R_build rm_R_build evLY evCl pre_R_build post_R_build := by
  refine ev_methL (by decide) rfl ev_rop_b ?_ I_R_build (ok_R_build l) [16] 100 ?_
  · rintro _ σ τ ⟨n, rfl, h⟩
    exact Nat.le_of_ble_eq_true rfl
  · rintro _ σ τ ⟨n, rfl, hn, hn96, htr, hvb⟩
    have hcl : (σ 8 10).toNatClampNeg = n := by rw [hn]; exact nI_clamp (by omega)
    refine ⟨fun μ pc lv st σ' τ' z => st = [] ∧ z = 0 ∧ τ = τ' ∧ ((pc = 0 ∧ μ = 500 ∧ lv = [.ref 18, .ref 1, .ref 8, .null, .null, .null, .null] ∧ σ = σ') ∨ (pc = 16 ∧ ∃ (i : Nat) (v4 v5 v6 : Value), i ≤ n ∧ μ = n - i ∧ lv = [.ref 18, .ref 1, .ref 8, .int (nI i), v4, v5, v6] ∧ ((v4 = .null ∧ v5 = .null ∧ v6 = .null) ∨ ∃ a b c : Int32, v4 = .int a ∧ v5 = .int b ∧ v6 = .int c) ∧ rvC σ' = rw_all (σ 2) (σ 15) (σ 16) i ∧ (∀ k, ¬ k = 18 → ¬ k = 19 → ¬ k = 21 → ¬ k = 22 → σ' k = σ k))), ⟨500, rfl, rfl, rfl, Or.inl ⟨rfl, rfl, rfl, rfl⟩⟩, ?_⟩
    rintro μ pc lv st σ' τ' z ⟨rfl, rfl, rfl, ⟨rfl, rfl, rfl, rfl⟩ | ⟨rfl, i, v4, v5, v6, hi, rfl, rfl, hvs, hv, hfr⟩⟩
    · refine ⟨rfl, ?_⟩
      rintro _ _ _ ⟨rfl, rfl⟩
      refine ⟨n, by omega, rfl, rfl, rfl, Or.inr ⟨rfl, 0, _, _, _, Nat.zero_le _, rfl, rfl, Or.inl ⟨rfl, rfl, rfl⟩, ?_, fun k h1 _ h3 h4 => by simp [sp_copy, ev_u, ev_p, h1, h3, h4]⟩⟩
      show ((cutF (va_cpy (σ 2) (σ 21) 0 0 256), ntC (va_cpy (σ 3) (σ 22) 0 0 96), 96) : rws) = (cutF (σ 2), fun _ => -1, 96)
      have c1 : cutF (va_cpy (σ 2) (σ 21) 0 0 256) = cutF (σ 2) := by
        funext j
        unfold cutF va_cpy
        by_cases hj : j < 256 <;> simp [hj]
      have c2 : ntC (va_cpy (σ 3) (σ 22) 0 0 96) = fun _ => -1 := by
        funext j
        unfold ntC va_cpy
        by_cases hj : j < 96
        · simp [hj, htr j hj]
        · simp [hj]
      rw [c1, c2]
    · have e8 : σ' 8 = σ 8 := hfr 8 (by decide) (by decide) (by decide) (by decide)
      have e2 : σ' 2 = σ 2 := hfr 2 (by decide) (by decide) (by decide) (by decide)
      have e15 : σ' 15 = σ 15 := hfr 15 (by decide) (by decide) (by decide) (by decide)
      have e16 : σ' 16 = σ 16 := hfr 16 (by decide) (by decide) (by decide) (by decide)
      refine ⟨rfl, ?_⟩
      rintro _ σ' τ ⟨rfl, rfl, rfl⟩
      rw [e8, hn]
      refine br_c (fun h => ?_) (fun h => ?_)
      · have hin : n ≤ i := (nI_leI (by omega) (by omega)).mp h
        have : i = n := by omega
        subst this
        have fr2 : ∀ x : Int32, ∀ k, ¬ k = 18 → ¬ k = 19 → ¬ k = 21 → ¬ k = 22 → ev_u σ' 18 3 x k = σ k := fun x k h1 h2 h3 h4 => (if_neg h1).trans (hfr k h1 h2 h3 h4)
        refine br_c (fun h2 => ?_) (fun h2 => ?_)
        · refine ⟨Or.inl rfl, false, rfl, (decide_eq_false (Int32.not_le.mpr h2)).symm, ?_, rfl, fr2 _, rfl⟩
          rw [hcl, ← hv]; rfl
        · refine ⟨Or.inr rfl, true, rfl, (decide_eq_true (Int32.not_lt.mp h2)).symm, ?_, rfl, fr2 _, rfl⟩
          rw [hcl, ← hv]; rfl
      · have hin : i < n := Nat.not_le.mp fun q => h ((nI_leI (by omega) (by omega)).mpr q)
        have hci : (nI i).toNatClampNeg = i := nI_clamp (by omega)
        obtain ⟨b0, b1, b2, b3, b4, b5⟩ := hvb i hin
        have hbc : (σ' 8 10).toInt ≤ (96 : Nat) := by rw [e8, hn, nI_toInt (by omega)]; omega
        have hidx : ∀ g : Nat → Int32, sp_idx (σ 8 10) g (nI i) = g i := by
          intro g
          unfold sp_idx
          rw [hn, if_pos ⟨nI_pos' (by omega), nI_lt hin (by omega)⟩, hci]
        have free := rw_free (σ 2) (σ 15) (σ 16) (k := i) (by omega)
        rw [← hv] at free
        have hst : ¬ σ' 18 2 = 0 := by
          intro q
          have f1 : 96 ≤ (σ' 18 2).toInt := free.1
          rw [q] at f1
          exact absurd f1 (by decide)
        -- the block
        have blk : pre_A_headOf [.ref 8, .int (nI i)] σ' τ ∧ ∀ (r : Int32) (σ1 : ev_M) (τ1 : ev_L), post_A_headOf [.ref 8, .int (nI i)] σ' τ r σ1 τ1 → r = σ 15 i ∧ σ1 = σ' ∧ τ1 = τ := by
          refine ⟨⟨_, rfl, hbc⟩, ?_⟩
          rintro _ _ _ ⟨rfl, rfl, rfl⟩
          exact ⟨by rw [e8, hidx, e15], rfl, rfl⟩
        have hnd : (if (2 : Int32) < σ 16 i then (2 : Int32) else σ 16 i) = 1 ∨ (if (2 : Int32) < σ 16 i then (2 : Int32) else σ 16 i) = 2 := by
          split
          · exact Or.inr rfl
          · rename_i hq
            rw [Int32.lt_iff_toInt_lt] at hq
            have h2i : (2 : Int32).toInt = 2 := rfl
            rcases (show (σ 16 i).toInt = 1 ∨ (σ 16 i).toInt = 2 by omega) with q | q
            · exact Or.inl (Int32.toInt_inj.mp q)
            · exact Or.inr (Int32.toInt_inj.mp q)
        have fin : ∀ (v4 v5 v6 : Value) (σ5 : ev_M) (τ5 : ev_L), (∃ a b c : Int32, v4 = .int a ∧ v5 = .int b ∧ v6 = .int c) → rvC σ5 = rw_blk (σ 2) (nI i) (σ 15 i) (σ 16 i) (rvC σ') → frW σ' σ5 → τ5 = τ → ∃ μ', μ' < n - i ∧ ([] : List Value) = [] ∧ 0 = 0 ∧ τ = τ5 ∧ ((16 = 0 ∧ μ' = 500 ∧ ([.ref 18, .ref 1, .ref 8, .int (nI i + 1), v4, v5, v6] : List Value) = [.ref 18, .ref 1, .ref 8, .null, .null, .null, .null] ∧ σ = σ5) ∨ (16 = 16 ∧ ∃ (i2 : Nat) (v4' v5' v6' : Value), i2 ≤ n ∧ μ' = n - i2 ∧ ([.ref 18, .ref 1, .ref 8, .int (nI i + 1), v4, v5, v6] : List Value) = [.ref 18, .ref 1, .ref 8, .int (nI i2), v4', v5', v6'] ∧ ((v4' = .null ∧ v5' = .null ∧ v6' = .null) ∨ ∃ a b c : Int32, v4' = .int a ∧ v5' = .int b ∧ v6' = .int c) ∧ rvC σ5 = rw_all (σ 2) (σ 15) (σ 16) i2 ∧ (∀ k, ¬ k = 18 → ¬ k = 19 → ¬ k = 21 → ¬ k = 22 → σ5 k = σ k))) := by
          rintro v4 v5 v6 σ5 τ5 hvs hv5 hf5 rfl
          refine ⟨n - (i + 1), by omega, rfl, rfl, rfl, Or.inr ⟨rfl, i + 1, v4, v5, v6, by omega, rfl, by rw [← nI_1], Or.inr hvs, ?_, fun k h1 h2 h3 h4 => (hf5.1 k h1 h2 h3 h4).trans (hfr k h1 h2 h3 h4)⟩⟩
          rw [hv5, hv]
          rfl
        have walk : pre_A_headOf [.ref 8, .int (nI i)] σ' τ ∧ ∀ (r : Int32) (σ1 : ev_M) (τ1 : ev_L), post_A_headOf [.ref 8, .int (nI i)] σ' τ r σ1 τ1 → pre_A_bytesOf [.ref 8, .int (nI i)] σ1 τ1 ∧ ∀ (r2 : Int32) (σ2 : ev_M) (τ2 : ev_L), post_A_bytesOf [.ref 8, .int (nI i)] σ1 τ1 r2 σ2 τ2 → pre_R_append [.ref 18, .int 76] σ2 τ2 ∧ ∀ (u : Unit) (σ3 : ev_M) (τ3 : ev_L), post_R_append [.ref 18, .int 76] σ2 τ2 u σ3 τ3 → pre_R_append [.ref 18, .int (nI i)] σ3 τ3 ∧ ∀ (u : Unit) (σ4 : ev_M) (τ4 : ev_L), post_R_append [.ref 18, .int (nI i)] σ3 τ3 u σ4 τ4 → pre_JM_min [.int r2, .int 2] σ4 τ4 ∧ ∀ (r3 : Int32) (σ6 : ev_M) (τ6 : ev_L), post_JM_min [.int r2, .int 2] σ4 τ4 r3 σ6 τ6 → pre_R_moveFirst [.ref 18, .ref 1, .int r, .int r3] σ6 τ6 ∧ ∀ (u : Unit) (σ7 : ev_M) (τ7 : ev_L), post_R_moveFirst [.ref 18, .ref 1, .int r, .int r3] σ6 τ6 u σ7 τ7 → pre_R_hook [.ref 18, .int r, .int r2, .int (σ' 18 2)] σ7 τ7 ∧ ∀ (u : Unit) (σ8 : ev_M) (τ8 : ev_L), post_R_hook [.ref 18, .int r, .int r2, .int (σ' 18 2)] σ7 τ7 u σ8 τ8 → rvC σ8 = rw_blk (σ 2) (nI i) (σ 15 i) (σ 16 i) (rvC σ') ∧ frW σ' σ8 ∧ τ8 = τ := by
          refine ⟨blk.1, ?_⟩
          intro r σ1 τ1 h1
          obtain ⟨rfl, rfl, rfl⟩ := blk.2 r σ1 τ1 h1
          refine ⟨⟨_, rfl, hbc⟩, ?_⟩
          rintro _ σ' τ ⟨rfl, rfl, rfl⟩
          rw [e8, hidx, e16]
          refine ⟨⟨_, rfl⟩, ?_⟩
          rintro _ _ τ ⟨rfl, rfl⟩
          refine ⟨⟨_, rfl⟩, ?_⟩
          rintro _ _ τ ⟨rfl, rfl⟩
          refine ⟨⟨_, _, rfl⟩, ?_⟩
          rintro _ _ τ ⟨rfl, rfl, rfl⟩
          have e22 : sp_app (sp_app σ' 76) (nI i) 2 = σ 2 := by rw [sp_app_2, sp_app_2, e2]
          refine ⟨⟨_, _, rfl, hnd, b0, b1, by rw [e22]; exact b4, ?_⟩, ?_⟩
          · rw [e22]
            intro q
            refine b5 ?_
            revert q
            split
            · rename_i hq
              intro _
              rw [Int32.lt_iff_toInt_lt] at hq
              have h2i : (2 : Int32).toInt = 2 := rfl
              omega
            · intro q
              rw [q]
              decide
          · rintro _ σ7 τ ⟨hv7, hf7, rfl⟩
            refine ⟨⟨_, _, _, rfl, hst⟩, ?_⟩
            rintro _ σ8 τ ⟨hv8, hf8, rfl⟩
            refine ⟨?_, frW_tr (frW_app _ _) (frW_tr (frW_app _ _) (frW_tr hf7 hf8)), rfl⟩
            rw [hv8, hv7, rvC_app, rvC_app, e22]
            rfl
        rcases hvs with ⟨rfl, rfl, rfl⟩ | ⟨a, b, c, rfl, rfl, rfl⟩
        · refine ⟨walk.1, fun r σ1 τ1 h1 => ⟨(walk.2 r σ1 τ1 h1).1, fun r2 σ2 τ2 h2 => ⟨((walk.2 r σ1 τ1 h1).2 r2 σ2 τ2 h2).1, fun u3 σ3 τ3 h3 => ⟨(((walk.2 r σ1 τ1 h1).2 r2 σ2 τ2 h2).2 u3 σ3 τ3 h3).1, fun u4 σ4 τ4 h4 => ⟨((((walk.2 r σ1 τ1 h1).2 r2 σ2 τ2 h2).2 u3 σ3 τ3 h3).2 u4 σ4 τ4 h4).1, fun r3 σ6 τ6 h6 => ⟨(((((walk.2 r σ1 τ1 h1).2 r2 σ2 τ2 h2).2 u3 σ3 τ3 h3).2 u4 σ4 τ4 h4).2 r3 σ6 τ6 h6).1, fun u7 σ7 τ7 h7 => ⟨((((((walk.2 r σ1 τ1 h1).2 r2 σ2 τ2 h2).2 u3 σ3 τ3 h3).2 u4 σ4 τ4 h4).2 r3 σ6 τ6 h6).2 u7 σ7 τ7 h7).1, fun u8 σ8 τ8 h8 => ?_⟩⟩⟩⟩⟩⟩⟩
          obtain ⟨q1, q2, q3⟩ := ((((((walk.2 r σ1 τ1 h1).2 r2 σ2 τ2 h2).2 u3 σ3 τ3 h3).2 u4 σ4 τ4 h4).2 r3 σ6 τ6 h6).2 u7 σ7 τ7 h7).2 u8 σ8 τ8 h8
          exact fin _ _ _ σ8 τ8 ⟨_, _, _, rfl, rfl, rfl⟩ q1 q2 q3
        · refine ⟨walk.1, fun r σ1 τ1 h1 => ⟨(walk.2 r σ1 τ1 h1).1, fun r2 σ2 τ2 h2 => ⟨((walk.2 r σ1 τ1 h1).2 r2 σ2 τ2 h2).1, fun u3 σ3 τ3 h3 => ⟨(((walk.2 r σ1 τ1 h1).2 r2 σ2 τ2 h2).2 u3 σ3 τ3 h3).1, fun u4 σ4 τ4 h4 => ⟨((((walk.2 r σ1 τ1 h1).2 r2 σ2 τ2 h2).2 u3 σ3 τ3 h3).2 u4 σ4 τ4 h4).1, fun r3 σ6 τ6 h6 => ⟨(((((walk.2 r σ1 τ1 h1).2 r2 σ2 τ2 h2).2 u3 σ3 τ3 h3).2 u4 σ4 τ4 h4).2 r3 σ6 τ6 h6).1, fun u7 σ7 τ7 h7 => ⟨((((((walk.2 r σ1 τ1 h1).2 r2 σ2 τ2 h2).2 u3 σ3 τ3 h3).2 u4 σ4 τ4 h4).2 r3 σ6 τ6 h6).2 u7 σ7 τ7 h7).1, fun u8 σ8 τ8 h8 => ?_⟩⟩⟩⟩⟩⟩⟩
          obtain ⟨q1, q2, q3⟩ := ((((((walk.2 r σ1 τ1 h1).2 r2 σ2 τ2 h2).2 u3 σ3 τ3 h3).2 u4 σ4 τ4 h4).2 r3 σ6 τ6 h6).2 u7 σ7 τ7 h7).2 u8 σ8 τ8 h8
          exact fin _ _ _ σ8 τ8 ⟨_, _, _, rfl, rfl, rfl⟩ q1 q2 q3
