/-! links: the two sides read the same bytes -/
def agF (f g : Nat → Int32) : Prop := ∀ i : Nat, i < 256 → f i = g i
theorem at_ag {f g : Nat → Int32} (h : agF f g) : sp_at f = sp_at g := by
  funext a
  unfold sp_at
  by_cases hc : 0 ≤ a ∧ a < 256
  · rw [if_pos hc, if_pos hc]
    refine h _ ?_
    have := i_clt hc.1 hc.2
    have h2 : (256 : Int32).toInt = 256 := rfl
    omega
  · rw [if_neg hc, if_neg hc]
theorem cut_ag {f g : Nat → Int32} (h : agF f g) : cutF f = cutF g := by
  funext i
  unfold cutF
  by_cases hi : i < 256
  · rw [if_pos hi, if_pos hi, h i hi]
  · rw [if_neg hi, if_neg hi]
theorem ag_cut {f g : Nat → Int32} (h : cutF f = cutF g) : agF f g := by
  intro i hi
  have := congrFun h i
  unfold cutF at this
  rw [if_pos hi, if_pos hi] at this
  exact this
theorem by_ag {f g : Nat → Int32} (h : agF f g) (hf : byF f) : byF g := fun i hi => by rw [← h i hi]; exact hf i hi
theorem lk_okR {f g : Nat → Int32} (h : sp_at f = sp_at g) : sp_okR f = sp_okR g := by
  funext a m
  simp only [sp_okR, h]
theorem lk_sc {f g : Nat → Int32} (h : sp_at f = sp_at g) : an_sc f = an_sc g := by
  funext a t b
  simp only [an_sc, anK, anB, anT, h]
theorem lk_good {f g : Nat → Int32} (h : sp_at f = sp_at g) : an_good f = an_good g := by
  funext a
  simp only [an_good, anK, lk_okR h, h]
theorem lk_bad {f g : Nat → Int32} (h : sp_at f = sp_at g) : an_bad f = an_bad g := by
  funext Dc a
  simp only [an_bad, anK, lk_good h, lk_sc h, h]
theorem lk_tb {f g : Nat → Int32} (h : sp_at f = sp_at g) : an_tb f = an_tb g := by
  funext a x
  simp only [an_tb, anK, h]
theorem lk_R {f g : Nat → Int32} (h : sp_at f = sp_at g) : anR f = anR g := by
  funext x
  simp only [anR, lk_sc h]
theorem lk_H {f g : Nat → Int32} (h : sp_at f = sp_at g) : anH f = anH g := by
  funext x
  simp only [anH, lk_R h, lk_sc h]
theorem lk_X {f g : Nat → Int32} (h : sp_at f = sp_at g) : anX f = anX g := by
  funext x
  simp only [anX, lk_R h, lk_tb h]
theorem lk_len {f g : Nat → Int32} (h : sp_at f = sp_at g) : lenN f = lenN g := by
  funext x
  simp only [lenN, h]
theorem lk_O {f g : Nat → Int32} (h : sp_at f = sp_at g) : anO f = anO g := by
  funext F T
  simp only [anO, lk_len h]
theorem lk_Ac {f g : Nat → Int32} (h : sp_at f = sp_at g) : anAc f = anAc g := by
  funext Dc
  simp only [anAc, lk_R h, lk_bad h]
theorem lk_Al {f g : Nat → Int32} (h : sp_at f = sp_at g) : anAl f = anAl g := by
  funext Dc
  simp only [anAl, lk_Ac h, lk_O h, lk_R h, lk_X h]
theorem lk_tg {f g : Nat → Int32} (h : sp_at f = sp_at g) : tgOK f = tgOK g := by
  funext a
  simp only [tgOK, h]
theorem lk_vbC {f g : Nat → Int32} (h : sp_at f = sp_at g) : vbC f = vbC g := by
  funext a b
  simp only [vbC, lk_okR h, h]
theorem lk_vbD {f g : Nat → Int32} (h : sp_at f = sp_at g) : vbD f = vbD g := by
  funext a b
  simp only [vbD, lk_vbC h, lk_tg h, h]
theorem lk_rwat {f g : Nat → Int32} (h : sp_at f = sp_at g) : rw_at f = rw_at g := by
  funext a x
  simp only [rw_at, h]
theorem lk_rwend {f g : Nat → Int32} (h : sp_at f = sp_at g) : rw_end f = rw_end g := by
  funext a x
  simp only [rw_end, h]
theorem lk_rwfirst {f g : Nat → Int32} (h : sp_at f = sp_at g) : rw_first f = rw_first g := by
  funext a d x
  simp only [rw_first, lk_rwat h, lk_rwend h, h]
theorem lk_rwblk {f g : Nat → Int32} (h : sp_at f = sp_at g) : rw_blk f = rw_blk g := by
  funext k a s x
  simp only [rw_blk, lk_rwfirst h]
theorem lk_rwall {f g : Nat → Int32} (h : agF f g) (hd b : Nat → Int32) : ∀ n, rw_all f hd b n = rw_all g hd b n
  | 0 => by
    show (cutF f, (fun _ => (-1 : Int32)), (96 : Int32)) = (cutF g, (fun _ => (-1 : Int32)), (96 : Int32))
    rw [cut_ag h]
  | n + 1 => by
    show rw_blk f (nI n) (hd n) (b n) (rw_all f hd b n) = rw_blk g (nI n) (hd n) (b n) (rw_all g hd b n)
    rw [lk_rwall h hd b n, lk_rwblk (at_ag h)]
theorem lk_look {f g : Nat → Int32} (h : sp_at f = sp_at g) : sp_look f = sp_look g := by
  funext n m v
  simp only [sp_look, h]
theorem lk_perf {f g : Nat → Int32} (h : sp_at f = sp_at g) : ms_perf f = ms_perf g := by
  funext tr kd op n m bh x
  simp only [ms_perf, lk_look h]
theorem lk_step {f g : Nat → Int32} (h : sp_at f = sp_at g) : ms_step f = ms_step g := by
  funext tr x
  simp only [ms_step, lk_perf h, h]
theorem lk_run {f g : Nat → Int32} {tr : Int32 → Int32} {w w' : mst → mst} (h : sp_at f = sp_at g) (hf : byF f) (ht : trF tr) (hw : ∀ x, msR x → w x = w' x) (hR : ∀ x, msR x → msR (w x)) : ∀ (n : Nat) (x : mst), msR x → ms_run f tr w n x = ms_run g tr w' n x
  | 0, _, _ => rfl
  | n + 1, x, hx => by
    unfold ms_run
    rw [← hw x hx, ← lk_step h]
    split
    · exact lk_run h hf ht hw hR n _ (ms_step_R hf ht (hR x hx))
    · rfl
/-! blocks: by the heads alone -/
theorem lk_wk {f g H H' : Nat → Int32} (h : sp_at f = sp_at g) (hH : ∀ x, x < 96 → (H x = 0 ↔ H' x = 0)) : ∀ n a c, wk f H n a c = wk g H' n a c
  | 0, _, _ => rfl
  | n + 1, a, c => by
    have e : (sp_ends (sp_kind (sp_at f (nI a))) = true ∨ 96 ≤ a + lenN f a ∨ ¬ H (a + lenN f a) = 0) ↔ (sp_ends (sp_kind (sp_at g (nI a))) = true ∨ 96 ≤ a + lenN g a ∨ ¬ H' (a + lenN g a) = 0) := by
      rw [h, lk_len h]
      by_cases h9 : 96 ≤ a + lenN g a
      · simp [h9]
      · rw [hH _ (by omega)]
    unfold wk
    by_cases hc : sp_ends (sp_kind (sp_at g (nI a))) = true ∨ 96 ≤ a + lenN g a ∨ ¬ H' (a + lenN g a) = 0
    · rw [if_pos (e.mpr hc), if_pos hc, lk_len h]
    · rw [if_neg (fun q => hc (e.mp q)), if_neg hc, lk_wk h hH n, lk_len h]
theorem lk_bkN {H H' : Nat → Int32} (hH : ∀ x, x < 96 → (H x = 0 ↔ H' x = 0)) : ∀ i, i ≤ 96 → bkN H i = bkN H' i
  | 0, _ => rfl
  | i + 1, hi => by
    unfold bkN
    rw [lk_bkN hH i (by omega)]
    by_cases hz : H' i = 0
    · rw [if_pos ((hH i (by omega)).mpr hz), if_pos hz]
    · rw [if_neg (fun q => hz ((hH i (by omega)).mp q)), if_neg hz]
theorem lk_bkH {H H' : Nat → Int32} (hH : ∀ x, x < 96 → (H x = 0 ↔ H' x = 0)) (g : Nat → Int32) : ∀ i, i ≤ 96 → bkH H g i = bkH H' g i
  | 0, _ => rfl
  | i + 1, hi => by
    unfold bkH
    rw [lk_bkH hH g i (by omega), lk_bkN hH i (by omega)]
    by_cases hz : H' i = 0
    · rw [if_pos ((hH i (by omega)).mpr hz), if_pos hz]
    · rw [if_neg (fun q => hz ((hH i (by omega)).mp q)), if_neg hz]
theorem lk_bkB {f f' H H' : Nat → Int32} (h : sp_at f = sp_at f') (hH : ∀ x, x < 96 → (H x = 0 ↔ H' x = 0)) (g : Nat → Int32) : ∀ i, i ≤ 96 → bkB f H g i = bkB f' H' g i
  | 0, _ => rfl
  | i + 1, hi => by
    unfold bkB
    rw [lk_bkB h hH g i (by omega), lk_bkN hH i (by omega), lk_wk h hH]
    by_cases hz : H' i = 0
    · rw [if_pos ((hH i (by omega)).mpr hz), if_pos hz]
    · rw [if_neg (fun q => hz ((hH i (by omega)).mp q)), if_neg hz]
theorem lk_bkC {f f' H H' : Nat → Int32} (h : sp_at f = sp_at f') (hH : ∀ x, x < 96 → (H x = 0 ↔ H' x = 0)) (g : Nat → Int32) : ∀ i, i ≤ 96 → bkC f H g i = bkC f' H' g i
  | 0, _ => rfl
  | i + 1, hi => by
    unfold bkC
    rw [lk_bkC h hH g i (by omega), lk_bkN hH i (by omega), lk_wk h hH]
    by_cases hz : H' i = 0
    · rw [if_pos ((hH i (by omega)).mpr hz), if_pos hz]
    · rw [if_neg (fun q => hz ((hH i (by omega)).mp q)), if_neg hz]
theorem bkN_s {H : Nat → Int32} {x : Nat} (h : ¬ H x = 0) : bkN H (x + 1) = bkN H x + 1 := if_neg h
theorem bkN_m (H : Nat → Int32) (x : Nat) : ∀ d, bkN H x ≤ bkN H (x + d)
  | 0 => Nat.le_refl _
  | d + 1 => by
    have := bkN_m H x d
    show bkN H x ≤ if H (x + d) = 0 then bkN H (x + d) else bkN H (x + d) + 1
    split <;> omega
theorem bkN_le2 {H : Nat → Int32} {x i : Nat} (h : x ≤ i) : bkN H x ≤ bkN H i := by
  obtain ⟨d, rfl⟩ : ∃ d, i = x + d := ⟨i - x, by omega⟩
  exact bkN_m H x d
theorem bkN_lt {H : Nat → Int32} {x i : Nat} (h : ¬ H x = 0) (hi : x < i) : bkN H x < bkN H i := by
  have h1 := bkN_le2 (H := H) (x := x + 1) (i := i) hi
  rw [bkN_s h] at h1
  omega
theorem bkN_inj {H : Nat → Int32} {x y : Nat} (hx : ¬ H x = 0) (hy : ¬ H y = 0) (h : bkN H x = bkN H y) : x = y := by
  rcases Nat.lt_trichotomy x y with q | q | q
  · have := bkN_lt hx q; omega
  · exact q
  · have := bkN_lt hy q; omega
theorem bk_at (f H g g' : Nat → Int32) : ∀ i k, k < bkN H i → ∃ x, x < i ∧ ¬ H x = 0 ∧ bkN H x = k ∧ bkH H g i k = nI x ∧ bkB f H g' i k = nI ((wk f H 96 x 0).1 - x)
  | 0, k, hk => by
    have : k < 0 := hk
    omega
  | i + 1, k, hk => by
    by_cases hz : H i = 0
    · have eN : bkN H (i + 1) = bkN H i := if_pos hz
      have eH : bkH H g (i + 1) = bkH H g i := if_pos hz
      have eB : bkB f H g' (i + 1) = bkB f H g' i := if_pos hz
      rw [eN] at hk
      obtain ⟨x, h1, h2⟩ := bk_at f H g g' i k hk
      rw [eH, eB]
      exact ⟨x, by omega, h2⟩
    · have eN : bkN H (i + 1) = bkN H i + 1 := if_neg hz
      have eH : bkH H g (i + 1) = upd (bkH H g i) (bkN H i) (nI i) := if_neg hz
      have eB : bkB f H g' (i + 1) = upd (bkB f H g' i) (bkN H i) (nI ((wk f H 96 i 0).1 - i)) := if_neg hz
      rw [eH, eB]
      by_cases hki : k = bkN H i
      · subst hki
        exact ⟨i, by omega, hz, rfl, if_pos rfl, if_pos rfl⟩
      · obtain ⟨x, h1, h2, h3, h4, h5⟩ := bk_at f H g g' i k (by omega)
        exact ⟨x, by omega, h2, h3, (if_neg hki).trans h4, (if_neg hki).trans h5⟩
theorem sd_last_v (h b : Nat → Int32) (a : Int32) : ∀ n, sd_last h b a n = -1 ∨ ∃ k, k < n ∧ sd_last h b a n = nI k ∧ h k ≤ a ∧ a < h k + b k
  | 0 => Or.inl rfl
  | n + 1 => by
    by_cases hc : h n ≤ a ∧ a < h n + b n
    · exact Or.inr ⟨n, by omega, if_pos hc, hc⟩
    · have e : sd_last h b a (n + 1) = sd_last h b a n := if_neg hc
      rw [e]
      rcases sd_last_v h b a n with q | ⟨k, h1, h2⟩
      · exact Or.inl q
      · exact Or.inr ⟨k, by omega, h2⟩
theorem sd_last_k {h b : Nat → Int32} {a : Int32} {k : Nat} (hk : h k ≤ a ∧ a < h k + b k) : ∀ n, k < n → (∀ j, k < j → j < n → ¬ h j ≤ a) → sd_last h b a n = nI k
  | 0, q, _ => by omega
  | n + 1, q, hj => by
    by_cases hkn : k = n
    · subst hkn
      exact if_pos hk
    · have e : sd_last h b a (n + 1) = sd_last h b a n := if_neg (fun z => hj n (by omega) (by omega) z.1)
      rw [e]
      exact sd_last_k hk n (by omega) (fun j h1 h2 => hj j h1 (by omega))
/-- the blocks of a program that is accepted: what rewriting and counting need -/
theorem tg_S {f : Nat → Int32} {Dc : Int32 → Int32 → Prop} {x : Nat} (h : ¬ an_bad f Dc (nI x)) : tgOK f (nI x) := by
  intro hk
  have hs : an_sc f (nI x) (anT f (nI x)) true := by
    rcases hk with hk | hk | hk
    · exact (sc_60 (Or.inl hk)).mpr ⟨rfl, Or.inr rfl⟩
    · exact (sc_60 (Or.inr hk)).mpr ⟨rfl, Or.inr rfl⟩
    · exact (sc_68 hk).mpr ⟨rfl, rfl⟩
  have hi : 0 ≤ anT f (nI x) ∧ anT f (nI x) < 96 := Classical.byContradiction fun q => h (Or.inr (Or.inr ⟨_, _, hs, q⟩))
  rw [Int32.le_iff_toInt_le, Int32.lt_iff_toInt_lt] at hi
  exact hi
theorem vb_blk {f H : Nat → Int32} {Dc : Int32 → Int32 → Prop} (hac : anAc f Dc) {x : Nat} (hx : x < 96) (hr : anR f x) : vbD f (nI x) (nI ((wk f H 96 x 0).1 - x)) ∧ x < (wk f H 96 x 0).1 ∧ (wk f H 96 x 0).1 ≤ 96 := by
  have hS := an_wkS hac
  obtain ⟨r1, r2, -, -⟩ := wk_R (H := H) hS 96 x 0 (by omega) ⟨hx, hr⟩
  obtain ⟨-, s2, s3⟩ := hS x ⟨hx, hr⟩
  have hxi : (nI x).toInt = x := nI_toInt (by omega)
  have hei : (nI ((wk f H 96 x 0).1 - x)).toInt = (((wk f H 96 x 0).1 - x : Nat) : Int) := nI_toInt (by omega)
  have nxt : 2 ≤ (nI ((wk f H 96 x 0).1 - x)).toInt → sp_len (sp_kind (sp_at f (nI x))) = 1 → x + 1 < 96 ∧ anR f (x + 1) := by
    intro h2 hl
    have hlen : lenN f x = 1 := by
      unfold lenN
      rw [hl]
      rfl
    have hne : ¬ sp_ends (sp_kind (sp_at f (nI x))) = true := by
      intro q
      have : wk f H 96 x 0 = (x + lenN f x, 0 + 1) := if_pos (Or.inl q)
      rw [this, hlen] at hei h2
      rw [hei] at h2
      dsimp only at h2
      omega
    have := s3 hne
    rw [hlen] at this
    exact this
  refine ⟨⟨⟨by omega, by omega, by omega, by omega, s2, fun h2 hl => ?_⟩, tg_S (hac x hx hr), fun h2 hl => ?_⟩, r1, r2⟩
  · obtain ⟨q1, q2⟩ := nxt h2 hl
    rw [nI_1]
    exact (hS (x + 1) ⟨q1, q2⟩).2.1
  · obtain ⟨q1, q2⟩ := nxt h2 hl
    rw [nI_1]
    exact tg_S (hac (x + 1) q1 q2)
