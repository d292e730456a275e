/-! the law's own rows: the script, calls that may leave an exception behind, its end -/
def lx_X (l : Launch) (R : Room) (LY : List ev_D) (cl : List vw_C) (Ts : List Cond) (cc : ByteArray) (nL : Nat) (own : String) (N Lx : Nat) (xs : Nat → Int32) (J : ev_K) : Prop :=
  ∃ (p : Program) (e : Env) (s : State) (m : MethodId) (args : Array Value) (below : List Frame) (meth : Method) (c : Code) (Q : State → Prop) (D : va_G) (K3 : ev_3) (ad : Nat → Nat) (A : Nat → Prop) (b0 b1 : Nat),
    J = ev_WS p l e R s m args below meth c Q nL D cl LY K3 ad A b0 b1 ∧ (p.tables.exec = Jvm.exec ∧ c.code = cc ∧ c.maxLocals = nL ∧ s.vm.findClass own = some m.cls ∧ (∀ w ∈ Ts, w.before args s = true) ∧ va_K D cl (ev_tys K3) s ∧ (∀ (σ : ev_M) (τ : ev_L), va_D A (ev_lay LY K3 ad σ τ)) ∧ (∀ q, s.heap.size ≤ q → A q)) ∧ (b0 + N ≤ R.cells ∧ b1 + 6 * N ≤ R.slots) ∧ xcE A s s.heap ∧ (va_X (ad 49) Lx xs s s.heap ∧ ad 49 < s.heap.size ∧ ¬ A (ad 49))
theorem lx_X_ev {l : Launch} {R : Room} {LY : List ev_D} {cl : List vw_C} {Ts : List Cond} {cc : ByteArray} {nL : Nat} {own : String} {N Lx : Nat} {xs : Nat → Int32} {J : ev_K} (X : lx_X l R LY cl Ts cc nL own N Lx xs J) : ev_X l R LY cl Ts cc nL own J := by
  obtain ⟨p, e, s, m, args, below, meth, c, Q, D, K3, ad, A, b0, b1, h0, ⟨h1, h2, h3, h4, h5, h6, h7, h8⟩, ⟨h9, h10⟩, -⟩ := X
  exact ⟨p, e, s, m, args, below, meth, c, Q, D, K3, ad, A, b0, b1, h0, h1, h2, h3, h4, h5, h6, h7, h8, by omega, by omega⟩
section LXC
variable {p : Program} {l : Launch} {e : Env} {R : Room} {s : State} {m : MethodId} {args : Array Value} {below : List Frame} {meth : Method} {c : Code} {H : Heap} {locs : List Loc} {cells slots mc ms : Nat} {Q : State → Prop}
variable {pc : Nat} {ls : Array Slot} {rest st0 : List Value} {a : Array Value} {A0 A1 : Nat → Prop} {H0 : Heap} {free : Addr → Prop} {LY : List ev_D} {cl : List vw_C} {D : va_G} {K3 : ev_3} {ad : Nat → Nat}
theorem ev_callqM {ρ : Type} {ι : ρ → Option Value} {post : ρ → ev_M → ev_L → Prop} (hr : va_Run p l e R s m args below meth c H locs cells slots mc ms (F0 m pc ls st0) rest (ev_Q ι LY cl D K3 ad A1 post a) free) (hS : va_S A0 H0 H locs) (hA : ∀ q, q < H.size → A1 q → A0 q) (hf : ∀ q, free q → A0 q)
    (kk : ∀ (r : ρ) (σ' : ev_M) (τ' : ev_L) (H1 : Heap) (locs1 : List Loc), post r σ' τ' → va_P D cl (ev_lay LY K3 ad σ' τ') H1 → va_S A0 H0 H1 locs1 → W p l e R s m args below meth c H1 locs1 (cells + mc) (slots + ms) Q (F0 m (pc + 3) ls (((ι r).map (ev_v ad)).toList ++ rest))) : W p l e R s m args below meth c H locs cells slots Q (F0 m pc ls st0) := by
  intro T hT X
  obtain ⟨v, st₀, t, T', L, h0, X', hL, e1, e2, ⟨⟨r, σ', τ', hv, hp, hP1, -⟩, hF⟩, st⟩ := hr T hT X
  cases hv
  obtain ⟨-, -, k3⟩ := vx_keep h0 e1 hS hA hf hL hF
  obtain ⟨t2, a1, b1⟩ := kk r σ' τ' T'.heap (locs ++ L) hp (by rw [e1]; exact hP1) k3 T' rfl X'
  exact ⟨t2, st t2 a1, b1⟩
end LXC
def tt_sa (Lx : Nat) (xs : Nat → Int32) (nx : Nat) : ev_T := fun lv st σ τ n K => match st with
  | .int i :: .ref 49 :: r => vp_in i Lx ∧ K nx lv (.int (xs i.toNatClampNeg) :: r) σ τ n
  | _ => False
def tt_sl (Lx : Nat) (nx : Nat) : ev_T := fun lv st σ τ n K => match st with
  | .ref 49 :: r => K nx lv (.int (Int32.ofNat Lx) :: r) σ τ n
  | _ => False
def tt_yV {ρ : Type} (N : Nat) (LY : List ev_D) (ci na : Nat) (ι : ρ → Option Value) (pre : List Value → ev_M → ev_L → Prop) (post : List Value → ev_M → ev_L → ρ → ev_M → ev_L → Prop) (nx : Nat) : ev_T := fun lv st σ τ n K =>
  ev_tk (na + 1) st [] (fun as r => ev_rc LY ci as (ev_rm r (n ≤ N ∧ pre as σ τ ∧ ∀ (v : ρ) (σ' : ev_M) (τ' : ev_L), post as σ τ v σ' τ' → ev_push (ι v) r (fun st' => K nx lv st' σ' τ' n))))
def tt_hS (N : Nat) (na : Nat) (pre : List Value → ev_M → ev_L → Prop) (post : List Value → ev_M → ev_L → Int32 → ev_M → ev_L → Prop) (nx : Nat) : ev_T := fun lv st σ τ n K =>
  ev_tk na st [] (fun as r => ev_rm r (n + 1 ≤ N ∧ pre as σ τ ∧ ∀ (v : Int32) (σ' : ev_M) (τ' : ev_L), post as σ τ v σ' τ' → K nx lv (.int v :: r) σ' τ' (n + 1)))
section LXQ
variable {l : Launch} {R : Room} {LY : List ev_D} {cl : List vw_C} {Ts : List Cond} {cc : ByteArray} {nL : Nat} {own : String} {J : ev_K} {pc N Lx : Nat} {xs : Nat → Int32}
variable {y : MethodName} {ws : List Cond} {rm : Room} {bytes : ByteArray} {maxL index na : Nat} {ret : Option FieldType}
theorem qq_sa (X : lx_X l R LY cl Ts cc nL own N Lx xs J) (d : decode cc pc = .ok (.iaload, 1)) : ev_ok J pc (tt_sa Lx xs (pc + 1)) := by
  obtain ⟨p, e, s, m, args, below, meth, c, Q, D, K3, ad, A, b0, b1, rfl, ⟨hx, hb, hml, hown, hts, hK, hD, hA⟩, ⟨hc0, hc1⟩, hE, hX, hlt, hnA⟩ := X
  intro lv st σ τ n K h hK2 H locs ls hP hS hL
  unfold tt_sa at h
  split at h
  · exact va_sld hx hb hX hlt hnA hS h.1 d (hK2 _ _ _ _ _ _ h.2 H locs ls hP hS hL)
  · exact h.elim
theorem qq_sl (X : lx_X l R LY cl Ts cc nL own N Lx xs J) (d : decode cc pc = .ok (.arraylength, 1)) : ev_ok J pc (tt_sl Lx (pc + 1)) := by
  obtain ⟨p, e, s, m, args, below, meth, c, Q, D, K3, ad, A, b0, b1, rfl, ⟨hx, hb, hml, hown, hts, hK, hD, hA⟩, ⟨hc0, hc1⟩, hE, hX, hlt, hnA⟩ := X
  intro lv st σ τ n K h hK2 H locs ls hP hS hL
  unfold tt_sl at h
  split at h
  · exact va_slen hx hb hX hlt hnA hS d (hK2 _ _ _ _ _ _ h H locs ls hP hS hL)
  · exact h.elim
theorem qq_yV {ρ : Type} {ι : ρ → Option Value} {pre : List Value → ev_M → ev_L → Prop} {post : List Value → ev_M → ev_L → ρ → ev_M → ev_L → Prop} (X : lx_X l R LY cl Ts cc nL own N Lx xs J) {C : String} {T : u_T} {N9 : Nat} (ci : Nat) (hc : cl[ci]? = some (C, T, N9)) (hM : ev_C ι l y ws rm LY cl pre post) (cw : ∀ {args : Array Value} {s : State}, (∀ w ∈ Ts, w.before args s = true) → CallW R s args own C index y bytes maxL ret ws rm 0 0 na) (d : decode cc pc = .ok (.invokevirtual index, 3)) : ev_ok J pc (tt_yV N LY ci na ι pre post (pc + 3)) := by
  obtain ⟨p, e, s, m, args, below, meth, c, Q, D, K3, ad, A, b0, b1, rfl, ⟨hx, hb, hml, hown, hts, hK, hD, hA⟩, ⟨hc0, hc1⟩, hE, -⟩ := X
  intro lv st σ τ n K h hK2 H locs ls hP hS hL
  obtain ⟨as, r, h1, rfl, h2⟩ := ev_tk_0 h
  unfold ev_rc at h2
  split at h2
  · rename_i q as'
    obtain ⟨fs, h7, h2⟩ := ev_ob_k h2
    obtain ⟨h3, hn, h5, h6⟩ := ev_rm_k h2
    have hF : ∀ q, va_A (ev_lay LY K3 ad σ τ) H.size q → A q := by
      intro q hq
      rcases hq with ⟨k, x, hq⟩ | hq
      · exact (hD σ τ).2 k _ hq
      · exact hA q (Nat.le_trans hS.1 hq)
    have hrec := va_recv hK hP hc (a := ad q) (q0 := q) (ci := ci) (fs := ev_f ad (σ q) 0 fs) (by rw [ev_lay_get, h7]; rfl)
    refine ev_callq (rest := r.map (ev_v ad)) (A1 := va_A (ev_lay LY K3 ad σ τ) H.size) (free := va_A (ev_lay LY K3 ad σ τ) H.size) (va_runV (b := ad q) (As := as'.map (ev_v ad)) ⟨hx, hb, hml, hown, hts⟩ (hM D K3 ad H.size (.ref q :: as') σ τ h5) (cw hts) ⟨ev_blind, hrec, ev_pre (as := .ref q :: as') hK hP (hD σ τ) rfl⟩ rfl (by rw [List.length_map]; simpa using h1) hL.1 (by show List.map _ _ = _; simp [ev_v]) (lv_room (by rw [ev_cats]; exact h3)) d ⟨by omega, by omega⟩) hS (fun q _ hq => hF q hq) hF (fun v σ' τ' H1 locs1 hp hP1 hS1 => ?_)
    rw [ev_stack]
    exact hK2 _ _ _ _ _ _ (ev_push_k (h6 v σ' τ' hp)) H1 locs1 ls hP1 hS1 hL
  · exact h2.elim
theorem qq_hS {pre : List Value → ev_M → ev_L → Prop} {post : List Value → ev_M → ev_L → Int32 → ev_M → ev_L → Prop} {hh : List (Nat × Nat × Nat × Nat)} (X : lx_X l R LY cl Ts cc nL own N Lx xs J) (hM : ex_H ev_i l y ws rm LY cl pre post) (cw : ∀ {args : Array Value} {s : State}, (∀ w ∈ Ts, w.before args s = true) → vx_CSW R s args own index y bytes maxL ret hh ws rm 1 6 na) (d : decode cc pc = .ok (.invokestatic index, 3)) : ev_ok J pc (tt_hS N na pre post (pc + 3)) := by
  obtain ⟨p, e, s, m, args, below, meth, c, Q, D, K3, ad, A, b0, b1, rfl, ⟨hx, hb, hml, hown, hts, hK, hD, hA⟩, ⟨hc0, hc1⟩, hE, -⟩ := X
  intro lv st σ τ n K h hK2 H locs ls hP hS hL
  obtain ⟨as, r, h1, rfl, h2⟩ := ev_tk_0 h
  obtain ⟨h3, hn, h5, h6⟩ := ev_rm_k h2
  have hF : ∀ q, va_A (ev_lay LY K3 ad σ τ) H.size q → A q := by
    intro q hq
    rcases hq with ⟨k, x, hq⟩ | hq
    · exact (hD σ τ).2 k _ hq
    · exact hA q (Nat.le_trans hS.1 hq)
  refine ev_callqM (rest := r.map (ev_v ad)) (A1 := va_A (ev_lay LY K3 ad σ τ) H.size) (free := va_A (ev_lay LY K3 ad σ τ) H.size) (vx_runSW (As := as.map (ev_v ad)) ⟨hx, hb, hml, hown, hts⟩ (hM D K3 ad H.size as σ τ h5) (cw hts) ⟨ex_blind, ex_pre hK hP (hD σ τ) rfl (xcE_narrow (xcE_kept hE hS.2.1) hF)⟩ rfl (by rw [List.length_map]; exact h1) hL.1 (by show List.map _ _ = _; rw [List.map_append, List.map_reverse]) (lv_room (by rw [ev_cats]; exact h3)) d ⟨by omega, by omega⟩) hS (fun q _ hq => hF q hq) hF (fun v σ' τ' H1 locs1 hp hP1 hS1 => ?_)
  exact hK2 _ _ _ _ _ _ (h6 v σ' τ' hp) H1 locs1 ls hP1 hS1 hL
end LXQ
/-- the law's end -/
def lx_Z (J : ev_K) (cc : ByteArray) (N : Nat) : Prop := ∀ (pc : Nat) (lv : List Value) (σ : ev_M) (τ : ev_L) (n : Nat), n ≤ N → decode cc pc = .ok (.ireturn, 1) → J pc lv [.int 1] σ τ n
def tt_r1 (N : Nat) : ev_T := fun _ st _ _ n _ => match st with
  | [.int x] => n ≤ N ∧ x = 1
  | _ => False
theorem qq_r1 {J : ev_K} {cc : ByteArray} {pc N : Nat} (Z : lx_Z J cc N) (d : decode cc pc = .ok (.ireturn, 1)) : ev_ok J pc (tt_r1 N) := by
  intro lv st σ τ n K h _
  unfold tt_r1 at h
  split at h
  · obtain ⟨h1, rfl⟩ := h
    exact Z pc lv σ τ n h1 d
  · exact h.elim
theorem evGH {w0 : Cond} {own : String} {idx maxL : Nat} {y : MethodName} {c : ByteArray} {ret : Option FieldType} {hh : List (Nat × Nat × Nat × Nat)} (h1 : Cond.methodLink own idx y ∈ evW) (h2 : Cond.static y ∈ evW) (h4 : Cond.initialized y.cls ∈ evW) (h5 : Cond.codeWith y c maxL ret hh ∈ evW) : GoodIn (w0 :: evW) (va_wsS own idx y (.codeWith y c maxL ret hh :: evW)) := evG (by
  intro w hw
  unfold va_wsS at hw
  simp only [List.cons_append, List.nil_append, List.mem_cons] at hw
  rcases hw with rfl | rfl | rfl | rfl | hw
  · exact h1
  · exact h2
  · exact h4
  · exact h5
  · exact hw)
theorem ev_oks_app {J : ev_K} : ∀ {a b : List (Nat × ev_T)}, ev_oks J a → ev_oks J b → ev_oks J (a ++ b)
  | [], _, _, h => h
  | (_, _) :: _, _, h, h2 => ⟨h.1, ev_oks_app h.2 h2⟩
theorem ev_h_pad {ad : Nat → Nat} {ls : Array Slot} {nL : Nat} {lv : List Value} (k : Nat) (h : ev_h ad ls nL lv) : ev_h ad ls nL (lv ++ List.replicate k .null) := by
  refine ⟨h.1, h.2.1, fun q hq => h.2.2 q ?_⟩
  obtain ⟨v, h1, h2, h3⟩ := ev_ps_mem.mp hq
  by_cases hl : q.1 < lv.length
  · rw [List.getElem?_append_left hl] at h1
    exact ev_ps_mem.mpr ⟨v, h1, h2, h3⟩
  · rw [List.getElem?_append_right (by omega), List.getElem?_replicate] at h1
    split at h1
    · cases h1
      exact absurd rfl h2
    · cases h1
