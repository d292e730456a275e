/-! analysis: where an instruction leads; Analysis.follow -/
abbrev anK (f : Nat → Int32) (a : Int32) : Int32 := sp_kind (sp_at f a)
abbrev anB (f : Nat → Int32) (a : Int32) : Int32 := a + sp_len (sp_kind (sp_at f a))
abbrev anT (f : Nat → Int32) (a : Int32) : Int32 := a + sp_len (sp_kind (sp_at f a)) + (sp_at f (a + 1)).toInt8.toInt32
def an_sc (f : Nat → Int32) (a t : Int32) (h : Bool) : Prop :=
  ((anK f a = 60 ∨ anK f a = 64) ∧ h = true ∧ (t = anB f a ∨ t = anT f a)) ∨ (anK f a = 68 ∧ h = true ∧ t = anT f a) ∨ (anK f a = 69 ∧ h = true ∧ t = sp_at f (a + 1)) ∨ (anK f a = 70 ∧ h = true ∧ (t = anB f a ∨ t = sp_at f (a + 1))) ∨ (anK f a = 72 ∧ h = true ∧ ∃ i : Nat, i < (sp_at f (a + 2)).toNatClampNeg ∧ t = sp_at f (nI ((sp_at f (a + 1)).toNatClampNeg + i))) ∨ ((¬ anK f a = 0 ∧ ¬ anK f a = 3 ∧ ¬ anK f a = 60 ∧ ¬ anK f a = 64 ∧ ¬ anK f a = 68 ∧ ¬ anK f a = 69 ∧ ¬ anK f a = 70 ∧ ¬ anK f a = 72) ∧ h = false ∧ t = anB f a)
def an_good (f : Nat → Int32) (a : Int32) : Prop := sp_okR f a 96 ∧ sp_isR (anK f a) = false
def an_bad (f : Nat → Int32) (Dc : Int32 → Int32 → Prop) (a : Int32) : Prop := ¬ an_good f a ∨ (anK f a = 72 ∧ ¬ Dc (sp_at f (a + 1)) (sp_at f (a + 2))) ∨ ∃ t h, an_sc f a t h ∧ ¬ (0 ≤ t ∧ t < 96)
def an_tb (f : Nat → Int32) (a : Int32) (x : Nat) : Prop := anK f a = 72 ∧ ∃ i : Nat, i < (sp_at f (a + 2)).toNatClampNeg ∧ (sp_at f (a + 1)).toNatClampNeg + i = x
section SC
variable {f : Nat → Int32} {a t : Int32} {h : Bool}
theorem sc_0 (hk : anK f a = 0 ∨ anK f a = 3) : ¬ an_sc f a t h := by
  unfold an_sc
  rcases hk with hk | hk <;> rw [hk] <;> simp
theorem sc_60 (hk : anK f a = 60 ∨ anK f a = 64) : an_sc f a t h ↔ h = true ∧ (t = anB f a ∨ t = anT f a) := by
  unfold an_sc
  rcases hk with hk | hk <;> simp only [hk] <;> simp
theorem sc_68 (hk : anK f a = 68) : an_sc f a t h ↔ h = true ∧ t = anT f a := by
  unfold an_sc
  simp only [hk]
  simp
theorem sc_69 (hk : anK f a = 69) : an_sc f a t h ↔ h = true ∧ t = sp_at f (a + 1) := by
  unfold an_sc
  simp only [hk]
  simp
theorem sc_70 (hk : anK f a = 70) : an_sc f a t h ↔ h = true ∧ (t = anB f a ∨ t = sp_at f (a + 1)) := by
  unfold an_sc
  simp only [hk]
  simp
theorem sc_72 (hk : anK f a = 72) : an_sc f a t h ↔ h = true ∧ ∃ i : Nat, i < (sp_at f (a + 2)).toNatClampNeg ∧ t = sp_at f (nI ((sp_at f (a + 1)).toNatClampNeg + i)) := by
  unfold an_sc
  simp only [hk]
  simp
theorem sc_d (hk : ¬ anK f a = 0 ∧ ¬ anK f a = 3 ∧ ¬ anK f a = 60 ∧ ¬ anK f a = 64 ∧ ¬ anK f a = 68 ∧ ¬ anK f a = 69 ∧ ¬ anK f a = 70 ∧ ¬ anK f a = 72) : an_sc f a t h ↔ h = false ∧ t = anB f a := by
  unfold an_sc
  obtain ⟨h1, h2, h3, h4, h5, h6, h7, h8⟩ := hk
  constructor
  · rintro (⟨q | q, _⟩ | ⟨q, _⟩ | ⟨q, _⟩ | ⟨q, _⟩ | ⟨q, _⟩ | ⟨_, q⟩)
    · exact absurd q h3
    · exact absurd q h4
    · exact absurd q h5
    · exact absurd q h6
    · exact absurd q h7
    · exact absurd q h8
    · exact q
  · intro q
    exact Or.inr (Or.inr (Or.inr (Or.inr (Or.inr ⟨⟨h1, h2, h3, h4, h5, h6, h7, h8⟩, q⟩))))
end SC
theorem eqx {y x : Nat} {t : Int32} (hy : y < 96) (hx : x < 96) (e : t = nI x) : nI y = t ↔ y = x := by
  rw [e]
  exact ⟨nI_inj hy hx, fun q => by rw [q]⟩
theorem sp_mark_9 (σ : ev_M) (a : Int32) : sp_mark σ a 9 = σ 9 := by
  unfold sp_mark
  split <;> rfl
/-- the tables lie in the code -/
def anD (σ : ev_M) : Prop := ∃ n : Nat, n ≤ 4 ∧ σ 4 2 = nI n ∧ ∀ i, i < n → ∃ b m : Nat, σ 5 i = nI b ∧ σ 6 i = nI m ∧ 1 ≤ m ∧ b + m ≤ 96
def y_A_follow : MethodName := ⟨RX0, "follow", "(LBlockCounter$Program;LBlockCounter$Tables;I)Z"⟩
def ws_A_follow : List Cond := .code y_A_follow prog_2_method_14_code 4 (some .boolean) :: evW
theorem d_A_follow_0 : decode prog_2_method_14_code 0 = .ok (.aload_n 0, 1) := by decide +kernel
theorem d_A_follow_1 : decode prog_2_method_14_code 1 = .ok (.getfield 12, 3) := by decide +kernel
theorem d_A_follow_4 : decode prog_2_method_14_code 4 = .ok (.aload_n 1, 1) := by decide +kernel
theorem d_A_follow_5 : decode prog_2_method_14_code 5 = .ok (.iload_n 3, 1) := by decide +kernel
theorem d_A_follow_6 : decode prog_2_method_14_code 6 = .ok (.bipush 96, 2) := by decide +kernel
theorem d_A_follow_8 : decode prog_2_method_14_code 8 = .ok (.invokevirtual 90, 3) := by decide +kernel
theorem d_A_follow_11 : decode prog_2_method_14_code 11 = .ok (.ifCond .eq 13, 3) := by decide +kernel
theorem d_A_follow_14 : decode prog_2_method_14_code 14 = .ok (.aload_n 0, 1) := by decide +kernel
theorem d_A_follow_15 : decode prog_2_method_14_code 15 = .ok (.getfield 12, 3) := by decide +kernel
theorem d_A_follow_18 : decode prog_2_method_14_code 18 = .ok (.invokevirtual 94, 3) := by decide +kernel
theorem d_A_follow_21 : decode prog_2_method_14_code 21 = .ok (.ifCond .eq 5, 3) := by decide +kernel
theorem d_A_follow_24 : decode prog_2_method_14_code 24 = .ok (.iconst 0, 1) := by decide +kernel
theorem d_A_follow_25 : decode prog_2_method_14_code 25 = .ok (.ireturn, 1) := by decide +kernel
theorem d_A_follow_26 : decode prog_2_method_14_code 26 = .ok (.aload_n 0, 1) := by decide +kernel
theorem d_A_follow_27 : decode prog_2_method_14_code 27 = .ok (.getfield 12, 3) := by decide +kernel
theorem d_A_follow_30 : decode prog_2_method_14_code 30 = .ok (.getfield 97, 3) := by decide +kernel
theorem d_A_follow_33 : decode prog_2_method_14_code 33 = .ok (.lookupswitch 218 #[(0, 75), (3, 75), (60, 77), (64, 77), (68, 111), (69, 123), (70, 135), (72, 169)], 75) := by decide +kernel
theorem d_A_follow_108 : decode prog_2_method_14_code 108 = .ok (.iconst 1, 1) := by decide +kernel
theorem d_A_follow_109 : decode prog_2_method_14_code 109 = .ok (.ireturn, 1) := by decide +kernel
theorem d_A_follow_110 : decode prog_2_method_14_code 110 = .ok (.aload_n 0, 1) := by decide +kernel
theorem d_A_follow_111 : decode prog_2_method_14_code 111 = .ok (.aload_n 0, 1) := by decide +kernel
theorem d_A_follow_112 : decode prog_2_method_14_code 112 = .ok (.getfield 12, 3) := by decide +kernel
theorem d_A_follow_115 : decode prog_2_method_14_code 115 = .ok (.invokevirtual 100, 3) := by decide +kernel
theorem d_A_follow_118 : decode prog_2_method_14_code 118 = .ok (.invokevirtual 62, 3) := by decide +kernel
theorem d_A_follow_121 : decode prog_2_method_14_code 121 = .ok (.ifCond .eq 21, 3) := by decide +kernel
theorem d_A_follow_124 : decode prog_2_method_14_code 124 = .ok (.aload_n 0, 1) := by decide +kernel
theorem d_A_follow_125 : decode prog_2_method_14_code 125 = .ok (.aload_n 0, 1) := by decide +kernel
theorem d_A_follow_126 : decode prog_2_method_14_code 126 = .ok (.getfield 12, 3) := by decide +kernel
theorem d_A_follow_129 : decode prog_2_method_14_code 129 = .ok (.invokevirtual 104, 3) := by decide +kernel
theorem d_A_follow_132 : decode prog_2_method_14_code 132 = .ok (.invokevirtual 62, 3) := by decide +kernel
theorem d_A_follow_135 : decode prog_2_method_14_code 135 = .ok (.ifCond .eq 7, 3) := by decide +kernel
theorem d_A_follow_138 : decode prog_2_method_14_code 138 = .ok (.iconst 1, 1) := by decide +kernel
theorem d_A_follow_139 : decode prog_2_method_14_code 139 = .ok (.goto 4, 3) := by decide +kernel
theorem d_A_follow_142 : decode prog_2_method_14_code 142 = .ok (.iconst 0, 1) := by decide +kernel
theorem d_A_follow_143 : decode prog_2_method_14_code 143 = .ok (.ireturn, 1) := by decide +kernel
theorem d_A_follow_144 : decode prog_2_method_14_code 144 = .ok (.aload_n 0, 1) := by decide +kernel
theorem d_A_follow_145 : decode prog_2_method_14_code 145 = .ok (.aload_n 0, 1) := by decide +kernel
theorem d_A_follow_146 : decode prog_2_method_14_code 146 = .ok (.getfield 12, 3) := by decide +kernel
theorem d_A_follow_149 : decode prog_2_method_14_code 149 = .ok (.invokevirtual 104, 3) := by decide +kernel
theorem d_A_follow_152 : decode prog_2_method_14_code 152 = .ok (.invokevirtual 62, 3) := by decide +kernel
theorem d_A_follow_155 : decode prog_2_method_14_code 155 = .ok (.ireturn, 1) := by decide +kernel
theorem d_A_follow_156 : decode prog_2_method_14_code 156 = .ok (.aload_n 0, 1) := by decide +kernel
theorem d_A_follow_157 : decode prog_2_method_14_code 157 = .ok (.aload_n 0, 1) := by decide +kernel
theorem d_A_follow_158 : decode prog_2_method_14_code 158 = .ok (.getfield 12, 3) := by decide +kernel
theorem d_A_follow_161 : decode prog_2_method_14_code 161 = .ok (.getfield 107, 3) := by decide +kernel
theorem d_A_follow_164 : decode prog_2_method_14_code 164 = .ok (.invokevirtual 62, 3) := by decide +kernel
theorem d_A_follow_167 : decode prog_2_method_14_code 167 = .ok (.ireturn, 1) := by decide +kernel
theorem d_A_follow_168 : decode prog_2_method_14_code 168 = .ok (.aload_n 0, 1) := by decide +kernel
theorem d_A_follow_169 : decode prog_2_method_14_code 169 = .ok (.aload_n 0, 1) := by decide +kernel
theorem d_A_follow_170 : decode prog_2_method_14_code 170 = .ok (.getfield 12, 3) := by decide +kernel
theorem d_A_follow_173 : decode prog_2_method_14_code 173 = .ok (.invokevirtual 100, 3) := by decide +kernel
theorem d_A_follow_176 : decode prog_2_method_14_code 176 = .ok (.invokevirtual 62, 3) := by decide +kernel
theorem d_A_follow_179 : decode prog_2_method_14_code 179 = .ok (.ifCond .eq 21, 3) := by decide +kernel
theorem d_A_follow_182 : decode prog_2_method_14_code 182 = .ok (.aload_n 0, 1) := by decide +kernel
theorem d_A_follow_183 : decode prog_2_method_14_code 183 = .ok (.aload_n 0, 1) := by decide +kernel
theorem d_A_follow_184 : decode prog_2_method_14_code 184 = .ok (.getfield 12, 3) := by decide +kernel
theorem d_A_follow_187 : decode prog_2_method_14_code 187 = .ok (.getfield 107, 3) := by decide +kernel
theorem d_A_follow_190 : decode prog_2_method_14_code 190 = .ok (.invokevirtual 62, 3) := by decide +kernel
theorem d_A_follow_193 : decode prog_2_method_14_code 193 = .ok (.ifCond .eq 7, 3) := by decide +kernel
theorem d_A_follow_196 : decode prog_2_method_14_code 196 = .ok (.iconst 1, 1) := by decide +kernel
theorem d_A_follow_197 : decode prog_2_method_14_code 197 = .ok (.goto 4, 3) := by decide +kernel
theorem d_A_follow_200 : decode prog_2_method_14_code 200 = .ok (.iconst 0, 1) := by decide +kernel
theorem d_A_follow_201 : decode prog_2_method_14_code 201 = .ok (.ireturn, 1) := by decide +kernel
theorem d_A_follow_202 : decode prog_2_method_14_code 202 = .ok (.aload_n 2, 1) := by decide +kernel
theorem d_A_follow_203 : decode prog_2_method_14_code 203 = .ok (.aload_n 0, 1) := by decide +kernel
theorem d_A_follow_204 : decode prog_2_method_14_code 204 = .ok (.getfield 12, 3) := by decide +kernel
theorem d_A_follow_207 : decode prog_2_method_14_code 207 = .ok (.getfield 107, 3) := by decide +kernel
theorem d_A_follow_210 : decode prog_2_method_14_code 210 = .ok (.aload_n 0, 1) := by decide +kernel
theorem d_A_follow_211 : decode prog_2_method_14_code 211 = .ok (.getfield 12, 3) := by decide +kernel
theorem d_A_follow_214 : decode prog_2_method_14_code 214 = .ok (.getfield 110, 3) := by decide +kernel
theorem d_A_follow_217 : decode prog_2_method_14_code 217 = .ok (.invokevirtual 113, 3) := by decide +kernel
theorem d_A_follow_220 : decode prog_2_method_14_code 220 = .ok (.ifCond .eq 29, 3) := by decide +kernel
theorem d_A_follow_223 : decode prog_2_method_14_code 223 = .ok (.aload_n 0, 1) := by decide +kernel
theorem d_A_follow_224 : decode prog_2_method_14_code 224 = .ok (.aload_n 1, 1) := by decide +kernel
theorem d_A_follow_225 : decode prog_2_method_14_code 225 = .ok (.aload_n 0, 1) := by decide +kernel
theorem d_A_follow_226 : decode prog_2_method_14_code 226 = .ok (.getfield 12, 3) := by decide +kernel
theorem d_A_follow_229 : decode prog_2_method_14_code 229 = .ok (.getfield 107, 3) := by decide +kernel
theorem d_A_follow_232 : decode prog_2_method_14_code 232 = .ok (.aload_n 0, 1) := by decide +kernel
theorem d_A_follow_233 : decode prog_2_method_14_code 233 = .ok (.getfield 12, 3) := by decide +kernel
theorem d_A_follow_236 : decode prog_2_method_14_code 236 = .ok (.getfield 110, 3) := by decide +kernel
theorem d_A_follow_239 : decode prog_2_method_14_code 239 = .ok (.invokevirtual 119, 3) := by decide +kernel
theorem d_A_follow_242 : decode prog_2_method_14_code 242 = .ok (.ifCond .eq 7, 3) := by decide +kernel
theorem d_A_follow_245 : decode prog_2_method_14_code 245 = .ok (.iconst 1, 1) := by decide +kernel
theorem d_A_follow_246 : decode prog_2_method_14_code 246 = .ok (.goto 4, 3) := by decide +kernel
theorem d_A_follow_249 : decode prog_2_method_14_code 249 = .ok (.iconst 0, 1) := by decide +kernel
theorem d_A_follow_250 : decode prog_2_method_14_code 250 = .ok (.ireturn, 1) := by decide +kernel
theorem d_A_follow_251 : decode prog_2_method_14_code 251 = .ok (.aload_n 0, 1) := by decide +kernel
theorem d_A_follow_252 : decode prog_2_method_14_code 252 = .ok (.aload_n 0, 1) := by decide +kernel
theorem d_A_follow_253 : decode prog_2_method_14_code 253 = .ok (.getfield 12, 3) := by decide +kernel
theorem d_A_follow_256 : decode prog_2_method_14_code 256 = .ok (.invokevirtual 100, 3) := by decide +kernel
theorem d_A_follow_259 : decode prog_2_method_14_code 259 = .ok (.invokevirtual 87, 3) := by decide +kernel
theorem d_A_follow_262 : decode prog_2_method_14_code 262 = .ok (.ireturn, 1) := by decide +kernel
def I_A_follow (P : Bool → ev_M → ev_L → Prop) : List (Nat × ev_T) := [(0, tt_al 0 1),
  (1, tt_gf evLY 0 0 4),
  (4, tt_al 1 5),
  (5, tt_il 3 6),
  (6, tt_k 96 8),
  (8, tt_cV evLY 1 3 ev_b pre_I_read post_I_read 11),
  (11, tt_ifeq 24 14),
  (14, tt_al 0 15),
  (15, tt_gf evLY 0 0 18),
  (18, tt_cV evLY 1 0 ev_b pre_I_isOfRewriting post_I_isOfRewriting 21),
  (21, tt_ifeq 26 24),
  (24, tt_k 0 25),
  (25, tt_rz P),
  (26, tt_al 0 27),
  (27, tt_gf evLY 0 0 30),
  (30, tt_gf evLY 1 2 33),
  (33, tt_sw [(0, 108), (3, 108), (60, 110), (64, 110), (68, 144), (69, 156), (70, 168), (72, 202)] 251),
  (108, tt_k 1 109),
  (109, tt_rz P),
  (110, tt_al 0 111),
  (111, tt_al 0 112),
  (112, tt_gf evLY 0 0 115),
  (115, tt_cV evLY 1 0 ev_i pre_I_behind post_I_behind 118),
  (118, tt_cV evLY 0 1 ev_b pre_A_comeToHead post_A_comeToHead 121),
  (121, tt_ifeq 142 124),
  (124, tt_al 0 125),
  (125, tt_al 0 126),
  (126, tt_gf evLY 0 0 129),
  (129, tt_cV evLY 1 0 ev_i pre_I_branchTarget post_I_branchTarget 132),
  (132, tt_cV evLY 0 1 ev_b pre_A_comeToHead post_A_comeToHead 135),
  (135, tt_ifeq 142 138),
  (138, tt_k 1 139),
  (139, tt_go 143),
  (142, tt_k 0 143),
  (143, tt_rz P),
  (144, tt_al 0 145),
  (145, tt_al 0 146),
  (146, tt_gf evLY 0 0 149),
  (149, tt_cV evLY 1 0 ev_i pre_I_branchTarget post_I_branchTarget 152),
  (152, tt_cV evLY 0 1 ev_b pre_A_comeToHead post_A_comeToHead 155),
  (155, tt_rz P),
  (156, tt_al 0 157),
  (157, tt_al 0 158),
  (158, tt_gf evLY 0 0 161),
  (161, tt_gf evLY 1 3 164),
  (164, tt_cV evLY 0 1 ev_b pre_A_comeToHead post_A_comeToHead 167),
  (167, tt_rz P),
  (168, tt_al 0 169),
  (169, tt_al 0 170),
  (170, tt_gf evLY 0 0 173),
  (173, tt_cV evLY 1 0 ev_i pre_I_behind post_I_behind 176),
  (176, tt_cV evLY 0 1 ev_b pre_A_comeToHead post_A_comeToHead 179),
  (179, tt_ifeq 200 182),
  (182, tt_al 0 183),
  (183, tt_al 0 184),
  (184, tt_gf evLY 0 0 187),
  (187, tt_gf evLY 1 3 190),
  (190, tt_cV evLY 0 1 ev_b pre_A_comeToHead post_A_comeToHead 193),
  (193, tt_ifeq 200 196),
  (196, tt_k 1 197),
  (197, tt_go 201),
  (200, tt_k 0 201),
  (201, tt_rz P),
  (202, tt_al 2 203),
  (203, tt_al 0 204),
  (204, tt_gf evLY 0 0 207),
  (207, tt_gf evLY 1 3 210),
  (210, tt_al 0 211),
  (211, tt_gf evLY 0 0 214),
  (214, tt_gf evLY 1 4 217),
  (217, tt_cV evLY 5 2 ev_b pre_T_has post_T_has 220),
  (220, tt_ifeq 249 223),
  (223, tt_al 0 224),
  (224, tt_al 1 225),
  (225, tt_al 0 226),
  (226, tt_gf evLY 0 0 229),
  (229, tt_gf evLY 1 3 232),
  (232, tt_al 0 233),
  (233, tt_gf evLY 0 0 236),
  (236, tt_gf evLY 1 4 239),
  (239, tt_cV evLY 0 3 ev_b pre_A_followTable post_A_followTable 242),
  (242, tt_ifeq 249 245),
  (245, tt_k 1 246),
  (246, tt_go 250),
  (249, tt_k 0 250),
  (250, tt_rz P),
  (251, tt_al 0 252),
  (252, tt_al 0 253),
  (253, tt_gf evLY 0 0 256),
  (256, tt_cV evLY 1 0 ev_i pre_I_behind post_I_behind 259),
  (259, tt_cV evLY 0 1 ev_b pre_A_comeTo post_A_comeTo 262),
  (262, tt_rz P)]
abbrev rm_A_follow : Room := { frames := 3, cells := 0, slots := 0, locals := 96 }
set_option maxRecDepth 20000 in
theorem ok_A_follow (l : Launch) (J : ev_K) (P : Bool → ev_M → ev_L → Prop) (X : ev_X l rm_A_follow evLY evCl ws_A_follow prog_2_method_14_code 4 y_A_follow.cls J) (Z : ev_Z J prog_2_method_14_code .ireturn ev_b P) : ev_oks J (I_A_follow P) :=
  ⟨qq_aln X 0 rfl d_A_follow_0,
  qq_gf X 0 0 rfl (fun w h => List.mem_cons_of_mem _ (inE_A w h)) (by decide) (List.mem_cons_of_mem _ mw_95) d_A_follow_1,
  qq_aln X 1 rfl d_A_follow_4,
  qq_iln X 3 rfl d_A_follow_5,
  qq_bp X 96 (by decide) d_A_follow_6,
  qq_cV X 1 rfl (c_I_read l) (fun hts => cwV 3 hts (evGV (mw_418) (mw_419) (mw_420) (mw_5) (mw_421)) rfl rfl rfl (by decide +kernel) ⟨Nat.le_of_ble_eq_true rfl, Nat.le_of_ble_eq_true rfl⟩) d_A_follow_8,
  qq_ifeq X 24 (by decide) d_A_follow_11,
  qq_aln X 0 rfl d_A_follow_14,
  qq_gf X 0 0 rfl (fun w h => List.mem_cons_of_mem _ (inE_A w h)) (by decide) (List.mem_cons_of_mem _ mw_95) d_A_follow_15,
  qq_cV X 1 rfl (c_I_isOfRewriting l) (fun hts => cwV 0 hts (evGV (mw_437) (mw_438) (mw_439) (mw_5) (mw_440)) rfl rfl rfl (by decide +kernel) ⟨Nat.le_of_ble_eq_true rfl, Nat.le_of_ble_eq_true rfl⟩) d_A_follow_18,
  qq_ifeq X 26 (by decide) d_A_follow_21,
  qq_ic X 0 (by decide) d_A_follow_24,
  qq_rz Z d_A_follow_25,
  qq_aln X 0 rfl d_A_follow_26,
  qq_gf X 0 0 rfl (fun w h => List.mem_cons_of_mem _ (inE_A w h)) (by decide) (List.mem_cons_of_mem _ mw_95) d_A_follow_27,
  qq_gf X 1 2 rfl (fun w h => List.mem_cons_of_mem _ (inE_I w h)) (by decide) (List.mem_cons_of_mem _ mw_75) d_A_follow_30,
  qq_lsw X [(0, 108), (3, 108), (60, 110), (64, 110), (68, 144), (69, 156), (70, 168), (72, 202)] 251 (by decide) (by simp [ev_swOk]) d_A_follow_33,
  qq_ic X 1 (by decide) d_A_follow_108,
  qq_rz Z d_A_follow_109,
  qq_aln X 0 rfl d_A_follow_110,
  qq_aln X 0 rfl d_A_follow_111,
  qq_gf X 0 0 rfl (fun w h => List.mem_cons_of_mem _ (inE_A w h)) (by decide) (List.mem_cons_of_mem _ mw_95) d_A_follow_112,
  qq_cV X 1 rfl (c_I_behind l) (fun hts => cwV 0 hts (evGV (mw_441) (mw_430) (mw_431) (mw_5) (mw_432)) rfl rfl rfl (by decide +kernel) ⟨Nat.le_of_ble_eq_true rfl, Nat.le_of_ble_eq_true rfl⟩) d_A_follow_115,
  qq_cV X 0 rfl (c_A_comeToHead l) (fun hts => cwV 1 hts (evGV (mw_406) (mw_408) (mp_3) (mw_4) (mw_409)) rfl rfl rfl (by decide +kernel) ⟨Nat.le_of_ble_eq_true rfl, Nat.le_of_ble_eq_true rfl⟩) d_A_follow_118,
  qq_ifeq X 142 (by decide) d_A_follow_121,
  qq_aln X 0 rfl d_A_follow_124,
  qq_aln X 0 rfl d_A_follow_125,
  qq_gf X 0 0 rfl (fun w h => List.mem_cons_of_mem _ (inE_A w h)) (by decide) (List.mem_cons_of_mem _ mw_95) d_A_follow_126,
  qq_cV X 1 rfl (c_I_branchTarget l) (fun hts => cwV 0 hts (evGV (mw_442) (mw_443) (mw_444) (mw_5) (mw_445)) rfl rfl rfl (by decide +kernel) ⟨Nat.le_of_ble_eq_true rfl, Nat.le_of_ble_eq_true rfl⟩) d_A_follow_129,
  qq_cV X 0 rfl (c_A_comeToHead l) (fun hts => cwV 1 hts (evGV (mw_406) (mw_408) (mp_3) (mw_4) (mw_409)) rfl rfl rfl (by decide +kernel) ⟨Nat.le_of_ble_eq_true rfl, Nat.le_of_ble_eq_true rfl⟩) d_A_follow_132,
  qq_ifeq X 142 (by decide) d_A_follow_135,
  qq_ic X 1 (by decide) d_A_follow_138,
  qq_go X 143 (by decide) d_A_follow_139,
  qq_ic X 0 (by decide) d_A_follow_142,
  qq_rz Z d_A_follow_143,
  qq_aln X 0 rfl d_A_follow_144,
  qq_aln X 0 rfl d_A_follow_145,
  qq_gf X 0 0 rfl (fun w h => List.mem_cons_of_mem _ (inE_A w h)) (by decide) (List.mem_cons_of_mem _ mw_95) d_A_follow_146,
  qq_cV X 1 rfl (c_I_branchTarget l) (fun hts => cwV 0 hts (evGV (mw_442) (mw_443) (mw_444) (mw_5) (mw_445)) rfl rfl rfl (by decide +kernel) ⟨Nat.le_of_ble_eq_true rfl, Nat.le_of_ble_eq_true rfl⟩) d_A_follow_149,
  qq_cV X 0 rfl (c_A_comeToHead l) (fun hts => cwV 1 hts (evGV (mw_406) (mw_408) (mp_3) (mw_4) (mw_409)) rfl rfl rfl (by decide +kernel) ⟨Nat.le_of_ble_eq_true rfl, Nat.le_of_ble_eq_true rfl⟩) d_A_follow_152,
  qq_rz Z d_A_follow_155,
  qq_aln X 0 rfl d_A_follow_156,
  qq_aln X 0 rfl d_A_follow_157,
  qq_gf X 0 0 rfl (fun w h => List.mem_cons_of_mem _ (inE_A w h)) (by decide) (List.mem_cons_of_mem _ mw_95) d_A_follow_158,
  qq_gf X 1 3 rfl (fun w h => List.mem_cons_of_mem _ (inE_I w h)) (by decide) (List.mem_cons_of_mem _ mw_78) d_A_follow_161,
  qq_cV X 0 rfl (c_A_comeToHead l) (fun hts => cwV 1 hts (evGV (mw_406) (mw_408) (mp_3) (mw_4) (mw_409)) rfl rfl rfl (by decide +kernel) ⟨Nat.le_of_ble_eq_true rfl, Nat.le_of_ble_eq_true rfl⟩) d_A_follow_164,
  qq_rz Z d_A_follow_167,
  qq_aln X 0 rfl d_A_follow_168,
  qq_aln X 0 rfl d_A_follow_169,
  qq_gf X 0 0 rfl (fun w h => List.mem_cons_of_mem _ (inE_A w h)) (by decide) (List.mem_cons_of_mem _ mw_95) d_A_follow_170,
  qq_cV X 1 rfl (c_I_behind l) (fun hts => cwV 0 hts (evGV (mw_441) (mw_430) (mw_431) (mw_5) (mw_432)) rfl rfl rfl (by decide +kernel) ⟨Nat.le_of_ble_eq_true rfl, Nat.le_of_ble_eq_true rfl⟩) d_A_follow_173,
  qq_cV X 0 rfl (c_A_comeToHead l) (fun hts => cwV 1 hts (evGV (mw_406) (mw_408) (mp_3) (mw_4) (mw_409)) rfl rfl rfl (by decide +kernel) ⟨Nat.le_of_ble_eq_true rfl, Nat.le_of_ble_eq_true rfl⟩) d_A_follow_176,
  qq_ifeq X 200 (by decide) d_A_follow_179,
  qq_aln X 0 rfl d_A_follow_182,
  qq_aln X 0 rfl d_A_follow_183,
  qq_gf X 0 0 rfl (fun w h => List.mem_cons_of_mem _ (inE_A w h)) (by decide) (List.mem_cons_of_mem _ mw_95) d_A_follow_184,
  qq_gf X 1 3 rfl (fun w h => List.mem_cons_of_mem _ (inE_I w h)) (by decide) (List.mem_cons_of_mem _ mw_78) d_A_follow_187,
  qq_cV X 0 rfl (c_A_comeToHead l) (fun hts => cwV 1 hts (evGV (mw_406) (mw_408) (mp_3) (mw_4) (mw_409)) rfl rfl rfl (by decide +kernel) ⟨Nat.le_of_ble_eq_true rfl, Nat.le_of_ble_eq_true rfl⟩) d_A_follow_190,
  qq_ifeq X 200 (by decide) d_A_follow_193,
  qq_ic X 1 (by decide) d_A_follow_196,
  qq_go X 201 (by decide) d_A_follow_197,
  qq_ic X 0 (by decide) d_A_follow_200,
  qq_rz Z d_A_follow_201,
  qq_aln X 2 rfl d_A_follow_202,
  qq_aln X 0 rfl d_A_follow_203,
  qq_gf X 0 0 rfl (fun w h => List.mem_cons_of_mem _ (inE_A w h)) (by decide) (List.mem_cons_of_mem _ mw_95) d_A_follow_204,
  qq_gf X 1 3 rfl (fun w h => List.mem_cons_of_mem _ (inE_I w h)) (by decide) (List.mem_cons_of_mem _ mw_78) d_A_follow_207,
  qq_aln X 0 rfl d_A_follow_210,
  qq_gf X 0 0 rfl (fun w h => List.mem_cons_of_mem _ (inE_A w h)) (by decide) (List.mem_cons_of_mem _ mw_95) d_A_follow_211,
  qq_gf X 1 4 rfl (fun w h => List.mem_cons_of_mem _ (inE_I w h)) (by decide) (List.mem_cons_of_mem _ mw_83) d_A_follow_214,
  qq_cV X 5 rfl (c_T_has l) (fun hts => cwV 2 hts (evGV (mw_446) (mw_447) (mw_448) (mw_3) (mw_449)) rfl rfl rfl (by decide +kernel) ⟨Nat.le_of_ble_eq_true rfl, Nat.le_of_ble_eq_true rfl⟩) d_A_follow_217,
  qq_ifeq X 249 (by decide) d_A_follow_220,
  qq_aln X 0 rfl d_A_follow_223,
  qq_aln X 1 rfl d_A_follow_224,
  qq_aln X 0 rfl d_A_follow_225,
  qq_gf X 0 0 rfl (fun w h => List.mem_cons_of_mem _ (inE_A w h)) (by decide) (List.mem_cons_of_mem _ mw_95) d_A_follow_226,
  qq_gf X 1 3 rfl (fun w h => List.mem_cons_of_mem _ (inE_I w h)) (by decide) (List.mem_cons_of_mem _ mw_78) d_A_follow_229,
  qq_aln X 0 rfl d_A_follow_232,
  qq_gf X 0 0 rfl (fun w h => List.mem_cons_of_mem _ (inE_A w h)) (by decide) (List.mem_cons_of_mem _ mw_95) d_A_follow_233,
  qq_gf X 1 4 rfl (fun w h => List.mem_cons_of_mem _ (inE_I w h)) (by decide) (List.mem_cons_of_mem _ mw_83) d_A_follow_236,
  qq_cV X 0 rfl (c_A_followTable l) (fun hts => cwV 3 hts (evGV (mw_450) (mw_452) (mp_6) (mw_4) (mw_453)) rfl rfl rfl (by decide +kernel) ⟨Nat.le_of_ble_eq_true rfl, Nat.le_of_ble_eq_true rfl⟩) d_A_follow_239,
  qq_ifeq X 249 (by decide) d_A_follow_242,
  qq_ic X 1 (by decide) d_A_follow_245,
  qq_go X 250 (by decide) d_A_follow_246,
  qq_ic X 0 (by decide) d_A_follow_249,
  qq_rz Z d_A_follow_250,
  qq_aln X 0 rfl d_A_follow_251,
  qq_aln X 0 rfl d_A_follow_252,
  qq_gf X 0 0 rfl (fun w h => List.mem_cons_of_mem _ (inE_A w h)) (by decide) (List.mem_cons_of_mem _ mw_95) d_A_follow_253,
  qq_cV X 1 rfl (c_I_behind l) (fun hts => cwV 0 hts (evGV (mw_441) (mw_430) (mw_431) (mw_5) (mw_432)) rfl rfl rfl (by decide +kernel) ⟨Nat.le_of_ble_eq_true rfl, Nat.le_of_ble_eq_true rfl⟩) d_A_follow_256,
  qq_cV X 0 rfl (c_A_comeTo l) (fun hts => cwV 1 hts (evGV (mw_410) (mw_412) (mp_4) (mw_4) (mw_413)) rfl rfl rfl (by decide +kernel) ⟨Nat.le_of_ble_eq_true rfl, Nat.le_of_ble_eq_true rfl⟩) d_A_follow_259,
  qq_rz Z d_A_follow_262, trivial⟩
def pre_A_follow : List Value → ev_M → ev_L → Prop := fun as σ _ => ∃ (a : Int32) (c : Nat), as = [.ref 8, .ref 1, .ref 4, .int a] ∧ anW σ c ∧ anD σ ∧ byF (σ 2)
def post_A_follow : List Value → ev_M → ev_L → Bool → ev_M → ev_L → Prop := fun as σ τ r σ' τ' => match as with
  | [_, _, _, .int a] => τ' = τ ∧ anF σ σ' ∧ ((r = true ∧ ¬ an_bad (σ 2) (sp_has σ) a ∧ anG σ σ' (fun x => ∃ h, an_sc (σ 2) a (nI x) h) (fun x => an_sc (σ 2) a (nI x) true) (fun x => an_tb (σ 2) a x)) ∨ (r = false ∧ an_bad (σ 2) (sp_has σ) a))
  | _ => False
set_option maxHeartbeats 4000000 in
set_option maxRecDepth 100000 in
theorem c_A_follow (l : Launch) : ev_C ev_b l y_A_follow ws_A_follow rm_A_follow evLY evCl pre_A_follow post_A_follow := by
  refine ev_meth0 (by decide) rfl ev_rop_b ?_ I_A_follow (ok_A_follow l) 100 ?_
  · rintro _ σ τ ⟨a, c, rfl, h⟩
    exact Nat.le_of_ble_eq_true rfl
  · rintro _ σ τ ⟨a, c, rfl, hw, hD, hf⟩
    have frd : ∀ (σ1 : ev_M), σ1 = σ ∨ σ1 = sp_rd1 σ 9 (σ 2) a → anF σ σ1 := by
      rintro σ1 (rfl | rfl)
      · exact anF_rf _
      · exact ⟨fun k h1 h2 => by have h3 : ¬ k = 9 := by omega
                                 simp [sp_rd1, ev_u, ev_p, h3], rfl⟩
    refine ⟨⟨_, _, _, _, rfl, by decide⟩, ?_⟩
    rintro _ σ1 τ ⟨rfl, ⟨rfl, hok, rfl⟩ | ⟨rfl, hno, hσ⟩⟩
    · refine br_f (by decide) ?_
      -- the window stands on the instruction
      have g0 : anG σ (sp_rd2 σ 9 (σ 2) a) (fun _ => False) (fun _ => False) (fun _ => False) := by
        have hw1 : anW (sp_rd2 σ 9 (σ 2) a) c := hw
        refine ⟨⟨fun k h1 h2 => ?_, rfl⟩, ⟨c, c, hw, hw1, Nat.le_refl _, fun _ _ => rfl⟩, fun x _ => ⟨?_, ?_, ?_⟩⟩
        · have h3 : ¬ k = 9 := by omega
          simp [sp_rd2, sp_rd1, ev_u, ev_p, h3]
        · show σ 11 x = 1 ↔ _; simp
        · show σ 12 x = 1 ↔ _; simp
        · show σ 13 x = 1 ↔ _; simp
      have k9 : (sp_rd2 σ 9 (σ 2) a) 9 2 = anK (σ 2) a := rfl
      have a9 : (sp_rd2 σ 9 (σ 2) a) 9 0 = a := rfl
      have n9 : (sp_rd2 σ 9 (σ 2) a) 9 3 = sp_at (σ 2) (a + 1) := rfl
      have m9 : (sp_rd2 σ 9 (σ 2) a) 9 4 = sp_at (σ 2) (a + 2) := rfl
      have e2 : (sp_rd2 σ 9 (σ 2) a) 2 = σ 2 := rfl
      have hh : sp_has (sp_rd2 σ 9 (σ 2) a) = sp_has σ := rfl
      have e4 : (sp_rd2 σ 9 (σ 2) a) 4 2 = σ 4 2 := rfl
      generalize sp_rd2 σ 9 (σ 2) a = σ1 at *
      obtain ⟨f1, ⟨_, c1, _, w1, _⟩, _⟩ := id g0
      have nn : ∀ {σ2 : ev_M} {c2 : Nat}, anW σ2 c2 → 0 ≤ (σ2 8 9).toInt := fun w => by rw [w.1, nI_toInt (by have := w.2.1; omega)]; omega
      refine ⟨⟨_, rfl, by decide⟩, ?_⟩
      rintro _ σ1 τ ⟨rfl, rfl, rfl⟩
      rw [k9]
      refine br_c (fun hR => ?_) (fun hR => ?_)
      · have hgood : an_good (σ 2) a := ⟨hok, bz hR⟩
        -- how a target is taken
        have out : ∀ (σ2 : ev_M) (t : Int32) (h : Bool), anF σ σ2 → an_sc (σ 2) a t h → ¬ (0 ≤ t ∧ t < 96) → post_A_follow [.ref 8, .ref 1, .ref 4, .int a] σ τ false σ2 τ := fun σ2 t h hfr hs hn => ⟨rfl, hfr, Or.inr ⟨rfl, Or.inr (Or.inr ⟨t, h, hs, hn⟩)⟩⟩
        have fine : (∀ t h, an_sc (σ 2) a t h → 0 ≤ t ∧ t < 96) → (anK (σ 2) a = 72 → sp_has σ (sp_at (σ 2) (a + 1)) (sp_at (σ 2) (a + 2))) → ¬ an_bad (σ 2) (sp_has σ) a := by
          rintro h1 h2 (q | ⟨q1, q2⟩ | ⟨t, h, q1, q2⟩)
          · exact q hgood
          · exact q2 (h2 q1)
          · exact q2 (h1 t h q1)
        have ntb : ¬ anK (σ 2) a = 72 → ∀ x, ¬ an_tb (σ 2) a x := fun h x q => h q.1
        refine br_c (fun hk => ?_) (fun k0 => br_c (fun hk => ?_) (fun k3 => br_c (fun hk => ?_) (fun k60 => br_c (fun hk => ?_) (fun k64 => br_c (fun hk => ?_) (fun k68 => br_c (fun hk => ?_) (fun k69 => br_c (fun hk => ?_) (fun k70 => br_c (fun hk => ?_) (fun k72 => ?_))))))))
        · rw [k9] at hk
          have n72 : ¬ anK (σ 2) a = 72 := by rw [hk]; decide
          exact ⟨true, rfl, rfl, f1, Or.inl ⟨rfl, fine (fun t h q => absurd q (sc_0 (Or.inl hk))) (fun q => absurd q n72), anG_eq g0 (fun x _ => ⟨False.elim, fun ⟨h, q⟩ => absurd q (sc_0 (Or.inl hk))⟩) (fun x _ => ⟨False.elim, fun q => absurd q (sc_0 (Or.inl hk))⟩) (fun x _ => ⟨False.elim, fun q => absurd q (ntb n72 x)⟩)⟩⟩
        · rw [k9] at hk
          have n72 : ¬ anK (σ 2) a = 72 := by rw [hk]; decide
          exact ⟨true, rfl, rfl, f1, Or.inl ⟨rfl, fine (fun t h q => absurd q (sc_0 (Or.inr hk))) (fun q => absurd q n72), anG_eq g0 (fun x _ => ⟨False.elim, fun ⟨h, q⟩ => absurd q (sc_0 (Or.inr hk))⟩) (fun x _ => ⟨False.elim, fun q => absurd q (sc_0 (Or.inr hk))⟩) (fun x _ => ⟨False.elim, fun q => absurd q (ntb n72 x)⟩)⟩⟩
        · rw [k9] at hk
          have n72 : ¬ anK (σ 2) a = 72 := by rw [hk]; decide
          refine ⟨⟨_, rfl, by decide⟩, ?_⟩
          rintro _ σ1 τ ⟨rfl, rfl, rfl⟩
          rw [a9, k9]
          refine ⟨⟨_, rfl, nn w1⟩, ?_⟩
          rintro _ σ2 τ ⟨rfl, ⟨hn, rfl, rfl⟩ | ⟨hn, rfl, rfl⟩⟩
          · refine br_t rfl ?_
            exact ⟨false, rfl, out _ (anB (σ 2) a) true f1 ((sc_60 (Or.inl hk)).mpr ⟨rfl, Or.inl rfl⟩) hn⟩
          · refine br_f (by decide) ?_
            obtain ⟨x, hx, ex⟩ := i_in hn
            have g1 := an_head w1 hx
            rw [← ex] at g1
            obtain ⟨f2, ⟨_, c2, _, w2, _⟩, _⟩ := id g1
            have e9 : (ev_u (sp_mark σ1 (anB (σ 2) a)) 12 (anB (σ 2) a).toNatClampNeg 1) 9 = σ1 9 := sp_mark_9 σ1 _
            generalize ev_u (sp_mark σ1 (anB (σ 2) a)) 12 (anB (σ 2) a).toNatClampNeg 1 = σ2 at *
            refine ⟨⟨_, rfl, by decide⟩, ?_⟩
            rintro _ σ2 τ ⟨rfl, rfl, rfl⟩
            rw [e9, a9, k9, n9]
            refine ⟨⟨_, rfl, nn w2⟩, ?_⟩
            rintro _ σ3 τ ⟨rfl, ⟨hn2, rfl, rfl⟩ | ⟨hn2, rfl, rfl⟩⟩
            · refine br_t rfl ?_
              exact ⟨false, rfl, out _ (anT (σ 2) a) true (anF_tr f1 f2) ((sc_60 (Or.inl hk)).mpr ⟨rfl, Or.inr rfl⟩) hn2⟩
            · refine br_f (by decide) ?_
              obtain ⟨y, hy, ey⟩ := i_in hn2
              have g2 := an_head w2 hy
              rw [← ey] at g2
              refine ⟨true, rfl, rfl, anF_tr f1 (anF_tr f2 g2.1), Or.inl ⟨rfl, fine (fun t h q => ?_) (fun q => absurd q n72), anG_eq (anG_tr g0 (anG_tr g1 g2)) (fun z hz => ?_) (fun z hz => ?_) (fun z hz => ?_)⟩⟩
              · rcases ((sc_60 (Or.inl hk)).mp q).2 with rfl | rfl
                · exact hn
                · exact hn2
              · constructor
                · rintro (q | q | q)
                  · exact q.elim
                  · exact ⟨true, (sc_60 (Or.inl hk)).mpr ⟨rfl, Or.inl ((eqx hz hx ex).mpr q)⟩⟩
                  · exact ⟨true, (sc_60 (Or.inl hk)).mpr ⟨rfl, Or.inr ((eqx hz hy ey).mpr q)⟩⟩
                · rintro ⟨h, q⟩
                  rcases ((sc_60 (Or.inl hk)).mp q).2 with q | q
                  · exact Or.inr (Or.inl ((eqx hz hx ex).mp q))
                  · exact Or.inr (Or.inr ((eqx hz hy ey).mp q))
              · constructor
                · rintro (q | q | q)
                  · exact q.elim
                  · exact (sc_60 (Or.inl hk)).mpr ⟨rfl, Or.inl ((eqx hz hx ex).mpr q)⟩
                  · exact (sc_60 (Or.inl hk)).mpr ⟨rfl, Or.inr ((eqx hz hy ey).mpr q)⟩
                · intro q
                  rcases ((sc_60 (Or.inl hk)).mp q).2 with q | q
                  · exact Or.inr (Or.inl ((eqx hz hx ex).mp q))
                  · exact Or.inr (Or.inr ((eqx hz hy ey).mp q))
              · constructor
                · rintro (q | q | q) <;> exact q.elim
                · intro q
                  exact absurd q (ntb n72 z)
        · rw [k9] at hk
          have n72 : ¬ anK (σ 2) a = 72 := by rw [hk]; decide
          refine ⟨⟨_, rfl, by decide⟩, ?_⟩
          rintro _ σ1 τ ⟨rfl, rfl, rfl⟩
          rw [a9, k9]
          refine ⟨⟨_, rfl, nn w1⟩, ?_⟩
          rintro _ σ2 τ ⟨rfl, ⟨hn, rfl, rfl⟩ | ⟨hn, rfl, rfl⟩⟩
          · refine br_t rfl ?_
            exact ⟨false, rfl, out _ (anB (σ 2) a) true f1 ((sc_60 (Or.inr hk)).mpr ⟨rfl, Or.inl rfl⟩) hn⟩
          · refine br_f (by decide) ?_
            obtain ⟨x, hx, ex⟩ := i_in hn
            have g1 := an_head w1 hx
            rw [← ex] at g1
            obtain ⟨f2, ⟨_, c2, _, w2, _⟩, _⟩ := id g1
            have e9 : (ev_u (sp_mark σ1 (anB (σ 2) a)) 12 (anB (σ 2) a).toNatClampNeg 1) 9 = σ1 9 := sp_mark_9 σ1 _
            generalize ev_u (sp_mark σ1 (anB (σ 2) a)) 12 (anB (σ 2) a).toNatClampNeg 1 = σ2 at *
            refine ⟨⟨_, rfl, by decide⟩, ?_⟩
            rintro _ σ2 τ ⟨rfl, rfl, rfl⟩
            rw [e9, a9, k9, n9]
            refine ⟨⟨_, rfl, nn w2⟩, ?_⟩
            rintro _ σ3 τ ⟨rfl, ⟨hn2, rfl, rfl⟩ | ⟨hn2, rfl, rfl⟩⟩
            · refine br_t rfl ?_
              exact ⟨false, rfl, out _ (anT (σ 2) a) true (anF_tr f1 f2) ((sc_60 (Or.inr hk)).mpr ⟨rfl, Or.inr rfl⟩) hn2⟩
            · refine br_f (by decide) ?_
              obtain ⟨y, hy, ey⟩ := i_in hn2
              have g2 := an_head w2 hy
              rw [← ey] at g2
              refine ⟨true, rfl, rfl, anF_tr f1 (anF_tr f2 g2.1), Or.inl ⟨rfl, fine (fun t h q => ?_) (fun q => absurd q n72), anG_eq (anG_tr g0 (anG_tr g1 g2)) (fun z hz => ?_) (fun z hz => ?_) (fun z hz => ?_)⟩⟩
              · rcases ((sc_60 (Or.inr hk)).mp q).2 with rfl | rfl
                · exact hn
                · exact hn2
              · constructor
                · rintro (q | q | q)
                  · exact q.elim
                  · exact ⟨true, (sc_60 (Or.inr hk)).mpr ⟨rfl, Or.inl ((eqx hz hx ex).mpr q)⟩⟩
                  · exact ⟨true, (sc_60 (Or.inr hk)).mpr ⟨rfl, Or.inr ((eqx hz hy ey).mpr q)⟩⟩
                · rintro ⟨h, q⟩
                  rcases ((sc_60 (Or.inr hk)).mp q).2 with q | q
                  · exact Or.inr (Or.inl ((eqx hz hx ex).mp q))
                  · exact Or.inr (Or.inr ((eqx hz hy ey).mp q))
              · constructor
                · rintro (q | q | q)
                  · exact q.elim
                  · exact (sc_60 (Or.inr hk)).mpr ⟨rfl, Or.inl ((eqx hz hx ex).mpr q)⟩
                  · exact (sc_60 (Or.inr hk)).mpr ⟨rfl, Or.inr ((eqx hz hy ey).mpr q)⟩
                · intro q
                  rcases ((sc_60 (Or.inr hk)).mp q).2 with q | q
                  · exact Or.inr (Or.inl ((eqx hz hx ex).mp q))
                  · exact Or.inr (Or.inr ((eqx hz hy ey).mp q))
              · constructor
                · rintro (q | q | q) <;> exact q.elim
                · intro q
                  exact absurd q (ntb n72 z)
        · rw [k9] at hk
          have n72 : ¬ anK (σ 2) a = 72 := by rw [hk]; decide
          refine ⟨⟨_, rfl, by decide⟩, ?_⟩
          rintro _ σ1 τ ⟨rfl, rfl, rfl⟩
          rw [a9, k9, n9]
          refine ⟨⟨_, rfl, nn w1⟩, ?_⟩
          rintro _ σ2 τ ⟨rfl, ⟨hn, rfl, rfl⟩ | ⟨hn, rfl, rfl⟩⟩
          · exact ⟨false, rfl, out _ (anT (σ 2) a) true f1 ((sc_68 hk).mpr ⟨rfl, rfl⟩) hn⟩
          · obtain ⟨x, hx, ex⟩ := i_in hn
            have g1 := an_head w1 hx
            rw [← ex] at g1
            refine ⟨true, rfl, rfl, anF_tr f1 g1.1, Or.inl ⟨rfl, fine (fun t h q => ?_) (fun q => absurd q n72), anG_eq (anG_tr g0 g1) (fun z hz => ?_) (fun z hz => ?_) (fun z hz => ?_)⟩⟩
            · rw [((sc_68 hk).mp q).2]; exact hn
            · constructor
              · rintro (q | q)
                · exact q.elim
                · exact ⟨true, (sc_68 hk).mpr ⟨rfl, (eqx hz hx ex).mpr q⟩⟩
              · rintro ⟨h, q⟩
                exact Or.inr ((eqx hz hx ex).mp ((sc_68 hk).mp q).2)
            · constructor
              · rintro (q | q)
                · exact q.elim
                · exact (sc_68 hk).mpr ⟨rfl, (eqx hz hx ex).mpr q⟩
              · intro q
                exact Or.inr ((eqx hz hx ex).mp ((sc_68 hk).mp q).2)
            · constructor
              · rintro (q | q) <;> exact q.elim
              · intro q
                exact absurd q (ntb n72 z)
        · rw [k9] at hk
          have n72 : ¬ anK (σ 2) a = 72 := by rw [hk]; decide
          show pre_A_comeToHead [.ref 8, .int (σ1 9 3)] σ1 τ ∧ ∀ (v : Bool) (σ2 : ev_M) (τ2 : ev_L), post_A_comeToHead [.ref 8, .int (σ1 9 3)] σ1 τ v σ2 τ2 → _
          rw [n9]
          refine ⟨⟨_, rfl, nn w1⟩, ?_⟩
          rintro _ σ2 τ ⟨rfl, ⟨hn, rfl, rfl⟩ | ⟨hn, rfl, rfl⟩⟩
          · exact ⟨false, rfl, out _ (sp_at (σ 2) (a + 1)) true f1 ((sc_69 hk).mpr ⟨rfl, rfl⟩) hn⟩
          · obtain ⟨x, hx, ex⟩ := i_in hn
            have g1 := an_head w1 hx
            rw [← ex] at g1
            refine ⟨true, rfl, rfl, anF_tr f1 g1.1, Or.inl ⟨rfl, fine (fun t h q => ?_) (fun q => absurd q n72), anG_eq (anG_tr g0 g1) (fun z hz => ?_) (fun z hz => ?_) (fun z hz => ?_)⟩⟩
            · rw [((sc_69 hk).mp q).2]; exact hn
            · constructor
              · rintro (q | q)
                · exact q.elim
                · exact ⟨true, (sc_69 hk).mpr ⟨rfl, (eqx hz hx ex).mpr q⟩⟩
              · rintro ⟨h, q⟩
                exact Or.inr ((eqx hz hx ex).mp ((sc_69 hk).mp q).2)
            · constructor
              · rintro (q | q)
                · exact q.elim
                · exact (sc_69 hk).mpr ⟨rfl, (eqx hz hx ex).mpr q⟩
              · intro q
                exact Or.inr ((eqx hz hx ex).mp ((sc_69 hk).mp q).2)
            · constructor
              · rintro (q | q) <;> exact q.elim
              · intro q
                exact absurd q (ntb n72 z)
        · rw [k9] at hk
          have n72 : ¬ anK (σ 2) a = 72 := by rw [hk]; decide
          refine ⟨⟨_, rfl, by decide⟩, ?_⟩
          rintro _ σ1 τ ⟨rfl, rfl, rfl⟩
          rw [a9, k9]
          refine ⟨⟨_, rfl, nn w1⟩, ?_⟩
          rintro _ σ2 τ ⟨rfl, ⟨hn, rfl, rfl⟩ | ⟨hn, rfl, rfl⟩⟩
          · refine br_t rfl ?_
            exact ⟨false, rfl, out _ (anB (σ 2) a) true f1 ((sc_70 hk).mpr ⟨rfl, Or.inl rfl⟩) hn⟩
          · refine br_f (by decide) ?_
            obtain ⟨x, hx, ex⟩ := i_in hn
            have g1 := an_head w1 hx
            rw [← ex] at g1
            obtain ⟨f2, ⟨_, c2, _, w2, _⟩, _⟩ := id g1
            have e9 : (ev_u (sp_mark σ1 (anB (σ 2) a)) 12 (anB (σ 2) a).toNatClampNeg 1) 9 = σ1 9 := sp_mark_9 σ1 _
            generalize ev_u (sp_mark σ1 (anB (σ 2) a)) 12 (anB (σ 2) a).toNatClampNeg 1 = σ2 at *
            show pre_A_comeToHead [.ref 8, .int (σ2 9 3)] σ2 τ ∧ ∀ (v : Bool) (σ3 : ev_M) (τ3 : ev_L), post_A_comeToHead [.ref 8, .int (σ2 9 3)] σ2 τ v σ3 τ3 → _
            rw [e9, n9]
            refine ⟨⟨_, rfl, nn w2⟩, ?_⟩
            rintro _ σ3 τ ⟨rfl, ⟨hn2, rfl, rfl⟩ | ⟨hn2, rfl, rfl⟩⟩
            · refine br_t rfl ?_
              exact ⟨false, rfl, out _ (sp_at (σ 2) (a + 1)) true (anF_tr f1 f2) ((sc_70 hk).mpr ⟨rfl, Or.inr rfl⟩) hn2⟩
            · refine br_f (by decide) ?_
              obtain ⟨y, hy, ey⟩ := i_in hn2
              have g2 := an_head w2 hy
              rw [← ey] at g2
              refine ⟨true, rfl, rfl, anF_tr f1 (anF_tr f2 g2.1), Or.inl ⟨rfl, fine (fun t h q => ?_) (fun q => absurd q n72), anG_eq (anG_tr g0 (anG_tr g1 g2)) (fun z hz => ?_) (fun z hz => ?_) (fun z hz => ?_)⟩⟩
              · rcases ((sc_70 hk).mp q).2 with rfl | rfl
                · exact hn
                · exact hn2
              · constructor
                · rintro (q | q | q)
                  · exact q.elim
                  · exact ⟨true, (sc_70 hk).mpr ⟨rfl, Or.inl ((eqx hz hx ex).mpr q)⟩⟩
                  · exact ⟨true, (sc_70 hk).mpr ⟨rfl, Or.inr ((eqx hz hy ey).mpr q)⟩⟩
                · rintro ⟨h, q⟩
                  rcases ((sc_70 hk).mp q).2 with q | q
                  · exact Or.inr (Or.inl ((eqx hz hx ex).mp q))
                  · exact Or.inr (Or.inr ((eqx hz hy ey).mp q))
              · constructor
                · rintro (q | q | q)
                  · exact q.elim
                  · exact (sc_70 hk).mpr ⟨rfl, Or.inl ((eqx hz hx ex).mpr q)⟩
                  · exact (sc_70 hk).mpr ⟨rfl, Or.inr ((eqx hz hy ey).mpr q)⟩
                · intro q
                  rcases ((sc_70 hk).mp q).2 with q | q
                  · exact Or.inr (Or.inl ((eqx hz hx ex).mp q))
                  · exact Or.inr (Or.inr ((eqx hz hy ey).mp q))
              · constructor
                · rintro (q | q | q) <;> exact q.elim
                · intro q
                  exact absurd q (ntb n72 z)
        · rw [k9] at hk
          obtain ⟨nt, hnt, hdt, hall⟩ := hD
          show pre_T_has [.ref 4, .int (σ1 9 3), .int (σ1 9 4)] σ1 τ ∧ ∀ (v : Bool) (σ2 : ev_M) (τ2 : ev_L), post_T_has [.ref 4, .int (σ1 9 3), .int (σ1 9 4)] σ1 τ v σ2 τ2 → _
          rw [n9, m9]
          refine ⟨⟨_, _, rfl, nt, hnt, by rw [e4]; exact hdt⟩, ?_⟩
          rintro v σ1 τ ⟨hv, rfl, rfl⟩
          rw [hh] at hv
          refine br_c (fun hz => ?_) (fun hz => ?_)
          · have hv0 := bz hz
            refine ⟨false, rfl, rfl, f1, Or.inr ⟨rfl, Or.inr (Or.inl ⟨hk, fun q => ?_⟩)⟩⟩
            rw [hv.mpr q] at hv0
            cases hv0
          · have hdec := hv.mp (bnz hz)
            obtain ⟨i, hi, hb, hm⟩ := hdec
            rw [hdt, nI_clamp (by omega)] at hi
            obtain ⟨bb, mm, eb, em, m1, bm⟩ := hall i hi
            have en : sp_at (σ 2) (a + 1) = nI bb := hb.symm.trans eb
            have emm : sp_at (σ 2) (a + 2) = nI mm := hm.symm.trans em
            have cb : (nI bb).toNatClampNeg = bb := nI_clamp (by omega)
            have cm : (nI mm).toNatClampNeg = mm := nI_clamp (by omega)
            have hdec2 : sp_has σ (sp_at (σ 2) (a + 1)) (sp_at (σ 2) (a + 2)) := hv.mp (bnz hz)
            show pre_A_followTable [.ref 8, .ref 1, .int (σ1 9 3), .int (σ1 9 4)] σ1 τ ∧ ∀ (v : Bool) (σ2 : ev_M) (τ2 : ev_L), post_A_followTable [.ref 8, .ref 1, .int (σ1 9 3), .int (σ1 9 4)] σ1 τ v σ2 τ2 → _
            rw [n9, m9, en, emm]
            refine ⟨⟨bb, mm, c1, rfl, bm, w1⟩, ?_⟩
            rintro _ σ2 τ ⟨rfl, f2, ⟨rfl, hin, g1⟩ | ⟨rfl, i2, hi2, hbad⟩⟩
            · refine br_f (by decide) ?_
              rw [e2, cb, cm] at hin g1
              have sc2 : ∀ t h, an_sc (σ 2) a t h ↔ h = true ∧ ∃ i : Nat, i < mm ∧ t = sp_at (σ 2) (nI (bb + i)) := by
                intro t h
                rw [sc_72 hk, en, emm, cb, cm]
              have tb2 : ∀ x, an_tb (σ 2) a x ↔ ∃ i : Nat, i < mm ∧ bb + i = x := by
                intro x
                unfold an_tb
                rw [en, emm, cb, cm]
                exact ⟨fun q => q.2, fun q => ⟨hk, q⟩⟩
              refine ⟨true, rfl, rfl, anF_tr f1 f2, Or.inl ⟨rfl, fine (fun t h q => ?_) (fun _ => hdec2), anG_eq (anG_tr g0 g1) (fun z hz => ?_) (fun z hz => ?_) (fun z hz => ?_)⟩⟩
              · obtain ⟨_, j, hj, rfl⟩ := (sc2 t h).mp q
                exact hin j hj
              · constructor
                · rintro (q | ⟨j, hj, q⟩)
                  · exact q.elim
                  · exact ⟨true, (sc2 _ _).mpr ⟨rfl, j, hj, q.symm⟩⟩
                · rintro ⟨h, q⟩
                  obtain ⟨_, j, hj, e⟩ := (sc2 _ _).mp q
                  exact Or.inr ⟨j, hj, e.symm⟩
              · constructor
                · rintro (q | ⟨j, hj, q⟩)
                  · exact q.elim
                  · exact (sc2 _ _).mpr ⟨rfl, j, hj, q.symm⟩
                · intro q
                  obtain ⟨_, j, hj, e⟩ := (sc2 _ _).mp q
                  exact Or.inr ⟨j, hj, e.symm⟩
              · rw [tb2]
                constructor
                · rintro (q | q)
                  · exact q.elim
                  · exact q
                · exact Or.inr
            · refine br_t rfl ?_
              rw [e2, cb] at hbad
              rw [cm] at hi2
              refine ⟨false, rfl, out _ (sp_at (σ 2) (nI (bb + i2))) true (anF_tr f1 f2) ((sc_72 hk).mpr ⟨rfl, i2, ?_, ?_⟩) hbad⟩
              · rw [emm, cm]; exact hi2
              · rw [en, cb]
        · rw [k9] at k0 k3 k60 k64 k68 k69 k70 k72
          have hd : ¬ anK (σ 2) a = 0 ∧ ¬ anK (σ 2) a = 3 ∧ ¬ anK (σ 2) a = 60 ∧ ¬ anK (σ 2) a = 64 ∧ ¬ anK (σ 2) a = 68 ∧ ¬ anK (σ 2) a = 69 ∧ ¬ anK (σ 2) a = 70 ∧ ¬ anK (σ 2) a = 72 := ⟨k0, k3, k60, k64, k68, k69, k70, k72⟩
          have n72 : ¬ anK (σ 2) a = 72 := by exact k72
          refine ⟨⟨_, rfl, by decide⟩, ?_⟩
          rintro _ σ1 τ ⟨rfl, rfl, rfl⟩
          rw [a9, k9]
          refine ⟨⟨_, rfl, nn w1⟩, ?_⟩
          rintro _ σ2 τ ⟨rfl, ⟨hn, rfl, rfl⟩ | ⟨hn, rfl, rfl⟩⟩
          · exact ⟨false, rfl, out _ (anB (σ 2) a) false f1 ((sc_d hd).mpr ⟨rfl, rfl⟩) hn⟩
          · obtain ⟨x, hx, ex⟩ := i_in hn
            have g1 := an_mark w1 hx
            rw [← ex] at g1
            refine ⟨true, rfl, rfl, anF_tr f1 g1.1, Or.inl ⟨rfl, fine (fun t h q => ?_) (fun q => absurd q n72), anG_eq (anG_tr g0 g1) (fun z hz => ?_) (fun z hz => ?_) (fun z hz => ?_)⟩⟩
            · rw [((sc_d hd).mp q).2]; exact hn
            · constructor
              · rintro (q | q)
                · exact q.elim
                · exact ⟨false, (sc_d hd).mpr ⟨rfl, (eqx hz hx ex).mpr q⟩⟩
              · rintro ⟨h, q⟩
                exact Or.inr ((eqx hz hx ex).mp ((sc_d hd).mp q).2)
            · constructor
              · rintro (q | q)
                · exact q.elim
                · exact q.elim
              · intro q
                exact absurd ((sc_d hd).mp q).1 (by decide)
            · constructor
              · rintro (q | q) <;> exact q.elim
              · intro q
                exact absurd q (ntb n72 z)
      · refine ⟨false, rfl, rfl, f1, Or.inr ⟨rfl, Or.inl fun q => ?_⟩⟩
        have := q.2
        rw [bnz hR] at this
        cases this
    · refine br_t rfl ?_
      exact ⟨false, rfl, rfl, frd _ hσ, Or.inr ⟨rfl, Or.inl fun q => hno q.1⟩⟩
