/-! the reference's doOne, step -/
def ms_set (x : mst) (nx : Int32) : mst := match x with
  | (r, c, s, o, t, _, h, sh, dn) => (r, c, s, o, t, nx, h, sh, dn)
theorem ms_go_set (x : mst) (nx : Int32) : ms_go x nx = ms_1 (ms_set x nx) := by
  obtain ⟨r, c, s, o, t, pc, h9, sh, dn⟩ := x
  rfl
def sd_step (f : Nat → Int32) (tr : Int32 → Int32) (kd op n m bh : Int32) (σ : ev_M) (τ : ev_L) (r : Bool) (σ' : ev_M) (τ' : ev_L) : Prop :=
  frD σ σ' τ τ' ∧ ((kd = 0 ∧ r = true ∧ σ' 30 26 = 1 ∧ mvD σ' τ' = mvD σ τ) ∨ (¬ kd = 0 ∧ (ms_perf f tr kd op n m bh (mvD σ τ)).1 = -1 ∧ r = false ∧ σ' 30 26 = 2 ∧ mvD σ' τ' = mvD σ τ) ∨ (¬ kd = 0 ∧ ¬ (ms_perf f tr kd op n m bh (mvD σ τ)).1 = -1 ∧ r = true ∧ σ' 30 26 = σ 30 26 ∧ mvD σ' τ' = ms_set (ms_perf f tr kd op n m bh (mvD σ τ)).2 (ms_perf f tr kd op n m bh (mvD σ τ)).1))
theorem kdl (lo hi : Nat) (k : Int32) (h : ∀ n, n < 256 → lo ≤ n → n < hi → sp_kind (nI n) = k) {op : Int32} (h1 : (lo : Int) ≤ op.toInt) (h2 : op.toInt < (hi : Int)) (h3 : hi ≤ 256) : sp_kind op = k := by
  obtain ⟨j, hj, rfl⟩ := nI_of (x := op) (by rw [Int32.lt_iff_toInt_lt]; have : (0 : Int32).toInt = 0 := rfl; omega)
  rw [nI_toInt hj] at h1 h2
  exact h j (by omega) (by omega) (by omega)
theorem i_nm1 {x : Int32} (h : 0 ≤ x.toInt) : ¬ x = -1 := by
  intro q
  rw [q] at h
  exact absurd h (by decide)
def y_D_doOne : MethodName := ⟨RD, "doOne", "(II)Z"⟩
def ws_D_doOne : List Cond := .code y_D_doOne prog_9_method_36_code 5 (some .boolean) :: evW
theorem d_D_doOne_0 : decode prog_9_method_36_code 0 = .ok (.iload_n 2, 1) := by decide +kernel
theorem d_D_doOne_1 : decode prog_9_method_36_code 1 = .ok (.iconst 3, 1) := by decide +kernel
theorem d_D_doOne_2 : decode prog_9_method_36_code 2 = .ok (.iand, 1) := by decide +kernel
theorem d_D_doOne_3 : decode prog_9_method_36_code 3 = .ok (.istore_n 3, 1) := by decide +kernel
theorem d_D_doOne_4 : decode prog_9_method_36_code 4 = .ok (.iload_n 2, 1) := by decide +kernel
theorem d_D_doOne_5 : decode prog_9_method_36_code 5 = .ok (.ifCond .ne 10, 3) := by decide +kernel
theorem d_D_doOne_8 : decode prog_9_method_36_code 8 = .ok (.aload_n 0, 1) := by decide +kernel
theorem d_D_doOne_9 : decode prog_9_method_36_code 9 = .ok (.iconst 1, 1) := by decide +kernel
theorem d_D_doOne_10 : decode prog_9_method_36_code 10 = .ok (.putfield 152, 3) := by decide +kernel
theorem d_D_doOne_13 : decode prog_9_method_36_code 13 = .ok (.iconst 1, 1) := by decide +kernel
theorem d_D_doOne_14 : decode prog_9_method_36_code 14 = .ok (.ireturn, 1) := by decide +kernel
theorem d_D_doOne_15 : decode prog_9_method_36_code 15 = .ok (.iload_n 2, 1) := by decide +kernel
theorem d_D_doOne_16 : decode prog_9_method_36_code 16 = .ok (.iconst 2, 1) := by decide +kernel
theorem d_D_doOne_17 : decode prog_9_method_36_code 17 = .ok (.if_icmp .ne 51, 3) := by decide +kernel
theorem d_D_doOne_20 : decode prog_9_method_36_code 20 = .ok (.iload_n 1, 1) := by decide +kernel
theorem d_D_doOne_21 : decode prog_9_method_36_code 21 = .ok (.ifCond .le 24, 3) := by decide +kernel
theorem d_D_doOne_24 : decode prog_9_method_36_code 24 = .ok (.aload_n 0, 1) := by decide +kernel
theorem d_D_doOne_25 : decode prog_9_method_36_code 25 = .ok (.getfield 155, 3) := by decide +kernel
theorem d_D_doOne_28 : decode prog_9_method_36_code 28 = .ok (.bipush 96, 2) := by decide +kernel
theorem d_D_doOne_30 : decode prog_9_method_36_code 30 = .ok (.if_icmp .ge 15, 3) := by decide +kernel
theorem d_D_doOne_33 : decode prog_9_method_36_code 33 = .ok (.aload_n 0, 1) := by decide +kernel
theorem d_D_doOne_34 : decode prog_9_method_36_code 34 = .ok (.getfield 13, 3) := by decide +kernel
theorem d_D_doOne_37 : decode prog_9_method_36_code 37 = .ok (.aload_n 0, 1) := by decide +kernel
theorem d_D_doOne_38 : decode prog_9_method_36_code 38 = .ok (.getfield 155, 3) := by decide +kernel
theorem d_D_doOne_41 : decode prog_9_method_36_code 41 = .ok (.iaload, 1) := by decide +kernel
theorem d_D_doOne_42 : decode prog_9_method_36_code 42 = .ok (.goto 4, 3) := by decide +kernel
theorem d_D_doOne_45 : decode prog_9_method_36_code 45 = .ok (.iconst (-1), 1) := by decide +kernel
theorem d_D_doOne_46 : decode prog_9_method_36_code 46 = .ok (.istore 4, 2) := by decide +kernel
theorem d_D_doOne_48 : decode prog_9_method_36_code 48 = .ok (.iload 4, 2) := by decide +kernel
theorem d_D_doOne_50 : decode prog_9_method_36_code 50 = .ok (.iconst (-1), 1) := by decide +kernel
theorem d_D_doOne_51 : decode prog_9_method_36_code 51 = .ok (.if_icmp .ne 10, 3) := by decide +kernel
theorem d_D_doOne_54 : decode prog_9_method_36_code 54 = .ok (.aload_n 0, 1) := by decide +kernel
theorem d_D_doOne_55 : decode prog_9_method_36_code 55 = .ok (.invokevirtual 165, 3) := by decide +kernel
theorem d_D_doOne_58 : decode prog_9_method_36_code 58 = .ok (.goto 9, 3) := by decide +kernel
theorem d_D_doOne_61 : decode prog_9_method_36_code 61 = .ok (.aload_n 0, 1) := by decide +kernel
theorem d_D_doOne_62 : decode prog_9_method_36_code 62 = .ok (.iload 4, 2) := by decide +kernel
theorem d_D_doOne_64 : decode prog_9_method_36_code 64 = .ok (.invokevirtual 162, 3) := by decide +kernel
theorem d_D_doOne_67 : decode prog_9_method_36_code 67 = .ok (.ireturn, 1) := by decide +kernel
theorem d_D_doOne_68 : decode prog_9_method_36_code 68 = .ok (.iload_n 2, 1) := by decide +kernel
theorem d_D_doOne_69 : decode prog_9_method_36_code 69 = .ok (.iconst 3, 1) := by decide +kernel
theorem d_D_doOne_70 : decode prog_9_method_36_code 70 = .ok (.if_icmp .ne 39, 3) := by decide +kernel
theorem d_D_doOne_73 : decode prog_9_method_36_code 73 = .ok (.aload_n 0, 1) := by decide +kernel
theorem d_D_doOne_74 : decode prog_9_method_36_code 74 = .ok (.getfield 169, 3) := by decide +kernel
theorem d_D_doOne_77 : decode prog_9_method_36_code 77 = .ok (.ifCond .ne 8, 3) := by decide +kernel
theorem d_D_doOne_80 : decode prog_9_method_36_code 80 = .ok (.aload_n 0, 1) := by decide +kernel
theorem d_D_doOne_81 : decode prog_9_method_36_code 81 = .ok (.invokevirtual 165, 3) := by decide +kernel
theorem d_D_doOne_84 : decode prog_9_method_36_code 84 = .ok (.ireturn, 1) := by decide +kernel
theorem d_D_doOne_85 : decode prog_9_method_36_code 85 = .ok (.aload_n 0, 1) := by decide +kernel
theorem d_D_doOne_86 : decode prog_9_method_36_code 86 = .ok (.dup, 1) := by decide +kernel
theorem d_D_doOne_87 : decode prog_9_method_36_code 87 = .ok (.getfield 169, 3) := by decide +kernel
theorem d_D_doOne_90 : decode prog_9_method_36_code 90 = .ok (.iconst 1, 1) := by decide +kernel
theorem d_D_doOne_91 : decode prog_9_method_36_code 91 = .ok (.isub, 1) := by decide +kernel
theorem d_D_doOne_92 : decode prog_9_method_36_code 92 = .ok (.putfield 169, 3) := by decide +kernel
theorem d_D_doOne_95 : decode prog_9_method_36_code 95 = .ok (.aload_n 0, 1) := by decide +kernel
theorem d_D_doOne_96 : decode prog_9_method_36_code 96 = .ok (.aload_n 0, 1) := by decide +kernel
theorem d_D_doOne_97 : decode prog_9_method_36_code 97 = .ok (.getfield 53, 3) := by decide +kernel
theorem d_D_doOne_100 : decode prog_9_method_36_code 100 = .ok (.aload_n 0, 1) := by decide +kernel
theorem d_D_doOne_101 : decode prog_9_method_36_code 101 = .ok (.getfield 169, 3) := by decide +kernel
theorem d_D_doOne_104 : decode prog_9_method_36_code 104 = .ok (.iaload, 1) := by decide +kernel
theorem d_D_doOne_105 : decode prog_9_method_36_code 105 = .ok (.invokevirtual 162, 3) := by decide +kernel
theorem d_D_doOne_108 : decode prog_9_method_36_code 108 = .ok (.ireturn, 1) := by decide +kernel
theorem d_D_doOne_109 : decode prog_9_method_36_code 109 = .ok (.iload_n 2, 1) := by decide +kernel
theorem d_D_doOne_110 : decode prog_9_method_36_code 110 = .ok (.bipush 12, 2) := by decide +kernel
theorem d_D_doOne_112 : decode prog_9_method_36_code 112 = .ok (.if_icmp .lt 48, 3) := by decide +kernel
theorem d_D_doOne_115 : decode prog_9_method_36_code 115 = .ok (.iload_n 2, 1) := by decide +kernel
theorem d_D_doOne_116 : decode prog_9_method_36_code 116 = .ok (.bipush 16, 2) := by decide +kernel
theorem d_D_doOne_118 : decode prog_9_method_36_code 118 = .ok (.if_icmp .ge 42, 3) := by decide +kernel
theorem d_D_doOne_121 : decode prog_9_method_36_code 121 = .ok (.aload_n 0, 1) := by decide +kernel
theorem d_D_doOne_122 : decode prog_9_method_36_code 122 = .ok (.getfield 172, 3) := by decide +kernel
theorem d_D_doOne_125 : decode prog_9_method_36_code 125 = .ok (.bipush 40, 2) := by decide +kernel
theorem d_D_doOne_127 : decode prog_9_method_36_code 127 = .ok (.if_icmp .ne 8, 3) := by decide +kernel
theorem d_D_doOne_130 : decode prog_9_method_36_code 130 = .ok (.aload_n 0, 1) := by decide +kernel
theorem d_D_doOne_131 : decode prog_9_method_36_code 131 = .ok (.invokevirtual 165, 3) := by decide +kernel
theorem d_D_doOne_134 : decode prog_9_method_36_code 134 = .ok (.ireturn, 1) := by decide +kernel
theorem d_D_doOne_135 : decode prog_9_method_36_code 135 = .ok (.aload_n 0, 1) := by decide +kernel
theorem d_D_doOne_136 : decode prog_9_method_36_code 136 = .ok (.getfield 56, 3) := by decide +kernel
theorem d_D_doOne_139 : decode prog_9_method_36_code 139 = .ok (.aload_n 0, 1) := by decide +kernel
theorem d_D_doOne_140 : decode prog_9_method_36_code 140 = .ok (.getfield 172, 3) := by decide +kernel
theorem d_D_doOne_143 : decode prog_9_method_36_code 143 = .ok (.aload_n 0, 1) := by decide +kernel
theorem d_D_doOne_144 : decode prog_9_method_36_code 144 = .ok (.getfield 47, 3) := by decide +kernel
theorem d_D_doOne_147 : decode prog_9_method_36_code 147 = .ok (.iload_n 3, 1) := by decide +kernel
theorem d_D_doOne_148 : decode prog_9_method_36_code 148 = .ok (.iaload, 1) := by decide +kernel
theorem d_D_doOne_149 : decode prog_9_method_36_code 149 = .ok (.iastore, 1) := by decide +kernel
theorem d_D_doOne_150 : decode prog_9_method_36_code 150 = .ok (.aload_n 0, 1) := by decide +kernel
theorem d_D_doOne_151 : decode prog_9_method_36_code 151 = .ok (.dup, 1) := by decide +kernel
theorem d_D_doOne_152 : decode prog_9_method_36_code 152 = .ok (.getfield 172, 3) := by decide +kernel
theorem d_D_doOne_155 : decode prog_9_method_36_code 155 = .ok (.iconst 1, 1) := by decide +kernel
theorem d_D_doOne_156 : decode prog_9_method_36_code 156 = .ok (.iadd, 1) := by decide +kernel
theorem d_D_doOne_157 : decode prog_9_method_36_code 157 = .ok (.putfield 172, 3) := by decide +kernel
theorem d_D_doOne_160 : decode prog_9_method_36_code 160 = .ok (.iload_n 2, 1) := by decide +kernel
theorem d_D_doOne_161 : decode prog_9_method_36_code 161 = .ok (.iconst 4, 1) := by decide +kernel
theorem d_D_doOne_162 : decode prog_9_method_36_code 162 = .ok (.if_icmp .lt 19, 3) := by decide +kernel
theorem d_D_doOne_165 : decode prog_9_method_36_code 165 = .ok (.iload_n 2, 1) := by decide +kernel
theorem d_D_doOne_166 : decode prog_9_method_36_code 166 = .ok (.bipush 8, 2) := by decide +kernel
theorem d_D_doOne_168 : decode prog_9_method_36_code 168 = .ok (.if_icmp .ge 13, 3) := by decide +kernel
theorem d_D_doOne_171 : decode prog_9_method_36_code 171 = .ok (.aload_n 0, 1) := by decide +kernel
theorem d_D_doOne_172 : decode prog_9_method_36_code 172 = .ok (.getfield 47, 3) := by decide +kernel
theorem d_D_doOne_175 : decode prog_9_method_36_code 175 = .ok (.iload_n 3, 1) := by decide +kernel
theorem d_D_doOne_176 : decode prog_9_method_36_code 176 = .ok (.dup2, 1) := by decide +kernel
theorem d_D_doOne_177 : decode prog_9_method_36_code 177 = .ok (.iaload, 1) := by decide +kernel
theorem d_D_doOne_178 : decode prog_9_method_36_code 178 = .ok (.iconst 1, 1) := by decide +kernel
theorem d_D_doOne_179 : decode prog_9_method_36_code 179 = .ok (.iadd, 1) := by decide +kernel
theorem d_D_doOne_180 : decode prog_9_method_36_code 180 = .ok (.iastore, 1) := by decide +kernel
theorem d_D_doOne_181 : decode prog_9_method_36_code 181 = .ok (.iload_n 2, 1) := by decide +kernel
theorem d_D_doOne_182 : decode prog_9_method_36_code 182 = .ok (.bipush 8, 2) := by decide +kernel
theorem d_D_doOne_184 : decode prog_9_method_36_code 184 = .ok (.if_icmp .lt 19, 3) := by decide +kernel
theorem d_D_doOne_187 : decode prog_9_method_36_code 187 = .ok (.iload_n 2, 1) := by decide +kernel
theorem d_D_doOne_188 : decode prog_9_method_36_code 188 = .ok (.bipush 12, 2) := by decide +kernel
theorem d_D_doOne_190 : decode prog_9_method_36_code 190 = .ok (.if_icmp .ge 13, 3) := by decide +kernel
theorem d_D_doOne_193 : decode prog_9_method_36_code 193 = .ok (.aload_n 0, 1) := by decide +kernel
theorem d_D_doOne_194 : decode prog_9_method_36_code 194 = .ok (.getfield 47, 3) := by decide +kernel
theorem d_D_doOne_197 : decode prog_9_method_36_code 197 = .ok (.iload_n 3, 1) := by decide +kernel
theorem d_D_doOne_198 : decode prog_9_method_36_code 198 = .ok (.dup2, 1) := by decide +kernel
theorem d_D_doOne_199 : decode prog_9_method_36_code 199 = .ok (.iaload, 1) := by decide +kernel
theorem d_D_doOne_200 : decode prog_9_method_36_code 200 = .ok (.iconst 1, 1) := by decide +kernel
theorem d_D_doOne_201 : decode prog_9_method_36_code 201 = .ok (.isub, 1) := by decide +kernel
theorem d_D_doOne_202 : decode prog_9_method_36_code 202 = .ok (.iastore, 1) := by decide +kernel
theorem d_D_doOne_203 : decode prog_9_method_36_code 203 = .ok (.iload_n 2, 1) := by decide +kernel
theorem d_D_doOne_204 : decode prog_9_method_36_code 204 = .ok (.bipush 16, 2) := by decide +kernel
theorem d_D_doOne_206 : decode prog_9_method_36_code 206 = .ok (.if_icmp .lt 28, 3) := by decide +kernel
theorem d_D_doOne_209 : decode prog_9_method_36_code 209 = .ok (.iload_n 2, 1) := by decide +kernel
theorem d_D_doOne_210 : decode prog_9_method_36_code 210 = .ok (.bipush 32, 2) := by decide +kernel
theorem d_D_doOne_212 : decode prog_9_method_36_code 212 = .ok (.if_icmp .ge 22, 3) := by decide +kernel
theorem d_D_doOne_215 : decode prog_9_method_36_code 215 = .ok (.aload_n 0, 1) := by decide +kernel
theorem d_D_doOne_216 : decode prog_9_method_36_code 216 = .ok (.getfield 47, 3) := by decide +kernel
theorem d_D_doOne_219 : decode prog_9_method_36_code 219 = .ok (.iload_n 2, 1) := by decide +kernel
theorem d_D_doOne_220 : decode prog_9_method_36_code 220 = .ok (.iconst 2, 1) := by decide +kernel
theorem d_D_doOne_221 : decode prog_9_method_36_code 221 = .ok (.ishr, 1) := by decide +kernel
theorem d_D_doOne_222 : decode prog_9_method_36_code 222 = .ok (.iconst 3, 1) := by decide +kernel
theorem d_D_doOne_223 : decode prog_9_method_36_code 223 = .ok (.iand, 1) := by decide +kernel
theorem d_D_doOne_224 : decode prog_9_method_36_code 224 = .ok (.dup2, 1) := by decide +kernel
theorem d_D_doOne_225 : decode prog_9_method_36_code 225 = .ok (.iaload, 1) := by decide +kernel
theorem d_D_doOne_226 : decode prog_9_method_36_code 226 = .ok (.aload_n 0, 1) := by decide +kernel
theorem d_D_doOne_227 : decode prog_9_method_36_code 227 = .ok (.getfield 47, 3) := by decide +kernel
theorem d_D_doOne_230 : decode prog_9_method_36_code 230 = .ok (.iload_n 3, 1) := by decide +kernel
theorem d_D_doOne_231 : decode prog_9_method_36_code 231 = .ok (.iaload, 1) := by decide +kernel
theorem d_D_doOne_232 : decode prog_9_method_36_code 232 = .ok (.iadd, 1) := by decide +kernel
theorem d_D_doOne_233 : decode prog_9_method_36_code 233 = .ok (.iastore, 1) := by decide +kernel
theorem d_D_doOne_234 : decode prog_9_method_36_code 234 = .ok (.iload_n 2, 1) := by decide +kernel
theorem d_D_doOne_235 : decode prog_9_method_36_code 235 = .ok (.bipush 32, 2) := by decide +kernel
theorem d_D_doOne_237 : decode prog_9_method_36_code 237 = .ok (.if_icmp .lt 22, 3) := by decide +kernel
theorem d_D_doOne_240 : decode prog_9_method_36_code 240 = .ok (.aload_n 0, 1) := by decide +kernel
theorem d_D_doOne_241 : decode prog_9_method_36_code 241 = .ok (.getfield 47, 3) := by decide +kernel
theorem d_D_doOne_244 : decode prog_9_method_36_code 244 = .ok (.iload_n 2, 1) := by decide +kernel
theorem d_D_doOne_245 : decode prog_9_method_36_code 245 = .ok (.iconst 2, 1) := by decide +kernel
theorem d_D_doOne_246 : decode prog_9_method_36_code 246 = .ok (.ishr, 1) := by decide +kernel
theorem d_D_doOne_247 : decode prog_9_method_36_code 247 = .ok (.iconst 3, 1) := by decide +kernel
theorem d_D_doOne_248 : decode prog_9_method_36_code 248 = .ok (.iand, 1) := by decide +kernel
theorem d_D_doOne_249 : decode prog_9_method_36_code 249 = .ok (.dup2, 1) := by decide +kernel
theorem d_D_doOne_250 : decode prog_9_method_36_code 250 = .ok (.iaload, 1) := by decide +kernel
theorem d_D_doOne_251 : decode prog_9_method_36_code 251 = .ok (.aload_n 0, 1) := by decide +kernel
theorem d_D_doOne_252 : decode prog_9_method_36_code 252 = .ok (.getfield 47, 3) := by decide +kernel
theorem d_D_doOne_255 : decode prog_9_method_36_code 255 = .ok (.iload_n 3, 1) := by decide +kernel
theorem d_D_doOne_256 : decode prog_9_method_36_code 256 = .ok (.iaload, 1) := by decide +kernel
theorem d_D_doOne_257 : decode prog_9_method_36_code 257 = .ok (.isub, 1) := by decide +kernel
theorem d_D_doOne_258 : decode prog_9_method_36_code 258 = .ok (.iastore, 1) := by decide +kernel
theorem d_D_doOne_259 : decode prog_9_method_36_code 259 = .ok (.aload_n 0, 1) := by decide +kernel
theorem d_D_doOne_260 : decode prog_9_method_36_code 260 = .ok (.aload_n 0, 1) := by decide +kernel
theorem d_D_doOne_261 : decode prog_9_method_36_code 261 = .ok (.getfield 155, 3) := by decide +kernel
theorem d_D_doOne_264 : decode prog_9_method_36_code 264 = .ok (.iconst 1, 1) := by decide +kernel
theorem d_D_doOne_265 : decode prog_9_method_36_code 265 = .ok (.iadd, 1) := by decide +kernel
theorem d_D_doOne_266 : decode prog_9_method_36_code 266 = .ok (.invokevirtual 162, 3) := by decide +kernel
theorem d_D_doOne_269 : decode prog_9_method_36_code 269 = .ok (.ireturn, 1) := by decide +kernel
def I_D_doOne (P : Bool → ev_M → ev_L → Prop) : List (Nat × ev_T) := [(0, tt_il 2 1),
  (1, tt_k 3 2),
  (2, tt_iand 3),
  (3, tt_is 3 4),
  (4, tt_il 2 5),
  (5, tt_ifne 15 8),
  (8, tt_al 0 9),
  (9, tt_k 1 10),
  (10, tt_pf evLY 7 26 13),
  (13, tt_k 1 14),
  (14, tt_rz P),
  (15, tt_il 2 16),
  (16, tt_k 2 17),
  (17, tt_icne 68 20),
  (20, tt_il 1 21),
  (21, tt_ifle 45 24),
  (24, tt_al 0 25),
  (25, tt_gf evLY 7 22 28),
  (28, tt_k 96 30),
  (30, tt_icge 45 33),
  (33, tt_al 0 34),
  (34, tt_gf evLY 7 2 37),
  (37, tt_al 0 38),
  (38, tt_gf evLY 7 22 41),
  (41, tt_ia evLY 42),
  (42, tt_go 46),
  (45, tt_k (-1) 46),
  (46, tt_is 4 48),
  (48, tt_il 4 50),
  (50, tt_k (-1) 51),
  (51, tt_icne 61 54),
  (54, tt_al 0 55),
  (55, tt_cV evLY 7 0 ev_b pre_D_fault post_D_fault 58),
  (58, tt_go 67),
  (61, tt_al 0 62),
  (62, tt_il 4 64),
  (64, tt_cV evLY 7 1 ev_b pre_D_go post_D_go 67),
  (67, tt_rz P),
  (68, tt_il 2 69),
  (69, tt_k 3 70),
  (70, tt_icne 109 73),
  (73, tt_al 0 74),
  (74, tt_gf evLY 7 23 77),
  (77, tt_ifne 85 80),
  (80, tt_al 0 81),
  (81, tt_cV evLY 7 0 ev_b pre_D_fault post_D_fault 84),
  (84, tt_rz P),
  (85, tt_al 0 86),
  (86, tt_dup 87),
  (87, tt_gf evLY 7 23 90),
  (90, tt_k 1 91),
  (91, tt_isub 92),
  (92, tt_pf evLY 7 23 95),
  (95, tt_al 0 96),
  (96, tt_al 0 97),
  (97, tt_gf evLY 7 27 100),
  (100, tt_al 0 101),
  (101, tt_gf evLY 7 23 104),
  (104, tt_ia evLY 105),
  (105, tt_cV evLY 7 1 ev_b pre_D_go post_D_go 108),
  (108, tt_rz P),
  (109, tt_il 2 110),
  (110, tt_k 12 112),
  (112, tt_iclt 160 115),
  (115, tt_il 2 116),
  (116, tt_k 16 118),
  (118, tt_icge 160 121),
  (121, tt_al 0 122),
  (122, tt_gf evLY 7 24 125),
  (125, tt_k 40 127),
  (127, tt_icne 135 130),
  (130, tt_al 0 131),
  (131, tt_cV evLY 7 0 ev_b pre_D_fault post_D_fault 134),
  (134, tt_rz P),
  (135, tt_al 0 136),
  (136, tt_gf evLY 7 28 139),
  (139, tt_al 0 140),
  (140, tt_gf evLY 7 24 143),
  (143, tt_al 0 144),
  (144, tt_gf evLY 7 20 147),
  (147, tt_il 3 148),
  (148, tt_ia evLY 149),
  (149, tt_ias evLY 150),
  (150, tt_al 0 151),
  (151, tt_dup 152),
  (152, tt_gf evLY 7 24 155),
  (155, tt_k 1 156),
  (156, tt_iadd 157),
  (157, tt_pf evLY 7 24 160),
  (160, tt_il 2 161),
  (161, tt_k 4 162),
  (162, tt_iclt 181 165),
  (165, tt_il 2 166),
  (166, tt_k 8 168),
  (168, tt_icge 181 171),
  (171, tt_al 0 172),
  (172, tt_gf evLY 7 20 175),
  (175, tt_il 3 176),
  (176, tt_dup2 177),
  (177, tt_ia evLY 178),
  (178, tt_k 1 179),
  (179, tt_iadd 180),
  (180, tt_ias evLY 181),
  (181, tt_il 2 182),
  (182, tt_k 8 184),
  (184, tt_iclt 203 187),
  (187, tt_il 2 188),
  (188, tt_k 12 190),
  (190, tt_icge 203 193),
  (193, tt_al 0 194),
  (194, tt_gf evLY 7 20 197),
  (197, tt_il 3 198),
  (198, tt_dup2 199),
  (199, tt_ia evLY 200),
  (200, tt_k 1 201),
  (201, tt_isub 202),
  (202, tt_ias evLY 203),
  (203, tt_il 2 204),
  (204, tt_k 16 206),
  (206, tt_iclt 234 209),
  (209, tt_il 2 210),
  (210, tt_k 32 212),
  (212, tt_icge 234 215),
  (215, tt_al 0 216),
  (216, tt_gf evLY 7 20 219),
  (219, tt_il 2 220),
  (220, tt_k 2 221),
  (221, tt_ishr 222),
  (222, tt_k 3 223),
  (223, tt_iand 224),
  (224, tt_dup2 225),
  (225, tt_ia evLY 226),
  (226, tt_al 0 227),
  (227, tt_gf evLY 7 20 230),
  (230, tt_il 3 231),
  (231, tt_ia evLY 232),
  (232, tt_iadd 233),
  (233, tt_ias evLY 234),
  (234, tt_il 2 235),
  (235, tt_k 32 237),
  (237, tt_iclt 259 240),
  (240, tt_al 0 241),
  (241, tt_gf evLY 7 20 244),
  (244, tt_il 2 245),
  (245, tt_k 2 246),
  (246, tt_ishr 247),
  (247, tt_k 3 248),
  (248, tt_iand 249),
  (249, tt_dup2 250),
  (250, tt_ia evLY 251),
  (251, tt_al 0 252),
  (252, tt_gf evLY 7 20 255),
  (255, tt_il 3 256),
  (256, tt_ia evLY 257),
  (257, tt_isub 258),
  (258, tt_ias evLY 259),
  (259, tt_al 0 260),
  (260, tt_al 0 261),
  (261, tt_gf evLY 7 22 264),
  (264, tt_k 1 265),
  (265, tt_iadd 266),
  (266, tt_cV evLY 7 1 ev_b pre_D_go post_D_go 269),
  (269, tt_rz P)]
abbrev rm_D_doOne : Room := { frames := 1, cells := 0, slots := 0, locals := 32 }
set_option maxRecDepth 20000 in
theorem ok_D_doOne (l : Launch) (J : ev_K) (P : Bool → ev_M → ev_L → Prop) (X : ev_X l rm_D_doOne evLY evCl ws_D_doOne prog_9_method_36_code 5 y_D_doOne.cls J) (Z : ev_Z J prog_9_method_36_code .ireturn ev_b P) : ev_oks J (I_D_doOne P) :=
  ⟨qq_iln X 2 rfl d_D_doOne_0,
  qq_ic X 3 (by decide) d_D_doOne_1,
  qq_iand X d_D_doOne_2,
  qq_isn X 3 rfl (by decide) d_D_doOne_3,
  qq_iln X 2 rfl d_D_doOne_4,
  qq_ifne X 15 (by decide) d_D_doOne_5,
  qq_aln X 0 rfl d_D_doOne_8,
  qq_ic X 1 (by decide) d_D_doOne_9,
  qq_pf X 7 26 rfl (fun w h => List.mem_cons_of_mem _ (inE_D w h)) (by decide) tyD tyD_ok nmD rfl (by decide +kernel) (List.mem_cons_of_mem _ mw_780) d_D_doOne_10,
  qq_ic X 1 (by decide) d_D_doOne_13,
  qq_rz Z d_D_doOne_14,
  qq_iln X 2 rfl d_D_doOne_15,
  qq_ic X 2 (by decide) d_D_doOne_16,
  qq_icne X 68 (by decide) d_D_doOne_17,
  qq_iln X 1 rfl d_D_doOne_20,
  qq_ifle X 45 (by decide) d_D_doOne_21,
  qq_aln X 0 rfl d_D_doOne_24,
  qq_gf X 7 22 rfl (fun w h => List.mem_cons_of_mem _ (inE_D w h)) (by decide) (List.mem_cons_of_mem _ mw_776) d_D_doOne_25,
  qq_bp X 96 (by decide) d_D_doOne_28,
  qq_icge X 45 (by decide) d_D_doOne_30,
  qq_aln X 0 rfl d_D_doOne_33,
  qq_gf X 7 2 rfl (fun w h => List.mem_cons_of_mem _ (inE_D w h)) (by decide) (List.mem_cons_of_mem _ mw_756) d_D_doOne_34,
  qq_aln X 0 rfl d_D_doOne_37,
  qq_gf X 7 22 rfl (fun w h => List.mem_cons_of_mem _ (inE_D w h)) (by decide) (List.mem_cons_of_mem _ mw_776) d_D_doOne_38,
  qq_ia X d_D_doOne_41,
  qq_go X 46 (by decide) d_D_doOne_42,
  qq_ic X (-1) (by decide) d_D_doOne_45,
  qq_is X 4 (by decide) d_D_doOne_46,
  qq_il X 4 d_D_doOne_48,
  qq_ic X (-1) (by decide) d_D_doOne_50,
  qq_icne X 61 (by decide) d_D_doOne_51,
  qq_aln X 0 rfl d_D_doOne_54,
  qq_cV X 7 rfl (c_D_fault l) (fun hts => cwV 0 hts (evGV (mw_968) (mw_970) (mp_42) (mw_8) (mw_971)) rfl rfl rfl (by decide +kernel) ⟨Nat.le_of_ble_eq_true rfl, Nat.le_of_ble_eq_true rfl⟩) d_D_doOne_55,
  qq_go X 67 (by decide) d_D_doOne_58,
  qq_aln X 0 rfl d_D_doOne_61,
  qq_il X 4 d_D_doOne_62,
  qq_cV X 7 rfl (c_D_go l) (fun hts => cwV 1 hts (evGV (mw_976) (mw_978) (mp_44) (mw_8) (mw_979)) rfl rfl rfl (by decide +kernel) ⟨Nat.le_of_ble_eq_true rfl, Nat.le_of_ble_eq_true rfl⟩) d_D_doOne_64,
  qq_rz Z d_D_doOne_67,
  qq_iln X 2 rfl d_D_doOne_68,
  qq_ic X 3 (by decide) d_D_doOne_69,
  qq_icne X 109 (by decide) d_D_doOne_70,
  qq_aln X 0 rfl d_D_doOne_73,
  qq_gf X 7 23 rfl (fun w h => List.mem_cons_of_mem _ (inE_D w h)) (by decide) (List.mem_cons_of_mem _ mw_777) d_D_doOne_74,
  qq_ifne X 85 (by decide) d_D_doOne_77,
  qq_aln X 0 rfl d_D_doOne_80,
  qq_cV X 7 rfl (c_D_fault l) (fun hts => cwV 0 hts (evGV (mw_968) (mw_970) (mp_42) (mw_8) (mw_971)) rfl rfl rfl (by decide +kernel) ⟨Nat.le_of_ble_eq_true rfl, Nat.le_of_ble_eq_true rfl⟩) d_D_doOne_81,
  qq_rz Z d_D_doOne_84,
  qq_aln X 0 rfl d_D_doOne_85,
  qq_dup X d_D_doOne_86,
  qq_gf X 7 23 rfl (fun w h => List.mem_cons_of_mem _ (inE_D w h)) (by decide) (List.mem_cons_of_mem _ mw_777) d_D_doOne_87,
  qq_ic X 1 (by decide) d_D_doOne_90,
  qq_isub X d_D_doOne_91,
  qq_pf X 7 23 rfl (fun w h => List.mem_cons_of_mem _ (inE_D w h)) (by decide) tyD tyD_ok nmD rfl (by decide +kernel) (List.mem_cons_of_mem _ mw_777) d_D_doOne_92,
  qq_aln X 0 rfl d_D_doOne_95,
  qq_aln X 0 rfl d_D_doOne_96,
  qq_gf X 7 27 rfl (fun w h => List.mem_cons_of_mem _ (inE_D w h)) (by decide) (List.mem_cons_of_mem _ mw_781) d_D_doOne_97,
  qq_aln X 0 rfl d_D_doOne_100,
  qq_gf X 7 23 rfl (fun w h => List.mem_cons_of_mem _ (inE_D w h)) (by decide) (List.mem_cons_of_mem _ mw_777) d_D_doOne_101,
  qq_ia X d_D_doOne_104,
  qq_cV X 7 rfl (c_D_go l) (fun hts => cwV 1 hts (evGV (mw_976) (mw_978) (mp_44) (mw_8) (mw_979)) rfl rfl rfl (by decide +kernel) ⟨Nat.le_of_ble_eq_true rfl, Nat.le_of_ble_eq_true rfl⟩) d_D_doOne_105,
  qq_rz Z d_D_doOne_108,
  qq_iln X 2 rfl d_D_doOne_109,
  qq_bp X 12 (by decide) d_D_doOne_110,
  qq_iclt X 160 (by decide) d_D_doOne_112,
  qq_iln X 2 rfl d_D_doOne_115,
  qq_bp X 16 (by decide) d_D_doOne_116,
  qq_icge X 160 (by decide) d_D_doOne_118,
  qq_aln X 0 rfl d_D_doOne_121,
  qq_gf X 7 24 rfl (fun w h => List.mem_cons_of_mem _ (inE_D w h)) (by decide) (List.mem_cons_of_mem _ mw_778) d_D_doOne_122,
  qq_bp X 40 (by decide) d_D_doOne_125,
  qq_icne X 135 (by decide) d_D_doOne_127,
  qq_aln X 0 rfl d_D_doOne_130,
  qq_cV X 7 rfl (c_D_fault l) (fun hts => cwV 0 hts (evGV (mw_968) (mw_970) (mp_42) (mw_8) (mw_971)) rfl rfl rfl (by decide +kernel) ⟨Nat.le_of_ble_eq_true rfl, Nat.le_of_ble_eq_true rfl⟩) d_D_doOne_131,
  qq_rz Z d_D_doOne_134,
  qq_aln X 0 rfl d_D_doOne_135,
  qq_gf X 7 28 rfl (fun w h => List.mem_cons_of_mem _ (inE_D w h)) (by decide) (List.mem_cons_of_mem _ mw_782) d_D_doOne_136,
  qq_aln X 0 rfl d_D_doOne_139,
  qq_gf X 7 24 rfl (fun w h => List.mem_cons_of_mem _ (inE_D w h)) (by decide) (List.mem_cons_of_mem _ mw_778) d_D_doOne_140,
  qq_aln X 0 rfl d_D_doOne_143,
  qq_gf X 7 20 rfl (fun w h => List.mem_cons_of_mem _ (inE_D w h)) (by decide) (List.mem_cons_of_mem _ mw_774) d_D_doOne_144,
  qq_iln X 3 rfl d_D_doOne_147,
  qq_ia X d_D_doOne_148,
  qq_ias X d_D_doOne_149,
  qq_aln X 0 rfl d_D_doOne_150,
  qq_dup X d_D_doOne_151,
  qq_gf X 7 24 rfl (fun w h => List.mem_cons_of_mem _ (inE_D w h)) (by decide) (List.mem_cons_of_mem _ mw_778) d_D_doOne_152,
  qq_ic X 1 (by decide) d_D_doOne_155,
  qq_iadd X d_D_doOne_156,
  qq_pf X 7 24 rfl (fun w h => List.mem_cons_of_mem _ (inE_D w h)) (by decide) tyD tyD_ok nmD rfl (by decide +kernel) (List.mem_cons_of_mem _ mw_778) d_D_doOne_157,
  qq_iln X 2 rfl d_D_doOne_160,
  qq_ic X 4 (by decide) d_D_doOne_161,
  qq_iclt X 181 (by decide) d_D_doOne_162,
  qq_iln X 2 rfl d_D_doOne_165,
  qq_bp X 8 (by decide) d_D_doOne_166,
  qq_icge X 181 (by decide) d_D_doOne_168,
  qq_aln X 0 rfl d_D_doOne_171,
  qq_gf X 7 20 rfl (fun w h => List.mem_cons_of_mem _ (inE_D w h)) (by decide) (List.mem_cons_of_mem _ mw_774) d_D_doOne_172,
  qq_iln X 3 rfl d_D_doOne_175,
  qq_dup2 X d_D_doOne_176,
  qq_ia X d_D_doOne_177,
  qq_ic X 1 (by decide) d_D_doOne_178,
  qq_iadd X d_D_doOne_179,
  qq_ias X d_D_doOne_180,
  qq_iln X 2 rfl d_D_doOne_181,
  qq_bp X 8 (by decide) d_D_doOne_182,
  qq_iclt X 203 (by decide) d_D_doOne_184,
  qq_iln X 2 rfl d_D_doOne_187,
  qq_bp X 12 (by decide) d_D_doOne_188,
  qq_icge X 203 (by decide) d_D_doOne_190,
  qq_aln X 0 rfl d_D_doOne_193,
  qq_gf X 7 20 rfl (fun w h => List.mem_cons_of_mem _ (inE_D w h)) (by decide) (List.mem_cons_of_mem _ mw_774) d_D_doOne_194,
  qq_iln X 3 rfl d_D_doOne_197,
  qq_dup2 X d_D_doOne_198,
  qq_ia X d_D_doOne_199,
  qq_ic X 1 (by decide) d_D_doOne_200,
  qq_isub X d_D_doOne_201,
  qq_ias X d_D_doOne_202,
  qq_iln X 2 rfl d_D_doOne_203,
  qq_bp X 16 (by decide) d_D_doOne_204,
  qq_iclt X 234 (by decide) d_D_doOne_206,
  qq_iln X 2 rfl d_D_doOne_209,
  qq_bp X 32 (by decide) d_D_doOne_210,
  qq_icge X 234 (by decide) d_D_doOne_212,
  qq_aln X 0 rfl d_D_doOne_215,
  qq_gf X 7 20 rfl (fun w h => List.mem_cons_of_mem _ (inE_D w h)) (by decide) (List.mem_cons_of_mem _ mw_774) d_D_doOne_216,
  qq_iln X 2 rfl d_D_doOne_219,
  qq_ic X 2 (by decide) d_D_doOne_220,
  qq_ishr X d_D_doOne_221,
  qq_ic X 3 (by decide) d_D_doOne_222,
  qq_iand X d_D_doOne_223,
  qq_dup2 X d_D_doOne_224,
  qq_ia X d_D_doOne_225,
  qq_aln X 0 rfl d_D_doOne_226,
  qq_gf X 7 20 rfl (fun w h => List.mem_cons_of_mem _ (inE_D w h)) (by decide) (List.mem_cons_of_mem _ mw_774) d_D_doOne_227,
  qq_iln X 3 rfl d_D_doOne_230,
  qq_ia X d_D_doOne_231,
  qq_iadd X d_D_doOne_232,
  qq_ias X d_D_doOne_233,
  qq_iln X 2 rfl d_D_doOne_234,
  qq_bp X 32 (by decide) d_D_doOne_235,
  qq_iclt X 259 (by decide) d_D_doOne_237,
  qq_aln X 0 rfl d_D_doOne_240,
  qq_gf X 7 20 rfl (fun w h => List.mem_cons_of_mem _ (inE_D w h)) (by decide) (List.mem_cons_of_mem _ mw_774) d_D_doOne_241,
  qq_iln X 2 rfl d_D_doOne_244,
  qq_ic X 2 (by decide) d_D_doOne_245,
  qq_ishr X d_D_doOne_246,
  qq_ic X 3 (by decide) d_D_doOne_247,
  qq_iand X d_D_doOne_248,
  qq_dup2 X d_D_doOne_249,
  qq_ia X d_D_doOne_250,
  qq_aln X 0 rfl d_D_doOne_251,
  qq_gf X 7 20 rfl (fun w h => List.mem_cons_of_mem _ (inE_D w h)) (by decide) (List.mem_cons_of_mem _ mw_774) d_D_doOne_252,
  qq_iln X 3 rfl d_D_doOne_255,
  qq_ia X d_D_doOne_256,
  qq_isub X d_D_doOne_257,
  qq_ias X d_D_doOne_258,
  qq_aln X 0 rfl d_D_doOne_259,
  qq_aln X 0 rfl d_D_doOne_260,
  qq_gf X 7 22 rfl (fun w h => List.mem_cons_of_mem _ (inE_D w h)) (by decide) (List.mem_cons_of_mem _ mw_776) d_D_doOne_261,
  qq_ic X 1 (by decide) d_D_doOne_264,
  qq_iadd X d_D_doOne_265,
  qq_cV X 7 rfl (c_D_go l) (fun hts => cwV 1 hts (evGV (mw_976) (mw_978) (mp_44) (mw_8) (mw_979)) rfl rfl rfl (by decide +kernel) ⟨Nat.le_of_ble_eq_true rfl, Nat.le_of_ble_eq_true rfl⟩) d_D_doOne_266,
  qq_rz Z d_D_doOne_269, trivial⟩
def pre_D_doOne : List Value → ev_M → ev_L → Prop := fun as σ τ => ∃ (b op : Int32), as = [.ref 30, .int b, .int op] ∧ (b = 0 ∨ b = 256) ∧ 0 ≤ op.toInt ∧ op.toInt < 48 ∧ msR (mvD σ τ) ∧ (σ 30 22).toInt ≤ 255
def post_D_doOne : List Value → ev_M → ev_L → Bool → ev_M → ev_L → Prop := fun as σ τ r σ' τ' => match as with
  | [_, .int b, .int op] => sd_step (fD σ b) (trD σ b) (sp_kind op) op (sp_at (fD σ b) (σ 30 22 + 1)) (sp_at (fD σ b) (σ 30 22 + 2)) (σ 30 22 + 1) σ τ r σ' τ'
  | _ => False
set_option maxHeartbeats 4000000 in
set_option maxRecDepth 100000 in
theorem c_D_doOne (l : Launch) : ev_C ev_b l y_D_doOne ws_D_doOne rm_D_doOne evLY evCl pre_D_doOne post_D_doOne := by
  refine ev_meth0 (by decide) rfl ev_rop_b ?_ I_D_doOne (ok_D_doOne l) 200 ?_
  · rintro _ σ τ ⟨b, op, rfl, hp⟩
    exact Nat.le_of_ble_eq_true rfl
  · rintro _ σ τ ⟨b, op, rfl, hb, h0, h48, hR, hpc⟩
    have hp0 : 0 ≤ (σ 30 22).toInt := hR.1.1
    have e1 : (σ 30 22 + 1).toInt = (σ 30 22).toInt + 1 := i_add (by omega) (by omega) (by decide) (by decide)
    have hp1 : ¬ σ 30 22 + 1 = -1 := i_nm1 (by omega)
    have hr : vp_in (op &&& 3) 4 := pk_andIn _ 2 rfl (by decide)
    have hr2 : vp_in (op >>> (2 &&& 31) &&& 3) 4 := pk_andIn _ 2 rfl (by decide)
    have cs : op.toInt = 0 ∨ op.toInt = 1 ∨ op.toInt = 2 ∨ op.toInt = 3 ∨ (4 ≤ op.toInt ∧ op.toInt < 8) ∨ (8 ≤ op.toInt ∧ op.toInt < 12) ∨ (12 ≤ op.toInt ∧ op.toInt < 16) ∨ (16 ≤ op.toInt ∧ op.toInt < 32) ∨ (32 ≤ op.toInt ∧ op.toInt < 48) := by omega
    rcases cs with c | c | c | c | c | c | c | c | c
    · -- HALT
      have hk := kdl 0 1 0 (by decide +kernel) (op := op) (by omega) (by omega) (by decide)
      repeat (first | refine br_t (by simp only [Int32.lt_iff_toInt_lt, Int32.le_iff_toInt_le, ← Int32.toInt_inj, Int32.reduceToInt]; omega) ?_ | refine br_f (by simp only [Int32.lt_iff_toInt_lt, Int32.le_iff_toInt_le, ← Int32.toInt_inj, Int32.reduceToInt]; omega) ?_ | refine br_nt (by simp only [Int32.lt_iff_toInt_lt, Int32.le_iff_toInt_le, ← Int32.toInt_inj, Int32.reduceToInt]; omega) ?_ | refine br_nf (by simp only [Int32.lt_iff_toInt_lt, Int32.le_iff_toInt_le, ← Int32.toInt_inj, Int32.reduceToInt]; omega) ?_)
      exact ⟨true, rfl, frD_f _ _ (by decide), Or.inl ⟨hk, rfl, rfl, rfl⟩⟩
    · -- nothing
      have hk := kdl 1 2 1 (by decide +kernel) (op := op) (by omega) (by omega) (by decide)
      repeat (first | refine br_t (by simp only [Int32.lt_iff_toInt_lt, Int32.le_iff_toInt_le, ← Int32.toInt_inj, Int32.reduceToInt]; omega) ?_ | refine br_f (by simp only [Int32.lt_iff_toInt_lt, Int32.le_iff_toInt_le, ← Int32.toInt_inj, Int32.reduceToInt]; omega) ?_ | refine br_nt (by simp only [Int32.lt_iff_toInt_lt, Int32.le_iff_toInt_le, ← Int32.toInt_inj, Int32.reduceToInt]; omega) ?_ | refine br_nf (by simp only [Int32.lt_iff_toInt_lt, Int32.le_iff_toInt_le, ← Int32.toInt_inj, Int32.reduceToInt]; omega) ?_)
      refine ⟨⟨_, rfl⟩, ?_⟩
      rintro _ _ τ ⟨rfl, rfl, rfl⟩
      refine ⟨true, rfl, frD_f _ _ (by decide), Or.inr (Or.inr ?_)⟩
      rw [hk]
      exact ⟨by decide, hp1, rfl, rfl, rfl⟩
    · -- TRAP
      have hk := kdl 2 3 2 (by decide +kernel) (op := op) (by omega) (by omega) (by decide)
      repeat (first | refine br_t (by simp only [Int32.lt_iff_toInt_lt, Int32.le_iff_toInt_le, ← Int32.toInt_inj, Int32.reduceToInt]; omega) ?_ | refine br_f (by simp only [Int32.lt_iff_toInt_lt, Int32.le_iff_toInt_le, ← Int32.toInt_inj, Int32.reduceToInt]; omega) ?_ | refine br_nt (by simp only [Int32.lt_iff_toInt_lt, Int32.le_iff_toInt_le, ← Int32.toInt_inj, Int32.reduceToInt]; omega) ?_ | refine br_nf (by simp only [Int32.lt_iff_toInt_lt, Int32.le_iff_toInt_le, ← Int32.toInt_inj, Int32.reduceToInt]; omega) ?_)
      have fin : ∀ z : Int32, z = trD σ b (σ 30 22) → ((¬ z = -1 → pre_D_go [.ref 30, .int z] σ τ ∧ ∀ (r2 : Bool) (σ2 : ev_M) (τ2 : ev_L), post_D_go [.ref 30, .int z] σ τ r2 σ2 τ2 → ∃ b1 : Bool, (cond r2 1 0 : Int32) = cond b1 1 0 ∧ post_D_doOne [.ref 30, .int b, .int op] σ τ b1 σ2 τ2) ∧ (z = -1 → pre_D_fault [.ref 30] σ τ ∧ ∀ (r2 : Bool) (σ2 : ev_M) (τ2 : ev_L), post_D_fault [.ref 30] σ τ r2 σ2 τ2 → ∃ b1 : Bool, (cond r2 1 0 : Int32) = cond b1 1 0 ∧ post_D_doOne [.ref 30, .int b, .int op] σ τ b1 σ2 τ2)) := by
        rintro _ rfl
        refine ⟨fun h => ⟨⟨_, rfl⟩, ?_⟩, fun h => ⟨rfl, ?_⟩⟩
        · rintro _ _ τ ⟨rfl, rfl, rfl⟩
          refine ⟨true, rfl, frD_f _ _ (by decide), Or.inr (Or.inr ?_)⟩
          rw [hk]
          exact ⟨by decide, h, rfl, rfl, rfl⟩
        · rintro _ _ τ ⟨rfl, rfl, rfl⟩
          refine ⟨false, rfl, frD_f _ _ (by decide), Or.inr (Or.inl ?_)⟩
          rw [hk]
          exact ⟨by decide, h, rfl, rfl, rfl⟩
      refine br_c (fun hb0 => ?_) (fun hb0 => br_c (fun h96 => ?_) (fun h96 => ?_))
      · exact fin _ (if_neg fun q => absurd (Int32.not_le.mpr q.1) (fun w => w hb0)).symm
      · exact fin _ (if_neg fun q => absurd (Int32.not_le.mpr q.2.2) (fun w => w h96)).symm
      · refine ⟨?_, fin _ (if_pos ⟨Int32.not_le.mp hb0, Int32.le_iff_toInt_le.mpr hp0, Int32.not_le.mp h96⟩).symm⟩
        rw [vp_in_iff]
        rw [Int32.le_iff_toInt_le] at h96
        have : (96 : Int32).toInt = 96 := rfl
        omega
    · -- RETURN
      have hk := kdl 3 4 3 (by decide +kernel) (op := op) (by omega) (by omega) (by decide)
      have hh := hR.2.1
      have hst := hR.2.2.2
      repeat (first | refine br_t (by simp only [Int32.lt_iff_toInt_lt, Int32.le_iff_toInt_le, ← Int32.toInt_inj, Int32.reduceToInt]; omega) ?_ | refine br_f (by simp only [Int32.lt_iff_toInt_lt, Int32.le_iff_toInt_le, ← Int32.toInt_inj, Int32.reduceToInt]; omega) ?_ | refine br_nt (by simp only [Int32.lt_iff_toInt_lt, Int32.le_iff_toInt_le, ← Int32.toInt_inj, Int32.reduceToInt]; omega) ?_ | refine br_nf (by simp only [Int32.lt_iff_toInt_lt, Int32.le_iff_toInt_le, ← Int32.toInt_inj, Int32.reduceToInt]; omega) ?_)
      refine br_n (fun h => ?_) (fun h => ?_)
      · have hpos : 0 < (σ 30 23).toInt := by
          rw [← Int32.toInt_inj] at h
          have : (0 : Int32).toInt = 0 := rfl
          have h3 : 0 ≤ (σ 30 23).toInt := hh.1
          omega
        have h8 : (σ 30 23).toInt ≤ 8 := hh.2
        have e3 : (σ 30 23 - 1).toInt = (σ 30 23).toInt - 1 := i_sub (by omega) (by omega) (by decide) (by decide)
        have e4 := i_cl (x := σ 30 23 - 1) (by omega)
        have hs := hst (σ 30 23 - 1).toNatClampNeg (by show _ < (σ 30 23).toInt; omega)
        refine ⟨by rw [vp_in_iff]; show 0 ≤ (σ 30 23 - 1).toInt ∧ (σ 30 23 - 1).toInt < 8; omega, ⟨_, rfl⟩, ?_⟩
        rintro _ _ τ ⟨rfl, rfl, rfl⟩
        refine ⟨true, rfl, frD_tr (frD_f _ _ (by decide)) (frD_f _ _ (by decide)), Or.inr (Or.inr ?_)⟩
        rw [hk]
        have hP : ms_perf (fD σ b) (trD σ b) 3 op (sp_at (fD σ b) (σ 30 22 + 1)) (sp_at (fD σ b) (σ 30 22 + 2)) (σ 30 22 + 1) (mvD σ τ) = (σ 45 (σ 30 23 - 1).toNatClampNeg, (σ 43, σ 44, σ 45, σ 46, τ 47, σ 30 22, σ 30 23 - 1, σ 30 24, σ 30 25)) := if_pos (show 0 < σ 30 23 from Int32.lt_iff_toInt_lt.mpr hpos)
        rw [hP]
        exact ⟨by decide, i_nm1 hs.1, rfl, rfl, rfl⟩
      · refine ⟨rfl, ?_⟩
        rintro _ _ τ ⟨rfl, rfl, rfl⟩
        refine ⟨false, rfl, frD_f _ _ (by decide), Or.inr (Or.inl ?_)⟩
        rw [hk]
        have hP : ms_perf (fD σ b) (trD σ b) 3 op (sp_at (fD σ b) (σ 30 22 + 1)) (sp_at (fD σ b) (σ 30 22 + 2)) (σ 30 22 + 1) (mvD σ τ) = (-1, mvD σ τ) := if_neg (by show ¬ 0 < σ 30 23; rw [h]; decide)
        rw [hP]
        exact ⟨by decide, rfl, rfl, rfl, rfl⟩
    · -- UP
      have hk := kdl 4 8 4 (by decide +kernel) (op := op) (by omega) (by omega) (by decide)
      repeat (first | refine br_t (by simp only [Int32.lt_iff_toInt_lt, Int32.le_iff_toInt_le, ← Int32.toInt_inj, Int32.reduceToInt]; omega) ?_ | refine br_f (by simp only [Int32.lt_iff_toInt_lt, Int32.le_iff_toInt_le, ← Int32.toInt_inj, Int32.reduceToInt]; omega) ?_ | refine br_nt (by simp only [Int32.lt_iff_toInt_lt, Int32.le_iff_toInt_le, ← Int32.toInt_inj, Int32.reduceToInt]; omega) ?_ | refine br_nf (by simp only [Int32.lt_iff_toInt_lt, Int32.le_iff_toInt_le, ← Int32.toInt_inj, Int32.reduceToInt]; omega) ?_)
      refine ⟨hr, hr, ?_⟩
      repeat (first | refine br_t (by simp only [Int32.lt_iff_toInt_lt, Int32.le_iff_toInt_le, ← Int32.toInt_inj, Int32.reduceToInt]; omega) ?_ | refine br_f (by simp only [Int32.lt_iff_toInt_lt, Int32.le_iff_toInt_le, ← Int32.toInt_inj, Int32.reduceToInt]; omega) ?_ | refine br_nt (by simp only [Int32.lt_iff_toInt_lt, Int32.le_iff_toInt_le, ← Int32.toInt_inj, Int32.reduceToInt]; omega) ?_ | refine br_nf (by simp only [Int32.lt_iff_toInt_lt, Int32.le_iff_toInt_le, ← Int32.toInt_inj, Int32.reduceToInt]; omega) ?_)
      refine ⟨⟨_, rfl⟩, ?_⟩
      rintro _ _ τ ⟨rfl, rfl, rfl⟩
      refine ⟨true, rfl, frD_tr (frD_u _ _ _ (by decide)) (frD_f _ _ (by decide)), Or.inr (Or.inr ?_)⟩
      rw [hk]
      exact ⟨by decide, hp1, rfl, rfl, rfl⟩
    · -- DOWN
      have hk := kdl 8 12 8 (by decide +kernel) (op := op) (by omega) (by omega) (by decide)
      repeat (first | refine br_t (by simp only [Int32.lt_iff_toInt_lt, Int32.le_iff_toInt_le, ← Int32.toInt_inj, Int32.reduceToInt]; omega) ?_ | refine br_f (by simp only [Int32.lt_iff_toInt_lt, Int32.le_iff_toInt_le, ← Int32.toInt_inj, Int32.reduceToInt]; omega) ?_ | refine br_nt (by simp only [Int32.lt_iff_toInt_lt, Int32.le_iff_toInt_le, ← Int32.toInt_inj, Int32.reduceToInt]; omega) ?_ | refine br_nf (by simp only [Int32.lt_iff_toInt_lt, Int32.le_iff_toInt_le, ← Int32.toInt_inj, Int32.reduceToInt]; omega) ?_)
      refine ⟨hr, hr, ?_⟩
      repeat (first | refine br_t (by simp only [Int32.lt_iff_toInt_lt, Int32.le_iff_toInt_le, ← Int32.toInt_inj, Int32.reduceToInt]; omega) ?_ | refine br_f (by simp only [Int32.lt_iff_toInt_lt, Int32.le_iff_toInt_le, ← Int32.toInt_inj, Int32.reduceToInt]; omega) ?_ | refine br_nt (by simp only [Int32.lt_iff_toInt_lt, Int32.le_iff_toInt_le, ← Int32.toInt_inj, Int32.reduceToInt]; omega) ?_ | refine br_nf (by simp only [Int32.lt_iff_toInt_lt, Int32.le_iff_toInt_le, ← Int32.toInt_inj, Int32.reduceToInt]; omega) ?_)
      refine ⟨⟨_, rfl⟩, ?_⟩
      rintro _ _ τ ⟨rfl, rfl, rfl⟩
      refine ⟨true, rfl, frD_tr (frD_u _ _ _ (by decide)) (frD_f _ _ (by decide)), Or.inr (Or.inr ?_)⟩
      rw [hk]
      exact ⟨by decide, hp1, rfl, rfl, rfl⟩
    · -- PRINT
      have hk := kdl 12 16 12 (by decide +kernel) (op := op) (by omega) (by omega) (by decide)
      have hsh : 0 ≤ (σ 30 24).toInt ∧ (σ 30 24).toInt ≤ 40 := hR.2.2.1
      repeat (first | refine br_t (by simp only [Int32.lt_iff_toInt_lt, Int32.le_iff_toInt_le, ← Int32.toInt_inj, Int32.reduceToInt]; omega) ?_ | refine br_f (by simp only [Int32.lt_iff_toInt_lt, Int32.le_iff_toInt_le, ← Int32.toInt_inj, Int32.reduceToInt]; omega) ?_ | refine br_nt (by simp only [Int32.lt_iff_toInt_lt, Int32.le_iff_toInt_le, ← Int32.toInt_inj, Int32.reduceToInt]; omega) ?_ | refine br_nf (by simp only [Int32.lt_iff_toInt_lt, Int32.le_iff_toInt_le, ← Int32.toInt_inj, Int32.reduceToInt]; omega) ?_)
      refine br_n (fun h => ?_) (fun h => ?_)
      · have h40 : (σ 30 24).toInt < 40 := by
          rw [← Int32.toInt_inj] at h
          have : (40 : Int32).toInt = 40 := rfl
          omega
        refine ⟨hr, by rw [vp_in_iff]; omega, ?_⟩
        repeat (first | refine br_t (by simp only [Int32.lt_iff_toInt_lt, Int32.le_iff_toInt_le, ← Int32.toInt_inj, Int32.reduceToInt]; omega) ?_ | refine br_f (by simp only [Int32.lt_iff_toInt_lt, Int32.le_iff_toInt_le, ← Int32.toInt_inj, Int32.reduceToInt]; omega) ?_ | refine br_nt (by simp only [Int32.lt_iff_toInt_lt, Int32.le_iff_toInt_le, ← Int32.toInt_inj, Int32.reduceToInt]; omega) ?_ | refine br_nf (by simp only [Int32.lt_iff_toInt_lt, Int32.le_iff_toInt_le, ← Int32.toInt_inj, Int32.reduceToInt]; omega) ?_)
        refine ⟨⟨_, rfl⟩, ?_⟩
        rintro _ _ τ ⟨rfl, rfl, rfl⟩
        refine ⟨true, rfl, frD_tr (frD_u _ _ _ (by decide)) (frD_tr (frD_f _ _ (by decide)) (frD_f _ _ (by decide))), Or.inr (Or.inr ?_)⟩
        rw [hk]
        have hP : ms_perf (fD σ b) (trD σ b) 12 op (sp_at (fD σ b) (σ 30 22 + 1)) (sp_at (fD σ b) (σ 30 22 + 2)) (σ 30 22 + 1) (mvD σ τ) = (σ 30 22 + 1, (σ 43, σ 44, σ 45, upd (σ 46) (σ 30 24).toNatClampNeg (σ 43 (op &&& 3).toNatClampNeg), τ 47, σ 30 22, σ 30 23, σ 30 24 + 1, σ 30 25)) := if_pos (show σ 30 24 < 40 from Int32.lt_iff_toInt_lt.mpr h40)
        rw [hP]
        exact ⟨by decide, hp1, rfl, rfl, rfl⟩
      · refine ⟨rfl, ?_⟩
        rintro _ _ τ ⟨rfl, rfl, rfl⟩
        refine ⟨false, rfl, frD_f _ _ (by decide), Or.inr (Or.inl ?_)⟩
        rw [hk]
        have hP : ms_perf (fD σ b) (trD σ b) 12 op (sp_at (fD σ b) (σ 30 22 + 1)) (sp_at (fD σ b) (σ 30 22 + 2)) (σ 30 22 + 1) (mvD σ τ) = (-1, mvD σ τ) := if_neg (by show ¬ σ 30 24 < 40; rw [h]; decide)
        rw [hP]
        exact ⟨by decide, rfl, rfl, rfl, rfl⟩
    · -- ADD
      have hk := kdl 16 32 16 (by decide +kernel) (op := op) (by omega) (by omega) (by decide)
      repeat (first | refine br_t (by simp only [Int32.lt_iff_toInt_lt, Int32.le_iff_toInt_le, ← Int32.toInt_inj, Int32.reduceToInt]; omega) ?_ | refine br_f (by simp only [Int32.lt_iff_toInt_lt, Int32.le_iff_toInt_le, ← Int32.toInt_inj, Int32.reduceToInt]; omega) ?_ | refine br_nt (by simp only [Int32.lt_iff_toInt_lt, Int32.le_iff_toInt_le, ← Int32.toInt_inj, Int32.reduceToInt]; omega) ?_ | refine br_nf (by simp only [Int32.lt_iff_toInt_lt, Int32.le_iff_toInt_le, ← Int32.toInt_inj, Int32.reduceToInt]; omega) ?_)
      refine ⟨hr2, hr, hr2, ?_⟩
      repeat (first | refine br_t (by simp only [Int32.lt_iff_toInt_lt, Int32.le_iff_toInt_le, ← Int32.toInt_inj, Int32.reduceToInt]; omega) ?_ | refine br_f (by simp only [Int32.lt_iff_toInt_lt, Int32.le_iff_toInt_le, ← Int32.toInt_inj, Int32.reduceToInt]; omega) ?_ | refine br_nt (by simp only [Int32.lt_iff_toInt_lt, Int32.le_iff_toInt_le, ← Int32.toInt_inj, Int32.reduceToInt]; omega) ?_ | refine br_nf (by simp only [Int32.lt_iff_toInt_lt, Int32.le_iff_toInt_le, ← Int32.toInt_inj, Int32.reduceToInt]; omega) ?_)
      refine ⟨⟨_, rfl⟩, ?_⟩
      rintro _ _ τ ⟨rfl, rfl, rfl⟩
      refine ⟨true, rfl, frD_tr (frD_u _ _ _ (by decide)) (frD_f _ _ (by decide)), Or.inr (Or.inr ?_)⟩
      rw [hk]
      exact ⟨by decide, hp1, rfl, rfl, rfl⟩
    · -- SUBTRACT
      have hk := kdl 32 48 32 (by decide +kernel) (op := op) (by omega) (by omega) (by decide)
      repeat (first | refine br_t (by simp only [Int32.lt_iff_toInt_lt, Int32.le_iff_toInt_le, ← Int32.toInt_inj, Int32.reduceToInt]; omega) ?_ | refine br_f (by simp only [Int32.lt_iff_toInt_lt, Int32.le_iff_toInt_le, ← Int32.toInt_inj, Int32.reduceToInt]; omega) ?_ | refine br_nt (by simp only [Int32.lt_iff_toInt_lt, Int32.le_iff_toInt_le, ← Int32.toInt_inj, Int32.reduceToInt]; omega) ?_ | refine br_nf (by simp only [Int32.lt_iff_toInt_lt, Int32.le_iff_toInt_le, ← Int32.toInt_inj, Int32.reduceToInt]; omega) ?_)
      refine ⟨hr2, hr, hr2, ?_⟩
      repeat (first | refine br_t (by simp only [Int32.lt_iff_toInt_lt, Int32.le_iff_toInt_le, ← Int32.toInt_inj, Int32.reduceToInt]; omega) ?_ | refine br_f (by simp only [Int32.lt_iff_toInt_lt, Int32.le_iff_toInt_le, ← Int32.toInt_inj, Int32.reduceToInt]; omega) ?_ | refine br_nt (by simp only [Int32.lt_iff_toInt_lt, Int32.le_iff_toInt_le, ← Int32.toInt_inj, Int32.reduceToInt]; omega) ?_ | refine br_nf (by simp only [Int32.lt_iff_toInt_lt, Int32.le_iff_toInt_le, ← Int32.toInt_inj, Int32.reduceToInt]; omega) ?_)
      refine ⟨⟨_, rfl⟩, ?_⟩
      rintro _ _ τ ⟨rfl, rfl, rfl⟩
      refine ⟨true, rfl, frD_tr (frD_u _ _ _ (by decide)) (frD_f _ _ (by decide)), Or.inr (Or.inr ?_)⟩
      rw [hk]
      exact ⟨by decide, hp1, rfl, rfl, rfl⟩
