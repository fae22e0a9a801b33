theorem dX8_meanOf_0 : decode cX8_meanOf 0 = .ok (.aload_n 0, 1) := by decide +kernel
theorem dX8_meanOf_1 : decode cX8_meanOf 1 = .ok (.getfield 7, 3) := by decide +kernel
theorem dX8_meanOf_4 : decode cX8_meanOf 4 = .ok (.iload_n 1, 1) := by decide +kernel
theorem dX8_meanOf_5 : decode cX8_meanOf 5 = .ok (.iaload, 1) := by decide +kernel
theorem dX8_meanOf_6 : decode cX8_meanOf 6 = .ok (.istore 4, 2) := by decide +kernel
theorem dX8_meanOf_8 : decode cX8_meanOf 8 = .ok (.iload_n 3, 1) := by decide +kernel
theorem dX8_meanOf_9 : decode cX8_meanOf 9 = .ok (.ifCond .ne 16, 3) := by decide +kernel
theorem dX8_meanOf_12 : decode cX8_meanOf 12 = .ok (.aload_n 0, 1) := by decide +kernel
theorem dX8_meanOf_13 : decode cX8_meanOf 13 = .ok (.iload_n 1, 1) := by decide +kernel
theorem dX8_meanOf_14 : decode cX8_meanOf 14 = .ok (.iconst 2, 1) := by decide +kernel
theorem dX8_meanOf_15 : decode cX8_meanOf 15 = .ok (.invokevirtual 212, 3) := by decide +kernel
theorem dX8_meanOf_18 : decode cX8_meanOf 18 = .ok (.sipush 1000, 3) := by decide +kernel
theorem dX8_meanOf_21 : decode cX8_meanOf 21 = .ok (.imul, 1) := by decide +kernel
theorem dX8_meanOf_22 : decode cX8_meanOf 22 = .ok (.goto 4, 3) := by decide +kernel
theorem dX8_meanOf_25 : decode cX8_meanOf 25 = .ok (.iconst 0, 1) := by decide +kernel
theorem dX8_meanOf_26 : decode cX8_meanOf 26 = .ok (.istore 5, 2) := by decide +kernel
theorem dX8_meanOf_28 : decode cX8_meanOf 28 = .ok (.iconst 0, 1) := by decide +kernel
theorem dX8_meanOf_29 : decode cX8_meanOf 29 = .ok (.istore 6, 2) := by decide +kernel
theorem dX8_meanOf_31 : decode cX8_meanOf 31 = .ok (.iconst 3, 1) := by decide +kernel
theorem dX8_meanOf_32 : decode cX8_meanOf 32 = .ok (.istore 7, 2) := by decide +kernel
theorem dX8_meanOf_34 : decode cX8_meanOf 34 = .ok (.iload 7, 2) := by decide +kernel
theorem dX8_meanOf_36 : decode cX8_meanOf 36 = .ok (.ifCond .lt 253, 3) := by decide +kernel
theorem dX8_meanOf_39 : decode cX8_meanOf 39 = .ok (.iload_n 3, 1) := by decide +kernel
theorem dX8_meanOf_40 : decode cX8_meanOf 40 = .ok (.ifCond .ne 24, 3) := by decide +kernel
theorem dX8_meanOf_43 : decode cX8_meanOf 43 = .ok (.aload_n 0, 1) := by decide +kernel
theorem dX8_meanOf_44 : decode cX8_meanOf 44 = .ok (.iload_n 1, 1) := by decide +kernel
theorem dX8_meanOf_45 : decode cX8_meanOf 45 = .ok (.iconst 2, 1) := by decide +kernel
theorem dX8_meanOf_46 : decode cX8_meanOf 46 = .ok (.invokevirtual 212, 3) := by decide +kernel
theorem dX8_meanOf_49 : decode cX8_meanOf 49 = .ok (.aload_n 0, 1) := by decide +kernel
theorem dX8_meanOf_50 : decode cX8_meanOf 50 = .ok (.iload_n 1, 1) := by decide +kernel
theorem dX8_meanOf_51 : decode cX8_meanOf 51 = .ok (.bipush 6, 2) := by decide +kernel
theorem dX8_meanOf_53 : decode cX8_meanOf 53 = .ok (.invokevirtual 212, 3) := by decide +kernel
theorem dX8_meanOf_56 : decode cX8_meanOf 56 = .ok (.imul, 1) := by decide +kernel
theorem dX8_meanOf_57 : decode cX8_meanOf 57 = .ok (.sipush 1000, 3) := by decide +kernel
theorem dX8_meanOf_60 : decode cX8_meanOf 60 = .ok (.imul, 1) := by decide +kernel
theorem dX8_meanOf_61 : decode cX8_meanOf 61 = .ok (.goto 4, 3) := by decide +kernel
theorem dX8_meanOf_64 : decode cX8_meanOf 64 = .ok (.iconst 0, 1) := by decide +kernel
theorem dX8_meanOf_65 : decode cX8_meanOf 65 = .ok (.istore 8, 2) := by decide +kernel
theorem dX8_meanOf_67 : decode cX8_meanOf 67 = .ok (.aload_n 0, 1) := by decide +kernel
theorem dX8_meanOf_68 : decode cX8_meanOf 68 = .ok (.iload_n 1, 1) := by decide +kernel
theorem dX8_meanOf_69 : decode cX8_meanOf 69 = .ok (.iload_n 2, 1) := by decide +kernel
theorem dX8_meanOf_70 : decode cX8_meanOf 70 = .ok (.iload 7, 2) := by decide +kernel
theorem dX8_meanOf_72 : decode cX8_meanOf 72 = .ok (.invokevirtual 286, 3) := by decide +kernel
theorem dX8_meanOf_75 : decode cX8_meanOf 75 = .ok (.ifCond .eq 11, 3) := by decide +kernel
theorem dX8_meanOf_78 : decode cX8_meanOf 78 = .ok (.iload 8, 2) := by decide +kernel
theorem dX8_meanOf_80 : decode cX8_meanOf 80 = .ok (.iload 6, 2) := by decide +kernel
theorem dX8_meanOf_82 : decode cX8_meanOf 82 = .ok (.iadd, 1) := by decide +kernel
theorem dX8_meanOf_83 : decode cX8_meanOf 83 = .ok (.goto 11, 3) := by decide +kernel
theorem dX8_meanOf_86 : decode cX8_meanOf 86 = .ok (.aload_n 0, 1) := by decide +kernel
theorem dX8_meanOf_87 : decode cX8_meanOf 87 = .ok (.iload_n 1, 1) := by decide +kernel
theorem dX8_meanOf_88 : decode cX8_meanOf 88 = .ok (.iload 7, 2) := by decide +kernel
theorem dX8_meanOf_90 : decode cX8_meanOf 90 = .ok (.iload_n 3, 1) := by decide +kernel
theorem dX8_meanOf_91 : decode cX8_meanOf 91 = .ok (.invokevirtual 289, 3) := by decide +kernel
theorem dX8_meanOf_94 : decode cX8_meanOf 94 = .ok (.istore 9, 2) := by decide +kernel
theorem dX8_meanOf_96 : decode cX8_meanOf 96 = .ok (.iconst 0, 1) := by decide +kernel
theorem dX8_meanOf_97 : decode cX8_meanOf 97 = .ok (.istore 10, 2) := by decide +kernel
theorem dX8_meanOf_99 : decode cX8_meanOf 99 = .ok (.iload 10, 2) := by decide +kernel
theorem dX8_meanOf_101 : decode cX8_meanOf 101 = .ok (.bipush 52, 2) := by decide +kernel
theorem dX8_meanOf_103 : decode cX8_meanOf 103 = .ok (.if_icmp .ge 18, 3) := by decide +kernel
theorem dX8_meanOf_106 : decode cX8_meanOf 106 = .ok (.aload_n 0, 1) := by decide +kernel
theorem dX8_meanOf_107 : decode cX8_meanOf 107 = .ok (.getfield 69, 3) := by decide +kernel
theorem dX8_meanOf_110 : decode cX8_meanOf 110 = .ok (.iload 10, 2) := by decide +kernel
theorem dX8_meanOf_112 : decode cX8_meanOf 112 = .ok (.iload 9, 2) := by decide +kernel
theorem dX8_meanOf_114 : decode cX8_meanOf 114 = .ok (.iastore, 1) := by decide +kernel
theorem dX8_meanOf_115 : decode cX8_meanOf 115 = .ok (.iinc 10 1, 3) := by decide +kernel
theorem dX8_meanOf_118 : decode cX8_meanOf 118 = .ok (.goto (-19), 3) := by decide +kernel
theorem dX8_meanOf_121 : decode cX8_meanOf 121 = .ok (.iload 4, 2) := by decide +kernel
theorem dX8_meanOf_123 : decode cX8_meanOf 123 = .ok (.iconst 1, 1) := by decide +kernel
theorem dX8_meanOf_124 : decode cX8_meanOf 124 = .ok (.isub, 1) := by decide +kernel
theorem dX8_meanOf_125 : decode cX8_meanOf 125 = .ok (.istore 10, 2) := by decide +kernel
theorem dX8_meanOf_127 : decode cX8_meanOf 127 = .ok (.iload 10, 2) := by decide +kernel
theorem dX8_meanOf_129 : decode cX8_meanOf 129 = .ok (.ifCond .lt 146, 3) := by decide +kernel
theorem dX8_meanOf_132 : decode cX8_meanOf 132 = .ok (.iconst 0, 1) := by decide +kernel
theorem dX8_meanOf_133 : decode cX8_meanOf 133 = .ok (.istore 11, 2) := by decide +kernel
theorem dX8_meanOf_135 : decode cX8_meanOf 135 = .ok (.iload 11, 2) := by decide +kernel
theorem dX8_meanOf_137 : decode cX8_meanOf 137 = .ok (.bipush 50, 2) := by decide +kernel
theorem dX8_meanOf_139 : decode cX8_meanOf 139 = .ok (.if_icmp .ge 100, 3) := by decide +kernel
theorem dX8_meanOf_142 : decode cX8_meanOf 142 = .ok (.iload 11, 2) := by decide +kernel
theorem dX8_meanOf_144 : decode cX8_meanOf 144 = .ok (.iconst 2, 1) := by decide +kernel
theorem dX8_meanOf_145 : decode cX8_meanOf 145 = .ok (.idiv, 1) := by decide +kernel
theorem dX8_meanOf_146 : decode cX8_meanOf 146 = .ok (.istore 12, 2) := by decide +kernel
theorem dX8_meanOf_148 : decode cX8_meanOf 148 = .ok (.aload_n 0, 1) := by decide +kernel
theorem dX8_meanOf_149 : decode cX8_meanOf 149 = .ok (.iload_n 2, 1) := by decide +kernel
theorem dX8_meanOf_150 : decode cX8_meanOf 150 = .ok (.iload 10, 2) := by decide +kernel
theorem dX8_meanOf_152 : decode cX8_meanOf 152 = .ok (.iload 12, 2) := by decide +kernel
theorem dX8_meanOf_154 : decode cX8_meanOf 154 = .ok (.invokevirtual 292, 3) := by decide +kernel
theorem dX8_meanOf_157 : decode cX8_meanOf 157 = .ok (.ifCond .eq 16, 3) := by decide +kernel
theorem dX8_meanOf_160 : decode cX8_meanOf 160 = .ok (.aload_n 0, 1) := by decide +kernel
theorem dX8_meanOf_161 : decode cX8_meanOf 161 = .ok (.iload_n 1, 1) := by decide +kernel
theorem dX8_meanOf_162 : decode cX8_meanOf 162 = .ok (.iload 7, 2) := by decide +kernel
theorem dX8_meanOf_164 : decode cX8_meanOf 164 = .ok (.iload 10, 2) := by decide +kernel
theorem dX8_meanOf_166 : decode cX8_meanOf 166 = .ok (.iload_n 3, 1) := by decide +kernel
theorem dX8_meanOf_167 : decode cX8_meanOf 167 = .ok (.invokevirtual 295, 3) := by decide +kernel
theorem dX8_meanOf_170 : decode cX8_meanOf 170 = .ok (.goto 17, 3) := by decide +kernel
theorem dX8_meanOf_173 : decode cX8_meanOf 173 = .ok (.iload 5, 2) := by decide +kernel
theorem dX8_meanOf_175 : decode cX8_meanOf 175 = .ok (.aload_n 0, 1) := by decide +kernel
theorem dX8_meanOf_176 : decode cX8_meanOf 176 = .ok (.getfield 69, 3) := by decide +kernel
theorem dX8_meanOf_179 : decode cX8_meanOf 179 = .ok (.iconst 2, 1) := by decide +kernel
theorem dX8_meanOf_180 : decode cX8_meanOf 180 = .ok (.iload 12, 2) := by decide +kernel
theorem dX8_meanOf_182 : decode cX8_meanOf 182 = .ok (.imul, 1) := by decide +kernel
theorem dX8_meanOf_183 : decode cX8_meanOf 183 = .ok (.iconst 3, 1) := by decide +kernel
theorem dX8_meanOf_184 : decode cX8_meanOf 184 = .ok (.iadd, 1) := by decide +kernel
theorem dX8_meanOf_185 : decode cX8_meanOf 185 = .ok (.iaload, 1) := by decide +kernel
theorem dX8_meanOf_186 : decode cX8_meanOf 186 = .ok (.iadd, 1) := by decide +kernel
theorem dX8_meanOf_187 : decode cX8_meanOf 187 = .ok (.istore 13, 2) := by decide +kernel
theorem dX8_meanOf_189 : decode cX8_meanOf 189 = .ok (.aload_n 0, 1) := by decide +kernel
theorem dX8_meanOf_190 : decode cX8_meanOf 190 = .ok (.getfield 72, 3) := by decide +kernel
theorem dX8_meanOf_193 : decode cX8_meanOf 193 = .ok (.iload 11, 2) := by decide +kernel
theorem dX8_meanOf_195 : decode cX8_meanOf 195 = .ok (.aload_n 0, 1) := by decide +kernel
theorem dX8_meanOf_196 : decode cX8_meanOf 196 = .ok (.iload_n 1, 1) := by decide +kernel
theorem dX8_meanOf_197 : decode cX8_meanOf 197 = .ok (.iload 10, 2) := by decide +kernel
theorem dX8_meanOf_199 : decode cX8_meanOf 199 = .ok (.iload 11, 2) := by decide +kernel
theorem dX8_meanOf_201 : decode cX8_meanOf 201 = .ok (.iconst 2, 1) := by decide +kernel
theorem dX8_meanOf_202 : decode cX8_meanOf 202 = .ok (.irem, 1) := by decide +kernel
theorem dX8_meanOf_203 : decode cX8_meanOf 203 = .ok (.iconst 1, 1) := by decide +kernel
theorem dX8_meanOf_204 : decode cX8_meanOf 204 = .ok (.if_icmp .ne 7, 3) := by decide +kernel
theorem dX8_meanOf_207 : decode cX8_meanOf 207 = .ok (.iconst 1, 1) := by decide +kernel
theorem dX8_meanOf_208 : decode cX8_meanOf 208 = .ok (.goto 4, 3) := by decide +kernel
theorem dX8_meanOf_211 : decode cX8_meanOf 211 = .ok (.iconst 0, 1) := by decide +kernel
theorem dX8_meanOf_212 : decode cX8_meanOf 212 = .ok (.invokevirtual 219, 3) := by decide +kernel
theorem dX8_meanOf_215 : decode cX8_meanOf 215 = .ok (.iload 13, 2) := by decide +kernel
theorem dX8_meanOf_217 : decode cX8_meanOf 217 = .ok (.iload 5, 2) := by decide +kernel
theorem dX8_meanOf_219 : decode cX8_meanOf 219 = .ok (.aload_n 0, 1) := by decide +kernel
theorem dX8_meanOf_220 : decode cX8_meanOf 220 = .ok (.getfield 69, 3) := by decide +kernel
theorem dX8_meanOf_223 : decode cX8_meanOf 223 = .ok (.iconst 2, 1) := by decide +kernel
theorem dX8_meanOf_224 : decode cX8_meanOf 224 = .ok (.iload 12, 2) := by decide +kernel
theorem dX8_meanOf_226 : decode cX8_meanOf 226 = .ok (.imul, 1) := by decide +kernel
theorem dX8_meanOf_227 : decode cX8_meanOf 227 = .ok (.iaload, 1) := by decide +kernel
theorem dX8_meanOf_228 : decode cX8_meanOf 228 = .ok (.iadd, 1) := by decide +kernel
theorem dX8_meanOf_229 : decode cX8_meanOf 229 = .ok (.invokestatic 245, 3) := by decide +kernel
theorem dX8_meanOf_232 : decode cX8_meanOf 232 = .ok (.iastore, 1) := by decide +kernel
theorem dX8_meanOf_233 : decode cX8_meanOf 233 = .ok (.iinc 11 1, 3) := by decide +kernel
theorem dX8_meanOf_236 : decode cX8_meanOf 236 = .ok (.goto (-101), 3) := by decide +kernel
theorem dX8_meanOf_239 : decode cX8_meanOf 239 = .ok (.iconst 0, 1) := by decide +kernel
theorem dX8_meanOf_240 : decode cX8_meanOf 240 = .ok (.istore 11, 2) := by decide +kernel
theorem dX8_meanOf_242 : decode cX8_meanOf 242 = .ok (.iload 11, 2) := by decide +kernel
theorem dX8_meanOf_244 : decode cX8_meanOf 244 = .ok (.bipush 50, 2) := by decide +kernel
theorem dX8_meanOf_246 : decode cX8_meanOf 246 = .ok (.if_icmp .ge 23, 3) := by decide +kernel
theorem dX8_meanOf_249 : decode cX8_meanOf 249 = .ok (.aload_n 0, 1) := by decide +kernel
theorem dX8_meanOf_250 : decode cX8_meanOf 250 = .ok (.getfield 69, 3) := by decide +kernel
theorem dX8_meanOf_253 : decode cX8_meanOf 253 = .ok (.iload 11, 2) := by decide +kernel
theorem dX8_meanOf_255 : decode cX8_meanOf 255 = .ok (.aload_n 0, 1) := by decide +kernel
theorem dX8_meanOf_256 : decode cX8_meanOf 256 = .ok (.getfield 72, 3) := by decide +kernel
theorem dX8_meanOf_259 : decode cX8_meanOf 259 = .ok (.iload 11, 2) := by decide +kernel
theorem dX8_meanOf_261 : decode cX8_meanOf 261 = .ok (.iaload, 1) := by decide +kernel
theorem dX8_meanOf_262 : decode cX8_meanOf 262 = .ok (.iastore, 1) := by decide +kernel
theorem dX8_meanOf_263 : decode cX8_meanOf 263 = .ok (.iinc 11 1, 3) := by decide +kernel
theorem dX8_meanOf_266 : decode cX8_meanOf 266 = .ok (.goto (-24), 3) := by decide +kernel
theorem dX8_meanOf_269 : decode cX8_meanOf 269 = .ok (.iinc 10 (-1), 3) := by decide +kernel
theorem dX8_meanOf_272 : decode cX8_meanOf 272 = .ok (.goto (-145), 3) := by decide +kernel
theorem dX8_meanOf_275 : decode cX8_meanOf 275 = .ok (.aload_n 0, 1) := by decide +kernel
theorem dX8_meanOf_276 : decode cX8_meanOf 276 = .ok (.getfield 69, 3) := by decide +kernel
theorem dX8_meanOf_279 : decode cX8_meanOf 279 = .ok (.iconst 0, 1) := by decide +kernel
theorem dX8_meanOf_280 : decode cX8_meanOf 280 = .ok (.iaload, 1) := by decide +kernel
theorem dX8_meanOf_281 : decode cX8_meanOf 281 = .ok (.istore 6, 2) := by decide +kernel
theorem dX8_meanOf_283 : decode cX8_meanOf 283 = .ok (.iinc 7 (-1), 3) := by decide +kernel
theorem dX8_meanOf_286 : decode cX8_meanOf 286 = .ok (.goto (-252), 3) := by decide +kernel
theorem dX8_meanOf_289 : decode cX8_meanOf 289 = .ok (.iload 6, 2) := by decide +kernel
theorem dX8_meanOf_291 : decode cX8_meanOf 291 = .ok (.ireturn, 1) := by decide +kernel
set_option maxHeartbeats 4000000 in
set_option maxRecDepth 100000 in
theorem m_meanOf (l : Launch) (D : va_G) (k : Nat → ClassId) (st : Nat → Nat) (lo : Nat) (a : Nat → Nat) (tx : Nat) (t0 : Nat) (we : Nat) (rd : Nat) (ru : Nat) (rw : Nat) (ca : Nat) (fp : Int32) (wd : Int64) (nu : Int32) (na : Int32) (ts : Int32) (df : Int32) (db : Int32) (sd : Int32) (dn : Nat → Nat) (se : Nat → Nat) (tm : Nat → Nat) (gs : Nat → Int32) (ffrees : Nat → Int32) (fprices : Nat → Int32) (bm : Nat → Nat) (fbarSeen : Nat → Int32) (fbarFrom : Nat → Int32) (fruleRounds : Nat → Int32) (ffollows : Nat → Int32) (fbefore : Nat → Int32) (sn : Nat) (kr : Nat) (p2 : Int32) (hdn : ∀ j, dn j ≤ 24) (hse : ∀ j, se j ≤ 2) (htm : ∀ j, tm j ≤ 3) (hbm : ∀ j, bm j ≤ 12) (hs : sn < 3) (hk : kr < 4) : CWi l D k st lo yX8_meanOf cX8_meanOf 14 (some .int) ({ frames := 5, cells := 0, slots := 0, locals := 118 }) 0 0 [.ref (a 0), .int (nI sn), .int (nI kr), .int p2] [((a 0), .inr (8, (fX8 a (nI tx) fp (nI t0) wd (nI we) nu na (nI rd) ts (nI ru) (nI rw) (nI ca) df db sd))), (aI k (a 1) 3 (nF dn)), (aI k (a 4) 27 (sg se tm gs)), (aI k (a 2) 72 ffrees), (aI k (a 3) 72 fprices), (aI k (a 25) 4 (nF bm)), (aI k (a 26) 48 fbarSeen), (aI k (a 27) 48 fbarFrom), (aI k (a 28) 4 fruleRounds), (aI k (a 29) 52 ffollows), (aI k (a 30) 52 fbefore)] (fun (r : Int32) (u : (Nat → Int32) × (Nat → Int32)) => match u with | (ffollows_, fbefore_) => True) (fun (u : (Nat → Int32) × (Nat → Int32)) => match u with | (ffollows_, fbefore_) => [((a 0), .inr (8, (fX8 a (nI tx) fp (nI t0) wd (nI we) nu na (nI rd) ts (nI ru) (nI rw) (nI ca) df db sd))), (aI k (a 1) 3 (nF dn)), (aI k (a 4) 27 (sg se tm gs)), (aI k (a 2) 72 ffrees), (aI k (a 3) 72 fprices), (aI k (a 25) 4 (nF bm)), (aI k (a 26) 48 fbarSeen), (aI k (a 27) 48 fbarFrom), (aI k (a 28) 4 fruleRounds), (aI k (a 29) 52 ffollows_), (aI k (a 30) 52 fbefore_)]) := by
  intro sz
  refine Met.ofW (cc := cX8_meanOf) (maxL := 14) (ret := (some .int)) (by decide) rfl ?_
  intro p e s m args below meth c s₁ B hml hv
  obtain ⟨rfl, hsz, hlo, hP, hK, hDL, hZ⟩ := hv
  have hx := B.exec
  have hb := B.bytes
  have hr := B.returns
  have hts := WS_ts B.pre
  have hown : s.vm.findClass RX8 = some m.cls := findClass_of_methodNamed B.named
  have hlocks := B.notSynchronized
  subst hsz
  have hD := hDL.self (sz := s.heap.size)
  have hAlo := A_lo hDL hlo
  generalize hAe : va_A [((a 0), .inr (8, (fX8 a (nI tx) fp (nI t0) wd (nI we) nu na (nI rd) ts (nI ru) (nI rw) (nI ca) df db sd))), (aI k (a 1) 3 (nF dn)), (aI k (a 4) 27 (sg se tm gs)), (aI k (a 2) 72 ffrees), (aI k (a 3) 72 fprices), (aI k (a 25) 4 (nF bm)), (aI k (a 26) 48 fbarSeen), (aI k (a 27) 48 fbarFrom), (aI k (a 28) 4 fruleRounds), (aI k (a 29) 52 ffollows), (aI k (a 30) 52 fbefore)] s.heap.size = A at hD hAlo ⊢
  have hA : ∀ q : Nat, s.heap.size ≤ q → A q := fun q h => by rw [← hAe]; exact Or.inr h
  have hS : va_S A s.heap s.heap [] := va_S.rf
  have hl := lv_entry ([.ref (a 0), .int (nI sn), .int (nI kr), .int p2]) (n := 14) (Nat.le_of_ble_eq_true rfl)
  rw [lg_entry_eq]
  generalize (lg_sl ([.ref (a 0), .int (nI sn), .int (nI kr), .int p2]) ++ List.replicate (14 - (lg_sl ([.ref (a 0), .int (nI sn), .int (nI kr), .int p2])).length) Slot.unset).toArray = ls at hl ⊢
  have hl : lv_has ls 14 [(0, .ref (a 0)), (1, .int (nI sn)), (2, .int (nI kr)), (3, .int p2)] := hl
  have hd_9 := hdn sn
  have hd_8 := hse sn
  have hd_7 := htm sn
  refine lv_aload_n hx hb dX8_meanOf_0 rfl (lv_at hl 0 rfl) ?_
  refine va_get (D := D) (ci := 8) (v := .ref (a 1)) (C := RX8) (T := TX8) (N := 44) hx hb hts inX8 hown hK hP 0 rfl rfl 0 (by decide) (hts _ tw_973) (fun _ h9 => h9) rfl dX8_meanOf_1 ?_
  refine lv_iload_n hx hb dX8_meanOf_4 rfl (lv_at hl 1 rfl) ?_
  refine va_iald hx hb hK hP 1 1 rfl rfl (vp_in_nI (by omega) (by decide)) dX8_meanOf_5 ?_
  refine lv_ti (y := (nI (dn sn))) (by rw [nI_clamp (by omega)]; rfl) ?_
  refine lv_istore (lv' := [(4, .int (nI (dn sn))), (0, .ref (a 0)), (1, .int (nI sn)), (2, .int (nI kr)), (3, .int p2)]) hx hb dX8_meanOf_6 hl (by decide) rfl (fun ls hl => ?_)
  refine lv_iload_n hx hb dX8_meanOf_8 rfl (lv_at hl 4 rfl) ?_
  refine lv_if_ne (tgt := 25) hx hb dX8_meanOf_9 (by decide) (fun c_1 => ?_) (fun c_1 => ?_)
  · refine lv_iconst (v := 0) hx hb dX8_meanOf_25 (by decide) ?_
    refine lv_istore (lv' := [(5, .int 0), (4, .int (nI (dn sn))), (0, .ref (a 0)), (1, .int (nI sn)), (2, .int (nI kr)), (3, .int p2)]) hx hb dX8_meanOf_26 hl (by decide) rfl (fun ls hl => ?_)
    refine lv_iconst (v := 0) hx hb dX8_meanOf_28 (by decide) ?_
    refine lv_istore (lv' := [(6, .int 0), (5, .int 0), (4, .int (nI (dn sn))), (0, .ref (a 0)), (1, .int (nI sn)), (2, .int (nI kr)), (3, .int p2)]) hx hb dX8_meanOf_29 hl (by decide) rfl (fun ls hl => ?_)
    refine lv_iconst (v := 3) hx hb dX8_meanOf_31 (by decide) ?_
    refine lv_istore (lv' := [(7, .int 3), (6, .int 0), (5, .int 0), (4, .int (nI (dn sn))), (0, .ref (a 0)), (1, .int (nI sn)), (2, .int (nI kr)), (3, .int p2)]) hx hb dX8_meanOf_32 hl (by decide) rfl (fun ls hl => ?_)
    refine W_loop (σ := Nat × Int32 × (Nat → Int32) × (Nat → Int32)) (fun (n_ : Nat) (x_ : Nat × Int32 × (Nat → Int32) × (Nat → Int32)) (H : Heap) (locs : List Loc) (ls : Array Slot) => match x_ with | (q_2, bg_2, ff_2, fb_2) => n_ = 2 * q_2 ∧ (q_2 ≤ 4) ∧ va_P D classes [((a 0), .inr (8, (fX8 a (nI tx) fp (nI t0) wd (nI we) nu na (nI rd) ts (nI ru) (nI rw) (nI ca) df db sd))), (aI k (a 1) 3 (nF dn)), (aI k (a 4) 27 (sg se tm gs)), (aI k (a 2) 72 ffrees), (aI k (a 3) 72 fprices), (aI k (a 25) 4 (nF bm)), (aI k (a 26) 48 fbarSeen), (aI k (a 27) 48 fbarFrom), (aI k (a 28) 4 fruleRounds), (aI k (a 29) 52 ff_2), (aI k (a 30) 52 fb_2)] H ∧ va_D A [((a 0), .inr (8, (fX8 a (nI tx) fp (nI t0) wd (nI we) nu na (nI rd) ts (nI ru) (nI rw) (nI ca) df db sd))), (aI k (a 1) 3 (nF dn)), (aI k (a 4) 27 (sg se tm gs)), (aI k (a 2) 72 ffrees), (aI k (a 3) 72 fprices), (aI k (a 25) 4 (nF bm)), (aI k (a 26) 48 fbarSeen), (aI k (a 27) 48 fbarFrom), (aI k (a 28) 4 fruleRounds), (aI k (a 29) 52 ff_2), (aI k (a 30) 52 fb_2)] ∧ va_S A s.heap H locs ∧ lv_has ls 14 [(7, .int (nI q_2 - 1)), (6, .int bg_2), (5, .int 0), (4, .int (nI (dn sn))), (0, .ref (a 0)), (1, .int (nI sn)), (2, .int (nI kr)), (3, .int p2)]) (fun n_2 x_2 H locs ls hI ih_2 => ?_) _ (4, 0, ffollows, fbefore) ⟨rfl, (by omega), hP, hD, hS, (by rw [nI_pred]; exact lv_sub hl [0, 1, 2, 3, 4, 5, 6, 7] rfl)⟩
    obtain ⟨q_2, bg_2, ff_2, fb_2⟩ := x_2
    obtain ⟨hm_2, hv_2, hP, hD, hS, hl⟩ := hI
    subst hm_2
    rcases q_2 with _ | q_2
    · rw [dn0] at hl
      refine lv_iload hx hb dX8_meanOf_34 (lv_at hl 0 rfl) ?_
      refine lv_if_lt (tgt := 289) hx hb dX8_meanOf_36 (by decide) (fun _ => ?_) (fun h => absurd (by decide) h)
      refine lv_iload hx hb dX8_meanOf_289 (lv_at hl 1 rfl) ?_
      have hP9 := hP.sub (ws' := [((a 0), .inr (8, (fX8 a (nI tx) fp (nI t0) wd (nI we) nu na (nI rd) ts (nI ru) (nI rw) (nI ca) df db sd))), (aI k (a 1) 3 (nF dn)), (aI k (a 4) 27 (sg se tm gs)), (aI k (a 2) 72 ffrees), (aI k (a 3) 72 fprices), (aI k (a 25) 4 (nF bm)), (aI k (a 26) 48 fbarSeen), (aI k (a 27) 48 fbarFrom), (aI k (a 28) 4 fruleRounds), (aI k (a 29) 52 ff_2), (aI k (a 30) 52 fb_2)]) [0, 1, 2, 3, 4, 5, 6, 7, 8, 9, 10] rfl
      have hD9 := hD.sub (ws' := [((a 0), .inr (8, (fX8 a (nI tx) fp (nI t0) wd (nI we) nu na (nI rd) ts (nI ru) (nI rw) (nI ca) df db sd))), (aI k (a 1) 3 (nF dn)), (aI k (a 4) 27 (sg se tm gs)), (aI k (a 2) 72 ffrees), (aI k (a 3) 72 fprices), (aI k (a 25) 4 (nF bm)), (aI k (a 26) 48 fbarSeen), (aI k (a 27) 48 fbarFrom), (aI k (a 28) 4 fruleRounds), (aI k (a 29) 52 ff_2), (aI k (a 30) 52 fb_2)]) [0, 1, 2, 3, 4, 5, 6, 7, 8, 9, 10] (by decide +kernel) rfl
      exact W.iret (v := bg_2) hx hb hr (fun t ht hW => ⟨⟨bg_2, (ff_2, fb_2), rfl, trivial, by rw [ht]; exact hP9, hD9⟩, hS.F ht⟩) hS.2.2 dX8_meanOf_291
    · rw [nI_pred] at hl
      refine lv_iload hx hb dX8_meanOf_34 (lv_at hl 0 rfl) ?_
      refine lv_if_lt (tgt := 289) hx hb dX8_meanOf_36 (by decide) (fun h => absurd h (nI_pos0 (by omega))) (fun _ => ?_)
      refine lv_iload_n hx hb dX8_meanOf_39 rfl (lv_at hl 7 rfl) ?_
      refine lv_if_ne (tgt := 64) hx hb dX8_meanOf_40 (by decide) (fun c_3 => ?_) (fun c_3 => ?_)
      · refine lv_iconst (v := 0) hx hb dX8_meanOf_64 (by decide) ?_
        refine lv_istore (lv' := [(8, .int 0), (7, .int (nI q_2)), (6, .int bg_2), (5, .int 0), (4, .int (nI (dn sn))), (0, .ref (a 0)), (1, .int (nI sn)), (2, .int (nI kr)), (3, .int p2)]) hx hb dX8_meanOf_65 hl (by decide) rfl (fun ls hl => ?_)
        refine lv_aload_n hx hb dX8_meanOf_67 rfl (lv_at hl 5 rfl) ?_
        refine lv_iload_n hx hb dX8_meanOf_68 rfl (lv_at hl 6 rfl) ?_
        refine lv_iload_n hx hb dX8_meanOf_69 rfl (lv_at hl 7 rfl) ?_
        refine lv_iload hx hb dX8_meanOf_70 (lv_at hl 1 rfl) ?_
        refine ro_i (D := D) (va_runV (As := [.int (nI sn), .int (nI kr), .int (nI q_2)]) (rest := []) ⟨hx, hb, hml, hown, hts⟩ ((m_isRoundBy l D k st lo a tx t0 we rd ru rw ca fp wd nu na ts df db sd se tm gs fruleRounds sn kr q_2 htm (by omega) (by omega) (by omega)) H.size) (cwV 3 hts (gV tw_1329 tw_1331 tw_59 tw_87 tw_1332) rfl rfl rfl (by decide +kernel) ⟨Nat.le_of_ble_eq_true rfl, Nat.le_of_ble_eq_true rfl⟩) (pV hS hAlo hlo hP hK (va_Dlo hD hAlo) hZ [0, 2, 8] (by decide) rfl (ci := 8) (q := (RX8, TX8, 44)) (q0 := 0) rfl rfl) rfl rfl hl.1 rfl (lv_room (Nat.le_of_ble_eq_true rfl)) dX8_meanOf_72 ⟨Nat.le_of_ble_eq_true rfl, Nat.le_of_ble_eq_true rfl⟩) hS hA hP (fun r_4 H locs hw_4 hP hS => ?_)
        try dsimp only at hw_4
        rcases hw_4 with ⟨rfl, hw_4⟩ | rfl
        · refine lv_if_eq (tgt := 86) hx hb dX8_meanOf_75 (by decide) (fun h => absurd h (by decide)) (fun _ => ?_)
          refine lv_iload hx hb dX8_meanOf_78 (lv_at hl 0 rfl) ?_
          refine lv_iload hx hb dX8_meanOf_80 (lv_at hl 2 rfl) ?_
          refine lv_iadd hx hb dX8_meanOf_82 ?_
          refine lv_topi (fun x_5 ex_5 => ?_)
          refine lv_goto (tgt := 94) hx hb dX8_meanOf_83 (by decide) ?_
          refine lv_istore (lv' := [(9, .int x_5), (8, .int 0), (7, .int (nI q_2)), (6, .int bg_2), (5, .int 0), (4, .int (nI (dn sn))), (0, .ref (a 0)), (1, .int (nI sn)), (2, .int (nI kr)), (3, .int p2)]) hx hb dX8_meanOf_94 hl (by decide) rfl (fun ls hl => ?_)
          refine lv_iconst (v := 0) hx hb dX8_meanOf_96 (by decide) ?_
          refine lv_istore (lv' := [(10, .int 0), (9, .int x_5), (8, .int 0), (7, .int (nI q_2)), (6, .int bg_2), (5, .int 0), (4, .int (nI (dn sn))), (0, .ref (a 0)), (1, .int (nI sn)), (2, .int (nI kr)), (3, .int p2)]) hx hb dX8_meanOf_97 hl (by decide) rfl (fun ls hl => ?_)
          refine W_loop (σ := Nat × (Nat → Int32)) (fun (n_ : Nat) (x_ : Nat × (Nat → Int32)) (H : Heap) (locs : List Loc) (ls : Array Slot) => match x_ with | (kk_6, ff_6) => n_ = 52 - kk_6 ∧ (kk_6 ≤ 52) ∧ va_P D classes [((a 0), .inr (8, (fX8 a (nI tx) fp (nI t0) wd (nI we) nu na (nI rd) ts (nI ru) (nI rw) (nI ca) df db sd))), (aI k (a 1) 3 (nF dn)), (aI k (a 4) 27 (sg se tm gs)), (aI k (a 2) 72 ffrees), (aI k (a 3) 72 fprices), (aI k (a 25) 4 (nF bm)), (aI k (a 26) 48 fbarSeen), (aI k (a 27) 48 fbarFrom), (aI k (a 28) 4 fruleRounds), (aI k (a 29) 52 ff_6), (aI k (a 30) 52 fb_2)] H ∧ va_D A [((a 0), .inr (8, (fX8 a (nI tx) fp (nI t0) wd (nI we) nu na (nI rd) ts (nI ru) (nI rw) (nI ca) df db sd))), (aI k (a 1) 3 (nF dn)), (aI k (a 4) 27 (sg se tm gs)), (aI k (a 2) 72 ffrees), (aI k (a 3) 72 fprices), (aI k (a 25) 4 (nF bm)), (aI k (a 26) 48 fbarSeen), (aI k (a 27) 48 fbarFrom), (aI k (a 28) 4 fruleRounds), (aI k (a 29) 52 ff_6), (aI k (a 30) 52 fb_2)] ∧ va_S A s.heap H locs ∧ lv_has ls 14 [(10, .int (nI kk_6)), (9, .int x_5), (8, .int 0), (7, .int (nI q_2)), (6, .int bg_2), (5, .int 0), (4, .int (nI (dn sn))), (0, .ref (a 0)), (1, .int (nI sn)), (2, .int (nI kr)), (3, .int p2)]) (fun n_6 x_6 H locs ls hI ih_6 => ?_) _ (0, ff_2) ⟨rfl, (by omega), hP, hD, hS, (lv_sub hl [0, 1, 2, 3, 4, 5, 6, 7, 8, 9, 10] rfl)⟩
          obtain ⟨kk_6, ff_6⟩ := x_6
          obtain ⟨hm_6, hv_6, hP, hD, hS, hl⟩ := hI
          subst hm_6
          refine lv_iload hx hb dX8_meanOf_99 (lv_at hl 0 rfl) ?_
          refine lv_bipush (v := 52) hx hb dX8_meanOf_101 (by decide) ?_
          refine lv_icmp_ge (tgt := 121) hx hb dX8_meanOf_103 (by decide) (fun c_7 => ?_) (fun c_7 => ?_)
          · have c_7 := (nI_leI (a := 52) (b := kk_6) (by omega) (by omega)).mp c_7
            refine lv_iload hx hb dX8_meanOf_121 (lv_at hl 6 rfl) ?_
            refine lv_iconst (v := 1) hx hb dX8_meanOf_123 (by decide) ?_
            refine lv_isub hx hb dX8_meanOf_124 ?_
            refine lv_ti (y := (nI (dn sn) - 1)) rfl ?_
            refine lv_istore (lv' := [(10, .int (nI (dn sn) - 1)), (9, .int x_5), (8, .int 0), (7, .int (nI q_2)), (6, .int bg_2), (5, .int 0), (4, .int (nI (dn sn))), (0, .ref (a 0)), (1, .int (nI sn)), (2, .int (nI kr)), (3, .int p2)]) hx hb dX8_meanOf_125 hl (by decide) rfl (fun ls hl => ?_)
            refine W_loop (σ := Nat × (Nat → Int32) × (Nat → Int32)) (fun (n_ : Nat) (x_ : Nat × (Nat → Int32) × (Nat → Int32)) (H : Heap) (locs : List Loc) (ls : Array Slot) => match x_ with | (qi_8, ff_8, fb_8) => n_ = 2 * qi_8 ∧ (qi_8 ≤ dn sn) ∧ va_P D classes [((a 0), .inr (8, (fX8 a (nI tx) fp (nI t0) wd (nI we) nu na (nI rd) ts (nI ru) (nI rw) (nI ca) df db sd))), (aI k (a 1) 3 (nF dn)), (aI k (a 4) 27 (sg se tm gs)), (aI k (a 2) 72 ffrees), (aI k (a 3) 72 fprices), (aI k (a 25) 4 (nF bm)), (aI k (a 26) 48 fbarSeen), (aI k (a 27) 48 fbarFrom), (aI k (a 28) 4 fruleRounds), (aI k (a 29) 52 ff_8), (aI k (a 30) 52 fb_8)] H ∧ va_D A [((a 0), .inr (8, (fX8 a (nI tx) fp (nI t0) wd (nI we) nu na (nI rd) ts (nI ru) (nI rw) (nI ca) df db sd))), (aI k (a 1) 3 (nF dn)), (aI k (a 4) 27 (sg se tm gs)), (aI k (a 2) 72 ffrees), (aI k (a 3) 72 fprices), (aI k (a 25) 4 (nF bm)), (aI k (a 26) 48 fbarSeen), (aI k (a 27) 48 fbarFrom), (aI k (a 28) 4 fruleRounds), (aI k (a 29) 52 ff_8), (aI k (a 30) 52 fb_8)] ∧ va_S A s.heap H locs ∧ lv_has ls 14 [(10, .int (nI qi_8 - 1)), (9, .int x_5), (8, .int 0), (7, .int (nI q_2)), (6, .int bg_2), (5, .int 0), (4, .int (nI (dn sn))), (0, .ref (a 0)), (1, .int (nI sn)), (2, .int (nI kr)), (3, .int p2)]) (fun n_8 x_8 H locs ls hI ih_8 => ?_) _ (dn sn, ff_6, fb_2) ⟨rfl, (by omega), hP, hD, hS, (lv_sub hl [0, 1, 2, 3, 4, 5, 6, 7, 8, 9, 10] rfl)⟩
            obtain ⟨qi_8, ff_8, fb_8⟩ := x_8
            obtain ⟨hm_8, hv_8, hP, hD, hS, hl⟩ := hI
            subst hm_8
            rcases qi_8 with _ | qi_8
            · rw [dn0] at hl
              refine lv_iload hx hb dX8_meanOf_127 (lv_at hl 0 rfl) ?_
              refine lv_if_lt (tgt := 275) hx hb dX8_meanOf_129 (by decide) (fun _ => ?_) (fun h => absurd (by decide) h)
              refine lv_aload_n hx hb dX8_meanOf_275 rfl (lv_at hl 7 rfl) ?_
              refine va_get (D := D) (ci := 8) (v := .ref (a 29)) (C := RX8) (T := TX8) (N := 44) hx hb hts inX8 hown hK hP 0 rfl rfl 28 (by decide) (hts _ tw_1001) (fun _ h9 => h9) rfl dX8_meanOf_276 ?_
              refine lv_iconst (v := 0) hx hb dX8_meanOf_279 (by decide) ?_
              refine va_iald hx hb hK hP 9 1 rfl rfl (by unfold vp_in; decide) dX8_meanOf_280 ?_
              refine lv_ti (y := (ff_8 0)) (by rfl) ?_
              refine lv_istore (lv' := [(6, .int (ff_8 0)), (10, .int (-1)), (9, .int x_5), (8, .int 0), (7, .int (nI q_2)), (5, .int 0), (4, .int (nI (dn sn))), (0, .ref (a 0)), (1, .int (nI sn)), (2, .int (nI kr)), (3, .int p2)]) hx hb dX8_meanOf_281 hl (by decide) rfl (fun ls hl => ?_)
              refine lv_iinc (v := (nI q_2 - 1)) (lv' := [(7, .int (nI q_2 - 1)), (6, .int (ff_8 0)), (10, .int (-1)), (9, .int x_5), (8, .int 0), (5, .int 0), (4, .int (nI (dn sn))), (0, .ref (a 0)), (1, .int (nI sn)), (2, .int (nI kr)), (3, .int p2)]) hx hb dX8_meanOf_283 hl (k := 4) rfl (dn1 _) (by decide) rfl (fun ls hl => ?_)
              refine lv_goto (tgt := 34) hx hb dX8_meanOf_286 (by decide) ?_
              exact ih_2 _ (q_2, (ff_8 0), ff_8, fb_8) _ _ _ (by omega) ⟨rfl, (by omega), hP, hD, hS, (lv_sub hl [0, 1, 5, 6, 7, 8, 9, 10] rfl)⟩
            · rw [nI_pred] at hl
              refine lv_iload hx hb dX8_meanOf_127 (lv_at hl 0 rfl) ?_
              refine lv_if_lt (tgt := 275) hx hb dX8_meanOf_129 (by decide) (fun h => absurd h (nI_pos0 (by omega))) (fun _ => ?_)
              refine lv_iconst (v := 0) hx hb dX8_meanOf_132 (by decide) ?_
              refine lv_istore (lv' := [(11, .int 0), (10, .int (nI qi_8)), (9, .int x_5), (8, .int 0), (7, .int (nI q_2)), (6, .int bg_2), (5, .int 0), (4, .int (nI (dn sn))), (0, .ref (a 0)), (1, .int (nI sn)), (2, .int (nI kr)), (3, .int p2)]) hx hb dX8_meanOf_133 hl (by decide) rfl (fun ls hl => ?_)
              refine W_loop (σ := Nat × (Nat → Int32)) (fun (n_ : Nat) (x_ : Nat × (Nat → Int32)) (H : Heap) (locs : List Loc) (ls : Array Slot) => match x_ with | (kk_9, fb_9) => n_ = 50 - kk_9 ∧ (kk_9 ≤ 50) ∧ va_P D classes [((a 0), .inr (8, (fX8 a (nI tx) fp (nI t0) wd (nI we) nu na (nI rd) ts (nI ru) (nI rw) (nI ca) df db sd))), (aI k (a 1) 3 (nF dn)), (aI k (a 4) 27 (sg se tm gs)), (aI k (a 2) 72 ffrees), (aI k (a 3) 72 fprices), (aI k (a 25) 4 (nF bm)), (aI k (a 26) 48 fbarSeen), (aI k (a 27) 48 fbarFrom), (aI k (a 28) 4 fruleRounds), (aI k (a 29) 52 ff_8), (aI k (a 30) 52 fb_9)] H ∧ va_D A [((a 0), .inr (8, (fX8 a (nI tx) fp (nI t0) wd (nI we) nu na (nI rd) ts (nI ru) (nI rw) (nI ca) df db sd))), (aI k (a 1) 3 (nF dn)), (aI k (a 4) 27 (sg se tm gs)), (aI k (a 2) 72 ffrees), (aI k (a 3) 72 fprices), (aI k (a 25) 4 (nF bm)), (aI k (a 26) 48 fbarSeen), (aI k (a 27) 48 fbarFrom), (aI k (a 28) 4 fruleRounds), (aI k (a 29) 52 ff_8), (aI k (a 30) 52 fb_9)] ∧ va_S A s.heap H locs ∧ lv_has ls 14 [(11, .int (nI kk_9)), (10, .int (nI qi_8)), (9, .int x_5), (8, .int 0), (7, .int (nI q_2)), (6, .int bg_2), (5, .int 0), (4, .int (nI (dn sn))), (0, .ref (a 0)), (1, .int (nI sn)), (2, .int (nI kr)), (3, .int p2)]) (fun n_9 x_9 H locs ls hI ih_9 => ?_) _ (0, fb_8) ⟨rfl, (by omega), hP, hD, hS, (lv_sub hl [0, 1, 2, 3, 4, 5, 6, 7, 8, 9, 10, 11] rfl)⟩
              obtain ⟨kk_9, fb_9⟩ := x_9
              obtain ⟨hm_9, hv_9, hP, hD, hS, hl⟩ := hI
              subst hm_9
              refine lv_iload hx hb dX8_meanOf_135 (lv_at hl 0 rfl) ?_
              refine lv_bipush (v := 50) hx hb dX8_meanOf_137 (by decide) ?_
              refine lv_icmp_ge (tgt := 239) hx hb dX8_meanOf_139 (by decide) (fun c_10 => ?_) (fun c_10 => ?_)
              · have c_10 := (nI_leI (a := 50) (b := kk_9) (by omega) (by omega)).mp c_10
                refine lv_iconst (v := 0) hx hb dX8_meanOf_239 (by decide) ?_
                refine lv_istore (lv' := [(11, .int 0), (10, .int (nI qi_8)), (9, .int x_5), (8, .int 0), (7, .int (nI q_2)), (6, .int bg_2), (5, .int 0), (4, .int (nI (dn sn))), (0, .ref (a 0)), (1, .int (nI sn)), (2, .int (nI kr)), (3, .int p2)]) hx hb dX8_meanOf_240 hl (by decide) rfl (fun ls hl => ?_)
                refine W_loop (σ := Nat × (Nat → Int32)) (fun (n_ : Nat) (x_ : Nat × (Nat → Int32)) (H : Heap) (locs : List Loc) (ls : Array Slot) => match x_ with | (kk_11, ff_11) => n_ = 50 - kk_11 ∧ (kk_11 ≤ 50) ∧ va_P D classes [((a 0), .inr (8, (fX8 a (nI tx) fp (nI t0) wd (nI we) nu na (nI rd) ts (nI ru) (nI rw) (nI ca) df db sd))), (aI k (a 1) 3 (nF dn)), (aI k (a 4) 27 (sg se tm gs)), (aI k (a 2) 72 ffrees), (aI k (a 3) 72 fprices), (aI k (a 25) 4 (nF bm)), (aI k (a 26) 48 fbarSeen), (aI k (a 27) 48 fbarFrom), (aI k (a 28) 4 fruleRounds), (aI k (a 29) 52 ff_11), (aI k (a 30) 52 fb_9)] H ∧ va_D A [((a 0), .inr (8, (fX8 a (nI tx) fp (nI t0) wd (nI we) nu na (nI rd) ts (nI ru) (nI rw) (nI ca) df db sd))), (aI k (a 1) 3 (nF dn)), (aI k (a 4) 27 (sg se tm gs)), (aI k (a 2) 72 ffrees), (aI k (a 3) 72 fprices), (aI k (a 25) 4 (nF bm)), (aI k (a 26) 48 fbarSeen), (aI k (a 27) 48 fbarFrom), (aI k (a 28) 4 fruleRounds), (aI k (a 29) 52 ff_11), (aI k (a 30) 52 fb_9)] ∧ va_S A s.heap H locs ∧ lv_has ls 14 [(11, .int (nI kk_11)), (10, .int (nI qi_8)), (9, .int x_5), (8, .int 0), (7, .int (nI q_2)), (6, .int bg_2), (5, .int 0), (4, .int (nI (dn sn))), (0, .ref (a 0)), (1, .int (nI sn)), (2, .int (nI kr)), (3, .int p2)]) (fun n_11 x_11 H locs ls hI ih_11 => ?_) _ (0, ff_8) ⟨rfl, (by omega), hP, hD, hS, (lv_sub hl [0, 1, 2, 3, 4, 5, 6, 7, 8, 9, 10, 11] rfl)⟩
                obtain ⟨kk_11, ff_11⟩ := x_11
                obtain ⟨hm_11, hv_11, hP, hD, hS, hl⟩ := hI
                subst hm_11
                refine lv_iload hx hb dX8_meanOf_242 (lv_at hl 0 rfl) ?_
                refine lv_bipush (v := 50) hx hb dX8_meanOf_244 (by decide) ?_
                refine lv_icmp_ge (tgt := 269) hx hb dX8_meanOf_246 (by decide) (fun c_12 => ?_) (fun c_12 => ?_)
                · have c_12 := (nI_leI (a := 50) (b := kk_11) (by omega) (by omega)).mp c_12
                  refine lv_iinc (v := (nI qi_8 - 1)) (lv' := [(10, .int (nI qi_8 - 1)), (11, .int (nI kk_11)), (9, .int x_5), (8, .int 0), (7, .int (nI q_2)), (6, .int bg_2), (5, .int 0), (4, .int (nI (dn sn))), (0, .ref (a 0)), (1, .int (nI sn)), (2, .int (nI kr)), (3, .int p2)]) hx hb dX8_meanOf_269 hl (k := 1) rfl (dn1 _) (by decide) rfl (fun ls hl => ?_)
                  refine lv_goto (tgt := 127) hx hb dX8_meanOf_272 (by decide) ?_
                  exact ih_8 _ (qi_8, ff_11, fb_9) _ _ _ (by omega) ⟨rfl, (by omega), hP, hD, hS, (lv_sub hl [0, 2, 3, 4, 5, 6, 7, 8, 9, 10, 11] rfl)⟩
                · have c_12 : ¬ (50 ≤ kk_11) := fun h => c_12 ((nI_leI (a := 50) (b := kk_11) (by omega) (by omega)).mpr h)
                  refine lv_aload_n hx hb dX8_meanOf_249 rfl (lv_at hl 8 rfl) ?_
                  refine va_get (D := D) (ci := 8) (v := .ref (a 29)) (C := RX8) (T := TX8) (N := 44) hx hb hts inX8 hown hK hP 0 rfl rfl 28 (by decide) (hts _ tw_1001) (fun _ h9 => h9) rfl dX8_meanOf_250 ?_
                  refine lv_iload hx hb dX8_meanOf_253 (lv_at hl 0 rfl) ?_
                  refine lv_aload_n hx hb dX8_meanOf_255 rfl (lv_at hl 8 rfl) ?_
                  refine va_get (D := D) (ci := 8) (v := .ref (a 30)) (C := RX8) (T := TX8) (N := 44) hx hb hts inX8 hown hK hP 0 rfl rfl 29 (by decide) (hts _ tw_1002) (fun _ h9 => h9) rfl dX8_meanOf_256 ?_
                  refine lv_iload hx hb dX8_meanOf_259 (lv_at hl 0 rfl) ?_
                  refine va_iald hx hb hK hP 10 1 rfl rfl (vp_in_nI (by omega) (by decide)) dX8_meanOf_261 ?_
                  refine lv_ti (y := (fb_9 kk_11)) (by rw [nI_clamp (by omega)]) ?_
                  refine va_iast hx hb hK hP hD hS 9 1 rfl rfl (vp_in_nI (by omega) (by decide)) dX8_meanOf_262 (fun H locs hP hD hS => ?_)
                  replace hP : va_P D classes [((a 0), .inr (8, (fX8 a (nI tx) fp (nI t0) wd (nI we) nu na (nI rd) ts (nI ru) (nI rw) (nI ca) df db sd))), (aI k (a 1) 3 (nF dn)), (aI k (a 4) 27 (sg se tm gs)), (aI k (a 2) 72 ffrees), (aI k (a 3) 72 fprices), (aI k (a 25) 4 (nF bm)), (aI k (a 26) 48 fbarSeen), (aI k (a 27) 48 fbarFrom), (aI k (a 28) 4 fruleRounds), (aI k (a 29) 52 (upd ff_11 (Int32.toNatClampNeg (nI kk_11)) (fb_9 kk_11))), (aI k (a 30) 52 fb_9)] H := hP
                  replace hD : va_D A [((a 0), .inr (8, (fX8 a (nI tx) fp (nI t0) wd (nI we) nu na (nI rd) ts (nI ru) (nI rw) (nI ca) df db sd))), (aI k (a 1) 3 (nF dn)), (aI k (a 4) 27 (sg se tm gs)), (aI k (a 2) 72 ffrees), (aI k (a 3) 72 fprices), (aI k (a 25) 4 (nF bm)), (aI k (a 26) 48 fbarSeen), (aI k (a 27) 48 fbarFrom), (aI k (a 28) 4 fruleRounds), (aI k (a 29) 52 (upd ff_11 (Int32.toNatClampNeg (nI kk_11)) (fb_9 kk_11))), (aI k (a 30) 52 fb_9)] := hD
                  generalize (upd ff_11 (Int32.toNatClampNeg (nI kk_11)) (fb_9 kk_11)) = f_13 at hP hD
                  refine lv_iinc (v := (nI (kk_11 + 1))) (lv' := [(11, .int (nI (kk_11 + 1))), (10, .int (nI qi_8)), (9, .int x_5), (8, .int 0), (7, .int (nI q_2)), (6, .int bg_2), (5, .int 0), (4, .int (nI (dn sn))), (0, .ref (a 0)), (1, .int (nI sn)), (2, .int (nI kr)), (3, .int p2)]) hx hb dX8_meanOf_263 hl (k := 0) rfl (nI_add kk_11 1) (by decide) rfl (fun ls hl => ?_)
                  refine lv_goto (tgt := 242) hx hb dX8_meanOf_266 (by decide) ?_
                  exact ih_11 _ (kk_11 + 1, f_13) _ _ _ (by omega) ⟨rfl, (by omega), hP, hD, hS, (lv_sub hl [0, 1, 2, 3, 4, 5, 6, 7, 8, 9, 10, 11] rfl)⟩
              · have c_10 : ¬ (50 ≤ kk_9) := fun h => c_10 ((nI_leI (a := 50) (b := kk_9) (by omega) (by omega)).mpr h)
                refine lv_iload hx hb dX8_meanOf_142 (lv_at hl 0 rfl) ?_
                refine lv_iconst (v := 2) hx hb dX8_meanOf_144 (by decide) ?_
                refine lv_idiv hx hb dX8_meanOf_145 (by decide) ?_
                refine lv_ti (y := (nI (kk_9 / 2))) (pk_div (by omega) (by decide) (by decide)) ?_
                refine lv_istore (lv' := [(12, .int (nI (kk_9 / 2))), (11, .int (nI kk_9)), (10, .int (nI qi_8)), (9, .int x_5), (8, .int 0), (7, .int (nI q_2)), (6, .int bg_2), (5, .int 0), (4, .int (nI (dn sn))), (0, .ref (a 0)), (1, .int (nI sn)), (2, .int (nI kr)), (3, .int p2)]) hx hb dX8_meanOf_146 hl (by decide) rfl (fun ls hl => ?_)
                refine lv_aload_n hx hb dX8_meanOf_148 rfl (lv_at hl 9 rfl) ?_
                refine lv_iload_n hx hb dX8_meanOf_149 rfl (lv_at hl 11 rfl) ?_
                refine lv_iload hx hb dX8_meanOf_150 (lv_at hl 2 rfl) ?_
                refine lv_iload hx hb dX8_meanOf_152 (lv_at hl 0 rfl) ?_
                refine ro_i (D := D) (va_runV (As := [.int (nI kr), .int (nI qi_8), .int (nI (kk_9 / 2))]) (rest := []) ⟨hx, hb, hml, hown, hts⟩ ((m_isFor l D k st lo a tx t0 we rd ru rw ca fp wd nu na ts df db sd bm fbarSeen fbarFrom kr (nI qi_8) (nI (kk_9 / 2)) hbm (by omega)) H.size) (cwV 3 hts (gV tw_1338 tw_1340 tw_61 tw_87 tw_1341) rfl rfl rfl (by decide +kernel) ⟨Nat.le_of_ble_eq_true rfl, Nat.le_of_ble_eq_true rfl⟩) (pV hS hAlo hlo hP hK (va_Dlo hD hAlo) hZ [0, 5, 6, 7] (by decide) rfl (ci := 8) (q := (RX8, TX8, 44)) (q0 := 0) rfl rfl) rfl rfl hl.1 rfl (lv_room (Nat.le_of_ble_eq_true rfl)) dX8_meanOf_154 ⟨Nat.le_of_ble_eq_true rfl, Nat.le_of_ble_eq_true rfl⟩) hS hA hP (fun r_14 H locs hw_14 hP hS => ?_)
                try dsimp only at hw_14
                refine lv_if_eq (tgt := 173) hx hb dX8_meanOf_157 (by decide) (fun c_15 => ?_) (fun c_15 => ?_)
                · refine lv_iload hx hb dX8_meanOf_173 (lv_at hl 7 rfl) ?_
                  refine lv_aload_n hx hb dX8_meanOf_175 rfl (lv_at hl 9 rfl) ?_
                  refine va_get (D := D) (ci := 8) (v := .ref (a 29)) (C := RX8) (T := TX8) (N := 44) hx hb hts inX8 hown hK hP 0 rfl rfl 28 (by decide) (hts _ tw_1001) (fun _ h9 => h9) rfl dX8_meanOf_176 ?_
                  refine lv_iconst (v := 2) hx hb dX8_meanOf_179 (by decide) ?_
                  refine lv_iload hx hb dX8_meanOf_180 (lv_at hl 0 rfl) ?_
                  refine lv_imul hx hb dX8_meanOf_182 ?_
                  refine lv_ti (y := (nI (2 * (kk_9 / 2)))) (pk_mul 2 (kk_9 / 2)) ?_
                  refine lv_iconst (v := 3) hx hb dX8_meanOf_183 (by decide) ?_
                  refine lv_iadd hx hb dX8_meanOf_184 ?_
                  refine lv_ti (y := (nI (2 * (kk_9 / 2) + 3))) (nI_add (2 * (kk_9 / 2)) 3) ?_
                  refine va_iald hx hb hK hP 9 1 rfl rfl (vp_in_nI (by omega) (by decide)) dX8_meanOf_185 ?_
                  refine lv_ti (y := (ff_8 (2 * (kk_9 / 2) + 3))) (by rw [nI_clamp (by omega)]) ?_
                  refine lv_iadd hx hb dX8_meanOf_186 ?_
                  refine lv_topi (fun x_16 ex_16 => ?_)
                  refine lv_istore (lv' := [(13, .int x_16), (12, .int (nI (kk_9 / 2))), (11, .int (nI kk_9)), (10, .int (nI qi_8)), (9, .int x_5), (8, .int 0), (7, .int (nI q_2)), (6, .int bg_2), (5, .int 0), (4, .int (nI (dn sn))), (0, .ref (a 0)), (1, .int (nI sn)), (2, .int (nI kr)), (3, .int p2)]) hx hb dX8_meanOf_187 hl (by decide) rfl (fun ls hl => ?_)
                  refine lv_aload_n hx hb dX8_meanOf_189 rfl (lv_at hl 10 rfl) ?_
                  refine va_get (D := D) (ci := 8) (v := .ref (a 30)) (C := RX8) (T := TX8) (N := 44) hx hb hts inX8 hown hK hP 0 rfl rfl 29 (by decide) (hts _ tw_1002) (fun _ h9 => h9) rfl dX8_meanOf_190 ?_
                  refine lv_iload hx hb dX8_meanOf_193 (lv_at hl 2 rfl) ?_
                  refine lv_aload_n hx hb dX8_meanOf_195 rfl (lv_at hl 10 rfl) ?_
                  refine lv_iload_n hx hb dX8_meanOf_196 rfl (lv_at hl 11 rfl) ?_
                  refine lv_iload hx hb dX8_meanOf_197 (lv_at hl 3 rfl) ?_
                  refine lv_iload hx hb dX8_meanOf_199 (lv_at hl 2 rfl) ?_
                  refine lv_iconst (v := 2) hx hb dX8_meanOf_201 (by decide) ?_
                  refine lv_irem hx hb dX8_meanOf_202 (by decide) ?_
                  refine lv_ti (y := (nI (kk_9 % 2))) (pk_rem (by omega) (by decide) (by decide)) ?_
                  refine lv_iconst (v := 1) hx hb dX8_meanOf_203 (by decide) ?_
                  refine lv_icmp_ne (tgt := 211) hx hb dX8_meanOf_204 (by decide) (fun c_17 => ?_) (fun c_17 => ?_)
                  · have c_17 : ¬ ((kk_9 % 2) = 1) := fun h => c_17 ((nI_eq (a := (kk_9 % 2)) (b := 1) (by omega) (by omega)).mpr h)
                    refine lv_iconst (v := 0) hx hb dX8_meanOf_211 (by decide) ?_
                    refine ro_i (D := D) (va_runV (As := [.int (nI sn), .int (nI qi_8), .int 0]) (rest := [.int (nI kk_9), .ref (a 30)]) ⟨hx, hb, hml, hown, hts⟩ ((m_chanceOf l D k st lo a tx t0 we rd ru rw ca fp wd nu na ts df db sd ffrees se tm gs sn qi_8 0 (by omega) (by omega)) H.size) (cwV 3 hts (gV tw_1210 tw_1212 tw_41 tw_87 tw_1213) rfl rfl rfl (by decide +kernel) ⟨Nat.le_of_ble_eq_true rfl, Nat.le_of_ble_eq_true rfl⟩) (pV hS hAlo hlo hP hK (va_Dlo hD hAlo) hZ [0, 3, 2] (by decide) rfl (ci := 8) (q := (RX8, TX8, 44)) (q0 := 0) rfl rfl) rfl rfl hl.1 rfl (lv_room (Nat.le_of_ble_eq_true rfl)) dX8_meanOf_212 ⟨Nat.le_of_ble_eq_true rfl, Nat.le_of_ble_eq_true rfl⟩) hS hA hP (fun r_18 H locs hw_18 hP hS => ?_)
                    try dsimp only at hw_18
                    refine lv_iload hx hb dX8_meanOf_215 (lv_at hl 0 rfl) ?_
                    refine lv_iload hx hb dX8_meanOf_217 (lv_at hl 8 rfl) ?_
                    refine lv_aload_n hx hb dX8_meanOf_219 rfl (lv_at hl 10 rfl) ?_
                    refine va_get (D := D) (ci := 8) (v := .ref (a 29)) (C := RX8) (T := TX8) (N := 44) hx hb hts inX8 hown hK hP 0 rfl rfl 28 (by decide) (hts _ tw_1001) (fun _ h9 => h9) rfl dX8_meanOf_220 ?_
                    refine lv_iconst (v := 2) hx hb dX8_meanOf_223 (by decide) ?_
                    refine lv_iload hx hb dX8_meanOf_224 (lv_at hl 1 rfl) ?_
                    refine lv_imul hx hb dX8_meanOf_226 ?_
                    refine lv_ti (y := (nI (2 * (kk_9 / 2)))) (pk_mul 2 (kk_9 / 2)) ?_
                    refine va_iald hx hb hK hP 9 1 rfl rfl (vp_in_nI (by omega) (by decide)) dX8_meanOf_227 ?_
                    refine lv_ti (y := (ff_8 (2 * (kk_9 / 2)))) (by rw [nI_clamp (by omega)]) ?_
                    refine lv_iadd hx hb dX8_meanOf_228 ?_
                    refine lv_topi (fun x_19 ex_19 => ?_)
                    refine ro_i (D := D) (va_runS (As := [.int r_18, .int x_16, .int x_19]) (rest := [.int (nI kk_9), .ref (a 30)]) ⟨hx, hb, hml, hown, hts⟩ ((m_mixed l D k st lo r_18 x_16 x_19) H.size) (va_cwS 3 hts (gS tw_1269 tw_1270 tw_87 tw_1271) rfl rfl rfl (by decide +kernel) ⟨Nat.le_of_ble_eq_true rfl, Nat.le_of_ble_eq_true rfl⟩) (pS hS hAlo hlo hP hK (va_Dlo hD hAlo) hZ [] (by decide) rfl) rfl rfl hl.1 rfl (lv_room (Nat.le_of_ble_eq_true rfl)) dX8_meanOf_229 ⟨Nat.le_of_ble_eq_true rfl, Nat.le_of_ble_eq_true rfl⟩) hS hA hP (fun r_20 H locs hw_20 hP hS => ?_)
                    try dsimp only at hw_20
                    refine va_iast hx hb hK hP hD hS 10 1 rfl rfl (vp_in_nI (by omega) (by decide)) dX8_meanOf_232 (fun H locs hP hD hS => ?_)
                    replace hP : va_P D classes [((a 0), .inr (8, (fX8 a (nI tx) fp (nI t0) wd (nI we) nu na (nI rd) ts (nI ru) (nI rw) (nI ca) df db sd))), (aI k (a 1) 3 (nF dn)), (aI k (a 4) 27 (sg se tm gs)), (aI k (a 2) 72 ffrees), (aI k (a 3) 72 fprices), (aI k (a 25) 4 (nF bm)), (aI k (a 26) 48 fbarSeen), (aI k (a 27) 48 fbarFrom), (aI k (a 28) 4 fruleRounds), (aI k (a 29) 52 ff_8), (aI k (a 30) 52 (upd fb_9 (Int32.toNatClampNeg (nI kk_9)) r_20))] H := hP
                    replace hD : va_D A [((a 0), .inr (8, (fX8 a (nI tx) fp (nI t0) wd (nI we) nu na (nI rd) ts (nI ru) (nI rw) (nI ca) df db sd))), (aI k (a 1) 3 (nF dn)), (aI k (a 4) 27 (sg se tm gs)), (aI k (a 2) 72 ffrees), (aI k (a 3) 72 fprices), (aI k (a 25) 4 (nF bm)), (aI k (a 26) 48 fbarSeen), (aI k (a 27) 48 fbarFrom), (aI k (a 28) 4 fruleRounds), (aI k (a 29) 52 ff_8), (aI k (a 30) 52 (upd fb_9 (Int32.toNatClampNeg (nI kk_9)) r_20))] := hD
                    generalize (upd fb_9 (Int32.toNatClampNeg (nI kk_9)) r_20) = f_21 at hP hD
                    refine lv_iinc (v := (nI (kk_9 + 1))) (lv' := [(11, .int (nI (kk_9 + 1))), (13, .int x_16), (12, .int (nI (kk_9 / 2))), (10, .int (nI qi_8)), (9, .int x_5), (8, .int 0), (7, .int (nI q_2)), (6, .int bg_2), (5, .int 0), (4, .int (nI (dn sn))), (0, .ref (a 0)), (1, .int (nI sn)), (2, .int (nI kr)), (3, .int p2)]) hx hb dX8_meanOf_233 hl (k := 2) rfl (nI_add kk_9 1) (by decide) rfl (fun ls hl => ?_)
                    refine lv_goto (tgt := 135) hx hb dX8_meanOf_236 (by decide) ?_
                    exact ih_9 _ (kk_9 + 1, f_21) _ _ _ (by omega) ⟨rfl, (by omega), hP, hD, hS, (lv_sub hl [0, 3, 4, 5, 6, 7, 8, 9, 10, 11, 12, 13] rfl)⟩
                  · have c_17 := (nI_eq (a := (kk_9 % 2)) (b := 1) (by omega) (by omega)).mp c_17
                    refine lv_iconst (v := 1) hx hb dX8_meanOf_207 (by decide) ?_
                    refine lv_goto (tgt := 212) hx hb dX8_meanOf_208 (by decide) ?_
                    refine ro_i (D := D) (va_runV (As := [.int (nI sn), .int (nI qi_8), .int 1]) (rest := [.int (nI kk_9), .ref (a 30)]) ⟨hx, hb, hml, hown, hts⟩ ((m_chanceOf l D k st lo a tx t0 we rd ru rw ca fp wd nu na ts df db sd ffrees se tm gs sn qi_8 1 (by omega) (by omega)) H.size) (cwV 3 hts (gV tw_1210 tw_1212 tw_41 tw_87 tw_1213) rfl rfl rfl (by decide +kernel) ⟨Nat.le_of_ble_eq_true rfl, Nat.le_of_ble_eq_true rfl⟩) (pV hS hAlo hlo hP hK (va_Dlo hD hAlo) hZ [0, 3, 2] (by decide) rfl (ci := 8) (q := (RX8, TX8, 44)) (q0 := 0) rfl rfl) rfl rfl hl.1 rfl (lv_room (Nat.le_of_ble_eq_true rfl)) dX8_meanOf_212 ⟨Nat.le_of_ble_eq_true rfl, Nat.le_of_ble_eq_true rfl⟩) hS hA hP (fun r_22 H locs hw_22 hP hS => ?_)
                    try dsimp only at hw_22
                    refine lv_iload hx hb dX8_meanOf_215 (lv_at hl 0 rfl) ?_
                    refine lv_iload hx hb dX8_meanOf_217 (lv_at hl 8 rfl) ?_
                    refine lv_aload_n hx hb dX8_meanOf_219 rfl (lv_at hl 10 rfl) ?_
                    refine va_get (D := D) (ci := 8) (v := .ref (a 29)) (C := RX8) (T := TX8) (N := 44) hx hb hts inX8 hown hK hP 0 rfl rfl 28 (by decide) (hts _ tw_1001) (fun _ h9 => h9) rfl dX8_meanOf_220 ?_
                    refine lv_iconst (v := 2) hx hb dX8_meanOf_223 (by decide) ?_
                    refine lv_iload hx hb dX8_meanOf_224 (lv_at hl 1 rfl) ?_
                    refine lv_imul hx hb dX8_meanOf_226 ?_
                    refine lv_ti (y := (nI (2 * (kk_9 / 2)))) (pk_mul 2 (kk_9 / 2)) ?_
                    refine va_iald hx hb hK hP 9 1 rfl rfl (vp_in_nI (by omega) (by decide)) dX8_meanOf_227 ?_
                    refine lv_ti (y := (ff_8 (2 * (kk_9 / 2)))) (by rw [nI_clamp (by omega)]) ?_
                    refine lv_iadd hx hb dX8_meanOf_228 ?_
                    refine lv_topi (fun x_23 ex_23 => ?_)
                    refine ro_i (D := D) (va_runS (As := [.int r_22, .int x_16, .int x_23]) (rest := [.int (nI kk_9), .ref (a 30)]) ⟨hx, hb, hml, hown, hts⟩ ((m_mixed l D k st lo r_22 x_16 x_23) H.size) (va_cwS 3 hts (gS tw_1269 tw_1270 tw_87 tw_1271) rfl rfl rfl (by decide +kernel) ⟨Nat.le_of_ble_eq_true rfl, Nat.le_of_ble_eq_true rfl⟩) (pS hS hAlo hlo hP hK (va_Dlo hD hAlo) hZ [] (by decide) rfl) rfl rfl hl.1 rfl (lv_room (Nat.le_of_ble_eq_true rfl)) dX8_meanOf_229 ⟨Nat.le_of_ble_eq_true rfl, Nat.le_of_ble_eq_true rfl⟩) hS hA hP (fun r_24 H locs hw_24 hP hS => ?_)
                    try dsimp only at hw_24
                    refine va_iast hx hb hK hP hD hS 10 1 rfl rfl (vp_in_nI (by omega) (by decide)) dX8_meanOf_232 (fun H locs hP hD hS => ?_)
                    replace hP : va_P D classes [((a 0), .inr (8, (fX8 a (nI tx) fp (nI t0) wd (nI we) nu na (nI rd) ts (nI ru) (nI rw) (nI ca) df db sd))), (aI k (a 1) 3 (nF dn)), (aI k (a 4) 27 (sg se tm gs)), (aI k (a 2) 72 ffrees), (aI k (a 3) 72 fprices), (aI k (a 25) 4 (nF bm)), (aI k (a 26) 48 fbarSeen), (aI k (a 27) 48 fbarFrom), (aI k (a 28) 4 fruleRounds), (aI k (a 29) 52 ff_8), (aI k (a 30) 52 (upd fb_9 (Int32.toNatClampNeg (nI kk_9)) r_24))] H := hP
                    replace hD : va_D A [((a 0), .inr (8, (fX8 a (nI tx) fp (nI t0) wd (nI we) nu na (nI rd) ts (nI ru) (nI rw) (nI ca) df db sd))), (aI k (a 1) 3 (nF dn)), (aI k (a 4) 27 (sg se tm gs)), (aI k (a 2) 72 ffrees), (aI k (a 3) 72 fprices), (aI k (a 25) 4 (nF bm)), (aI k (a 26) 48 fbarSeen), (aI k (a 27) 48 fbarFrom), (aI k (a 28) 4 fruleRounds), (aI k (a 29) 52 ff_8), (aI k (a 30) 52 (upd fb_9 (Int32.toNatClampNeg (nI kk_9)) r_24))] := hD
                    generalize (upd fb_9 (Int32.toNatClampNeg (nI kk_9)) r_24) = f_25 at hP hD
                    refine lv_iinc (v := (nI (kk_9 + 1))) (lv' := [(11, .int (nI (kk_9 + 1))), (13, .int x_16), (12, .int (nI (kk_9 / 2))), (10, .int (nI qi_8)), (9, .int x_5), (8, .int 0), (7, .int (nI q_2)), (6, .int bg_2), (5, .int 0), (4, .int (nI (dn sn))), (0, .ref (a 0)), (1, .int (nI sn)), (2, .int (nI kr)), (3, .int p2)]) hx hb dX8_meanOf_233 hl (k := 2) rfl (nI_add kk_9 1) (by decide) rfl (fun ls hl => ?_)
                    refine lv_goto (tgt := 135) hx hb dX8_meanOf_236 (by decide) ?_
                    exact ih_9 _ (kk_9 + 1, f_25) _ _ _ (by omega) ⟨rfl, (by omega), hP, hD, hS, (lv_sub hl [0, 3, 4, 5, 6, 7, 8, 9, 10, 11, 12, 13] rfl)⟩
                · refine lv_aload_n hx hb dX8_meanOf_160 rfl (lv_at hl 9 rfl) ?_
                  refine lv_iload_n hx hb dX8_meanOf_161 rfl (lv_at hl 10 rfl) ?_
                  refine lv_iload hx hb dX8_meanOf_162 (lv_at hl 5 rfl) ?_
                  refine lv_iload hx hb dX8_meanOf_164 (lv_at hl 2 rfl) ?_
                  refine lv_iload_n hx hb dX8_meanOf_166 rfl (lv_at hl 12 rfl) ?_
                  refine ro_i (D := D) (va_runV (As := [.int (nI sn), .int (nI q_2), .int (nI qi_8), .int p2]) (rest := []) ⟨hx, hb, hml, hown, hts⟩ ((m_byTaking l D k st lo a tx t0 we rd ru rw ca fp wd nu na ts df db sd dn se tm gs fprices sn qi_8 (nI q_2) p2 (by omega) (by omega)) H.size) (cwV 4 hts (gV tw_1342 tw_1344 tw_62 tw_87 tw_1345) rfl rfl rfl (by decide +kernel) ⟨Nat.le_of_ble_eq_true rfl, Nat.le_of_ble_eq_true rfl⟩) (pV hS hAlo hlo hP hK (va_Dlo hD hAlo) hZ [0, 1, 2, 4] (by decide) rfl (ci := 8) (q := (RX8, TX8, 44)) (q0 := 0) rfl rfl) rfl rfl hl.1 rfl (lv_room (Nat.le_of_ble_eq_true rfl)) dX8_meanOf_167 ⟨Nat.le_of_ble_eq_true rfl, Nat.le_of_ble_eq_true rfl⟩) hS hA hP (fun r_26 H locs hw_26 hP hS => ?_)
                  try dsimp only at hw_26
                  refine lv_goto (tgt := 187) hx hb dX8_meanOf_170 (by decide) ?_
                  refine lv_istore (lv' := [(13, .int r_26), (12, .int (nI (kk_9 / 2))), (11, .int (nI kk_9)), (10, .int (nI qi_8)), (9, .int x_5), (8, .int 0), (7, .int (nI q_2)), (6, .int bg_2), (5, .int 0), (4, .int (nI (dn sn))), (0, .ref (a 0)), (1, .int (nI sn)), (2, .int (nI kr)), (3, .int p2)]) hx hb dX8_meanOf_187 hl (by decide) rfl (fun ls hl => ?_)
                  refine lv_aload_n hx hb dX8_meanOf_189 rfl (lv_at hl 10 rfl) ?_
                  refine va_get (D := D) (ci := 8) (v := .ref (a 30)) (C := RX8) (T := TX8) (N := 44) hx hb hts inX8 hown hK hP 0 rfl rfl 29 (by decide) (hts _ tw_1002) (fun _ h9 => h9) rfl dX8_meanOf_190 ?_
                  refine lv_iload hx hb dX8_meanOf_193 (lv_at hl 2 rfl) ?_
                  refine lv_aload_n hx hb dX8_meanOf_195 rfl (lv_at hl 10 rfl) ?_
                  refine lv_iload_n hx hb dX8_meanOf_196 rfl (lv_at hl 11 rfl) ?_
                  refine lv_iload hx hb dX8_meanOf_197 (lv_at hl 3 rfl) ?_
                  refine lv_iload hx hb dX8_meanOf_199 (lv_at hl 2 rfl) ?_
                  refine lv_iconst (v := 2) hx hb dX8_meanOf_201 (by decide) ?_
                  refine lv_irem hx hb dX8_meanOf_202 (by decide) ?_
                  refine lv_ti (y := (nI (kk_9 % 2))) (pk_rem (by omega) (by decide) (by decide)) ?_
                  refine lv_iconst (v := 1) hx hb dX8_meanOf_203 (by decide) ?_
                  refine lv_icmp_ne (tgt := 211) hx hb dX8_meanOf_204 (by decide) (fun c_27 => ?_) (fun c_27 => ?_)
                  · have c_27 : ¬ ((kk_9 % 2) = 1) := fun h => c_27 ((nI_eq (a := (kk_9 % 2)) (b := 1) (by omega) (by omega)).mpr h)
                    refine lv_iconst (v := 0) hx hb dX8_meanOf_211 (by decide) ?_
                    refine ro_i (D := D) (va_runV (As := [.int (nI sn), .int (nI qi_8), .int 0]) (rest := [.int (nI kk_9), .ref (a 30)]) ⟨hx, hb, hml, hown, hts⟩ ((m_chanceOf l D k st lo a tx t0 we rd ru rw ca fp wd nu na ts df db sd ffrees se tm gs sn qi_8 0 (by omega) (by omega)) H.size) (cwV 3 hts (gV tw_1210 tw_1212 tw_41 tw_87 tw_1213) rfl rfl rfl (by decide +kernel) ⟨Nat.le_of_ble_eq_true rfl, Nat.le_of_ble_eq_true rfl⟩) (pV hS hAlo hlo hP hK (va_Dlo hD hAlo) hZ [0, 3, 2] (by decide) rfl (ci := 8) (q := (RX8, TX8, 44)) (q0 := 0) rfl rfl) rfl rfl hl.1 rfl (lv_room (Nat.le_of_ble_eq_true rfl)) dX8_meanOf_212 ⟨Nat.le_of_ble_eq_true rfl, Nat.le_of_ble_eq_true rfl⟩) hS hA hP (fun r_28 H locs hw_28 hP hS => ?_)
                    try dsimp only at hw_28
                    refine lv_iload hx hb dX8_meanOf_215 (lv_at hl 0 rfl) ?_
                    refine lv_iload hx hb dX8_meanOf_217 (lv_at hl 8 rfl) ?_
                    refine lv_aload_n hx hb dX8_meanOf_219 rfl (lv_at hl 10 rfl) ?_
                    refine va_get (D := D) (ci := 8) (v := .ref (a 29)) (C := RX8) (T := TX8) (N := 44) hx hb hts inX8 hown hK hP 0 rfl rfl 28 (by decide) (hts _ tw_1001) (fun _ h9 => h9) rfl dX8_meanOf_220 ?_
                    refine lv_iconst (v := 2) hx hb dX8_meanOf_223 (by decide) ?_
                    refine lv_iload hx hb dX8_meanOf_224 (lv_at hl 1 rfl) ?_
                    refine lv_imul hx hb dX8_meanOf_226 ?_
                    refine lv_ti (y := (nI (2 * (kk_9 / 2)))) (pk_mul 2 (kk_9 / 2)) ?_
                    refine va_iald hx hb hK hP 9 1 rfl rfl (vp_in_nI (by omega) (by decide)) dX8_meanOf_227 ?_
                    refine lv_ti (y := (ff_8 (2 * (kk_9 / 2)))) (by rw [nI_clamp (by omega)]) ?_
                    refine lv_iadd hx hb dX8_meanOf_228 ?_
                    refine lv_topi (fun x_29 ex_29 => ?_)
                    refine ro_i (D := D) (va_runS (As := [.int r_28, .int r_26, .int x_29]) (rest := [.int (nI kk_9), .ref (a 30)]) ⟨hx, hb, hml, hown, hts⟩ ((m_mixed l D k st lo r_28 r_26 x_29) H.size) (va_cwS 3 hts (gS tw_1269 tw_1270 tw_87 tw_1271) rfl rfl rfl (by decide +kernel) ⟨Nat.le_of_ble_eq_true rfl, Nat.le_of_ble_eq_true rfl⟩) (pS hS hAlo hlo hP hK (va_Dlo hD hAlo) hZ [] (by decide) rfl) rfl rfl hl.1 rfl (lv_room (Nat.le_of_ble_eq_true rfl)) dX8_meanOf_229 ⟨Nat.le_of_ble_eq_true rfl, Nat.le_of_ble_eq_true rfl⟩) hS hA hP (fun r_30 H locs hw_30 hP hS => ?_)
                    try dsimp only at hw_30
                    refine va_iast hx hb hK hP hD hS 10 1 rfl rfl (vp_in_nI (by omega) (by decide)) dX8_meanOf_232 (fun H locs hP hD hS => ?_)
                    replace hP : va_P D classes [((a 0), .inr (8, (fX8 a (nI tx) fp (nI t0) wd (nI we) nu na (nI rd) ts (nI ru) (nI rw) (nI ca) df db sd))), (aI k (a 1) 3 (nF dn)), (aI k (a 4) 27 (sg se tm gs)), (aI k (a 2) 72 ffrees), (aI k (a 3) 72 fprices), (aI k (a 25) 4 (nF bm)), (aI k (a 26) 48 fbarSeen), (aI k (a 27) 48 fbarFrom), (aI k (a 28) 4 fruleRounds), (aI k (a 29) 52 ff_8), (aI k (a 30) 52 (upd fb_9 (Int32.toNatClampNeg (nI kk_9)) r_30))] H := hP
                    replace hD : va_D A [((a 0), .inr (8, (fX8 a (nI tx) fp (nI t0) wd (nI we) nu na (nI rd) ts (nI ru) (nI rw) (nI ca) df db sd))), (aI k (a 1) 3 (nF dn)), (aI k (a 4) 27 (sg se tm gs)), (aI k (a 2) 72 ffrees), (aI k (a 3) 72 fprices), (aI k (a 25) 4 (nF bm)), (aI k (a 26) 48 fbarSeen), (aI k (a 27) 48 fbarFrom), (aI k (a 28) 4 fruleRounds), (aI k (a 29) 52 ff_8), (aI k (a 30) 52 (upd fb_9 (Int32.toNatClampNeg (nI kk_9)) r_30))] := hD
                    generalize (upd fb_9 (Int32.toNatClampNeg (nI kk_9)) r_30) = f_31 at hP hD
                    refine lv_iinc (v := (nI (kk_9 + 1))) (lv' := [(11, .int (nI (kk_9 + 1))), (13, .int r_26), (12, .int (nI (kk_9 / 2))), (10, .int (nI qi_8)), (9, .int x_5), (8, .int 0), (7, .int (nI q_2)), (6, .int bg_2), (5, .int 0), (4, .int (nI (dn sn))), (0, .ref (a 0)), (1, .int (nI sn)), (2, .int (nI kr)), (3, .int p2)]) hx hb dX8_meanOf_233 hl (k := 2) rfl (nI_add kk_9 1) (by decide) rfl (fun ls hl => ?_)
                    refine lv_goto (tgt := 135) hx hb dX8_meanOf_236 (by decide) ?_
                    exact ih_9 _ (kk_9 + 1, f_31) _ _ _ (by omega) ⟨rfl, (by omega), hP, hD, hS, (lv_sub hl [0, 3, 4, 5, 6, 7, 8, 9, 10, 11, 12, 13] rfl)⟩
                  · have c_27 := (nI_eq (a := (kk_9 % 2)) (b := 1) (by omega) (by omega)).mp c_27
                    refine lv_iconst (v := 1) hx hb dX8_meanOf_207 (by decide) ?_
                    refine lv_goto (tgt := 212) hx hb dX8_meanOf_208 (by decide) ?_
                    refine ro_i (D := D) (va_runV (As := [.int (nI sn), .int (nI qi_8), .int 1]) (rest := [.int (nI kk_9), .ref (a 30)]) ⟨hx, hb, hml, hown, hts⟩ ((m_chanceOf l D k st lo a tx t0 we rd ru rw ca fp wd nu na ts df db sd ffrees se tm gs sn qi_8 1 (by omega) (by omega)) H.size) (cwV 3 hts (gV tw_1210 tw_1212 tw_41 tw_87 tw_1213) rfl rfl rfl (by decide +kernel) ⟨Nat.le_of_ble_eq_true rfl, Nat.le_of_ble_eq_true rfl⟩) (pV hS hAlo hlo hP hK (va_Dlo hD hAlo) hZ [0, 3, 2] (by decide) rfl (ci := 8) (q := (RX8, TX8, 44)) (q0 := 0) rfl rfl) rfl rfl hl.1 rfl (lv_room (Nat.le_of_ble_eq_true rfl)) dX8_meanOf_212 ⟨Nat.le_of_ble_eq_true rfl, Nat.le_of_ble_eq_true rfl⟩) hS hA hP (fun r_32 H locs hw_32 hP hS => ?_)
                    try dsimp only at hw_32
                    refine lv_iload hx hb dX8_meanOf_215 (lv_at hl 0 rfl) ?_
                    refine lv_iload hx hb dX8_meanOf_217 (lv_at hl 8 rfl) ?_
                    refine lv_aload_n hx hb dX8_meanOf_219 rfl (lv_at hl 10 rfl) ?_
                    refine va_get (D := D) (ci := 8) (v := .ref (a 29)) (C := RX8) (T := TX8) (N := 44) hx hb hts inX8 hown hK hP 0 rfl rfl 28 (by decide) (hts _ tw_1001) (fun _ h9 => h9) rfl dX8_meanOf_220 ?_
                    refine lv_iconst (v := 2) hx hb dX8_meanOf_223 (by decide) ?_
                    refine lv_iload hx hb dX8_meanOf_224 (lv_at hl 1 rfl) ?_
                    refine lv_imul hx hb dX8_meanOf_226 ?_
                    refine lv_ti (y := (nI (2 * (kk_9 / 2)))) (pk_mul 2 (kk_9 / 2)) ?_
                    refine va_iald hx hb hK hP 9 1 rfl rfl (vp_in_nI (by omega) (by decide)) dX8_meanOf_227 ?_
                    refine lv_ti (y := (ff_8 (2 * (kk_9 / 2)))) (by rw [nI_clamp (by omega)]) ?_
                    refine lv_iadd hx hb dX8_meanOf_228 ?_
                    refine lv_topi (fun x_33 ex_33 => ?_)
                    refine ro_i (D := D) (va_runS (As := [.int r_32, .int r_26, .int x_33]) (rest := [.int (nI kk_9), .ref (a 30)]) ⟨hx, hb, hml, hown, hts⟩ ((m_mixed l D k st lo r_32 r_26 x_33) H.size) (va_cwS 3 hts (gS tw_1269 tw_1270 tw_87 tw_1271) rfl rfl rfl (by decide +kernel) ⟨Nat.le_of_ble_eq_true rfl, Nat.le_of_ble_eq_true rfl⟩) (pS hS hAlo hlo hP hK (va_Dlo hD hAlo) hZ [] (by decide) rfl) rfl rfl hl.1 rfl (lv_room (Nat.le_of_ble_eq_true rfl)) dX8_meanOf_229 ⟨Nat.le_of_ble_eq_true rfl, Nat.le_of_ble_eq_true rfl⟩) hS hA hP (fun r_34 H locs hw_34 hP hS => ?_)
                    try dsimp only at hw_34
                    refine va_iast hx hb hK hP hD hS 10 1 rfl rfl (vp_in_nI (by omega) (by decide)) dX8_meanOf_232 (fun H locs hP hD hS => ?_)
                    replace hP : va_P D classes [((a 0), .inr (8, (fX8 a (nI tx) fp (nI t0) wd (nI we) nu na (nI rd) ts (nI ru) (nI rw) (nI ca) df db sd))), (aI k (a 1) 3 (nF dn)), (aI k (a 4) 27 (sg se tm gs)), (aI k (a 2) 72 ffrees), (aI k (a 3) 72 fprices), (aI k (a 25) 4 (nF bm)), (aI k (a 26) 48 fbarSeen), (aI k (a 27) 48 fbarFrom), (aI k (a 28) 4 fruleRounds), (aI k (a 29) 52 ff_8), (aI k (a 30) 52 (upd fb_9 (Int32.toNatClampNeg (nI kk_9)) r_34))] H := hP
                    replace hD : va_D A [((a 0), .inr (8, (fX8 a (nI tx) fp (nI t0) wd (nI we) nu na (nI rd) ts (nI ru) (nI rw) (nI ca) df db sd))), (aI k (a 1) 3 (nF dn)), (aI k (a 4) 27 (sg se tm gs)), (aI k (a 2) 72 ffrees), (aI k (a 3) 72 fprices), (aI k (a 25) 4 (nF bm)), (aI k (a 26) 48 fbarSeen), (aI k (a 27) 48 fbarFrom), (aI k (a 28) 4 fruleRounds), (aI k (a 29) 52 ff_8), (aI k (a 30) 52 (upd fb_9 (Int32.toNatClampNeg (nI kk_9)) r_34))] := hD
                    generalize (upd fb_9 (Int32.toNatClampNeg (nI kk_9)) r_34) = f_35 at hP hD
                    refine lv_iinc (v := (nI (kk_9 + 1))) (lv' := [(11, .int (nI (kk_9 + 1))), (13, .int r_26), (12, .int (nI (kk_9 / 2))), (10, .int (nI qi_8)), (9, .int x_5), (8, .int 0), (7, .int (nI q_2)), (6, .int bg_2), (5, .int 0), (4, .int (nI (dn sn))), (0, .ref (a 0)), (1, .int (nI sn)), (2, .int (nI kr)), (3, .int p2)]) hx hb dX8_meanOf_233 hl (k := 2) rfl (nI_add kk_9 1) (by decide) rfl (fun ls hl => ?_)
                    refine lv_goto (tgt := 135) hx hb dX8_meanOf_236 (by decide) ?_
                    exact ih_9 _ (kk_9 + 1, f_35) _ _ _ (by omega) ⟨rfl, (by omega), hP, hD, hS, (lv_sub hl [0, 3, 4, 5, 6, 7, 8, 9, 10, 11, 12, 13] rfl)⟩
          · have c_7 : ¬ (52 ≤ kk_6) := fun h => c_7 ((nI_leI (a := 52) (b := kk_6) (by omega) (by omega)).mpr h)
            refine lv_aload_n hx hb dX8_meanOf_106 rfl (lv_at hl 7 rfl) ?_
            refine va_get (D := D) (ci := 8) (v := .ref (a 29)) (C := RX8) (T := TX8) (N := 44) hx hb hts inX8 hown hK hP 0 rfl rfl 28 (by decide) (hts _ tw_1001) (fun _ h9 => h9) rfl dX8_meanOf_107 ?_
            refine lv_iload hx hb dX8_meanOf_110 (lv_at hl 0 rfl) ?_
            refine lv_iload hx hb dX8_meanOf_112 (lv_at hl 1 rfl) ?_
            refine va_iast hx hb hK hP hD hS 9 1 rfl rfl (vp_in_nI (by omega) (by decide)) dX8_meanOf_114 (fun H locs hP hD hS => ?_)
            replace hP : va_P D classes [((a 0), .inr (8, (fX8 a (nI tx) fp (nI t0) wd (nI we) nu na (nI rd) ts (nI ru) (nI rw) (nI ca) df db sd))), (aI k (a 1) 3 (nF dn)), (aI k (a 4) 27 (sg se tm gs)), (aI k (a 2) 72 ffrees), (aI k (a 3) 72 fprices), (aI k (a 25) 4 (nF bm)), (aI k (a 26) 48 fbarSeen), (aI k (a 27) 48 fbarFrom), (aI k (a 28) 4 fruleRounds), (aI k (a 29) 52 (upd ff_6 (Int32.toNatClampNeg (nI kk_6)) x_5)), (aI k (a 30) 52 fb_2)] H := hP
            replace hD : va_D A [((a 0), .inr (8, (fX8 a (nI tx) fp (nI t0) wd (nI we) nu na (nI rd) ts (nI ru) (nI rw) (nI ca) df db sd))), (aI k (a 1) 3 (nF dn)), (aI k (a 4) 27 (sg se tm gs)), (aI k (a 2) 72 ffrees), (aI k (a 3) 72 fprices), (aI k (a 25) 4 (nF bm)), (aI k (a 26) 48 fbarSeen), (aI k (a 27) 48 fbarFrom), (aI k (a 28) 4 fruleRounds), (aI k (a 29) 52 (upd ff_6 (Int32.toNatClampNeg (nI kk_6)) x_5)), (aI k (a 30) 52 fb_2)] := hD
            generalize (upd ff_6 (Int32.toNatClampNeg (nI kk_6)) x_5) = f_36 at hP hD
            refine lv_iinc (v := (nI (kk_6 + 1))) (lv' := [(10, .int (nI (kk_6 + 1))), (9, .int x_5), (8, .int 0), (7, .int (nI q_2)), (6, .int bg_2), (5, .int 0), (4, .int (nI (dn sn))), (0, .ref (a 0)), (1, .int (nI sn)), (2, .int (nI kr)), (3, .int p2)]) hx hb dX8_meanOf_115 hl (k := 0) rfl (nI_add kk_6 1) (by decide) rfl (fun ls hl => ?_)
            refine lv_goto (tgt := 99) hx hb dX8_meanOf_118 (by decide) ?_
            exact ih_6 _ (kk_6 + 1, f_36) _ _ _ (by omega) ⟨rfl, (by omega), hP, hD, hS, (lv_sub hl [0, 1, 2, 3, 4, 5, 6, 7, 8, 9, 10] rfl)⟩
        · refine lv_if_eq (tgt := 86) hx hb dX8_meanOf_75 (by decide) (fun _ => ?_) (fun h => absurd (by decide) h)
          refine lv_aload_n hx hb dX8_meanOf_86 rfl (lv_at hl 5 rfl) ?_
          refine lv_iload_n hx hb dX8_meanOf_87 rfl (lv_at hl 6 rfl) ?_
          refine lv_iload hx hb dX8_meanOf_88 (lv_at hl 1 rfl) ?_
          refine lv_iload_n hx hb dX8_meanOf_90 rfl (lv_at hl 8 rfl) ?_
          refine ro_i (D := D) (va_runV (As := [.int (nI sn), .int (nI q_2), .int p2]) (rest := []) ⟨hx, hb, hml, hown, hts⟩ ((m_byGarage l D k st lo a tx t0 we rd ru rw ca fp wd nu na ts df db sd dn se tm gs sn (nI q_2) p2 (by omega)) H.size) (cwV 3 hts (gV tw_1333 tw_1335 tw_60 tw_87 tw_1336) rfl rfl rfl (by decide +kernel) ⟨Nat.le_of_ble_eq_true rfl, Nat.le_of_ble_eq_true rfl⟩) (pV hS hAlo hlo hP hK (va_Dlo hD hAlo) hZ [0, 1, 2] (by decide) rfl (ci := 8) (q := (RX8, TX8, 44)) (q0 := 0) rfl rfl) rfl rfl hl.1 rfl (lv_room (Nat.le_of_ble_eq_true rfl)) dX8_meanOf_91 ⟨Nat.le_of_ble_eq_true rfl, Nat.le_of_ble_eq_true rfl⟩) hS hA hP (fun r_37 H locs hw_37 hP hS => ?_)
          try dsimp only at hw_37
          refine lv_istore (lv' := [(9, .int r_37), (8, .int 0), (7, .int (nI q_2)), (6, .int bg_2), (5, .int 0), (4, .int (nI (dn sn))), (0, .ref (a 0)), (1, .int (nI sn)), (2, .int (nI kr)), (3, .int p2)]) hx hb dX8_meanOf_94 hl (by decide) rfl (fun ls hl => ?_)
          refine lv_iconst (v := 0) hx hb dX8_meanOf_96 (by decide) ?_
          refine lv_istore (lv' := [(10, .int 0), (9, .int r_37), (8, .int 0), (7, .int (nI q_2)), (6, .int bg_2), (5, .int 0), (4, .int (nI (dn sn))), (0, .ref (a 0)), (1, .int (nI sn)), (2, .int (nI kr)), (3, .int p2)]) hx hb dX8_meanOf_97 hl (by decide) rfl (fun ls hl => ?_)
          refine W_loop (σ := Nat × (Nat → Int32)) (fun (n_ : Nat) (x_ : Nat × (Nat → Int32)) (H : Heap) (locs : List Loc) (ls : Array Slot) => match x_ with | (kk_38, ff_38) => n_ = 52 - kk_38 ∧ (kk_38 ≤ 52) ∧ va_P D classes [((a 0), .inr (8, (fX8 a (nI tx) fp (nI t0) wd (nI we) nu na (nI rd) ts (nI ru) (nI rw) (nI ca) df db sd))), (aI k (a 1) 3 (nF dn)), (aI k (a 4) 27 (sg se tm gs)), (aI k (a 2) 72 ffrees), (aI k (a 3) 72 fprices), (aI k (a 25) 4 (nF bm)), (aI k (a 26) 48 fbarSeen), (aI k (a 27) 48 fbarFrom), (aI k (a 28) 4 fruleRounds), (aI k (a 29) 52 ff_38), (aI k (a 30) 52 fb_2)] H ∧ va_D A [((a 0), .inr (8, (fX8 a (nI tx) fp (nI t0) wd (nI we) nu na (nI rd) ts (nI ru) (nI rw) (nI ca) df db sd))), (aI k (a 1) 3 (nF dn)), (aI k (a 4) 27 (sg se tm gs)), (aI k (a 2) 72 ffrees), (aI k (a 3) 72 fprices), (aI k (a 25) 4 (nF bm)), (aI k (a 26) 48 fbarSeen), (aI k (a 27) 48 fbarFrom), (aI k (a 28) 4 fruleRounds), (aI k (a 29) 52 ff_38), (aI k (a 30) 52 fb_2)] ∧ va_S A s.heap H locs ∧ lv_has ls 14 [(10, .int (nI kk_38)), (9, .int r_37), (8, .int 0), (7, .int (nI q_2)), (6, .int bg_2), (5, .int 0), (4, .int (nI (dn sn))), (0, .ref (a 0)), (1, .int (nI sn)), (2, .int (nI kr)), (3, .int p2)]) (fun n_38 x_38 H locs ls hI ih_38 => ?_) _ (0, ff_2) ⟨rfl, (by omega), hP, hD, hS, (lv_sub hl [0, 1, 2, 3, 4, 5, 6, 7, 8, 9, 10] rfl)⟩
          obtain ⟨kk_38, ff_38⟩ := x_38
          obtain ⟨hm_38, hv_38, hP, hD, hS, hl⟩ := hI
          subst hm_38
          refine lv_iload hx hb dX8_meanOf_99 (lv_at hl 0 rfl) ?_
          refine lv_bipush (v := 52) hx hb dX8_meanOf_101 (by decide) ?_
          refine lv_icmp_ge (tgt := 121) hx hb dX8_meanOf_103 (by decide) (fun c_39 => ?_) (fun c_39 => ?_)
          · have c_39 := (nI_leI (a := 52) (b := kk_38) (by omega) (by omega)).mp c_39
            refine lv_iload hx hb dX8_meanOf_121 (lv_at hl 6 rfl) ?_
            refine lv_iconst (v := 1) hx hb dX8_meanOf_123 (by decide) ?_
            refine lv_isub hx hb dX8_meanOf_124 ?_
            refine lv_ti (y := (nI (dn sn) - 1)) rfl ?_
            refine lv_istore (lv' := [(10, .int (nI (dn sn) - 1)), (9, .int r_37), (8, .int 0), (7, .int (nI q_2)), (6, .int bg_2), (5, .int 0), (4, .int (nI (dn sn))), (0, .ref (a 0)), (1, .int (nI sn)), (2, .int (nI kr)), (3, .int p2)]) hx hb dX8_meanOf_125 hl (by decide) rfl (fun ls hl => ?_)
            refine W_loop (σ := Nat × (Nat → Int32) × (Nat → Int32)) (fun (n_ : Nat) (x_ : Nat × (Nat → Int32) × (Nat → Int32)) (H : Heap) (locs : List Loc) (ls : Array Slot) => match x_ with | (qi_40, ff_40, fb_40) => n_ = 2 * qi_40 ∧ (qi_40 ≤ dn sn) ∧ va_P D classes [((a 0), .inr (8, (fX8 a (nI tx) fp (nI t0) wd (nI we) nu na (nI rd) ts (nI ru) (nI rw) (nI ca) df db sd))), (aI k (a 1) 3 (nF dn)), (aI k (a 4) 27 (sg se tm gs)), (aI k (a 2) 72 ffrees), (aI k (a 3) 72 fprices), (aI k (a 25) 4 (nF bm)), (aI k (a 26) 48 fbarSeen), (aI k (a 27) 48 fbarFrom), (aI k (a 28) 4 fruleRounds), (aI k (a 29) 52 ff_40), (aI k (a 30) 52 fb_40)] H ∧ va_D A [((a 0), .inr (8, (fX8 a (nI tx) fp (nI t0) wd (nI we) nu na (nI rd) ts (nI ru) (nI rw) (nI ca) df db sd))), (aI k (a 1) 3 (nF dn)), (aI k (a 4) 27 (sg se tm gs)), (aI k (a 2) 72 ffrees), (aI k (a 3) 72 fprices), (aI k (a 25) 4 (nF bm)), (aI k (a 26) 48 fbarSeen), (aI k (a 27) 48 fbarFrom), (aI k (a 28) 4 fruleRounds), (aI k (a 29) 52 ff_40), (aI k (a 30) 52 fb_40)] ∧ va_S A s.heap H locs ∧ lv_has ls 14 [(10, .int (nI qi_40 - 1)), (9, .int r_37), (8, .int 0), (7, .int (nI q_2)), (6, .int bg_2), (5, .int 0), (4, .int (nI (dn sn))), (0, .ref (a 0)), (1, .int (nI sn)), (2, .int (nI kr)), (3, .int p2)]) (fun n_40 x_40 H locs ls hI ih_40 => ?_) _ (dn sn, ff_38, fb_2) ⟨rfl, (by omega), hP, hD, hS, (lv_sub hl [0, 1, 2, 3, 4, 5, 6, 7, 8, 9, 10] rfl)⟩
            obtain ⟨qi_40, ff_40, fb_40⟩ := x_40
            obtain ⟨hm_40, hv_40, hP, hD, hS, hl⟩ := hI
            subst hm_40
            rcases qi_40 with _ | qi_40
            · rw [dn0] at hl
              refine lv_iload hx hb dX8_meanOf_127 (lv_at hl 0 rfl) ?_
              refine lv_if_lt (tgt := 275) hx hb dX8_meanOf_129 (by decide) (fun _ => ?_) (fun h => absurd (by decide) h)
              refine lv_aload_n hx hb dX8_meanOf_275 rfl (lv_at hl 7 rfl) ?_
              refine va_get (D := D) (ci := 8) (v := .ref (a 29)) (C := RX8) (T := TX8) (N := 44) hx hb hts inX8 hown hK hP 0 rfl rfl 28 (by decide) (hts _ tw_1001) (fun _ h9 => h9) rfl dX8_meanOf_276 ?_
              refine lv_iconst (v := 0) hx hb dX8_meanOf_279 (by decide) ?_
              refine va_iald hx hb hK hP 9 1 rfl rfl (by unfold vp_in; decide) dX8_meanOf_280 ?_
              refine lv_ti (y := (ff_40 0)) (by rfl) ?_
              refine lv_istore (lv' := [(6, .int (ff_40 0)), (10, .int (-1)), (9, .int r_37), (8, .int 0), (7, .int (nI q_2)), (5, .int 0), (4, .int (nI (dn sn))), (0, .ref (a 0)), (1, .int (nI sn)), (2, .int (nI kr)), (3, .int p2)]) hx hb dX8_meanOf_281 hl (by decide) rfl (fun ls hl => ?_)
              refine lv_iinc (v := (nI q_2 - 1)) (lv' := [(7, .int (nI q_2 - 1)), (6, .int (ff_40 0)), (10, .int (-1)), (9, .int r_37), (8, .int 0), (5, .int 0), (4, .int (nI (dn sn))), (0, .ref (a 0)), (1, .int (nI sn)), (2, .int (nI kr)), (3, .int p2)]) hx hb dX8_meanOf_283 hl (k := 4) rfl (dn1 _) (by decide) rfl (fun ls hl => ?_)
              refine lv_goto (tgt := 34) hx hb dX8_meanOf_286 (by decide) ?_
              exact ih_2 _ (q_2, (ff_40 0), ff_40, fb_40) _ _ _ (by omega) ⟨rfl, (by omega), hP, hD, hS, (lv_sub hl [0, 1, 5, 6, 7, 8, 9, 10] rfl)⟩
            · rw [nI_pred] at hl
              refine lv_iload hx hb dX8_meanOf_127 (lv_at hl 0 rfl) ?_
              refine lv_if_lt (tgt := 275) hx hb dX8_meanOf_129 (by decide) (fun h => absurd h (nI_pos0 (by omega))) (fun _ => ?_)
              refine lv_iconst (v := 0) hx hb dX8_meanOf_132 (by decide) ?_
              refine lv_istore (lv' := [(11, .int 0), (10, .int (nI qi_40)), (9, .int r_37), (8, .int 0), (7, .int (nI q_2)), (6, .int bg_2), (5, .int 0), (4, .int (nI (dn sn))), (0, .ref (a 0)), (1, .int (nI sn)), (2, .int (nI kr)), (3, .int p2)]) hx hb dX8_meanOf_133 hl (by decide) rfl (fun ls hl => ?_)
              refine W_loop (σ := Nat × (Nat → Int32)) (fun (n_ : Nat) (x_ : Nat × (Nat → Int32)) (H : Heap) (locs : List Loc) (ls : Array Slot) => match x_ with | (kk_41, fb_41) => n_ = 50 - kk_41 ∧ (kk_41 ≤ 50) ∧ va_P D classes [((a 0), .inr (8, (fX8 a (nI tx) fp (nI t0) wd (nI we) nu na (nI rd) ts (nI ru) (nI rw) (nI ca) df db sd))), (aI k (a 1) 3 (nF dn)), (aI k (a 4) 27 (sg se tm gs)), (aI k (a 2) 72 ffrees), (aI k (a 3) 72 fprices), (aI k (a 25) 4 (nF bm)), (aI k (a 26) 48 fbarSeen), (aI k (a 27) 48 fbarFrom), (aI k (a 28) 4 fruleRounds), (aI k (a 29) 52 ff_40), (aI k (a 30) 52 fb_41)] H ∧ va_D A [((a 0), .inr (8, (fX8 a (nI tx) fp (nI t0) wd (nI we) nu na (nI rd) ts (nI ru) (nI rw) (nI ca) df db sd))), (aI k (a 1) 3 (nF dn)), (aI k (a 4) 27 (sg se tm gs)), (aI k (a 2) 72 ffrees), (aI k (a 3) 72 fprices), (aI k (a 25) 4 (nF bm)), (aI k (a 26) 48 fbarSeen), (aI k (a 27) 48 fbarFrom), (aI k (a 28) 4 fruleRounds), (aI k (a 29) 52 ff_40), (aI k (a 30) 52 fb_41)] ∧ va_S A s.heap H locs ∧ lv_has ls 14 [(11, .int (nI kk_41)), (10, .int (nI qi_40)), (9, .int r_37), (8, .int 0), (7, .int (nI q_2)), (6, .int bg_2), (5, .int 0), (4, .int (nI (dn sn))), (0, .ref (a 0)), (1, .int (nI sn)), (2, .int (nI kr)), (3, .int p2)]) (fun n_41 x_41 H locs ls hI ih_41 => ?_) _ (0, fb_40) ⟨rfl, (by omega), hP, hD, hS, (lv_sub hl [0, 1, 2, 3, 4, 5, 6, 7, 8, 9, 10, 11] rfl)⟩
              obtain ⟨kk_41, fb_41⟩ := x_41
              obtain ⟨hm_41, hv_41, hP, hD, hS, hl⟩ := hI
              subst hm_41
              refine lv_iload hx hb dX8_meanOf_135 (lv_at hl 0 rfl) ?_
              refine lv_bipush (v := 50) hx hb dX8_meanOf_137 (by decide) ?_
              refine lv_icmp_ge (tgt := 239) hx hb dX8_meanOf_139 (by decide) (fun c_42 => ?_) (fun c_42 => ?_)
              · have c_42 := (nI_leI (a := 50) (b := kk_41) (by omega) (by omega)).mp c_42
                refine lv_iconst (v := 0) hx hb dX8_meanOf_239 (by decide) ?_
                refine lv_istore (lv' := [(11, .int 0), (10, .int (nI qi_40)), (9, .int r_37), (8, .int 0), (7, .int (nI q_2)), (6, .int bg_2), (5, .int 0), (4, .int (nI (dn sn))), (0, .ref (a 0)), (1, .int (nI sn)), (2, .int (nI kr)), (3, .int p2)]) hx hb dX8_meanOf_240 hl (by decide) rfl (fun ls hl => ?_)
                refine W_loop (σ := Nat × (Nat → Int32)) (fun (n_ : Nat) (x_ : Nat × (Nat → Int32)) (H : Heap) (locs : List Loc) (ls : Array Slot) => match x_ with | (kk_43, ff_43) => n_ = 50 - kk_43 ∧ (kk_43 ≤ 50) ∧ va_P D classes [((a 0), .inr (8, (fX8 a (nI tx) fp (nI t0) wd (nI we) nu na (nI rd) ts (nI ru) (nI rw) (nI ca) df db sd))), (aI k (a 1) 3 (nF dn)), (aI k (a 4) 27 (sg se tm gs)), (aI k (a 2) 72 ffrees), (aI k (a 3) 72 fprices), (aI k (a 25) 4 (nF bm)), (aI k (a 26) 48 fbarSeen), (aI k (a 27) 48 fbarFrom), (aI k (a 28) 4 fruleRounds), (aI k (a 29) 52 ff_43), (aI k (a 30) 52 fb_41)] H ∧ va_D A [((a 0), .inr (8, (fX8 a (nI tx) fp (nI t0) wd (nI we) nu na (nI rd) ts (nI ru) (nI rw) (nI ca) df db sd))), (aI k (a 1) 3 (nF dn)), (aI k (a 4) 27 (sg se tm gs)), (aI k (a 2) 72 ffrees), (aI k (a 3) 72 fprices), (aI k (a 25) 4 (nF bm)), (aI k (a 26) 48 fbarSeen), (aI k (a 27) 48 fbarFrom), (aI k (a 28) 4 fruleRounds), (aI k (a 29) 52 ff_43), (aI k (a 30) 52 fb_41)] ∧ va_S A s.heap H locs ∧ lv_has ls 14 [(11, .int (nI kk_43)), (10, .int (nI qi_40)), (9, .int r_37), (8, .int 0), (7, .int (nI q_2)), (6, .int bg_2), (5, .int 0), (4, .int (nI (dn sn))), (0, .ref (a 0)), (1, .int (nI sn)), (2, .int (nI kr)), (3, .int p2)]) (fun n_43 x_43 H locs ls hI ih_43 => ?_) _ (0, ff_40) ⟨rfl, (by omega), hP, hD, hS, (lv_sub hl [0, 1, 2, 3, 4, 5, 6, 7, 8, 9, 10, 11] rfl)⟩
                obtain ⟨kk_43, ff_43⟩ := x_43
                obtain ⟨hm_43, hv_43, hP, hD, hS, hl⟩ := hI
                subst hm_43
                refine lv_iload hx hb dX8_meanOf_242 (lv_at hl 0 rfl) ?_
                refine lv_bipush (v := 50) hx hb dX8_meanOf_244 (by decide) ?_
                refine lv_icmp_ge (tgt := 269) hx hb dX8_meanOf_246 (by decide) (fun c_44 => ?_) (fun c_44 => ?_)
                · have c_44 := (nI_leI (a := 50) (b := kk_43) (by omega) (by omega)).mp c_44
                  refine lv_iinc (v := (nI qi_40 - 1)) (lv' := [(10, .int (nI qi_40 - 1)), (11, .int (nI kk_43)), (9, .int r_37), (8, .int 0), (7, .int (nI q_2)), (6, .int bg_2), (5, .int 0), (4, .int (nI (dn sn))), (0, .ref (a 0)), (1, .int (nI sn)), (2, .int (nI kr)), (3, .int p2)]) hx hb dX8_meanOf_269 hl (k := 1) rfl (dn1 _) (by decide) rfl (fun ls hl => ?_)
                  refine lv_goto (tgt := 127) hx hb dX8_meanOf_272 (by decide) ?_
                  exact ih_40 _ (qi_40, ff_43, fb_41) _ _ _ (by omega) ⟨rfl, (by omega), hP, hD, hS, (lv_sub hl [0, 2, 3, 4, 5, 6, 7, 8, 9, 10, 11] rfl)⟩
                · have c_44 : ¬ (50 ≤ kk_43) := fun h => c_44 ((nI_leI (a := 50) (b := kk_43) (by omega) (by omega)).mpr h)
                  refine lv_aload_n hx hb dX8_meanOf_249 rfl (lv_at hl 8 rfl) ?_
                  refine va_get (D := D) (ci := 8) (v := .ref (a 29)) (C := RX8) (T := TX8) (N := 44) hx hb hts inX8 hown hK hP 0 rfl rfl 28 (by decide) (hts _ tw_1001) (fun _ h9 => h9) rfl dX8_meanOf_250 ?_
                  refine lv_iload hx hb dX8_meanOf_253 (lv_at hl 0 rfl) ?_
                  refine lv_aload_n hx hb dX8_meanOf_255 rfl (lv_at hl 8 rfl) ?_
                  refine va_get (D := D) (ci := 8) (v := .ref (a 30)) (C := RX8) (T := TX8) (N := 44) hx hb hts inX8 hown hK hP 0 rfl rfl 29 (by decide) (hts _ tw_1002) (fun _ h9 => h9) rfl dX8_meanOf_256 ?_
                  refine lv_iload hx hb dX8_meanOf_259 (lv_at hl 0 rfl) ?_
                  refine va_iald hx hb hK hP 10 1 rfl rfl (vp_in_nI (by omega) (by decide)) dX8_meanOf_261 ?_
                  refine lv_ti (y := (fb_41 kk_43)) (by rw [nI_clamp (by omega)]) ?_
                  refine va_iast hx hb hK hP hD hS 9 1 rfl rfl (vp_in_nI (by omega) (by decide)) dX8_meanOf_262 (fun H locs hP hD hS => ?_)
                  replace hP : va_P D classes [((a 0), .inr (8, (fX8 a (nI tx) fp (nI t0) wd (nI we) nu na (nI rd) ts (nI ru) (nI rw) (nI ca) df db sd))), (aI k (a 1) 3 (nF dn)), (aI k (a 4) 27 (sg se tm gs)), (aI k (a 2) 72 ffrees), (aI k (a 3) 72 fprices), (aI k (a 25) 4 (nF bm)), (aI k (a 26) 48 fbarSeen), (aI k (a 27) 48 fbarFrom), (aI k (a 28) 4 fruleRounds), (aI k (a 29) 52 (upd ff_43 (Int32.toNatClampNeg (nI kk_43)) (fb_41 kk_43))), (aI k (a 30) 52 fb_41)] H := hP
                  replace hD : va_D A [((a 0), .inr (8, (fX8 a (nI tx) fp (nI t0) wd (nI we) nu na (nI rd) ts (nI ru) (nI rw) (nI ca) df db sd))), (aI k (a 1) 3 (nF dn)), (aI k (a 4) 27 (sg se tm gs)), (aI k (a 2) 72 ffrees), (aI k (a 3) 72 fprices), (aI k (a 25) 4 (nF bm)), (aI k (a 26) 48 fbarSeen), (aI k (a 27) 48 fbarFrom), (aI k (a 28) 4 fruleRounds), (aI k (a 29) 52 (upd ff_43 (Int32.toNatClampNeg (nI kk_43)) (fb_41 kk_43))), (aI k (a 30) 52 fb_41)] := hD
                  generalize (upd ff_43 (Int32.toNatClampNeg (nI kk_43)) (fb_41 kk_43)) = f_45 at hP hD
                  refine lv_iinc (v := (nI (kk_43 + 1))) (lv' := [(11, .int (nI (kk_43 + 1))), (10, .int (nI qi_40)), (9, .int r_37), (8, .int 0), (7, .int (nI q_2)), (6, .int bg_2), (5, .int 0), (4, .int (nI (dn sn))), (0, .ref (a 0)), (1, .int (nI sn)), (2, .int (nI kr)), (3, .int p2)]) hx hb dX8_meanOf_263 hl (k := 0) rfl (nI_add kk_43 1) (by decide) rfl (fun ls hl => ?_)
                  refine lv_goto (tgt := 242) hx hb dX8_meanOf_266 (by decide) ?_
                  exact ih_43 _ (kk_43 + 1, f_45) _ _ _ (by omega) ⟨rfl, (by omega), hP, hD, hS, (lv_sub hl [0, 1, 2, 3, 4, 5, 6, 7, 8, 9, 10, 11] rfl)⟩
              · have c_42 : ¬ (50 ≤ kk_41) := fun h => c_42 ((nI_leI (a := 50) (b := kk_41) (by omega) (by omega)).mpr h)
                refine lv_iload hx hb dX8_meanOf_142 (lv_at hl 0 rfl) ?_
                refine lv_iconst (v := 2) hx hb dX8_meanOf_144 (by decide) ?_
                refine lv_idiv hx hb dX8_meanOf_145 (by decide) ?_
                refine lv_ti (y := (nI (kk_41 / 2))) (pk_div (by omega) (by decide) (by decide)) ?_
                refine lv_istore (lv' := [(12, .int (nI (kk_41 / 2))), (11, .int (nI kk_41)), (10, .int (nI qi_40)), (9, .int r_37), (8, .int 0), (7, .int (nI q_2)), (6, .int bg_2), (5, .int 0), (4, .int (nI (dn sn))), (0, .ref (a 0)), (1, .int (nI sn)), (2, .int (nI kr)), (3, .int p2)]) hx hb dX8_meanOf_146 hl (by decide) rfl (fun ls hl => ?_)
                refine lv_aload_n hx hb dX8_meanOf_148 rfl (lv_at hl 9 rfl) ?_
                refine lv_iload_n hx hb dX8_meanOf_149 rfl (lv_at hl 11 rfl) ?_
                refine lv_iload hx hb dX8_meanOf_150 (lv_at hl 2 rfl) ?_
                refine lv_iload hx hb dX8_meanOf_152 (lv_at hl 0 rfl) ?_
                refine ro_i (D := D) (va_runV (As := [.int (nI kr), .int (nI qi_40), .int (nI (kk_41 / 2))]) (rest := []) ⟨hx, hb, hml, hown, hts⟩ ((m_isFor l D k st lo a tx t0 we rd ru rw ca fp wd nu na ts df db sd bm fbarSeen fbarFrom kr (nI qi_40) (nI (kk_41 / 2)) hbm (by omega)) H.size) (cwV 3 hts (gV tw_1338 tw_1340 tw_61 tw_87 tw_1341) rfl rfl rfl (by decide +kernel) ⟨Nat.le_of_ble_eq_true rfl, Nat.le_of_ble_eq_true rfl⟩) (pV hS hAlo hlo hP hK (va_Dlo hD hAlo) hZ [0, 5, 6, 7] (by decide) rfl (ci := 8) (q := (RX8, TX8, 44)) (q0 := 0) rfl rfl) rfl rfl hl.1 rfl (lv_room (Nat.le_of_ble_eq_true rfl)) dX8_meanOf_154 ⟨Nat.le_of_ble_eq_true rfl, Nat.le_of_ble_eq_true rfl⟩) hS hA hP (fun r_46 H locs hw_46 hP hS => ?_)
                try dsimp only at hw_46
                refine lv_if_eq (tgt := 173) hx hb dX8_meanOf_157 (by decide) (fun c_47 => ?_) (fun c_47 => ?_)
                · refine lv_iload hx hb dX8_meanOf_173 (lv_at hl 7 rfl) ?_
                  refine lv_aload_n hx hb dX8_meanOf_175 rfl (lv_at hl 9 rfl) ?_
                  refine va_get (D := D) (ci := 8) (v := .ref (a 29)) (C := RX8) (T := TX8) (N := 44) hx hb hts inX8 hown hK hP 0 rfl rfl 28 (by decide) (hts _ tw_1001) (fun _ h9 => h9) rfl dX8_meanOf_176 ?_
                  refine lv_iconst (v := 2) hx hb dX8_meanOf_179 (by decide) ?_
                  refine lv_iload hx hb dX8_meanOf_180 (lv_at hl 0 rfl) ?_
                  refine lv_imul hx hb dX8_meanOf_182 ?_
                  refine lv_ti (y := (nI (2 * (kk_41 / 2)))) (pk_mul 2 (kk_41 / 2)) ?_
                  refine lv_iconst (v := 3) hx hb dX8_meanOf_183 (by decide) ?_
                  refine lv_iadd hx hb dX8_meanOf_184 ?_
                  refine lv_ti (y := (nI (2 * (kk_41 / 2) + 3))) (nI_add (2 * (kk_41 / 2)) 3) ?_
                  refine va_iald hx hb hK hP 9 1 rfl rfl (vp_in_nI (by omega) (by decide)) dX8_meanOf_185 ?_
                  refine lv_ti (y := (ff_40 (2 * (kk_41 / 2) + 3))) (by rw [nI_clamp (by omega)]) ?_
                  refine lv_iadd hx hb dX8_meanOf_186 ?_
                  refine lv_topi (fun x_48 ex_48 => ?_)
                  refine lv_istore (lv' := [(13, .int x_48), (12, .int (nI (kk_41 / 2))), (11, .int (nI kk_41)), (10, .int (nI qi_40)), (9, .int r_37), (8, .int 0), (7, .int (nI q_2)), (6, .int bg_2), (5, .int 0), (4, .int (nI (dn sn))), (0, .ref (a 0)), (1, .int (nI sn)), (2, .int (nI kr)), (3, .int p2)]) hx hb dX8_meanOf_187 hl (by decide) rfl (fun ls hl => ?_)
                  refine lv_aload_n hx hb dX8_meanOf_189 rfl (lv_at hl 10 rfl) ?_
                  refine va_get (D := D) (ci := 8) (v := .ref (a 30)) (C := RX8) (T := TX8) (N := 44) hx hb hts inX8 hown hK hP 0 rfl rfl 29 (by decide) (hts _ tw_1002) (fun _ h9 => h9) rfl dX8_meanOf_190 ?_
                  refine lv_iload hx hb dX8_meanOf_193 (lv_at hl 2 rfl) ?_
                  refine lv_aload_n hx hb dX8_meanOf_195 rfl (lv_at hl 10 rfl) ?_
                  refine lv_iload_n hx hb dX8_meanOf_196 rfl (lv_at hl 11 rfl) ?_
                  refine lv_iload hx hb dX8_meanOf_197 (lv_at hl 3 rfl) ?_
                  refine lv_iload hx hb dX8_meanOf_199 (lv_at hl 2 rfl) ?_
                  refine lv_iconst (v := 2) hx hb dX8_meanOf_201 (by decide) ?_
                  refine lv_irem hx hb dX8_meanOf_202 (by decide) ?_
                  refine lv_ti (y := (nI (kk_41 % 2))) (pk_rem (by omega) (by decide) (by decide)) ?_
                  refine lv_iconst (v := 1) hx hb dX8_meanOf_203 (by decide) ?_
                  refine lv_icmp_ne (tgt := 211) hx hb dX8_meanOf_204 (by decide) (fun c_49 => ?_) (fun c_49 => ?_)
                  · have c_49 : ¬ ((kk_41 % 2) = 1) := fun h => c_49 ((nI_eq (a := (kk_41 % 2)) (b := 1) (by omega) (by omega)).mpr h)
                    refine lv_iconst (v := 0) hx hb dX8_meanOf_211 (by decide) ?_
                    refine ro_i (D := D) (va_runV (As := [.int (nI sn), .int (nI qi_40), .int 0]) (rest := [.int (nI kk_41), .ref (a 30)]) ⟨hx, hb, hml, hown, hts⟩ ((m_chanceOf l D k st lo a tx t0 we rd ru rw ca fp wd nu na ts df db sd ffrees se tm gs sn qi_40 0 (by omega) (by omega)) H.size) (cwV 3 hts (gV tw_1210 tw_1212 tw_41 tw_87 tw_1213) rfl rfl rfl (by decide +kernel) ⟨Nat.le_of_ble_eq_true rfl, Nat.le_of_ble_eq_true rfl⟩) (pV hS hAlo hlo hP hK (va_Dlo hD hAlo) hZ [0, 3, 2] (by decide) rfl (ci := 8) (q := (RX8, TX8, 44)) (q0 := 0) rfl rfl) rfl rfl hl.1 rfl (lv_room (Nat.le_of_ble_eq_true rfl)) dX8_meanOf_212 ⟨Nat.le_of_ble_eq_true rfl, Nat.le_of_ble_eq_true rfl⟩) hS hA hP (fun r_50 H locs hw_50 hP hS => ?_)
                    try dsimp only at hw_50
                    refine lv_iload hx hb dX8_meanOf_215 (lv_at hl 0 rfl) ?_
                    refine lv_iload hx hb dX8_meanOf_217 (lv_at hl 8 rfl) ?_
                    refine lv_aload_n hx hb dX8_meanOf_219 rfl (lv_at hl 10 rfl) ?_
                    refine va_get (D := D) (ci := 8) (v := .ref (a 29)) (C := RX8) (T := TX8) (N := 44) hx hb hts inX8 hown hK hP 0 rfl rfl 28 (by decide) (hts _ tw_1001) (fun _ h9 => h9) rfl dX8_meanOf_220 ?_
                    refine lv_iconst (v := 2) hx hb dX8_meanOf_223 (by decide) ?_
                    refine lv_iload hx hb dX8_meanOf_224 (lv_at hl 1 rfl) ?_
                    refine lv_imul hx hb dX8_meanOf_226 ?_
                    refine lv_ti (y := (nI (2 * (kk_41 / 2)))) (pk_mul 2 (kk_41 / 2)) ?_
                    refine va_iald hx hb hK hP 9 1 rfl rfl (vp_in_nI (by omega) (by decide)) dX8_meanOf_227 ?_
                    refine lv_ti (y := (ff_40 (2 * (kk_41 / 2)))) (by rw [nI_clamp (by omega)]) ?_
                    refine lv_iadd hx hb dX8_meanOf_228 ?_
                    refine lv_topi (fun x_51 ex_51 => ?_)
                    refine ro_i (D := D) (va_runS (As := [.int r_50, .int x_48, .int x_51]) (rest := [.int (nI kk_41), .ref (a 30)]) ⟨hx, hb, hml, hown, hts⟩ ((m_mixed l D k st lo r_50 x_48 x_51) H.size) (va_cwS 3 hts (gS tw_1269 tw_1270 tw_87 tw_1271) rfl rfl rfl (by decide +kernel) ⟨Nat.le_of_ble_eq_true rfl, Nat.le_of_ble_eq_true rfl⟩) (pS hS hAlo hlo hP hK (va_Dlo hD hAlo) hZ [] (by decide) rfl) rfl rfl hl.1 rfl (lv_room (Nat.le_of_ble_eq_true rfl)) dX8_meanOf_229 ⟨Nat.le_of_ble_eq_true rfl, Nat.le_of_ble_eq_true rfl⟩) hS hA hP (fun r_52 H locs hw_52 hP hS => ?_)
                    try dsimp only at hw_52
                    refine va_iast hx hb hK hP hD hS 10 1 rfl rfl (vp_in_nI (by omega) (by decide)) dX8_meanOf_232 (fun H locs hP hD hS => ?_)
                    replace hP : va_P D classes [((a 0), .inr (8, (fX8 a (nI tx) fp (nI t0) wd (nI we) nu na (nI rd) ts (nI ru) (nI rw) (nI ca) df db sd))), (aI k (a 1) 3 (nF dn)), (aI k (a 4) 27 (sg se tm gs)), (aI k (a 2) 72 ffrees), (aI k (a 3) 72 fprices), (aI k (a 25) 4 (nF bm)), (aI k (a 26) 48 fbarSeen), (aI k (a 27) 48 fbarFrom), (aI k (a 28) 4 fruleRounds), (aI k (a 29) 52 ff_40), (aI k (a 30) 52 (upd fb_41 (Int32.toNatClampNeg (nI kk_41)) r_52))] H := hP
                    replace hD : va_D A [((a 0), .inr (8, (fX8 a (nI tx) fp (nI t0) wd (nI we) nu na (nI rd) ts (nI ru) (nI rw) (nI ca) df db sd))), (aI k (a 1) 3 (nF dn)), (aI k (a 4) 27 (sg se tm gs)), (aI k (a 2) 72 ffrees), (aI k (a 3) 72 fprices), (aI k (a 25) 4 (nF bm)), (aI k (a 26) 48 fbarSeen), (aI k (a 27) 48 fbarFrom), (aI k (a 28) 4 fruleRounds), (aI k (a 29) 52 ff_40), (aI k (a 30) 52 (upd fb_41 (Int32.toNatClampNeg (nI kk_41)) r_52))] := hD
                    generalize (upd fb_41 (Int32.toNatClampNeg (nI kk_41)) r_52) = f_53 at hP hD
                    refine lv_iinc (v := (nI (kk_41 + 1))) (lv' := [(11, .int (nI (kk_41 + 1))), (13, .int x_48), (12, .int (nI (kk_41 / 2))), (10, .int (nI qi_40)), (9, .int r_37), (8, .int 0), (7, .int (nI q_2)), (6, .int bg_2), (5, .int 0), (4, .int (nI (dn sn))), (0, .ref (a 0)), (1, .int (nI sn)), (2, .int (nI kr)), (3, .int p2)]) hx hb dX8_meanOf_233 hl (k := 2) rfl (nI_add kk_41 1) (by decide) rfl (fun ls hl => ?_)
                    refine lv_goto (tgt := 135) hx hb dX8_meanOf_236 (by decide) ?_
                    exact ih_41 _ (kk_41 + 1, f_53) _ _ _ (by omega) ⟨rfl, (by omega), hP, hD, hS, (lv_sub hl [0, 3, 4, 5, 6, 7, 8, 9, 10, 11, 12, 13] rfl)⟩
                  · have c_49 := (nI_eq (a := (kk_41 % 2)) (b := 1) (by omega) (by omega)).mp c_49
                    refine lv_iconst (v := 1) hx hb dX8_meanOf_207 (by decide) ?_
                    refine lv_goto (tgt := 212) hx hb dX8_meanOf_208 (by decide) ?_
                    refine ro_i (D := D) (va_runV (As := [.int (nI sn), .int (nI qi_40), .int 1]) (rest := [.int (nI kk_41), .ref (a 30)]) ⟨hx, hb, hml, hown, hts⟩ ((m_chanceOf l D k st lo a tx t0 we rd ru rw ca fp wd nu na ts df db sd ffrees se tm gs sn qi_40 1 (by omega) (by omega)) H.size) (cwV 3 hts (gV tw_1210 tw_1212 tw_41 tw_87 tw_1213) rfl rfl rfl (by decide +kernel) ⟨Nat.le_of_ble_eq_true rfl, Nat.le_of_ble_eq_true rfl⟩) (pV hS hAlo hlo hP hK (va_Dlo hD hAlo) hZ [0, 3, 2] (by decide) rfl (ci := 8) (q := (RX8, TX8, 44)) (q0 := 0) rfl rfl) rfl rfl hl.1 rfl (lv_room (Nat.le_of_ble_eq_true rfl)) dX8_meanOf_212 ⟨Nat.le_of_ble_eq_true rfl, Nat.le_of_ble_eq_true rfl⟩) hS hA hP (fun r_54 H locs hw_54 hP hS => ?_)
                    try dsimp only at hw_54
                    refine lv_iload hx hb dX8_meanOf_215 (lv_at hl 0 rfl) ?_
                    refine lv_iload hx hb dX8_meanOf_217 (lv_at hl 8 rfl) ?_
                    refine lv_aload_n hx hb dX8_meanOf_219 rfl (lv_at hl 10 rfl) ?_
                    refine va_get (D := D) (ci := 8) (v := .ref (a 29)) (C := RX8) (T := TX8) (N := 44) hx hb hts inX8 hown hK hP 0 rfl rfl 28 (by decide) (hts _ tw_1001) (fun _ h9 => h9) rfl dX8_meanOf_220 ?_
                    refine lv_iconst (v := 2) hx hb dX8_meanOf_223 (by decide) ?_
                    refine lv_iload hx hb dX8_meanOf_224 (lv_at hl 1 rfl) ?_
                    refine lv_imul hx hb dX8_meanOf_226 ?_
                    refine lv_ti (y := (nI (2 * (kk_41 / 2)))) (pk_mul 2 (kk_41 / 2)) ?_
                    refine va_iald hx hb hK hP 9 1 rfl rfl (vp_in_nI (by omega) (by decide)) dX8_meanOf_227 ?_
                    refine lv_ti (y := (ff_40 (2 * (kk_41 / 2)))) (by rw [nI_clamp (by omega)]) ?_
                    refine lv_iadd hx hb dX8_meanOf_228 ?_
                    refine lv_topi (fun x_55 ex_55 => ?_)
                    refine ro_i (D := D) (va_runS (As := [.int r_54, .int x_48, .int x_55]) (rest := [.int (nI kk_41), .ref (a 30)]) ⟨hx, hb, hml, hown, hts⟩ ((m_mixed l D k st lo r_54 x_48 x_55) H.size) (va_cwS 3 hts (gS tw_1269 tw_1270 tw_87 tw_1271) rfl rfl rfl (by decide +kernel) ⟨Nat.le_of_ble_eq_true rfl, Nat.le_of_ble_eq_true rfl⟩) (pS hS hAlo hlo hP hK (va_Dlo hD hAlo) hZ [] (by decide) rfl) rfl rfl hl.1 rfl (lv_room (Nat.le_of_ble_eq_true rfl)) dX8_meanOf_229 ⟨Nat.le_of_ble_eq_true rfl, Nat.le_of_ble_eq_true rfl⟩) hS hA hP (fun r_56 H locs hw_56 hP hS => ?_)
                    try dsimp only at hw_56
                    refine va_iast hx hb hK hP hD hS 10 1 rfl rfl (vp_in_nI (by omega) (by decide)) dX8_meanOf_232 (fun H locs hP hD hS => ?_)
                    replace hP : va_P D classes [((a 0), .inr (8, (fX8 a (nI tx) fp (nI t0) wd (nI we) nu na (nI rd) ts (nI ru) (nI rw) (nI ca) df db sd))), (aI k (a 1) 3 (nF dn)), (aI k (a 4) 27 (sg se tm gs)), (aI k (a 2) 72 ffrees), (aI k (a 3) 72 fprices), (aI k (a 25) 4 (nF bm)), (aI k (a 26) 48 fbarSeen), (aI k (a 27) 48 fbarFrom), (aI k (a 28) 4 fruleRounds), (aI k (a 29) 52 ff_40), (aI k (a 30) 52 (upd fb_41 (Int32.toNatClampNeg (nI kk_41)) r_56))] H := hP
                    replace hD : va_D A [((a 0), .inr (8, (fX8 a (nI tx) fp (nI t0) wd (nI we) nu na (nI rd) ts (nI ru) (nI rw) (nI ca) df db sd))), (aI k (a 1) 3 (nF dn)), (aI k (a 4) 27 (sg se tm gs)), (aI k (a 2) 72 ffrees), (aI k (a 3) 72 fprices), (aI k (a 25) 4 (nF bm)), (aI k (a 26) 48 fbarSeen), (aI k (a 27) 48 fbarFrom), (aI k (a 28) 4 fruleRounds), (aI k (a 29) 52 ff_40), (aI k (a 30) 52 (upd fb_41 (Int32.toNatClampNeg (nI kk_41)) r_56))] := hD
                    generalize (upd fb_41 (Int32.toNatClampNeg (nI kk_41)) r_56) = f_57 at hP hD
                    refine lv_iinc (v := (nI (kk_41 + 1))) (lv' := [(11, .int (nI (kk_41 + 1))), (13, .int x_48), (12, .int (nI (kk_41 / 2))), (10, .int (nI qi_40)), (9, .int r_37), (8, .int 0), (7, .int (nI q_2)), (6, .int bg_2), (5, .int 0), (4, .int (nI (dn sn))), (0, .ref (a 0)), (1, .int (nI sn)), (2, .int (nI kr)), (3, .int p2)]) hx hb dX8_meanOf_233 hl (k := 2) rfl (nI_add kk_41 1) (by decide) rfl (fun ls hl => ?_)
                    refine lv_goto (tgt := 135) hx hb dX8_meanOf_236 (by decide) ?_
                    exact ih_41 _ (kk_41 + 1, f_57) _ _ _ (by omega) ⟨rfl, (by omega), hP, hD, hS, (lv_sub hl [0, 3, 4, 5, 6, 7, 8, 9, 10, 11, 12, 13] rfl)⟩
                · refine lv_aload_n hx hb dX8_meanOf_160 rfl (lv_at hl 9 rfl) ?_
                  refine lv_iload_n hx hb dX8_meanOf_161 rfl (lv_at hl 10 rfl) ?_
                  refine lv_iload hx hb dX8_meanOf_162 (lv_at hl 5 rfl) ?_
                  refine lv_iload hx hb dX8_meanOf_164 (lv_at hl 2 rfl) ?_
                  refine lv_iload_n hx hb dX8_meanOf_166 rfl (lv_at hl 12 rfl) ?_
                  refine ro_i (D := D) (va_runV (As := [.int (nI sn), .int (nI q_2), .int (nI qi_40), .int p2]) (rest := []) ⟨hx, hb, hml, hown, hts⟩ ((m_byTaking l D k st lo a tx t0 we rd ru rw ca fp wd nu na ts df db sd dn se tm gs fprices sn qi_40 (nI q_2) p2 (by omega) (by omega)) H.size) (cwV 4 hts (gV tw_1342 tw_1344 tw_62 tw_87 tw_1345) rfl rfl rfl (by decide +kernel) ⟨Nat.le_of_ble_eq_true rfl, Nat.le_of_ble_eq_true rfl⟩) (pV hS hAlo hlo hP hK (va_Dlo hD hAlo) hZ [0, 1, 2, 4] (by decide) rfl (ci := 8) (q := (RX8, TX8, 44)) (q0 := 0) rfl rfl) rfl rfl hl.1 rfl (lv_room (Nat.le_of_ble_eq_true rfl)) dX8_meanOf_167 ⟨Nat.le_of_ble_eq_true rfl, Nat.le_of_ble_eq_true rfl⟩) hS hA hP (fun r_58 H locs hw_58 hP hS => ?_)
                  try dsimp only at hw_58
                  refine lv_goto (tgt := 187) hx hb dX8_meanOf_170 (by decide) ?_
                  refine lv_istore (lv' := [(13, .int r_58), (12, .int (nI (kk_41 / 2))), (11, .int (nI kk_41)), (10, .int (nI qi_40)), (9, .int r_37), (8, .int 0), (7, .int (nI q_2)), (6, .int bg_2), (5, .int 0), (4, .int (nI (dn sn))), (0, .ref (a 0)), (1, .int (nI sn)), (2, .int (nI kr)), (3, .int p2)]) hx hb dX8_meanOf_187 hl (by decide) rfl (fun ls hl => ?_)
                  refine lv_aload_n hx hb dX8_meanOf_189 rfl (lv_at hl 10 rfl) ?_
                  refine va_get (D := D) (ci := 8) (v := .ref (a 30)) (C := RX8) (T := TX8) (N := 44) hx hb hts inX8 hown hK hP 0 rfl rfl 29 (by decide) (hts _ tw_1002) (fun _ h9 => h9) rfl dX8_meanOf_190 ?_
                  refine lv_iload hx hb dX8_meanOf_193 (lv_at hl 2 rfl) ?_
                  refine lv_aload_n hx hb dX8_meanOf_195 rfl (lv_at hl 10 rfl) ?_
                  refine lv_iload_n hx hb dX8_meanOf_196 rfl (lv_at hl 11 rfl) ?_
                  refine lv_iload hx hb dX8_meanOf_197 (lv_at hl 3 rfl) ?_
                  refine lv_iload hx hb dX8_meanOf_199 (lv_at hl 2 rfl) ?_
                  refine lv_iconst (v := 2) hx hb dX8_meanOf_201 (by decide) ?_
                  refine lv_irem hx hb dX8_meanOf_202 (by decide) ?_
                  refine lv_ti (y := (nI (kk_41 % 2))) (pk_rem (by omega) (by decide) (by decide)) ?_
                  refine lv_iconst (v := 1) hx hb dX8_meanOf_203 (by decide) ?_
                  refine lv_icmp_ne (tgt := 211) hx hb dX8_meanOf_204 (by decide) (fun c_59 => ?_) (fun c_59 => ?_)
                  · have c_59 : ¬ ((kk_41 % 2) = 1) := fun h => c_59 ((nI_eq (a := (kk_41 % 2)) (b := 1) (by omega) (by omega)).mpr h)
                    refine lv_iconst (v := 0) hx hb dX8_meanOf_211 (by decide) ?_
                    refine ro_i (D := D) (va_runV (As := [.int (nI sn), .int (nI qi_40), .int 0]) (rest := [.int (nI kk_41), .ref (a 30)]) ⟨hx, hb, hml, hown, hts⟩ ((m_chanceOf l D k st lo a tx t0 we rd ru rw ca fp wd nu na ts df db sd ffrees se tm gs sn qi_40 0 (by omega) (by omega)) H.size) (cwV 3 hts (gV tw_1210 tw_1212 tw_41 tw_87 tw_1213) rfl rfl rfl (by decide +kernel) ⟨Nat.le_of_ble_eq_true rfl, Nat.le_of_ble_eq_true rfl⟩) (pV hS hAlo hlo hP hK (va_Dlo hD hAlo) hZ [0, 3, 2] (by decide) rfl (ci := 8) (q := (RX8, TX8, 44)) (q0 := 0) rfl rfl) rfl rfl hl.1 rfl (lv_room (Nat.le_of_ble_eq_true rfl)) dX8_meanOf_212 ⟨Nat.le_of_ble_eq_true rfl, Nat.le_of_ble_eq_true rfl⟩) hS hA hP (fun r_60 H locs hw_60 hP hS => ?_)
                    try dsimp only at hw_60
                    refine lv_iload hx hb dX8_meanOf_215 (lv_at hl 0 rfl) ?_
                    refine lv_iload hx hb dX8_meanOf_217 (lv_at hl 8 rfl) ?_
                    refine lv_aload_n hx hb dX8_meanOf_219 rfl (lv_at hl 10 rfl) ?_
                    refine va_get (D := D) (ci := 8) (v := .ref (a 29)) (C := RX8) (T := TX8) (N := 44) hx hb hts inX8 hown hK hP 0 rfl rfl 28 (by decide) (hts _ tw_1001) (fun _ h9 => h9) rfl dX8_meanOf_220 ?_
                    refine lv_iconst (v := 2) hx hb dX8_meanOf_223 (by decide) ?_
                    refine lv_iload hx hb dX8_meanOf_224 (lv_at hl 1 rfl) ?_
                    refine lv_imul hx hb dX8_meanOf_226 ?_
                    refine lv_ti (y := (nI (2 * (kk_41 / 2)))) (pk_mul 2 (kk_41 / 2)) ?_
                    refine va_iald hx hb hK hP 9 1 rfl rfl (vp_in_nI (by omega) (by decide)) dX8_meanOf_227 ?_
                    refine lv_ti (y := (ff_40 (2 * (kk_41 / 2)))) (by rw [nI_clamp (by omega)]) ?_
                    refine lv_iadd hx hb dX8_meanOf_228 ?_
                    refine lv_topi (fun x_61 ex_61 => ?_)
                    refine ro_i (D := D) (va_runS (As := [.int r_60, .int r_58, .int x_61]) (rest := [.int (nI kk_41), .ref (a 30)]) ⟨hx, hb, hml, hown, hts⟩ ((m_mixed l D k st lo r_60 r_58 x_61) H.size) (va_cwS 3 hts (gS tw_1269 tw_1270 tw_87 tw_1271) rfl rfl rfl (by decide +kernel) ⟨Nat.le_of_ble_eq_true rfl, Nat.le_of_ble_eq_true rfl⟩) (pS hS hAlo hlo hP hK (va_Dlo hD hAlo) hZ [] (by decide) rfl) rfl rfl hl.1 rfl (lv_room (Nat.le_of_ble_eq_true rfl)) dX8_meanOf_229 ⟨Nat.le_of_ble_eq_true rfl, Nat.le_of_ble_eq_true rfl⟩) hS hA hP (fun r_62 H locs hw_62 hP hS => ?_)
                    try dsimp only at hw_62
                    refine va_iast hx hb hK hP hD hS 10 1 rfl rfl (vp_in_nI (by omega) (by decide)) dX8_meanOf_232 (fun H locs hP hD hS => ?_)
                    replace hP : va_P D classes [((a 0), .inr (8, (fX8 a (nI tx) fp (nI t0) wd (nI we) nu na (nI rd) ts (nI ru) (nI rw) (nI ca) df db sd))), (aI k (a 1) 3 (nF dn)), (aI k (a 4) 27 (sg se tm gs)), (aI k (a 2) 72 ffrees), (aI k (a 3) 72 fprices), (aI k (a 25) 4 (nF bm)), (aI k (a 26) 48 fbarSeen), (aI k (a 27) 48 fbarFrom), (aI k (a 28) 4 fruleRounds), (aI k (a 29) 52 ff_40), (aI k (a 30) 52 (upd fb_41 (Int32.toNatClampNeg (nI kk_41)) r_62))] H := hP
                    replace hD : va_D A [((a 0), .inr (8, (fX8 a (nI tx) fp (nI t0) wd (nI we) nu na (nI rd) ts (nI ru) (nI rw) (nI ca) df db sd))), (aI k (a 1) 3 (nF dn)), (aI k (a 4) 27 (sg se tm gs)), (aI k (a 2) 72 ffrees), (aI k (a 3) 72 fprices), (aI k (a 25) 4 (nF bm)), (aI k (a 26) 48 fbarSeen), (aI k (a 27) 48 fbarFrom), (aI k (a 28) 4 fruleRounds), (aI k (a 29) 52 ff_40), (aI k (a 30) 52 (upd fb_41 (Int32.toNatClampNeg (nI kk_41)) r_62))] := hD
                    generalize (upd fb_41 (Int32.toNatClampNeg (nI kk_41)) r_62) = f_63 at hP hD
                    refine lv_iinc (v := (nI (kk_41 + 1))) (lv' := [(11, .int (nI (kk_41 + 1))), (13, .int r_58), (12, .int (nI (kk_41 / 2))), (10, .int (nI qi_40)), (9, .int r_37), (8, .int 0), (7, .int (nI q_2)), (6, .int bg_2), (5, .int 0), (4, .int (nI (dn sn))), (0, .ref (a 0)), (1, .int (nI sn)), (2, .int (nI kr)), (3, .int p2)]) hx hb dX8_meanOf_233 hl (k := 2) rfl (nI_add kk_41 1) (by decide) rfl (fun ls hl => ?_)
                    refine lv_goto (tgt := 135) hx hb dX8_meanOf_236 (by decide) ?_
                    exact ih_41 _ (kk_41 + 1, f_63) _ _ _ (by omega) ⟨rfl, (by omega), hP, hD, hS, (lv_sub hl [0, 3, 4, 5, 6, 7, 8, 9, 10, 11, 12, 13] rfl)⟩
                  · have c_59 := (nI_eq (a := (kk_41 % 2)) (b := 1) (by omega) (by omega)).mp c_59
                    refine lv_iconst (v := 1) hx hb dX8_meanOf_207 (by decide) ?_
                    refine lv_goto (tgt := 212) hx hb dX8_meanOf_208 (by decide) ?_
                    refine ro_i (D := D) (va_runV (As := [.int (nI sn), .int (nI qi_40), .int 1]) (rest := [.int (nI kk_41), .ref (a 30)]) ⟨hx, hb, hml, hown, hts⟩ ((m_chanceOf l D k st lo a tx t0 we rd ru rw ca fp wd nu na ts df db sd ffrees se tm gs sn qi_40 1 (by omega) (by omega)) H.size) (cwV 3 hts (gV tw_1210 tw_1212 tw_41 tw_87 tw_1213) rfl rfl rfl (by decide +kernel) ⟨Nat.le_of_ble_eq_true rfl, Nat.le_of_ble_eq_true rfl⟩) (pV hS hAlo hlo hP hK (va_Dlo hD hAlo) hZ [0, 3, 2] (by decide) rfl (ci := 8) (q := (RX8, TX8, 44)) (q0 := 0) rfl rfl) rfl rfl hl.1 rfl (lv_room (Nat.le_of_ble_eq_true rfl)) dX8_meanOf_212 ⟨Nat.le_of_ble_eq_true rfl, Nat.le_of_ble_eq_true rfl⟩) hS hA hP (fun r_64 H locs hw_64 hP hS => ?_)
                    try dsimp only at hw_64
                    refine lv_iload hx hb dX8_meanOf_215 (lv_at hl 0 rfl) ?_
                    refine lv_iload hx hb dX8_meanOf_217 (lv_at hl 8 rfl) ?_
                    refine lv_aload_n hx hb dX8_meanOf_219 rfl (lv_at hl 10 rfl) ?_
                    refine va_get (D := D) (ci := 8) (v := .ref (a 29)) (C := RX8) (T := TX8) (N := 44) hx hb hts inX8 hown hK hP 0 rfl rfl 28 (by decide) (hts _ tw_1001) (fun _ h9 => h9) rfl dX8_meanOf_220 ?_
                    refine lv_iconst (v := 2) hx hb dX8_meanOf_223 (by decide) ?_
                    refine lv_iload hx hb dX8_meanOf_224 (lv_at hl 1 rfl) ?_
                    refine lv_imul hx hb dX8_meanOf_226 ?_
                    refine lv_ti (y := (nI (2 * (kk_41 / 2)))) (pk_mul 2 (kk_41 / 2)) ?_
                    refine va_iald hx hb hK hP 9 1 rfl rfl (vp_in_nI (by omega) (by decide)) dX8_meanOf_227 ?_
                    refine lv_ti (y := (ff_40 (2 * (kk_41 / 2)))) (by rw [nI_clamp (by omega)]) ?_
                    refine lv_iadd hx hb dX8_meanOf_228 ?_
                    refine lv_topi (fun x_65 ex_65 => ?_)
                    refine ro_i (D := D) (va_runS (As := [.int r_64, .int r_58, .int x_65]) (rest := [.int (nI kk_41), .ref (a 30)]) ⟨hx, hb, hml, hown, hts⟩ ((m_mixed l D k st lo r_64 r_58 x_65) H.size) (va_cwS 3 hts (gS tw_1269 tw_1270 tw_87 tw_1271) rfl rfl rfl (by decide +kernel) ⟨Nat.le_of_ble_eq_true rfl, Nat.le_of_ble_eq_true rfl⟩) (pS hS hAlo hlo hP hK (va_Dlo hD hAlo) hZ [] (by decide) rfl) rfl rfl hl.1 rfl (lv_room (Nat.le_of_ble_eq_true rfl)) dX8_meanOf_229 ⟨Nat.le_of_ble_eq_true rfl, Nat.le_of_ble_eq_true rfl⟩) hS hA hP (fun r_66 H locs hw_66 hP hS => ?_)
                    try dsimp only at hw_66
                    refine va_iast hx hb hK hP hD hS 10 1 rfl rfl (vp_in_nI (by omega) (by decide)) dX8_meanOf_232 (fun H locs hP hD hS => ?_)
                    replace hP : va_P D classes [((a 0), .inr (8, (fX8 a (nI tx) fp (nI t0) wd (nI we) nu na (nI rd) ts (nI ru) (nI rw) (nI ca) df db sd))), (aI k (a 1) 3 (nF dn)), (aI k (a 4) 27 (sg se tm gs)), (aI k (a 2) 72 ffrees), (aI k (a 3) 72 fprices), (aI k (a 25) 4 (nF bm)), (aI k (a 26) 48 fbarSeen), (aI k (a 27) 48 fbarFrom), (aI k (a 28) 4 fruleRounds), (aI k (a 29) 52 ff_40), (aI k (a 30) 52 (upd fb_41 (Int32.toNatClampNeg (nI kk_41)) r_66))] H := hP
                    replace hD : va_D A [((a 0), .inr (8, (fX8 a (nI tx) fp (nI t0) wd (nI we) nu na (nI rd) ts (nI ru) (nI rw) (nI ca) df db sd))), (aI k (a 1) 3 (nF dn)), (aI k (a 4) 27 (sg se tm gs)), (aI k (a 2) 72 ffrees), (aI k (a 3) 72 fprices), (aI k (a 25) 4 (nF bm)), (aI k (a 26) 48 fbarSeen), (aI k (a 27) 48 fbarFrom), (aI k (a 28) 4 fruleRounds), (aI k (a 29) 52 ff_40), (aI k (a 30) 52 (upd fb_41 (Int32.toNatClampNeg (nI kk_41)) r_66))] := hD
                    generalize (upd fb_41 (Int32.toNatClampNeg (nI kk_41)) r_66) = f_67 at hP hD
                    refine lv_iinc (v := (nI (kk_41 + 1))) (lv' := [(11, .int (nI (kk_41 + 1))), (13, .int r_58), (12, .int (nI (kk_41 / 2))), (10, .int (nI qi_40)), (9, .int r_37), (8, .int 0), (7, .int (nI q_2)), (6, .int bg_2), (5, .int 0), (4, .int (nI (dn sn))), (0, .ref (a 0)), (1, .int (nI sn)), (2, .int (nI kr)), (3, .int p2)]) hx hb dX8_meanOf_233 hl (k := 2) rfl (nI_add kk_41 1) (by decide) rfl (fun ls hl => ?_)
                    refine lv_goto (tgt := 135) hx hb dX8_meanOf_236 (by decide) ?_
                    exact ih_41 _ (kk_41 + 1, f_67) _ _ _ (by omega) ⟨rfl, (by omega), hP, hD, hS, (lv_sub hl [0, 3, 4, 5, 6, 7, 8, 9, 10, 11, 12, 13] rfl)⟩
          · have c_39 : ¬ (52 ≤ kk_38) := fun h => c_39 ((nI_leI (a := 52) (b := kk_38) (by omega) (by omega)).mpr h)
            refine lv_aload_n hx hb dX8_meanOf_106 rfl (lv_at hl 7 rfl) ?_
            refine va_get (D := D) (ci := 8) (v := .ref (a 29)) (C := RX8) (T := TX8) (N := 44) hx hb hts inX8 hown hK hP 0 rfl rfl 28 (by decide) (hts _ tw_1001) (fun _ h9 => h9) rfl dX8_meanOf_107 ?_
            refine lv_iload hx hb dX8_meanOf_110 (lv_at hl 0 rfl) ?_
            refine lv_iload hx hb dX8_meanOf_112 (lv_at hl 1 rfl) ?_
            refine va_iast hx hb hK hP hD hS 9 1 rfl rfl (vp_in_nI (by omega) (by decide)) dX8_meanOf_114 (fun H locs hP hD hS => ?_)
            replace hP : va_P D classes [((a 0), .inr (8, (fX8 a (nI tx) fp (nI t0) wd (nI we) nu na (nI rd) ts (nI ru) (nI rw) (nI ca) df db sd))), (aI k (a 1) 3 (nF dn)), (aI k (a 4) 27 (sg se tm gs)), (aI k (a 2) 72 ffrees), (aI k (a 3) 72 fprices), (aI k (a 25) 4 (nF bm)), (aI k (a 26) 48 fbarSeen), (aI k (a 27) 48 fbarFrom), (aI k (a 28) 4 fruleRounds), (aI k (a 29) 52 (upd ff_38 (Int32.toNatClampNeg (nI kk_38)) r_37)), (aI k (a 30) 52 fb_2)] H := hP
            replace hD : va_D A [((a 0), .inr (8, (fX8 a (nI tx) fp (nI t0) wd (nI we) nu na (nI rd) ts (nI ru) (nI rw) (nI ca) df db sd))), (aI k (a 1) 3 (nF dn)), (aI k (a 4) 27 (sg se tm gs)), (aI k (a 2) 72 ffrees), (aI k (a 3) 72 fprices), (aI k (a 25) 4 (nF bm)), (aI k (a 26) 48 fbarSeen), (aI k (a 27) 48 fbarFrom), (aI k (a 28) 4 fruleRounds), (aI k (a 29) 52 (upd ff_38 (Int32.toNatClampNeg (nI kk_38)) r_37)), (aI k (a 30) 52 fb_2)] := hD
            generalize (upd ff_38 (Int32.toNatClampNeg (nI kk_38)) r_37) = f_68 at hP hD
            refine lv_iinc (v := (nI (kk_38 + 1))) (lv' := [(10, .int (nI (kk_38 + 1))), (9, .int r_37), (8, .int 0), (7, .int (nI q_2)), (6, .int bg_2), (5, .int 0), (4, .int (nI (dn sn))), (0, .ref (a 0)), (1, .int (nI sn)), (2, .int (nI kr)), (3, .int p2)]) hx hb dX8_meanOf_115 hl (k := 0) rfl (nI_add kk_38 1) (by decide) rfl (fun ls hl => ?_)
            refine lv_goto (tgt := 99) hx hb dX8_meanOf_118 (by decide) ?_
            exact ih_38 _ (kk_38 + 1, f_68) _ _ _ (by omega) ⟨rfl, (by omega), hP, hD, hS, (lv_sub hl [0, 1, 2, 3, 4, 5, 6, 7, 8, 9, 10] rfl)⟩
      · refine lv_aload_n hx hb dX8_meanOf_43 rfl (lv_at hl 4 rfl) ?_
        refine lv_iload_n hx hb dX8_meanOf_44 rfl (lv_at hl 5 rfl) ?_
        refine lv_iconst (v := 2) hx hb dX8_meanOf_45 (by decide) ?_
        refine ro_i (D := D) (va_runV (As := [.int (nI sn), .int 2]) (rest := []) ⟨hx, hb, hml, hown, hts⟩ ((m_of l D k st lo a tx t0 we rd ru rw ca fp wd nu na ts df db sd se tm gs sn 2 (by omega) (by omega)) H.size) (cwV 2 hts (gV tw_1194 tw_1196 tw_39 tw_87 tw_1197) rfl rfl rfl (by decide +kernel) ⟨Nat.le_of_ble_eq_true rfl, Nat.le_of_ble_eq_true rfl⟩) (pV hS hAlo hlo hP hK (va_Dlo hD hAlo) hZ [0, 2] (by decide) rfl (ci := 8) (q := (RX8, TX8, 44)) (q0 := 0) rfl rfl) rfl rfl hl.1 rfl (lv_room (Nat.le_of_ble_eq_true rfl)) dX8_meanOf_46 ⟨Nat.le_of_ble_eq_true rfl, Nat.le_of_ble_eq_true rfl⟩) hS hA hP (fun r_69 H locs hw_69 hP hS => ?_)
        try dsimp only at hw_69
        refine lv_aload_n hx hb dX8_meanOf_49 rfl (lv_at hl 4 rfl) ?_
        refine lv_iload_n hx hb dX8_meanOf_50 rfl (lv_at hl 5 rfl) ?_
        refine lv_bipush (v := 6) hx hb dX8_meanOf_51 (by decide) ?_
        refine ro_i (D := D) (va_runV (As := [.int (nI sn), .int 6]) (rest := [.int r_69]) ⟨hx, hb, hml, hown, hts⟩ ((m_of l D k st lo a tx t0 we rd ru rw ca fp wd nu na ts df db sd se tm gs sn 6 (by omega) (by omega)) H.size) (cwV 2 hts (gV tw_1194 tw_1196 tw_39 tw_87 tw_1197) rfl rfl rfl (by decide +kernel) ⟨Nat.le_of_ble_eq_true rfl, Nat.le_of_ble_eq_true rfl⟩) (pV hS hAlo hlo hP hK (va_Dlo hD hAlo) hZ [0, 2] (by decide) rfl (ci := 8) (q := (RX8, TX8, 44)) (q0 := 0) rfl rfl) rfl rfl hl.1 rfl (lv_room (Nat.le_of_ble_eq_true rfl)) dX8_meanOf_53 ⟨Nat.le_of_ble_eq_true rfl, Nat.le_of_ble_eq_true rfl⟩) hS hA hP (fun r_70 H locs hw_70 hP hS => ?_)
        try dsimp only at hw_70
        refine lv_imul hx hb dX8_meanOf_56 ?_
        refine lv_topi (fun x_71 ex_71 => ?_)
        refine lv_sipush (v := 1000) hx hb dX8_meanOf_57 (by decide) ?_
        refine lv_imul hx hb dX8_meanOf_60 ?_
        refine lv_topi (fun x_72 ex_72 => ?_)
        refine lv_goto (tgt := 65) hx hb dX8_meanOf_61 (by decide) ?_
        refine lv_istore (lv' := [(8, .int x_72), (7, .int (nI q_2)), (6, .int bg_2), (5, .int 0), (4, .int (nI (dn sn))), (0, .ref (a 0)), (1, .int (nI sn)), (2, .int (nI kr)), (3, .int p2)]) hx hb dX8_meanOf_65 hl (by decide) rfl (fun ls hl => ?_)
        refine lv_aload_n hx hb dX8_meanOf_67 rfl (lv_at hl 5 rfl) ?_
        refine lv_iload_n hx hb dX8_meanOf_68 rfl (lv_at hl 6 rfl) ?_
        refine lv_iload_n hx hb dX8_meanOf_69 rfl (lv_at hl 7 rfl) ?_
        refine lv_iload hx hb dX8_meanOf_70 (lv_at hl 1 rfl) ?_
        refine ro_i (D := D) (va_runV (As := [.int (nI sn), .int (nI kr), .int (nI q_2)]) (rest := []) ⟨hx, hb, hml, hown, hts⟩ ((m_isRoundBy l D k st lo a tx t0 we rd ru rw ca fp wd nu na ts df db sd se tm gs fruleRounds sn kr q_2 htm (by omega) (by omega) (by omega)) H.size) (cwV 3 hts (gV tw_1329 tw_1331 tw_59 tw_87 tw_1332) rfl rfl rfl (by decide +kernel) ⟨Nat.le_of_ble_eq_true rfl, Nat.le_of_ble_eq_true rfl⟩) (pV hS hAlo hlo hP hK (va_Dlo hD hAlo) hZ [0, 2, 8] (by decide) rfl (ci := 8) (q := (RX8, TX8, 44)) (q0 := 0) rfl rfl) rfl rfl hl.1 rfl (lv_room (Nat.le_of_ble_eq_true rfl)) dX8_meanOf_72 ⟨Nat.le_of_ble_eq_true rfl, Nat.le_of_ble_eq_true rfl⟩) hS hA hP (fun r_73 H locs hw_73 hP hS => ?_)
        try dsimp only at hw_73
        rcases hw_73 with ⟨rfl, hw_73⟩ | rfl
        · refine lv_if_eq (tgt := 86) hx hb dX8_meanOf_75 (by decide) (fun h => absurd h (by decide)) (fun _ => ?_)
          refine lv_iload hx hb dX8_meanOf_78 (lv_at hl 0 rfl) ?_
          refine lv_iload hx hb dX8_meanOf_80 (lv_at hl 2 rfl) ?_
          refine lv_iadd hx hb dX8_meanOf_82 ?_
          refine lv_topi (fun x_74 ex_74 => ?_)
          refine lv_goto (tgt := 94) hx hb dX8_meanOf_83 (by decide) ?_
          refine lv_istore (lv' := [(9, .int x_74), (8, .int x_72), (7, .int (nI q_2)), (6, .int bg_2), (5, .int 0), (4, .int (nI (dn sn))), (0, .ref (a 0)), (1, .int (nI sn)), (2, .int (nI kr)), (3, .int p2)]) hx hb dX8_meanOf_94 hl (by decide) rfl (fun ls hl => ?_)
          refine lv_iconst (v := 0) hx hb dX8_meanOf_96 (by decide) ?_
          refine lv_istore (lv' := [(10, .int 0), (9, .int x_74), (8, .int x_72), (7, .int (nI q_2)), (6, .int bg_2), (5, .int 0), (4, .int (nI (dn sn))), (0, .ref (a 0)), (1, .int (nI sn)), (2, .int (nI kr)), (3, .int p2)]) hx hb dX8_meanOf_97 hl (by decide) rfl (fun ls hl => ?_)
          refine W_loop (σ := Nat × (Nat → Int32)) (fun (n_ : Nat) (x_ : Nat × (Nat → Int32)) (H : Heap) (locs : List Loc) (ls : Array Slot) => match x_ with | (kk_75, ff_75) => n_ = 52 - kk_75 ∧ (kk_75 ≤ 52) ∧ va_P D classes [((a 0), .inr (8, (fX8 a (nI tx) fp (nI t0) wd (nI we) nu na (nI rd) ts (nI ru) (nI rw) (nI ca) df db sd))), (aI k (a 1) 3 (nF dn)), (aI k (a 4) 27 (sg se tm gs)), (aI k (a 2) 72 ffrees), (aI k (a 3) 72 fprices), (aI k (a 25) 4 (nF bm)), (aI k (a 26) 48 fbarSeen), (aI k (a 27) 48 fbarFrom), (aI k (a 28) 4 fruleRounds), (aI k (a 29) 52 ff_75), (aI k (a 30) 52 fb_2)] H ∧ va_D A [((a 0), .inr (8, (fX8 a (nI tx) fp (nI t0) wd (nI we) nu na (nI rd) ts (nI ru) (nI rw) (nI ca) df db sd))), (aI k (a 1) 3 (nF dn)), (aI k (a 4) 27 (sg se tm gs)), (aI k (a 2) 72 ffrees), (aI k (a 3) 72 fprices), (aI k (a 25) 4 (nF bm)), (aI k (a 26) 48 fbarSeen), (aI k (a 27) 48 fbarFrom), (aI k (a 28) 4 fruleRounds), (aI k (a 29) 52 ff_75), (aI k (a 30) 52 fb_2)] ∧ va_S A s.heap H locs ∧ lv_has ls 14 [(10, .int (nI kk_75)), (9, .int x_74), (8, .int x_72), (7, .int (nI q_2)), (6, .int bg_2), (5, .int 0), (4, .int (nI (dn sn))), (0, .ref (a 0)), (1, .int (nI sn)), (2, .int (nI kr)), (3, .int p2)]) (fun n_75 x_75 H locs ls hI ih_75 => ?_) _ (0, ff_2) ⟨rfl, (by omega), hP, hD, hS, (lv_sub hl [0, 1, 2, 3, 4, 5, 6, 7, 8, 9, 10] rfl)⟩
          obtain ⟨kk_75, ff_75⟩ := x_75
          obtain ⟨hm_75, hv_75, hP, hD, hS, hl⟩ := hI
          subst hm_75
          refine lv_iload hx hb dX8_meanOf_99 (lv_at hl 0 rfl) ?_
          refine lv_bipush (v := 52) hx hb dX8_meanOf_101 (by decide) ?_
          refine lv_icmp_ge (tgt := 121) hx hb dX8_meanOf_103 (by decide) (fun c_76 => ?_) (fun c_76 => ?_)
          · have c_76 := (nI_leI (a := 52) (b := kk_75) (by omega) (by omega)).mp c_76
            refine lv_iload hx hb dX8_meanOf_121 (lv_at hl 6 rfl) ?_
            refine lv_iconst (v := 1) hx hb dX8_meanOf_123 (by decide) ?_
            refine lv_isub hx hb dX8_meanOf_124 ?_
            refine lv_ti (y := (nI (dn sn) - 1)) rfl ?_
            refine lv_istore (lv' := [(10, .int (nI (dn sn) - 1)), (9, .int x_74), (8, .int x_72), (7, .int (nI q_2)), (6, .int bg_2), (5, .int 0), (4, .int (nI (dn sn))), (0, .ref (a 0)), (1, .int (nI sn)), (2, .int (nI kr)), (3, .int p2)]) hx hb dX8_meanOf_125 hl (by decide) rfl (fun ls hl => ?_)
            refine W_loop (σ := Nat × (Nat → Int32) × (Nat → Int32)) (fun (n_ : Nat) (x_ : Nat × (Nat → Int32) × (Nat → Int32)) (H : Heap) (locs : List Loc) (ls : Array Slot) => match x_ with | (qi_77, ff_77, fb_77) => n_ = 2 * qi_77 ∧ (qi_77 ≤ dn sn) ∧ va_P D classes [((a 0), .inr (8, (fX8 a (nI tx) fp (nI t0) wd (nI we) nu na (nI rd) ts (nI ru) (nI rw) (nI ca) df db sd))), (aI k (a 1) 3 (nF dn)), (aI k (a 4) 27 (sg se tm gs)), (aI k (a 2) 72 ffrees), (aI k (a 3) 72 fprices), (aI k (a 25) 4 (nF bm)), (aI k (a 26) 48 fbarSeen), (aI k (a 27) 48 fbarFrom), (aI k (a 28) 4 fruleRounds), (aI k (a 29) 52 ff_77), (aI k (a 30) 52 fb_77)] H ∧ va_D A [((a 0), .inr (8, (fX8 a (nI tx) fp (nI t0) wd (nI we) nu na (nI rd) ts (nI ru) (nI rw) (nI ca) df db sd))), (aI k (a 1) 3 (nF dn)), (aI k (a 4) 27 (sg se tm gs)), (aI k (a 2) 72 ffrees), (aI k (a 3) 72 fprices), (aI k (a 25) 4 (nF bm)), (aI k (a 26) 48 fbarSeen), (aI k (a 27) 48 fbarFrom), (aI k (a 28) 4 fruleRounds), (aI k (a 29) 52 ff_77), (aI k (a 30) 52 fb_77)] ∧ va_S A s.heap H locs ∧ lv_has ls 14 [(10, .int (nI qi_77 - 1)), (9, .int x_74), (8, .int x_72), (7, .int (nI q_2)), (6, .int bg_2), (5, .int 0), (4, .int (nI (dn sn))), (0, .ref (a 0)), (1, .int (nI sn)), (2, .int (nI kr)), (3, .int p2)]) (fun n_77 x_77 H locs ls hI ih_77 => ?_) _ (dn sn, ff_75, fb_2) ⟨rfl, (by omega), hP, hD, hS, (lv_sub hl [0, 1, 2, 3, 4, 5, 6, 7, 8, 9, 10] rfl)⟩
            obtain ⟨qi_77, ff_77, fb_77⟩ := x_77
            obtain ⟨hm_77, hv_77, hP, hD, hS, hl⟩ := hI
            subst hm_77
            rcases qi_77 with _ | qi_77
            · rw [dn0] at hl
              refine lv_iload hx hb dX8_meanOf_127 (lv_at hl 0 rfl) ?_
              refine lv_if_lt (tgt := 275) hx hb dX8_meanOf_129 (by decide) (fun _ => ?_) (fun h => absurd (by decide) h)
              refine lv_aload_n hx hb dX8_meanOf_275 rfl (lv_at hl 7 rfl) ?_
              refine va_get (D := D) (ci := 8) (v := .ref (a 29)) (C := RX8) (T := TX8) (N := 44) hx hb hts inX8 hown hK hP 0 rfl rfl 28 (by decide) (hts _ tw_1001) (fun _ h9 => h9) rfl dX8_meanOf_276 ?_
              refine lv_iconst (v := 0) hx hb dX8_meanOf_279 (by decide) ?_
              refine va_iald hx hb hK hP 9 1 rfl rfl (by unfold vp_in; decide) dX8_meanOf_280 ?_
              refine lv_ti (y := (ff_77 0)) (by rfl) ?_
              refine lv_istore (lv' := [(6, .int (ff_77 0)), (10, .int (-1)), (9, .int x_74), (8, .int x_72), (7, .int (nI q_2)), (5, .int 0), (4, .int (nI (dn sn))), (0, .ref (a 0)), (1, .int (nI sn)), (2, .int (nI kr)), (3, .int p2)]) hx hb dX8_meanOf_281 hl (by decide) rfl (fun ls hl => ?_)
              refine lv_iinc (v := (nI q_2 - 1)) (lv' := [(7, .int (nI q_2 - 1)), (6, .int (ff_77 0)), (10, .int (-1)), (9, .int x_74), (8, .int x_72), (5, .int 0), (4, .int (nI (dn sn))), (0, .ref (a 0)), (1, .int (nI sn)), (2, .int (nI kr)), (3, .int p2)]) hx hb dX8_meanOf_283 hl (k := 4) rfl (dn1 _) (by decide) rfl (fun ls hl => ?_)
              refine lv_goto (tgt := 34) hx hb dX8_meanOf_286 (by decide) ?_
              exact ih_2 _ (q_2, (ff_77 0), ff_77, fb_77) _ _ _ (by omega) ⟨rfl, (by omega), hP, hD, hS, (lv_sub hl [0, 1, 5, 6, 7, 8, 9, 10] rfl)⟩
            · rw [nI_pred] at hl
              refine lv_iload hx hb dX8_meanOf_127 (lv_at hl 0 rfl) ?_
              refine lv_if_lt (tgt := 275) hx hb dX8_meanOf_129 (by decide) (fun h => absurd h (nI_pos0 (by omega))) (fun _ => ?_)
              refine lv_iconst (v := 0) hx hb dX8_meanOf_132 (by decide) ?_
              refine lv_istore (lv' := [(11, .int 0), (10, .int (nI qi_77)), (9, .int x_74), (8, .int x_72), (7, .int (nI q_2)), (6, .int bg_2), (5, .int 0), (4, .int (nI (dn sn))), (0, .ref (a 0)), (1, .int (nI sn)), (2, .int (nI kr)), (3, .int p2)]) hx hb dX8_meanOf_133 hl (by decide) rfl (fun ls hl => ?_)
              refine W_loop (σ := Nat × (Nat → Int32)) (fun (n_ : Nat) (x_ : Nat × (Nat → Int32)) (H : Heap) (locs : List Loc) (ls : Array Slot) => match x_ with | (kk_78, fb_78) => n_ = 50 - kk_78 ∧ (kk_78 ≤ 50) ∧ va_P D classes [((a 0), .inr (8, (fX8 a (nI tx) fp (nI t0) wd (nI we) nu na (nI rd) ts (nI ru) (nI rw) (nI ca) df db sd))), (aI k (a 1) 3 (nF dn)), (aI k (a 4) 27 (sg se tm gs)), (aI k (a 2) 72 ffrees), (aI k (a 3) 72 fprices), (aI k (a 25) 4 (nF bm)), (aI k (a 26) 48 fbarSeen), (aI k (a 27) 48 fbarFrom), (aI k (a 28) 4 fruleRounds), (aI k (a 29) 52 ff_77), (aI k (a 30) 52 fb_78)] H ∧ va_D A [((a 0), .inr (8, (fX8 a (nI tx) fp (nI t0) wd (nI we) nu na (nI rd) ts (nI ru) (nI rw) (nI ca) df db sd))), (aI k (a 1) 3 (nF dn)), (aI k (a 4) 27 (sg se tm gs)), (aI k (a 2) 72 ffrees), (aI k (a 3) 72 fprices), (aI k (a 25) 4 (nF bm)), (aI k (a 26) 48 fbarSeen), (aI k (a 27) 48 fbarFrom), (aI k (a 28) 4 fruleRounds), (aI k (a 29) 52 ff_77), (aI k (a 30) 52 fb_78)] ∧ va_S A s.heap H locs ∧ lv_has ls 14 [(11, .int (nI kk_78)), (10, .int (nI qi_77)), (9, .int x_74), (8, .int x_72), (7, .int (nI q_2)), (6, .int bg_2), (5, .int 0), (4, .int (nI (dn sn))), (0, .ref (a 0)), (1, .int (nI sn)), (2, .int (nI kr)), (3, .int p2)]) (fun n_78 x_78 H locs ls hI ih_78 => ?_) _ (0, fb_77) ⟨rfl, (by omega), hP, hD, hS, (lv_sub hl [0, 1, 2, 3, 4, 5, 6, 7, 8, 9, 10, 11] rfl)⟩
              obtain ⟨kk_78, fb_78⟩ := x_78
              obtain ⟨hm_78, hv_78, hP, hD, hS, hl⟩ := hI
              subst hm_78
              refine lv_iload hx hb dX8_meanOf_135 (lv_at hl 0 rfl) ?_
              refine lv_bipush (v := 50) hx hb dX8_meanOf_137 (by decide) ?_
              refine lv_icmp_ge (tgt := 239) hx hb dX8_meanOf_139 (by decide) (fun c_79 => ?_) (fun c_79 => ?_)
              · have c_79 := (nI_leI (a := 50) (b := kk_78) (by omega) (by omega)).mp c_79
                refine lv_iconst (v := 0) hx hb dX8_meanOf_239 (by decide) ?_
                refine lv_istore (lv' := [(11, .int 0), (10, .int (nI qi_77)), (9, .int x_74), (8, .int x_72), (7, .int (nI q_2)), (6, .int bg_2), (5, .int 0), (4, .int (nI (dn sn))), (0, .ref (a 0)), (1, .int (nI sn)), (2, .int (nI kr)), (3, .int p2)]) hx hb dX8_meanOf_240 hl (by decide) rfl (fun ls hl => ?_)
                refine W_loop (σ := Nat × (Nat → Int32)) (fun (n_ : Nat) (x_ : Nat × (Nat → Int32)) (H : Heap) (locs : List Loc) (ls : Array Slot) => match x_ with | (kk_80, ff_80) => n_ = 50 - kk_80 ∧ (kk_80 ≤ 50) ∧ va_P D classes [((a 0), .inr (8, (fX8 a (nI tx) fp (nI t0) wd (nI we) nu na (nI rd) ts (nI ru) (nI rw) (nI ca) df db sd))), (aI k (a 1) 3 (nF dn)), (aI k (a 4) 27 (sg se tm gs)), (aI k (a 2) 72 ffrees), (aI k (a 3) 72 fprices), (aI k (a 25) 4 (nF bm)), (aI k (a 26) 48 fbarSeen), (aI k (a 27) 48 fbarFrom), (aI k (a 28) 4 fruleRounds), (aI k (a 29) 52 ff_80), (aI k (a 30) 52 fb_78)] H ∧ va_D A [((a 0), .inr (8, (fX8 a (nI tx) fp (nI t0) wd (nI we) nu na (nI rd) ts (nI ru) (nI rw) (nI ca) df db sd))), (aI k (a 1) 3 (nF dn)), (aI k (a 4) 27 (sg se tm gs)), (aI k (a 2) 72 ffrees), (aI k (a 3) 72 fprices), (aI k (a 25) 4 (nF bm)), (aI k (a 26) 48 fbarSeen), (aI k (a 27) 48 fbarFrom), (aI k (a 28) 4 fruleRounds), (aI k (a 29) 52 ff_80), (aI k (a 30) 52 fb_78)] ∧ va_S A s.heap H locs ∧ lv_has ls 14 [(11, .int (nI kk_80)), (10, .int (nI qi_77)), (9, .int x_74), (8, .int x_72), (7, .int (nI q_2)), (6, .int bg_2), (5, .int 0), (4, .int (nI (dn sn))), (0, .ref (a 0)), (1, .int (nI sn)), (2, .int (nI kr)), (3, .int p2)]) (fun n_80 x_80 H locs ls hI ih_80 => ?_) _ (0, ff_77) ⟨rfl, (by omega), hP, hD, hS, (lv_sub hl [0, 1, 2, 3, 4, 5, 6, 7, 8, 9, 10, 11] rfl)⟩
                obtain ⟨kk_80, ff_80⟩ := x_80
                obtain ⟨hm_80, hv_80, hP, hD, hS, hl⟩ := hI
                subst hm_80
                refine lv_iload hx hb dX8_meanOf_242 (lv_at hl 0 rfl) ?_
                refine lv_bipush (v := 50) hx hb dX8_meanOf_244 (by decide) ?_
                refine lv_icmp_ge (tgt := 269) hx hb dX8_meanOf_246 (by decide) (fun c_81 => ?_) (fun c_81 => ?_)
                · have c_81 := (nI_leI (a := 50) (b := kk_80) (by omega) (by omega)).mp c_81
                  refine lv_iinc (v := (nI qi_77 - 1)) (lv' := [(10, .int (nI qi_77 - 1)), (11, .int (nI kk_80)), (9, .int x_74), (8, .int x_72), (7, .int (nI q_2)), (6, .int bg_2), (5, .int 0), (4, .int (nI (dn sn))), (0, .ref (a 0)), (1, .int (nI sn)), (2, .int (nI kr)), (3, .int p2)]) hx hb dX8_meanOf_269 hl (k := 1) rfl (dn1 _) (by decide) rfl (fun ls hl => ?_)
                  refine lv_goto (tgt := 127) hx hb dX8_meanOf_272 (by decide) ?_
                  exact ih_77 _ (qi_77, ff_80, fb_78) _ _ _ (by omega) ⟨rfl, (by omega), hP, hD, hS, (lv_sub hl [0, 2, 3, 4, 5, 6, 7, 8, 9, 10, 11] rfl)⟩
                · have c_81 : ¬ (50 ≤ kk_80) := fun h => c_81 ((nI_leI (a := 50) (b := kk_80) (by omega) (by omega)).mpr h)
                  refine lv_aload_n hx hb dX8_meanOf_249 rfl (lv_at hl 8 rfl) ?_
                  refine va_get (D := D) (ci := 8) (v := .ref (a 29)) (C := RX8) (T := TX8) (N := 44) hx hb hts inX8 hown hK hP 0 rfl rfl 28 (by decide) (hts _ tw_1001) (fun _ h9 => h9) rfl dX8_meanOf_250 ?_
                  refine lv_iload hx hb dX8_meanOf_253 (lv_at hl 0 rfl) ?_
                  refine lv_aload_n hx hb dX8_meanOf_255 rfl (lv_at hl 8 rfl) ?_
                  refine va_get (D := D) (ci := 8) (v := .ref (a 30)) (C := RX8) (T := TX8) (N := 44) hx hb hts inX8 hown hK hP 0 rfl rfl 29 (by decide) (hts _ tw_1002) (fun _ h9 => h9) rfl dX8_meanOf_256 ?_
                  refine lv_iload hx hb dX8_meanOf_259 (lv_at hl 0 rfl) ?_
                  refine va_iald hx hb hK hP 10 1 rfl rfl (vp_in_nI (by omega) (by decide)) dX8_meanOf_261 ?_
                  refine lv_ti (y := (fb_78 kk_80)) (by rw [nI_clamp (by omega)]) ?_
                  refine va_iast hx hb hK hP hD hS 9 1 rfl rfl (vp_in_nI (by omega) (by decide)) dX8_meanOf_262 (fun H locs hP hD hS => ?_)
                  replace hP : va_P D classes [((a 0), .inr (8, (fX8 a (nI tx) fp (nI t0) wd (nI we) nu na (nI rd) ts (nI ru) (nI rw) (nI ca) df db sd))), (aI k (a 1) 3 (nF dn)), (aI k (a 4) 27 (sg se tm gs)), (aI k (a 2) 72 ffrees), (aI k (a 3) 72 fprices), (aI k (a 25) 4 (nF bm)), (aI k (a 26) 48 fbarSeen), (aI k (a 27) 48 fbarFrom), (aI k (a 28) 4 fruleRounds), (aI k (a 29) 52 (upd ff_80 (Int32.toNatClampNeg (nI kk_80)) (fb_78 kk_80))), (aI k (a 30) 52 fb_78)] H := hP
                  replace hD : va_D A [((a 0), .inr (8, (fX8 a (nI tx) fp (nI t0) wd (nI we) nu na (nI rd) ts (nI ru) (nI rw) (nI ca) df db sd))), (aI k (a 1) 3 (nF dn)), (aI k (a 4) 27 (sg se tm gs)), (aI k (a 2) 72 ffrees), (aI k (a 3) 72 fprices), (aI k (a 25) 4 (nF bm)), (aI k (a 26) 48 fbarSeen), (aI k (a 27) 48 fbarFrom), (aI k (a 28) 4 fruleRounds), (aI k (a 29) 52 (upd ff_80 (Int32.toNatClampNeg (nI kk_80)) (fb_78 kk_80))), (aI k (a 30) 52 fb_78)] := hD
                  generalize (upd ff_80 (Int32.toNatClampNeg (nI kk_80)) (fb_78 kk_80)) = f_82 at hP hD
                  refine lv_iinc (v := (nI (kk_80 + 1))) (lv' := [(11, .int (nI (kk_80 + 1))), (10, .int (nI qi_77)), (9, .int x_74), (8, .int x_72), (7, .int (nI q_2)), (6, .int bg_2), (5, .int 0), (4, .int (nI (dn sn))), (0, .ref (a 0)), (1, .int (nI sn)), (2, .int (nI kr)), (3, .int p2)]) hx hb dX8_meanOf_263 hl (k := 0) rfl (nI_add kk_80 1) (by decide) rfl (fun ls hl => ?_)
                  refine lv_goto (tgt := 242) hx hb dX8_meanOf_266 (by decide) ?_
                  exact ih_80 _ (kk_80 + 1, f_82) _ _ _ (by omega) ⟨rfl, (by omega), hP, hD, hS, (lv_sub hl [0, 1, 2, 3, 4, 5, 6, 7, 8, 9, 10, 11] rfl)⟩
              · have c_79 : ¬ (50 ≤ kk_78) := fun h => c_79 ((nI_leI (a := 50) (b := kk_78) (by omega) (by omega)).mpr h)
                refine lv_iload hx hb dX8_meanOf_142 (lv_at hl 0 rfl) ?_
                refine lv_iconst (v := 2) hx hb dX8_meanOf_144 (by decide) ?_
                refine lv_idiv hx hb dX8_meanOf_145 (by decide) ?_
                refine lv_ti (y := (nI (kk_78 / 2))) (pk_div (by omega) (by decide) (by decide)) ?_
                refine lv_istore (lv' := [(12, .int (nI (kk_78 / 2))), (11, .int (nI kk_78)), (10, .int (nI qi_77)), (9, .int x_74), (8, .int x_72), (7, .int (nI q_2)), (6, .int bg_2), (5, .int 0), (4, .int (nI (dn sn))), (0, .ref (a 0)), (1, .int (nI sn)), (2, .int (nI kr)), (3, .int p2)]) hx hb dX8_meanOf_146 hl (by decide) rfl (fun ls hl => ?_)
                refine lv_aload_n hx hb dX8_meanOf_148 rfl (lv_at hl 9 rfl) ?_
                refine lv_iload_n hx hb dX8_meanOf_149 rfl (lv_at hl 11 rfl) ?_
                refine lv_iload hx hb dX8_meanOf_150 (lv_at hl 2 rfl) ?_
                refine lv_iload hx hb dX8_meanOf_152 (lv_at hl 0 rfl) ?_
                refine ro_i (D := D) (va_runV (As := [.int (nI kr), .int (nI qi_77), .int (nI (kk_78 / 2))]) (rest := []) ⟨hx, hb, hml, hown, hts⟩ ((m_isFor l D k st lo a tx t0 we rd ru rw ca fp wd nu na ts df db sd bm fbarSeen fbarFrom kr (nI qi_77) (nI (kk_78 / 2)) hbm (by omega)) H.size) (cwV 3 hts (gV tw_1338 tw_1340 tw_61 tw_87 tw_1341) rfl rfl rfl (by decide +kernel) ⟨Nat.le_of_ble_eq_true rfl, Nat.le_of_ble_eq_true rfl⟩) (pV hS hAlo hlo hP hK (va_Dlo hD hAlo) hZ [0, 5, 6, 7] (by decide) rfl (ci := 8) (q := (RX8, TX8, 44)) (q0 := 0) rfl rfl) rfl rfl hl.1 rfl (lv_room (Nat.le_of_ble_eq_true rfl)) dX8_meanOf_154 ⟨Nat.le_of_ble_eq_true rfl, Nat.le_of_ble_eq_true rfl⟩) hS hA hP (fun r_83 H locs hw_83 hP hS => ?_)
                try dsimp only at hw_83
                refine lv_if_eq (tgt := 173) hx hb dX8_meanOf_157 (by decide) (fun c_84 => ?_) (fun c_84 => ?_)
                · refine lv_iload hx hb dX8_meanOf_173 (lv_at hl 7 rfl) ?_
                  refine lv_aload_n hx hb dX8_meanOf_175 rfl (lv_at hl 9 rfl) ?_
                  refine va_get (D := D) (ci := 8) (v := .ref (a 29)) (C := RX8) (T := TX8) (N := 44) hx hb hts inX8 hown hK hP 0 rfl rfl 28 (by decide) (hts _ tw_1001) (fun _ h9 => h9) rfl dX8_meanOf_176 ?_
                  refine lv_iconst (v := 2) hx hb dX8_meanOf_179 (by decide) ?_
                  refine lv_iload hx hb dX8_meanOf_180 (lv_at hl 0 rfl) ?_
                  refine lv_imul hx hb dX8_meanOf_182 ?_
                  refine lv_ti (y := (nI (2 * (kk_78 / 2)))) (pk_mul 2 (kk_78 / 2)) ?_
                  refine lv_iconst (v := 3) hx hb dX8_meanOf_183 (by decide) ?_
                  refine lv_iadd hx hb dX8_meanOf_184 ?_
                  refine lv_ti (y := (nI (2 * (kk_78 / 2) + 3))) (nI_add (2 * (kk_78 / 2)) 3) ?_
                  refine va_iald hx hb hK hP 9 1 rfl rfl (vp_in_nI (by omega) (by decide)) dX8_meanOf_185 ?_
                  refine lv_ti (y := (ff_77 (2 * (kk_78 / 2) + 3))) (by rw [nI_clamp (by omega)]) ?_
                  refine lv_iadd hx hb dX8_meanOf_186 ?_
                  refine lv_topi (fun x_85 ex_85 => ?_)
                  refine lv_istore (lv' := [(13, .int x_85), (12, .int (nI (kk_78 / 2))), (11, .int (nI kk_78)), (10, .int (nI qi_77)), (9, .int x_74), (8, .int x_72), (7, .int (nI q_2)), (6, .int bg_2), (5, .int 0), (4, .int (nI (dn sn))), (0, .ref (a 0)), (1, .int (nI sn)), (2, .int (nI kr)), (3, .int p2)]) hx hb dX8_meanOf_187 hl (by decide) rfl (fun ls hl => ?_)
                  refine lv_aload_n hx hb dX8_meanOf_189 rfl (lv_at hl 10 rfl) ?_
                  refine va_get (D := D) (ci := 8) (v := .ref (a 30)) (C := RX8) (T := TX8) (N := 44) hx hb hts inX8 hown hK hP 0 rfl rfl 29 (by decide) (hts _ tw_1002) (fun _ h9 => h9) rfl dX8_meanOf_190 ?_
                  refine lv_iload hx hb dX8_meanOf_193 (lv_at hl 2 rfl) ?_
                  refine lv_aload_n hx hb dX8_meanOf_195 rfl (lv_at hl 10 rfl) ?_
                  refine lv_iload_n hx hb dX8_meanOf_196 rfl (lv_at hl 11 rfl) ?_
                  refine lv_iload hx hb dX8_meanOf_197 (lv_at hl 3 rfl) ?_
                  refine lv_iload hx hb dX8_meanOf_199 (lv_at hl 2 rfl) ?_
                  refine lv_iconst (v := 2) hx hb dX8_meanOf_201 (by decide) ?_
                  refine lv_irem hx hb dX8_meanOf_202 (by decide) ?_
                  refine lv_ti (y := (nI (kk_78 % 2))) (pk_rem (by omega) (by decide) (by decide)) ?_
                  refine lv_iconst (v := 1) hx hb dX8_meanOf_203 (by decide) ?_
                  refine lv_icmp_ne (tgt := 211) hx hb dX8_meanOf_204 (by decide) (fun c_86 => ?_) (fun c_86 => ?_)
                  · have c_86 : ¬ ((kk_78 % 2) = 1) := fun h => c_86 ((nI_eq (a := (kk_78 % 2)) (b := 1) (by omega) (by omega)).mpr h)
                    refine lv_iconst (v := 0) hx hb dX8_meanOf_211 (by decide) ?_
                    refine ro_i (D := D) (va_runV (As := [.int (nI sn), .int (nI qi_77), .int 0]) (rest := [.int (nI kk_78), .ref (a 30)]) ⟨hx, hb, hml, hown, hts⟩ ((m_chanceOf l D k st lo a tx t0 we rd ru rw ca fp wd nu na ts df db sd ffrees se tm gs sn qi_77 0 (by omega) (by omega)) H.size) (cwV 3 hts (gV tw_1210 tw_1212 tw_41 tw_87 tw_1213) rfl rfl rfl (by decide +kernel) ⟨Nat.le_of_ble_eq_true rfl, Nat.le_of_ble_eq_true rfl⟩) (pV hS hAlo hlo hP hK (va_Dlo hD hAlo) hZ [0, 3, 2] (by decide) rfl (ci := 8) (q := (RX8, TX8, 44)) (q0 := 0) rfl rfl) rfl rfl hl.1 rfl (lv_room (Nat.le_of_ble_eq_true rfl)) dX8_meanOf_212 ⟨Nat.le_of_ble_eq_true rfl, Nat.le_of_ble_eq_true rfl⟩) hS hA hP (fun r_87 H locs hw_87 hP hS => ?_)
                    try dsimp only at hw_87
                    refine lv_iload hx hb dX8_meanOf_215 (lv_at hl 0 rfl) ?_
                    refine lv_iload hx hb dX8_meanOf_217 (lv_at hl 8 rfl) ?_
                    refine lv_aload_n hx hb dX8_meanOf_219 rfl (lv_at hl 10 rfl) ?_
                    refine va_get (D := D) (ci := 8) (v := .ref (a 29)) (C := RX8) (T := TX8) (N := 44) hx hb hts inX8 hown hK hP 0 rfl rfl 28 (by decide) (hts _ tw_1001) (fun _ h9 => h9) rfl dX8_meanOf_220 ?_
                    refine lv_iconst (v := 2) hx hb dX8_meanOf_223 (by decide) ?_
                    refine lv_iload hx hb dX8_meanOf_224 (lv_at hl 1 rfl) ?_
                    refine lv_imul hx hb dX8_meanOf_226 ?_
                    refine lv_ti (y := (nI (2 * (kk_78 / 2)))) (pk_mul 2 (kk_78 / 2)) ?_
                    refine va_iald hx hb hK hP 9 1 rfl rfl (vp_in_nI (by omega) (by decide)) dX8_meanOf_227 ?_
                    refine lv_ti (y := (ff_77 (2 * (kk_78 / 2)))) (by rw [nI_clamp (by omega)]) ?_
                    refine lv_iadd hx hb dX8_meanOf_228 ?_
                    refine lv_topi (fun x_88 ex_88 => ?_)
                    refine ro_i (D := D) (va_runS (As := [.int r_87, .int x_85, .int x_88]) (rest := [.int (nI kk_78), .ref (a 30)]) ⟨hx, hb, hml, hown, hts⟩ ((m_mixed l D k st lo r_87 x_85 x_88) H.size) (va_cwS 3 hts (gS tw_1269 tw_1270 tw_87 tw_1271) rfl rfl rfl (by decide +kernel) ⟨Nat.le_of_ble_eq_true rfl, Nat.le_of_ble_eq_true rfl⟩) (pS hS hAlo hlo hP hK (va_Dlo hD hAlo) hZ [] (by decide) rfl) rfl rfl hl.1 rfl (lv_room (Nat.le_of_ble_eq_true rfl)) dX8_meanOf_229 ⟨Nat.le_of_ble_eq_true rfl, Nat.le_of_ble_eq_true rfl⟩) hS hA hP (fun r_89 H locs hw_89 hP hS => ?_)
                    try dsimp only at hw_89
                    refine va_iast hx hb hK hP hD hS 10 1 rfl rfl (vp_in_nI (by omega) (by decide)) dX8_meanOf_232 (fun H locs hP hD hS => ?_)
                    replace hP : va_P D classes [((a 0), .inr (8, (fX8 a (nI tx) fp (nI t0) wd (nI we) nu na (nI rd) ts (nI ru) (nI rw) (nI ca) df db sd))), (aI k (a 1) 3 (nF dn)), (aI k (a 4) 27 (sg se tm gs)), (aI k (a 2) 72 ffrees), (aI k (a 3) 72 fprices), (aI k (a 25) 4 (nF bm)), (aI k (a 26) 48 fbarSeen), (aI k (a 27) 48 fbarFrom), (aI k (a 28) 4 fruleRounds), (aI k (a 29) 52 ff_77), (aI k (a 30) 52 (upd fb_78 (Int32.toNatClampNeg (nI kk_78)) r_89))] H := hP
                    replace hD : va_D A [((a 0), .inr (8, (fX8 a (nI tx) fp (nI t0) wd (nI we) nu na (nI rd) ts (nI ru) (nI rw) (nI ca) df db sd))), (aI k (a 1) 3 (nF dn)), (aI k (a 4) 27 (sg se tm gs)), (aI k (a 2) 72 ffrees), (aI k (a 3) 72 fprices), (aI k (a 25) 4 (nF bm)), (aI k (a 26) 48 fbarSeen), (aI k (a 27) 48 fbarFrom), (aI k (a 28) 4 fruleRounds), (aI k (a 29) 52 ff_77), (aI k (a 30) 52 (upd fb_78 (Int32.toNatClampNeg (nI kk_78)) r_89))] := hD
                    generalize (upd fb_78 (Int32.toNatClampNeg (nI kk_78)) r_89) = f_90 at hP hD
                    refine lv_iinc (v := (nI (kk_78 + 1))) (lv' := [(11, .int (nI (kk_78 + 1))), (13, .int x_85), (12, .int (nI (kk_78 / 2))), (10, .int (nI qi_77)), (9, .int x_74), (8, .int x_72), (7, .int (nI q_2)), (6, .int bg_2), (5, .int 0), (4, .int (nI (dn sn))), (0, .ref (a 0)), (1, .int (nI sn)), (2, .int (nI kr)), (3, .int p2)]) hx hb dX8_meanOf_233 hl (k := 2) rfl (nI_add kk_78 1) (by decide) rfl (fun ls hl => ?_)
                    refine lv_goto (tgt := 135) hx hb dX8_meanOf_236 (by decide) ?_
                    exact ih_78 _ (kk_78 + 1, f_90) _ _ _ (by omega) ⟨rfl, (by omega), hP, hD, hS, (lv_sub hl [0, 3, 4, 5, 6, 7, 8, 9, 10, 11, 12, 13] rfl)⟩
                  · have c_86 := (nI_eq (a := (kk_78 % 2)) (b := 1) (by omega) (by omega)).mp c_86
                    refine lv_iconst (v := 1) hx hb dX8_meanOf_207 (by decide) ?_
                    refine lv_goto (tgt := 212) hx hb dX8_meanOf_208 (by decide) ?_
                    refine ro_i (D := D) (va_runV (As := [.int (nI sn), .int (nI qi_77), .int 1]) (rest := [.int (nI kk_78), .ref (a 30)]) ⟨hx, hb, hml, hown, hts⟩ ((m_chanceOf l D k st lo a tx t0 we rd ru rw ca fp wd nu na ts df db sd ffrees se tm gs sn qi_77 1 (by omega) (by omega)) H.size) (cwV 3 hts (gV tw_1210 tw_1212 tw_41 tw_87 tw_1213) rfl rfl rfl (by decide +kernel) ⟨Nat.le_of_ble_eq_true rfl, Nat.le_of_ble_eq_true rfl⟩) (pV hS hAlo hlo hP hK (va_Dlo hD hAlo) hZ [0, 3, 2] (by decide) rfl (ci := 8) (q := (RX8, TX8, 44)) (q0 := 0) rfl rfl) rfl rfl hl.1 rfl (lv_room (Nat.le_of_ble_eq_true rfl)) dX8_meanOf_212 ⟨Nat.le_of_ble_eq_true rfl, Nat.le_of_ble_eq_true rfl⟩) hS hA hP (fun r_91 H locs hw_91 hP hS => ?_)
                    try dsimp only at hw_91
                    refine lv_iload hx hb dX8_meanOf_215 (lv_at hl 0 rfl) ?_
                    refine lv_iload hx hb dX8_meanOf_217 (lv_at hl 8 rfl) ?_
                    refine lv_aload_n hx hb dX8_meanOf_219 rfl (lv_at hl 10 rfl) ?_
                    refine va_get (D := D) (ci := 8) (v := .ref (a 29)) (C := RX8) (T := TX8) (N := 44) hx hb hts inX8 hown hK hP 0 rfl rfl 28 (by decide) (hts _ tw_1001) (fun _ h9 => h9) rfl dX8_meanOf_220 ?_
                    refine lv_iconst (v := 2) hx hb dX8_meanOf_223 (by decide) ?_
                    refine lv_iload hx hb dX8_meanOf_224 (lv_at hl 1 rfl) ?_
                    refine lv_imul hx hb dX8_meanOf_226 ?_
                    refine lv_ti (y := (nI (2 * (kk_78 / 2)))) (pk_mul 2 (kk_78 / 2)) ?_
                    refine va_iald hx hb hK hP 9 1 rfl rfl (vp_in_nI (by omega) (by decide)) dX8_meanOf_227 ?_
                    refine lv_ti (y := (ff_77 (2 * (kk_78 / 2)))) (by rw [nI_clamp (by omega)]) ?_
                    refine lv_iadd hx hb dX8_meanOf_228 ?_
                    refine lv_topi (fun x_92 ex_92 => ?_)
                    refine ro_i (D := D) (va_runS (As := [.int r_91, .int x_85, .int x_92]) (rest := [.int (nI kk_78), .ref (a 30)]) ⟨hx, hb, hml, hown, hts⟩ ((m_mixed l D k st lo r_91 x_85 x_92) H.size) (va_cwS 3 hts (gS tw_1269 tw_1270 tw_87 tw_1271) rfl rfl rfl (by decide +kernel) ⟨Nat.le_of_ble_eq_true rfl, Nat.le_of_ble_eq_true rfl⟩) (pS hS hAlo hlo hP hK (va_Dlo hD hAlo) hZ [] (by decide) rfl) rfl rfl hl.1 rfl (lv_room (Nat.le_of_ble_eq_true rfl)) dX8_meanOf_229 ⟨Nat.le_of_ble_eq_true rfl, Nat.le_of_ble_eq_true rfl⟩) hS hA hP (fun r_93 H locs hw_93 hP hS => ?_)
                    try dsimp only at hw_93
                    refine va_iast hx hb hK hP hD hS 10 1 rfl rfl (vp_in_nI (by omega) (by decide)) dX8_meanOf_232 (fun H locs hP hD hS => ?_)
                    replace hP : va_P D classes [((a 0), .inr (8, (fX8 a (nI tx) fp (nI t0) wd (nI we) nu na (nI rd) ts (nI ru) (nI rw) (nI ca) df db sd))), (aI k (a 1) 3 (nF dn)), (aI k (a 4) 27 (sg se tm gs)), (aI k (a 2) 72 ffrees), (aI k (a 3) 72 fprices), (aI k (a 25) 4 (nF bm)), (aI k (a 26) 48 fbarSeen), (aI k (a 27) 48 fbarFrom), (aI k (a 28) 4 fruleRounds), (aI k (a 29) 52 ff_77), (aI k (a 30) 52 (upd fb_78 (Int32.toNatClampNeg (nI kk_78)) r_93))] H := hP
                    replace hD : va_D A [((a 0), .inr (8, (fX8 a (nI tx) fp (nI t0) wd (nI we) nu na (nI rd) ts (nI ru) (nI rw) (nI ca) df db sd))), (aI k (a 1) 3 (nF dn)), (aI k (a 4) 27 (sg se tm gs)), (aI k (a 2) 72 ffrees), (aI k (a 3) 72 fprices), (aI k (a 25) 4 (nF bm)), (aI k (a 26) 48 fbarSeen), (aI k (a 27) 48 fbarFrom), (aI k (a 28) 4 fruleRounds), (aI k (a 29) 52 ff_77), (aI k (a 30) 52 (upd fb_78 (Int32.toNatClampNeg (nI kk_78)) r_93))] := hD
                    generalize (upd fb_78 (Int32.toNatClampNeg (nI kk_78)) r_93) = f_94 at hP hD
                    refine lv_iinc (v := (nI (kk_78 + 1))) (lv' := [(11, .int (nI (kk_78 + 1))), (13, .int x_85), (12, .int (nI (kk_78 / 2))), (10, .int (nI qi_77)), (9, .int x_74), (8, .int x_72), (7, .int (nI q_2)), (6, .int bg_2), (5, .int 0), (4, .int (nI (dn sn))), (0, .ref (a 0)), (1, .int (nI sn)), (2, .int (nI kr)), (3, .int p2)]) hx hb dX8_meanOf_233 hl (k := 2) rfl (nI_add kk_78 1) (by decide) rfl (fun ls hl => ?_)
                    refine lv_goto (tgt := 135) hx hb dX8_meanOf_236 (by decide) ?_
                    exact ih_78 _ (kk_78 + 1, f_94) _ _ _ (by omega) ⟨rfl, (by omega), hP, hD, hS, (lv_sub hl [0, 3, 4, 5, 6, 7, 8, 9, 10, 11, 12, 13] rfl)⟩
                · refine lv_aload_n hx hb dX8_meanOf_160 rfl (lv_at hl 9 rfl) ?_
                  refine lv_iload_n hx hb dX8_meanOf_161 rfl (lv_at hl 10 rfl) ?_
                  refine lv_iload hx hb dX8_meanOf_162 (lv_at hl 5 rfl) ?_
                  refine lv_iload hx hb dX8_meanOf_164 (lv_at hl 2 rfl) ?_
                  refine lv_iload_n hx hb dX8_meanOf_166 rfl (lv_at hl 12 rfl) ?_
                  refine ro_i (D := D) (va_runV (As := [.int (nI sn), .int (nI q_2), .int (nI qi_77), .int p2]) (rest := []) ⟨hx, hb, hml, hown, hts⟩ ((m_byTaking l D k st lo a tx t0 we rd ru rw ca fp wd nu na ts df db sd dn se tm gs fprices sn qi_77 (nI q_2) p2 (by omega) (by omega)) H.size) (cwV 4 hts (gV tw_1342 tw_1344 tw_62 tw_87 tw_1345) rfl rfl rfl (by decide +kernel) ⟨Nat.le_of_ble_eq_true rfl, Nat.le_of_ble_eq_true rfl⟩) (pV hS hAlo hlo hP hK (va_Dlo hD hAlo) hZ [0, 1, 2, 4] (by decide) rfl (ci := 8) (q := (RX8, TX8, 44)) (q0 := 0) rfl rfl) rfl rfl hl.1 rfl (lv_room (Nat.le_of_ble_eq_true rfl)) dX8_meanOf_167 ⟨Nat.le_of_ble_eq_true rfl, Nat.le_of_ble_eq_true rfl⟩) hS hA hP (fun r_95 H locs hw_95 hP hS => ?_)
                  try dsimp only at hw_95
                  refine lv_goto (tgt := 187) hx hb dX8_meanOf_170 (by decide) ?_
                  refine lv_istore (lv' := [(13, .int r_95), (12, .int (nI (kk_78 / 2))), (11, .int (nI kk_78)), (10, .int (nI qi_77)), (9, .int x_74), (8, .int x_72), (7, .int (nI q_2)), (6, .int bg_2), (5, .int 0), (4, .int (nI (dn sn))), (0, .ref (a 0)), (1, .int (nI sn)), (2, .int (nI kr)), (3, .int p2)]) hx hb dX8_meanOf_187 hl (by decide) rfl (fun ls hl => ?_)
                  refine lv_aload_n hx hb dX8_meanOf_189 rfl (lv_at hl 10 rfl) ?_
                  refine va_get (D := D) (ci := 8) (v := .ref (a 30)) (C := RX8) (T := TX8) (N := 44) hx hb hts inX8 hown hK hP 0 rfl rfl 29 (by decide) (hts _ tw_1002) (fun _ h9 => h9) rfl dX8_meanOf_190 ?_
                  refine lv_iload hx hb dX8_meanOf_193 (lv_at hl 2 rfl) ?_
                  refine lv_aload_n hx hb dX8_meanOf_195 rfl (lv_at hl 10 rfl) ?_
                  refine lv_iload_n hx hb dX8_meanOf_196 rfl (lv_at hl 11 rfl) ?_
                  refine lv_iload hx hb dX8_meanOf_197 (lv_at hl 3 rfl) ?_
                  refine lv_iload hx hb dX8_meanOf_199 (lv_at hl 2 rfl) ?_
                  refine lv_iconst (v := 2) hx hb dX8_meanOf_201 (by decide) ?_
                  refine lv_irem hx hb dX8_meanOf_202 (by decide) ?_
                  refine lv_ti (y := (nI (kk_78 % 2))) (pk_rem (by omega) (by decide) (by decide)) ?_
                  refine lv_iconst (v := 1) hx hb dX8_meanOf_203 (by decide) ?_
                  refine lv_icmp_ne (tgt := 211) hx hb dX8_meanOf_204 (by decide) (fun c_96 => ?_) (fun c_96 => ?_)
                  · have c_96 : ¬ ((kk_78 % 2) = 1) := fun h => c_96 ((nI_eq (a := (kk_78 % 2)) (b := 1) (by omega) (by omega)).mpr h)
                    refine lv_iconst (v := 0) hx hb dX8_meanOf_211 (by decide) ?_
                    refine ro_i (D := D) (va_runV (As := [.int (nI sn), .int (nI qi_77), .int 0]) (rest := [.int (nI kk_78), .ref (a 30)]) ⟨hx, hb, hml, hown, hts⟩ ((m_chanceOf l D k st lo a tx t0 we rd ru rw ca fp wd nu na ts df db sd ffrees se tm gs sn qi_77 0 (by omega) (by omega)) H.size) (cwV 3 hts (gV tw_1210 tw_1212 tw_41 tw_87 tw_1213) rfl rfl rfl (by decide +kernel) ⟨Nat.le_of_ble_eq_true rfl, Nat.le_of_ble_eq_true rfl⟩) (pV hS hAlo hlo hP hK (va_Dlo hD hAlo) hZ [0, 3, 2] (by decide) rfl (ci := 8) (q := (RX8, TX8, 44)) (q0 := 0) rfl rfl) rfl rfl hl.1 rfl (lv_room (Nat.le_of_ble_eq_true rfl)) dX8_meanOf_212 ⟨Nat.le_of_ble_eq_true rfl, Nat.le_of_ble_eq_true rfl⟩) hS hA hP (fun r_97 H locs hw_97 hP hS => ?_)
                    try dsimp only at hw_97
                    refine lv_iload hx hb dX8_meanOf_215 (lv_at hl 0 rfl) ?_
                    refine lv_iload hx hb dX8_meanOf_217 (lv_at hl 8 rfl) ?_
                    refine lv_aload_n hx hb dX8_meanOf_219 rfl (lv_at hl 10 rfl) ?_
                    refine va_get (D := D) (ci := 8) (v := .ref (a 29)) (C := RX8) (T := TX8) (N := 44) hx hb hts inX8 hown hK hP 0 rfl rfl 28 (by decide) (hts _ tw_1001) (fun _ h9 => h9) rfl dX8_meanOf_220 ?_
                    refine lv_iconst (v := 2) hx hb dX8_meanOf_223 (by decide) ?_
                    refine lv_iload hx hb dX8_meanOf_224 (lv_at hl 1 rfl) ?_
                    refine lv_imul hx hb dX8_meanOf_226 ?_
                    refine lv_ti (y := (nI (2 * (kk_78 / 2)))) (pk_mul 2 (kk_78 / 2)) ?_
                    refine va_iald hx hb hK hP 9 1 rfl rfl (vp_in_nI (by omega) (by decide)) dX8_meanOf_227 ?_
                    refine lv_ti (y := (ff_77 (2 * (kk_78 / 2)))) (by rw [nI_clamp (by omega)]) ?_
                    refine lv_iadd hx hb dX8_meanOf_228 ?_
                    refine lv_topi (fun x_98 ex_98 => ?_)
                    refine ro_i (D := D) (va_runS (As := [.int r_97, .int r_95, .int x_98]) (rest := [.int (nI kk_78), .ref (a 30)]) ⟨hx, hb, hml, hown, hts⟩ ((m_mixed l D k st lo r_97 r_95 x_98) H.size) (va_cwS 3 hts (gS tw_1269 tw_1270 tw_87 tw_1271) rfl rfl rfl (by decide +kernel) ⟨Nat.le_of_ble_eq_true rfl, Nat.le_of_ble_eq_true rfl⟩) (pS hS hAlo hlo hP hK (va_Dlo hD hAlo) hZ [] (by decide) rfl) rfl rfl hl.1 rfl (lv_room (Nat.le_of_ble_eq_true rfl)) dX8_meanOf_229 ⟨Nat.le_of_ble_eq_true rfl, Nat.le_of_ble_eq_true rfl⟩) hS hA hP (fun r_99 H locs hw_99 hP hS => ?_)
                    try dsimp only at hw_99
                    refine va_iast hx hb hK hP hD hS 10 1 rfl rfl (vp_in_nI (by omega) (by decide)) dX8_meanOf_232 (fun H locs hP hD hS => ?_)
                    replace hP : va_P D classes [((a 0), .inr (8, (fX8 a (nI tx) fp (nI t0) wd (nI we) nu na (nI rd) ts (nI ru) (nI rw) (nI ca) df db sd))), (aI k (a 1) 3 (nF dn)), (aI k (a 4) 27 (sg se tm gs)), (aI k (a 2) 72 ffrees), (aI k (a 3) 72 fprices), (aI k (a 25) 4 (nF bm)), (aI k (a 26) 48 fbarSeen), (aI k (a 27) 48 fbarFrom), (aI k (a 28) 4 fruleRounds), (aI k (a 29) 52 ff_77), (aI k (a 30) 52 (upd fb_78 (Int32.toNatClampNeg (nI kk_78)) r_99))] H := hP
                    replace hD : va_D A [((a 0), .inr (8, (fX8 a (nI tx) fp (nI t0) wd (nI we) nu na (nI rd) ts (nI ru) (nI rw) (nI ca) df db sd))), (aI k (a 1) 3 (nF dn)), (aI k (a 4) 27 (sg se tm gs)), (aI k (a 2) 72 ffrees), (aI k (a 3) 72 fprices), (aI k (a 25) 4 (nF bm)), (aI k (a 26) 48 fbarSeen), (aI k (a 27) 48 fbarFrom), (aI k (a 28) 4 fruleRounds), (aI k (a 29) 52 ff_77), (aI k (a 30) 52 (upd fb_78 (Int32.toNatClampNeg (nI kk_78)) r_99))] := hD
                    generalize (upd fb_78 (Int32.toNatClampNeg (nI kk_78)) r_99) = f_100 at hP hD
                    refine lv_iinc (v := (nI (kk_78 + 1))) (lv' := [(11, .int (nI (kk_78 + 1))), (13, .int r_95), (12, .int (nI (kk_78 / 2))), (10, .int (nI qi_77)), (9, .int x_74), (8, .int x_72), (7, .int (nI q_2)), (6, .int bg_2), (5, .int 0), (4, .int (nI (dn sn))), (0, .ref (a 0)), (1, .int (nI sn)), (2, .int (nI kr)), (3, .int p2)]) hx hb dX8_meanOf_233 hl (k := 2) rfl (nI_add kk_78 1) (by decide) rfl (fun ls hl => ?_)
                    refine lv_goto (tgt := 135) hx hb dX8_meanOf_236 (by decide) ?_
                    exact ih_78 _ (kk_78 + 1, f_100) _ _ _ (by omega) ⟨rfl, (by omega), hP, hD, hS, (lv_sub hl [0, 3, 4, 5, 6, 7, 8, 9, 10, 11, 12, 13] rfl)⟩
                  · have c_96 := (nI_eq (a := (kk_78 % 2)) (b := 1) (by omega) (by omega)).mp c_96
                    refine lv_iconst (v := 1) hx hb dX8_meanOf_207 (by decide) ?_
                    refine lv_goto (tgt := 212) hx hb dX8_meanOf_208 (by decide) ?_
                    refine ro_i (D := D) (va_runV (As := [.int (nI sn), .int (nI qi_77), .int 1]) (rest := [.int (nI kk_78), .ref (a 30)]) ⟨hx, hb, hml, hown, hts⟩ ((m_chanceOf l D k st lo a tx t0 we rd ru rw ca fp wd nu na ts df db sd ffrees se tm gs sn qi_77 1 (by omega) (by omega)) H.size) (cwV 3 hts (gV tw_1210 tw_1212 tw_41 tw_87 tw_1213) rfl rfl rfl (by decide +kernel) ⟨Nat.le_of_ble_eq_true rfl, Nat.le_of_ble_eq_true rfl⟩) (pV hS hAlo hlo hP hK (va_Dlo hD hAlo) hZ [0, 3, 2] (by decide) rfl (ci := 8) (q := (RX8, TX8, 44)) (q0 := 0) rfl rfl) rfl rfl hl.1 rfl (lv_room (Nat.le_of_ble_eq_true rfl)) dX8_meanOf_212 ⟨Nat.le_of_ble_eq_true rfl, Nat.le_of_ble_eq_true rfl⟩) hS hA hP (fun r_101 H locs hw_101 hP hS => ?_)
                    try dsimp only at hw_101
                    refine lv_iload hx hb dX8_meanOf_215 (lv_at hl 0 rfl) ?_
                    refine lv_iload hx hb dX8_meanOf_217 (lv_at hl 8 rfl) ?_
                    refine lv_aload_n hx hb dX8_meanOf_219 rfl (lv_at hl 10 rfl) ?_
                    refine va_get (D := D) (ci := 8) (v := .ref (a 29)) (C := RX8) (T := TX8) (N := 44) hx hb hts inX8 hown hK hP 0 rfl rfl 28 (by decide) (hts _ tw_1001) (fun _ h9 => h9) rfl dX8_meanOf_220 ?_
                    refine lv_iconst (v := 2) hx hb dX8_meanOf_223 (by decide) ?_
                    refine lv_iload hx hb dX8_meanOf_224 (lv_at hl 1 rfl) ?_
                    refine lv_imul hx hb dX8_meanOf_226 ?_
                    refine lv_ti (y := (nI (2 * (kk_78 / 2)))) (pk_mul 2 (kk_78 / 2)) ?_
                    refine va_iald hx hb hK hP 9 1 rfl rfl (vp_in_nI (by omega) (by decide)) dX8_meanOf_227 ?_
                    refine lv_ti (y := (ff_77 (2 * (kk_78 / 2)))) (by rw [nI_clamp (by omega)]) ?_
                    refine lv_iadd hx hb dX8_meanOf_228 ?_
                    refine lv_topi (fun x_102 ex_102 => ?_)
                    refine ro_i (D := D) (va_runS (As := [.int r_101, .int r_95, .int x_102]) (rest := [.int (nI kk_78), .ref (a 30)]) ⟨hx, hb, hml, hown, hts⟩ ((m_mixed l D k st lo r_101 r_95 x_102) H.size) (va_cwS 3 hts (gS tw_1269 tw_1270 tw_87 tw_1271) rfl rfl rfl (by decide +kernel) ⟨Nat.le_of_ble_eq_true rfl, Nat.le_of_ble_eq_true rfl⟩) (pS hS hAlo hlo hP hK (va_Dlo hD hAlo) hZ [] (by decide) rfl) rfl rfl hl.1 rfl (lv_room (Nat.le_of_ble_eq_true rfl)) dX8_meanOf_229 ⟨Nat.le_of_ble_eq_true rfl, Nat.le_of_ble_eq_true rfl⟩) hS hA hP (fun r_103 H locs hw_103 hP hS => ?_)
                    try dsimp only at hw_103
                    refine va_iast hx hb hK hP hD hS 10 1 rfl rfl (vp_in_nI (by omega) (by decide)) dX8_meanOf_232 (fun H locs hP hD hS => ?_)
                    replace hP : va_P D classes [((a 0), .inr (8, (fX8 a (nI tx) fp (nI t0) wd (nI we) nu na (nI rd) ts (nI ru) (nI rw) (nI ca) df db sd))), (aI k (a 1) 3 (nF dn)), (aI k (a 4) 27 (sg se tm gs)), (aI k (a 2) 72 ffrees), (aI k (a 3) 72 fprices), (aI k (a 25) 4 (nF bm)), (aI k (a 26) 48 fbarSeen), (aI k (a 27) 48 fbarFrom), (aI k (a 28) 4 fruleRounds), (aI k (a 29) 52 ff_77), (aI k (a 30) 52 (upd fb_78 (Int32.toNatClampNeg (nI kk_78)) r_103))] H := hP
                    replace hD : va_D A [((a 0), .inr (8, (fX8 a (nI tx) fp (nI t0) wd (nI we) nu na (nI rd) ts (nI ru) (nI rw) (nI ca) df db sd))), (aI k (a 1) 3 (nF dn)), (aI k (a 4) 27 (sg se tm gs)), (aI k (a 2) 72 ffrees), (aI k (a 3) 72 fprices), (aI k (a 25) 4 (nF bm)), (aI k (a 26) 48 fbarSeen), (aI k (a 27) 48 fbarFrom), (aI k (a 28) 4 fruleRounds), (aI k (a 29) 52 ff_77), (aI k (a 30) 52 (upd fb_78 (Int32.toNatClampNeg (nI kk_78)) r_103))] := hD
                    generalize (upd fb_78 (Int32.toNatClampNeg (nI kk_78)) r_103) = f_104 at hP hD
                    refine lv_iinc (v := (nI (kk_78 + 1))) (lv' := [(11, .int (nI (kk_78 + 1))), (13, .int r_95), (12, .int (nI (kk_78 / 2))), (10, .int (nI qi_77)), (9, .int x_74), (8, .int x_72), (7, .int (nI q_2)), (6, .int bg_2), (5, .int 0), (4, .int (nI (dn sn))), (0, .ref (a 0)), (1, .int (nI sn)), (2, .int (nI kr)), (3, .int p2)]) hx hb dX8_meanOf_233 hl (k := 2) rfl (nI_add kk_78 1) (by decide) rfl (fun ls hl => ?_)
                    refine lv_goto (tgt := 135) hx hb dX8_meanOf_236 (by decide) ?_
                    exact ih_78 _ (kk_78 + 1, f_104) _ _ _ (by omega) ⟨rfl, (by omega), hP, hD, hS, (lv_sub hl [0, 3, 4, 5, 6, 7, 8, 9, 10, 11, 12, 13] rfl)⟩
          · have c_76 : ¬ (52 ≤ kk_75) := fun h => c_76 ((nI_leI (a := 52) (b := kk_75) (by omega) (by omega)).mpr h)
            refine lv_aload_n hx hb dX8_meanOf_106 rfl (lv_at hl 7 rfl) ?_
            refine va_get (D := D) (ci := 8) (v := .ref (a 29)) (C := RX8) (T := TX8) (N := 44) hx hb hts inX8 hown hK hP 0 rfl rfl 28 (by decide) (hts _ tw_1001) (fun _ h9 => h9) rfl dX8_meanOf_107 ?_
            refine lv_iload hx hb dX8_meanOf_110 (lv_at hl 0 rfl) ?_
            refine lv_iload hx hb dX8_meanOf_112 (lv_at hl 1 rfl) ?_
            refine va_iast hx hb hK hP hD hS 9 1 rfl rfl (vp_in_nI (by omega) (by decide)) dX8_meanOf_114 (fun H locs hP hD hS => ?_)
            replace hP : va_P D classes [((a 0), .inr (8, (fX8 a (nI tx) fp (nI t0) wd (nI we) nu na (nI rd) ts (nI ru) (nI rw) (nI ca) df db sd))), (aI k (a 1) 3 (nF dn)), (aI k (a 4) 27 (sg se tm gs)), (aI k (a 2) 72 ffrees), (aI k (a 3) 72 fprices), (aI k (a 25) 4 (nF bm)), (aI k (a 26) 48 fbarSeen), (aI k (a 27) 48 fbarFrom), (aI k (a 28) 4 fruleRounds), (aI k (a 29) 52 (upd ff_75 (Int32.toNatClampNeg (nI kk_75)) x_74)), (aI k (a 30) 52 fb_2)] H := hP
            replace hD : va_D A [((a 0), .inr (8, (fX8 a (nI tx) fp (nI t0) wd (nI we) nu na (nI rd) ts (nI ru) (nI rw) (nI ca) df db sd))), (aI k (a 1) 3 (nF dn)), (aI k (a 4) 27 (sg se tm gs)), (aI k (a 2) 72 ffrees), (aI k (a 3) 72 fprices), (aI k (a 25) 4 (nF bm)), (aI k (a 26) 48 fbarSeen), (aI k (a 27) 48 fbarFrom), (aI k (a 28) 4 fruleRounds), (aI k (a 29) 52 (upd ff_75 (Int32.toNatClampNeg (nI kk_75)) x_74)), (aI k (a 30) 52 fb_2)] := hD
            generalize (upd ff_75 (Int32.toNatClampNeg (nI kk_75)) x_74) = f_105 at hP hD
            refine lv_iinc (v := (nI (kk_75 + 1))) (lv' := [(10, .int (nI (kk_75 + 1))), (9, .int x_74), (8, .int x_72), (7, .int (nI q_2)), (6, .int bg_2), (5, .int 0), (4, .int (nI (dn sn))), (0, .ref (a 0)), (1, .int (nI sn)), (2, .int (nI kr)), (3, .int p2)]) hx hb dX8_meanOf_115 hl (k := 0) rfl (nI_add kk_75 1) (by decide) rfl (fun ls hl => ?_)
            refine lv_goto (tgt := 99) hx hb dX8_meanOf_118 (by decide) ?_
            exact ih_75 _ (kk_75 + 1, f_105) _ _ _ (by omega) ⟨rfl, (by omega), hP, hD, hS, (lv_sub hl [0, 1, 2, 3, 4, 5, 6, 7, 8, 9, 10] rfl)⟩
        · refine lv_if_eq (tgt := 86) hx hb dX8_meanOf_75 (by decide) (fun _ => ?_) (fun h => absurd (by decide) h)
          refine lv_aload_n hx hb dX8_meanOf_86 rfl (lv_at hl 5 rfl) ?_
          refine lv_iload_n hx hb dX8_meanOf_87 rfl (lv_at hl 6 rfl) ?_
          refine lv_iload hx hb dX8_meanOf_88 (lv_at hl 1 rfl) ?_
          refine lv_iload_n hx hb dX8_meanOf_90 rfl (lv_at hl 8 rfl) ?_
          refine ro_i (D := D) (va_runV (As := [.int (nI sn), .int (nI q_2), .int p2]) (rest := []) ⟨hx, hb, hml, hown, hts⟩ ((m_byGarage l D k st lo a tx t0 we rd ru rw ca fp wd nu na ts df db sd dn se tm gs sn (nI q_2) p2 (by omega)) H.size) (cwV 3 hts (gV tw_1333 tw_1335 tw_60 tw_87 tw_1336) rfl rfl rfl (by decide +kernel) ⟨Nat.le_of_ble_eq_true rfl, Nat.le_of_ble_eq_true rfl⟩) (pV hS hAlo hlo hP hK (va_Dlo hD hAlo) hZ [0, 1, 2] (by decide) rfl (ci := 8) (q := (RX8, TX8, 44)) (q0 := 0) rfl rfl) rfl rfl hl.1 rfl (lv_room (Nat.le_of_ble_eq_true rfl)) dX8_meanOf_91 ⟨Nat.le_of_ble_eq_true rfl, Nat.le_of_ble_eq_true rfl⟩) hS hA hP (fun r_106 H locs hw_106 hP hS => ?_)
          try dsimp only at hw_106
          refine lv_istore (lv' := [(9, .int r_106), (8, .int x_72), (7, .int (nI q_2)), (6, .int bg_2), (5, .int 0), (4, .int (nI (dn sn))), (0, .ref (a 0)), (1, .int (nI sn)), (2, .int (nI kr)), (3, .int p2)]) hx hb dX8_meanOf_94 hl (by decide) rfl (fun ls hl => ?_)
          refine lv_iconst (v := 0) hx hb dX8_meanOf_96 (by decide) ?_
          refine lv_istore (lv' := [(10, .int 0), (9, .int r_106), (8, .int x_72), (7, .int (nI q_2)), (6, .int bg_2), (5, .int 0), (4, .int (nI (dn sn))), (0, .ref (a 0)), (1, .int (nI sn)), (2, .int (nI kr)), (3, .int p2)]) hx hb dX8_meanOf_97 hl (by decide) rfl (fun ls hl => ?_)
          refine W_loop (σ := Nat × (Nat → Int32)) (fun (n_ : Nat) (x_ : Nat × (Nat → Int32)) (H : Heap) (locs : List Loc) (ls : Array Slot) => match x_ with | (kk_107, ff_107) => n_ = 52 - kk_107 ∧ (kk_107 ≤ 52) ∧ va_P D classes [((a 0), .inr (8, (fX8 a (nI tx) fp (nI t0) wd (nI we) nu na (nI rd) ts (nI ru) (nI rw) (nI ca) df db sd))), (aI k (a 1) 3 (nF dn)), (aI k (a 4) 27 (sg se tm gs)), (aI k (a 2) 72 ffrees), (aI k (a 3) 72 fprices), (aI k (a 25) 4 (nF bm)), (aI k (a 26) 48 fbarSeen), (aI k (a 27) 48 fbarFrom), (aI k (a 28) 4 fruleRounds), (aI k (a 29) 52 ff_107), (aI k (a 30) 52 fb_2)] H ∧ va_D A [((a 0), .inr (8, (fX8 a (nI tx) fp (nI t0) wd (nI we) nu na (nI rd) ts (nI ru) (nI rw) (nI ca) df db sd))), (aI k (a 1) 3 (nF dn)), (aI k (a 4) 27 (sg se tm gs)), (aI k (a 2) 72 ffrees), (aI k (a 3) 72 fprices), (aI k (a 25) 4 (nF bm)), (aI k (a 26) 48 fbarSeen), (aI k (a 27) 48 fbarFrom), (aI k (a 28) 4 fruleRounds), (aI k (a 29) 52 ff_107), (aI k (a 30) 52 fb_2)] ∧ va_S A s.heap H locs ∧ lv_has ls 14 [(10, .int (nI kk_107)), (9, .int r_106), (8, .int x_72), (7, .int (nI q_2)), (6, .int bg_2), (5, .int 0), (4, .int (nI (dn sn))), (0, .ref (a 0)), (1, .int (nI sn)), (2, .int (nI kr)), (3, .int p2)]) (fun n_107 x_107 H locs ls hI ih_107 => ?_) _ (0, ff_2) ⟨rfl, (by omega), hP, hD, hS, (lv_sub hl [0, 1, 2, 3, 4, 5, 6, 7, 8, 9, 10] rfl)⟩
          obtain ⟨kk_107, ff_107⟩ := x_107
          obtain ⟨hm_107, hv_107, hP, hD, hS, hl⟩ := hI
          subst hm_107
          refine lv_iload hx hb dX8_meanOf_99 (lv_at hl 0 rfl) ?_
          refine lv_bipush (v := 52) hx hb dX8_meanOf_101 (by decide) ?_
          refine lv_icmp_ge (tgt := 121) hx hb dX8_meanOf_103 (by decide) (fun c_108 => ?_) (fun c_108 => ?_)
          · have c_108 := (nI_leI (a := 52) (b := kk_107) (by omega) (by omega)).mp c_108
            refine lv_iload hx hb dX8_meanOf_121 (lv_at hl 6 rfl) ?_
            refine lv_iconst (v := 1) hx hb dX8_meanOf_123 (by decide) ?_
            refine lv_isub hx hb dX8_meanOf_124 ?_
            refine lv_ti (y := (nI (dn sn) - 1)) rfl ?_
            refine lv_istore (lv' := [(10, .int (nI (dn sn) - 1)), (9, .int r_106), (8, .int x_72), (7, .int (nI q_2)), (6, .int bg_2), (5, .int 0), (4, .int (nI (dn sn))), (0, .ref (a 0)), (1, .int (nI sn)), (2, .int (nI kr)), (3, .int p2)]) hx hb dX8_meanOf_125 hl (by decide) rfl (fun ls hl => ?_)
            refine W_loop (σ := Nat × (Nat → Int32) × (Nat → Int32)) (fun (n_ : Nat) (x_ : Nat × (Nat → Int32) × (Nat → Int32)) (H : Heap) (locs : List Loc) (ls : Array Slot) => match x_ with | (qi_109, ff_109, fb_109) => n_ = 2 * qi_109 ∧ (qi_109 ≤ dn sn) ∧ va_P D classes [((a 0), .inr (8, (fX8 a (nI tx) fp (nI t0) wd (nI we) nu na (nI rd) ts (nI ru) (nI rw) (nI ca) df db sd))), (aI k (a 1) 3 (nF dn)), (aI k (a 4) 27 (sg se tm gs)), (aI k (a 2) 72 ffrees), (aI k (a 3) 72 fprices), (aI k (a 25) 4 (nF bm)), (aI k (a 26) 48 fbarSeen), (aI k (a 27) 48 fbarFrom), (aI k (a 28) 4 fruleRounds), (aI k (a 29) 52 ff_109), (aI k (a 30) 52 fb_109)] H ∧ va_D A [((a 0), .inr (8, (fX8 a (nI tx) fp (nI t0) wd (nI we) nu na (nI rd) ts (nI ru) (nI rw) (nI ca) df db sd))), (aI k (a 1) 3 (nF dn)), (aI k (a 4) 27 (sg se tm gs)), (aI k (a 2) 72 ffrees), (aI k (a 3) 72 fprices), (aI k (a 25) 4 (nF bm)), (aI k (a 26) 48 fbarSeen), (aI k (a 27) 48 fbarFrom), (aI k (a 28) 4 fruleRounds), (aI k (a 29) 52 ff_109), (aI k (a 30) 52 fb_109)] ∧ va_S A s.heap H locs ∧ lv_has ls 14 [(10, .int (nI qi_109 - 1)), (9, .int r_106), (8, .int x_72), (7, .int (nI q_2)), (6, .int bg_2), (5, .int 0), (4, .int (nI (dn sn))), (0, .ref (a 0)), (1, .int (nI sn)), (2, .int (nI kr)), (3, .int p2)]) (fun n_109 x_109 H locs ls hI ih_109 => ?_) _ (dn sn, ff_107, fb_2) ⟨rfl, (by omega), hP, hD, hS, (lv_sub hl [0, 1, 2, 3, 4, 5, 6, 7, 8, 9, 10] rfl)⟩
            obtain ⟨qi_109, ff_109, fb_109⟩ := x_109
            obtain ⟨hm_109, hv_109, hP, hD, hS, hl⟩ := hI
            subst hm_109
            rcases qi_109 with _ | qi_109
            · rw [dn0] at hl
              refine lv_iload hx hb dX8_meanOf_127 (lv_at hl 0 rfl) ?_
              refine lv_if_lt (tgt := 275) hx hb dX8_meanOf_129 (by decide) (fun _ => ?_) (fun h => absurd (by decide) h)
              refine lv_aload_n hx hb dX8_meanOf_275 rfl (lv_at hl 7 rfl) ?_
              refine va_get (D := D) (ci := 8) (v := .ref (a 29)) (C := RX8) (T := TX8) (N := 44) hx hb hts inX8 hown hK hP 0 rfl rfl 28 (by decide) (hts _ tw_1001) (fun _ h9 => h9) rfl dX8_meanOf_276 ?_
              refine lv_iconst (v := 0) hx hb dX8_meanOf_279 (by decide) ?_
              refine va_iald hx hb hK hP 9 1 rfl rfl (by unfold vp_in; decide) dX8_meanOf_280 ?_
              refine lv_ti (y := (ff_109 0)) (by rfl) ?_
              refine lv_istore (lv' := [(6, .int (ff_109 0)), (10, .int (-1)), (9, .int r_106), (8, .int x_72), (7, .int (nI q_2)), (5, .int 0), (4, .int (nI (dn sn))), (0, .ref (a 0)), (1, .int (nI sn)), (2, .int (nI kr)), (3, .int p2)]) hx hb dX8_meanOf_281 hl (by decide) rfl (fun ls hl => ?_)
              refine lv_iinc (v := (nI q_2 - 1)) (lv' := [(7, .int (nI q_2 - 1)), (6, .int (ff_109 0)), (10, .int (-1)), (9, .int r_106), (8, .int x_72), (5, .int 0), (4, .int (nI (dn sn))), (0, .ref (a 0)), (1, .int (nI sn)), (2, .int (nI kr)), (3, .int p2)]) hx hb dX8_meanOf_283 hl (k := 4) rfl (dn1 _) (by decide) rfl (fun ls hl => ?_)
              refine lv_goto (tgt := 34) hx hb dX8_meanOf_286 (by decide) ?_
              exact ih_2 _ (q_2, (ff_109 0), ff_109, fb_109) _ _ _ (by omega) ⟨rfl, (by omega), hP, hD, hS, (lv_sub hl [0, 1, 5, 6, 7, 8, 9, 10] rfl)⟩
            · rw [nI_pred] at hl
              refine lv_iload hx hb dX8_meanOf_127 (lv_at hl 0 rfl) ?_
              refine lv_if_lt (tgt := 275) hx hb dX8_meanOf_129 (by decide) (fun h => absurd h (nI_pos0 (by omega))) (fun _ => ?_)
              refine lv_iconst (v := 0) hx hb dX8_meanOf_132 (by decide) ?_
              refine lv_istore (lv' := [(11, .int 0), (10, .int (nI qi_109)), (9, .int r_106), (8, .int x_72), (7, .int (nI q_2)), (6, .int bg_2), (5, .int 0), (4, .int (nI (dn sn))), (0, .ref (a 0)), (1, .int (nI sn)), (2, .int (nI kr)), (3, .int p2)]) hx hb dX8_meanOf_133 hl (by decide) rfl (fun ls hl => ?_)
              refine W_loop (σ := Nat × (Nat → Int32)) (fun (n_ : Nat) (x_ : Nat × (Nat → Int32)) (H : Heap) (locs : List Loc) (ls : Array Slot) => match x_ with | (kk_110, fb_110) => n_ = 50 - kk_110 ∧ (kk_110 ≤ 50) ∧ va_P D classes [((a 0), .inr (8, (fX8 a (nI tx) fp (nI t0) wd (nI we) nu na (nI rd) ts (nI ru) (nI rw) (nI ca) df db sd))), (aI k (a 1) 3 (nF dn)), (aI k (a 4) 27 (sg se tm gs)), (aI k (a 2) 72 ffrees), (aI k (a 3) 72 fprices), (aI k (a 25) 4 (nF bm)), (aI k (a 26) 48 fbarSeen), (aI k (a 27) 48 fbarFrom), (aI k (a 28) 4 fruleRounds), (aI k (a 29) 52 ff_109), (aI k (a 30) 52 fb_110)] H ∧ va_D A [((a 0), .inr (8, (fX8 a (nI tx) fp (nI t0) wd (nI we) nu na (nI rd) ts (nI ru) (nI rw) (nI ca) df db sd))), (aI k (a 1) 3 (nF dn)), (aI k (a 4) 27 (sg se tm gs)), (aI k (a 2) 72 ffrees), (aI k (a 3) 72 fprices), (aI k (a 25) 4 (nF bm)), (aI k (a 26) 48 fbarSeen), (aI k (a 27) 48 fbarFrom), (aI k (a 28) 4 fruleRounds), (aI k (a 29) 52 ff_109), (aI k (a 30) 52 fb_110)] ∧ va_S A s.heap H locs ∧ lv_has ls 14 [(11, .int (nI kk_110)), (10, .int (nI qi_109)), (9, .int r_106), (8, .int x_72), (7, .int (nI q_2)), (6, .int bg_2), (5, .int 0), (4, .int (nI (dn sn))), (0, .ref (a 0)), (1, .int (nI sn)), (2, .int (nI kr)), (3, .int p2)]) (fun n_110 x_110 H locs ls hI ih_110 => ?_) _ (0, fb_109) ⟨rfl, (by omega), hP, hD, hS, (lv_sub hl [0, 1, 2, 3, 4, 5, 6, 7, 8, 9, 10, 11] rfl)⟩
              obtain ⟨kk_110, fb_110⟩ := x_110
              obtain ⟨hm_110, hv_110, hP, hD, hS, hl⟩ := hI
              subst hm_110
              refine lv_iload hx hb dX8_meanOf_135 (lv_at hl 0 rfl) ?_
              refine lv_bipush (v := 50) hx hb dX8_meanOf_137 (by decide) ?_
              refine lv_icmp_ge (tgt := 239) hx hb dX8_meanOf_139 (by decide) (fun c_111 => ?_) (fun c_111 => ?_)
              · have c_111 := (nI_leI (a := 50) (b := kk_110) (by omega) (by omega)).mp c_111
                refine lv_iconst (v := 0) hx hb dX8_meanOf_239 (by decide) ?_
                refine lv_istore (lv' := [(11, .int 0), (10, .int (nI qi_109)), (9, .int r_106), (8, .int x_72), (7, .int (nI q_2)), (6, .int bg_2), (5, .int 0), (4, .int (nI (dn sn))), (0, .ref (a 0)), (1, .int (nI sn)), (2, .int (nI kr)), (3, .int p2)]) hx hb dX8_meanOf_240 hl (by decide) rfl (fun ls hl => ?_)
                refine W_loop (σ := Nat × (Nat → Int32)) (fun (n_ : Nat) (x_ : Nat × (Nat → Int32)) (H : Heap) (locs : List Loc) (ls : Array Slot) => match x_ with | (kk_112, ff_112) => n_ = 50 - kk_112 ∧ (kk_112 ≤ 50) ∧ va_P D classes [((a 0), .inr (8, (fX8 a (nI tx) fp (nI t0) wd (nI we) nu na (nI rd) ts (nI ru) (nI rw) (nI ca) df db sd))), (aI k (a 1) 3 (nF dn)), (aI k (a 4) 27 (sg se tm gs)), (aI k (a 2) 72 ffrees), (aI k (a 3) 72 fprices), (aI k (a 25) 4 (nF bm)), (aI k (a 26) 48 fbarSeen), (aI k (a 27) 48 fbarFrom), (aI k (a 28) 4 fruleRounds), (aI k (a 29) 52 ff_112), (aI k (a 30) 52 fb_110)] H ∧ va_D A [((a 0), .inr (8, (fX8 a (nI tx) fp (nI t0) wd (nI we) nu na (nI rd) ts (nI ru) (nI rw) (nI ca) df db sd))), (aI k (a 1) 3 (nF dn)), (aI k (a 4) 27 (sg se tm gs)), (aI k (a 2) 72 ffrees), (aI k (a 3) 72 fprices), (aI k (a 25) 4 (nF bm)), (aI k (a 26) 48 fbarSeen), (aI k (a 27) 48 fbarFrom), (aI k (a 28) 4 fruleRounds), (aI k (a 29) 52 ff_112), (aI k (a 30) 52 fb_110)] ∧ va_S A s.heap H locs ∧ lv_has ls 14 [(11, .int (nI kk_112)), (10, .int (nI qi_109)), (9, .int r_106), (8, .int x_72), (7, .int (nI q_2)), (6, .int bg_2), (5, .int 0), (4, .int (nI (dn sn))), (0, .ref (a 0)), (1, .int (nI sn)), (2, .int (nI kr)), (3, .int p2)]) (fun n_112 x_112 H locs ls hI ih_112 => ?_) _ (0, ff_109) ⟨rfl, (by omega), hP, hD, hS, (lv_sub hl [0, 1, 2, 3, 4, 5, 6, 7, 8, 9, 10, 11] rfl)⟩
                obtain ⟨kk_112, ff_112⟩ := x_112
                obtain ⟨hm_112, hv_112, hP, hD, hS, hl⟩ := hI
                subst hm_112
                refine lv_iload hx hb dX8_meanOf_242 (lv_at hl 0 rfl) ?_
                refine lv_bipush (v := 50) hx hb dX8_meanOf_244 (by decide) ?_
                refine lv_icmp_ge (tgt := 269) hx hb dX8_meanOf_246 (by decide) (fun c_113 => ?_) (fun c_113 => ?_)
                · have c_113 := (nI_leI (a := 50) (b := kk_112) (by omega) (by omega)).mp c_113
                  refine lv_iinc (v := (nI qi_109 - 1)) (lv' := [(10, .int (nI qi_109 - 1)), (11, .int (nI kk_112)), (9, .int r_106), (8, .int x_72), (7, .int (nI q_2)), (6, .int bg_2), (5, .int 0), (4, .int (nI (dn sn))), (0, .ref (a 0)), (1, .int (nI sn)), (2, .int (nI kr)), (3, .int p2)]) hx hb dX8_meanOf_269 hl (k := 1) rfl (dn1 _) (by decide) rfl (fun ls hl => ?_)
                  refine lv_goto (tgt := 127) hx hb dX8_meanOf_272 (by decide) ?_
                  exact ih_109 _ (qi_109, ff_112, fb_110) _ _ _ (by omega) ⟨rfl, (by omega), hP, hD, hS, (lv_sub hl [0, 2, 3, 4, 5, 6, 7, 8, 9, 10, 11] rfl)⟩
                · have c_113 : ¬ (50 ≤ kk_112) := fun h => c_113 ((nI_leI (a := 50) (b := kk_112) (by omega) (by omega)).mpr h)
                  refine lv_aload_n hx hb dX8_meanOf_249 rfl (lv_at hl 8 rfl) ?_
                  refine va_get (D := D) (ci := 8) (v := .ref (a 29)) (C := RX8) (T := TX8) (N := 44) hx hb hts inX8 hown hK hP 0 rfl rfl 28 (by decide) (hts _ tw_1001) (fun _ h9 => h9) rfl dX8_meanOf_250 ?_
                  refine lv_iload hx hb dX8_meanOf_253 (lv_at hl 0 rfl) ?_
                  refine lv_aload_n hx hb dX8_meanOf_255 rfl (lv_at hl 8 rfl) ?_
                  refine va_get (D := D) (ci := 8) (v := .ref (a 30)) (C := RX8) (T := TX8) (N := 44) hx hb hts inX8 hown hK hP 0 rfl rfl 29 (by decide) (hts _ tw_1002) (fun _ h9 => h9) rfl dX8_meanOf_256 ?_
                  refine lv_iload hx hb dX8_meanOf_259 (lv_at hl 0 rfl) ?_
                  refine va_iald hx hb hK hP 10 1 rfl rfl (vp_in_nI (by omega) (by decide)) dX8_meanOf_261 ?_
                  refine lv_ti (y := (fb_110 kk_112)) (by rw [nI_clamp (by omega)]) ?_
                  refine va_iast hx hb hK hP hD hS 9 1 rfl rfl (vp_in_nI (by omega) (by decide)) dX8_meanOf_262 (fun H locs hP hD hS => ?_)
                  replace hP : va_P D classes [((a 0), .inr (8, (fX8 a (nI tx) fp (nI t0) wd (nI we) nu na (nI rd) ts (nI ru) (nI rw) (nI ca) df db sd))), (aI k (a 1) 3 (nF dn)), (aI k (a 4) 27 (sg se tm gs)), (aI k (a 2) 72 ffrees), (aI k (a 3) 72 fprices), (aI k (a 25) 4 (nF bm)), (aI k (a 26) 48 fbarSeen), (aI k (a 27) 48 fbarFrom), (aI k (a 28) 4 fruleRounds), (aI k (a 29) 52 (upd ff_112 (Int32.toNatClampNeg (nI kk_112)) (fb_110 kk_112))), (aI k (a 30) 52 fb_110)] H := hP
                  replace hD : va_D A [((a 0), .inr (8, (fX8 a (nI tx) fp (nI t0) wd (nI we) nu na (nI rd) ts (nI ru) (nI rw) (nI ca) df db sd))), (aI k (a 1) 3 (nF dn)), (aI k (a 4) 27 (sg se tm gs)), (aI k (a 2) 72 ffrees), (aI k (a 3) 72 fprices), (aI k (a 25) 4 (nF bm)), (aI k (a 26) 48 fbarSeen), (aI k (a 27) 48 fbarFrom), (aI k (a 28) 4 fruleRounds), (aI k (a 29) 52 (upd ff_112 (Int32.toNatClampNeg (nI kk_112)) (fb_110 kk_112))), (aI k (a 30) 52 fb_110)] := hD
                  generalize (upd ff_112 (Int32.toNatClampNeg (nI kk_112)) (fb_110 kk_112)) = f_114 at hP hD
                  refine lv_iinc (v := (nI (kk_112 + 1))) (lv' := [(11, .int (nI (kk_112 + 1))), (10, .int (nI qi_109)), (9, .int r_106), (8, .int x_72), (7, .int (nI q_2)), (6, .int bg_2), (5, .int 0), (4, .int (nI (dn sn))), (0, .ref (a 0)), (1, .int (nI sn)), (2, .int (nI kr)), (3, .int p2)]) hx hb dX8_meanOf_263 hl (k := 0) rfl (nI_add kk_112 1) (by decide) rfl (fun ls hl => ?_)
                  refine lv_goto (tgt := 242) hx hb dX8_meanOf_266 (by decide) ?_
                  exact ih_112 _ (kk_112 + 1, f_114) _ _ _ (by omega) ⟨rfl, (by omega), hP, hD, hS, (lv_sub hl [0, 1, 2, 3, 4, 5, 6, 7, 8, 9, 10, 11] rfl)⟩
              · have c_111 : ¬ (50 ≤ kk_110) := fun h => c_111 ((nI_leI (a := 50) (b := kk_110) (by omega) (by omega)).mpr h)
                refine lv_iload hx hb dX8_meanOf_142 (lv_at hl 0 rfl) ?_
                refine lv_iconst (v := 2) hx hb dX8_meanOf_144 (by decide) ?_
                refine lv_idiv hx hb dX8_meanOf_145 (by decide) ?_
                refine lv_ti (y := (nI (kk_110 / 2))) (pk_div (by omega) (by decide) (by decide)) ?_
                refine lv_istore (lv' := [(12, .int (nI (kk_110 / 2))), (11, .int (nI kk_110)), (10, .int (nI qi_109)), (9, .int r_106), (8, .int x_72), (7, .int (nI q_2)), (6, .int bg_2), (5, .int 0), (4, .int (nI (dn sn))), (0, .ref (a 0)), (1, .int (nI sn)), (2, .int (nI kr)), (3, .int p2)]) hx hb dX8_meanOf_146 hl (by decide) rfl (fun ls hl => ?_)
                refine lv_aload_n hx hb dX8_meanOf_148 rfl (lv_at hl 9 rfl) ?_
                refine lv_iload_n hx hb dX8_meanOf_149 rfl (lv_at hl 11 rfl) ?_
                refine lv_iload hx hb dX8_meanOf_150 (lv_at hl 2 rfl) ?_
                refine lv_iload hx hb dX8_meanOf_152 (lv_at hl 0 rfl) ?_
                refine ro_i (D := D) (va_runV (As := [.int (nI kr), .int (nI qi_109), .int (nI (kk_110 / 2))]) (rest := []) ⟨hx, hb, hml, hown, hts⟩ ((m_isFor l D k st lo a tx t0 we rd ru rw ca fp wd nu na ts df db sd bm fbarSeen fbarFrom kr (nI qi_109) (nI (kk_110 / 2)) hbm (by omega)) H.size) (cwV 3 hts (gV tw_1338 tw_1340 tw_61 tw_87 tw_1341) rfl rfl rfl (by decide +kernel) ⟨Nat.le_of_ble_eq_true rfl, Nat.le_of_ble_eq_true rfl⟩) (pV hS hAlo hlo hP hK (va_Dlo hD hAlo) hZ [0, 5, 6, 7] (by decide) rfl (ci := 8) (q := (RX8, TX8, 44)) (q0 := 0) rfl rfl) rfl rfl hl.1 rfl (lv_room (Nat.le_of_ble_eq_true rfl)) dX8_meanOf_154 ⟨Nat.le_of_ble_eq_true rfl, Nat.le_of_ble_eq_true rfl⟩) hS hA hP (fun r_115 H locs hw_115 hP hS => ?_)
                try dsimp only at hw_115
                refine lv_if_eq (tgt := 173) hx hb dX8_meanOf_157 (by decide) (fun c_116 => ?_) (fun c_116 => ?_)
                · refine lv_iload hx hb dX8_meanOf_173 (lv_at hl 7 rfl) ?_
                  refine lv_aload_n hx hb dX8_meanOf_175 rfl (lv_at hl 9 rfl) ?_
                  refine va_get (D := D) (ci := 8) (v := .ref (a 29)) (C := RX8) (T := TX8) (N := 44) hx hb hts inX8 hown hK hP 0 rfl rfl 28 (by decide) (hts _ tw_1001) (fun _ h9 => h9) rfl dX8_meanOf_176 ?_
                  refine lv_iconst (v := 2) hx hb dX8_meanOf_179 (by decide) ?_
                  refine lv_iload hx hb dX8_meanOf_180 (lv_at hl 0 rfl) ?_
                  refine lv_imul hx hb dX8_meanOf_182 ?_
                  refine lv_ti (y := (nI (2 * (kk_110 / 2)))) (pk_mul 2 (kk_110 / 2)) ?_
                  refine lv_iconst (v := 3) hx hb dX8_meanOf_183 (by decide) ?_
                  refine lv_iadd hx hb dX8_meanOf_184 ?_
                  refine lv_ti (y := (nI (2 * (kk_110 / 2) + 3))) (nI_add (2 * (kk_110 / 2)) 3) ?_
                  refine va_iald hx hb hK hP 9 1 rfl rfl (vp_in_nI (by omega) (by decide)) dX8_meanOf_185 ?_
                  refine lv_ti (y := (ff_109 (2 * (kk_110 / 2) + 3))) (by rw [nI_clamp (by omega)]) ?_
                  refine lv_iadd hx hb dX8_meanOf_186 ?_
                  refine lv_topi (fun x_117 ex_117 => ?_)
                  refine lv_istore (lv' := [(13, .int x_117), (12, .int (nI (kk_110 / 2))), (11, .int (nI kk_110)), (10, .int (nI qi_109)), (9, .int r_106), (8, .int x_72), (7, .int (nI q_2)), (6, .int bg_2), (5, .int 0), (4, .int (nI (dn sn))), (0, .ref (a 0)), (1, .int (nI sn)), (2, .int (nI kr)), (3, .int p2)]) hx hb dX8_meanOf_187 hl (by decide) rfl (fun ls hl => ?_)
                  refine lv_aload_n hx hb dX8_meanOf_189 rfl (lv_at hl 10 rfl) ?_
                  refine va_get (D := D) (ci := 8) (v := .ref (a 30)) (C := RX8) (T := TX8) (N := 44) hx hb hts inX8 hown hK hP 0 rfl rfl 29 (by decide) (hts _ tw_1002) (fun _ h9 => h9) rfl dX8_meanOf_190 ?_
                  refine lv_iload hx hb dX8_meanOf_193 (lv_at hl 2 rfl) ?_
                  refine lv_aload_n hx hb dX8_meanOf_195 rfl (lv_at hl 10 rfl) ?_
                  refine lv_iload_n hx hb dX8_meanOf_196 rfl (lv_at hl 11 rfl) ?_
                  refine lv_iload hx hb dX8_meanOf_197 (lv_at hl 3 rfl) ?_
                  refine lv_iload hx hb dX8_meanOf_199 (lv_at hl 2 rfl) ?_
                  refine lv_iconst (v := 2) hx hb dX8_meanOf_201 (by decide) ?_
                  refine lv_irem hx hb dX8_meanOf_202 (by decide) ?_
                  refine lv_ti (y := (nI (kk_110 % 2))) (pk_rem (by omega) (by decide) (by decide)) ?_
                  refine lv_iconst (v := 1) hx hb dX8_meanOf_203 (by decide) ?_
                  refine lv_icmp_ne (tgt := 211) hx hb dX8_meanOf_204 (by decide) (fun c_118 => ?_) (fun c_118 => ?_)
                  · have c_118 : ¬ ((kk_110 % 2) = 1) := fun h => c_118 ((nI_eq (a := (kk_110 % 2)) (b := 1) (by omega) (by omega)).mpr h)
                    refine lv_iconst (v := 0) hx hb dX8_meanOf_211 (by decide) ?_
                    refine ro_i (D := D) (va_runV (As := [.int (nI sn), .int (nI qi_109), .int 0]) (rest := [.int (nI kk_110), .ref (a 30)]) ⟨hx, hb, hml, hown, hts⟩ ((m_chanceOf l D k st lo a tx t0 we rd ru rw ca fp wd nu na ts df db sd ffrees se tm gs sn qi_109 0 (by omega) (by omega)) H.size) (cwV 3 hts (gV tw_1210 tw_1212 tw_41 tw_87 tw_1213) rfl rfl rfl (by decide +kernel) ⟨Nat.le_of_ble_eq_true rfl, Nat.le_of_ble_eq_true rfl⟩) (pV hS hAlo hlo hP hK (va_Dlo hD hAlo) hZ [0, 3, 2] (by decide) rfl (ci := 8) (q := (RX8, TX8, 44)) (q0 := 0) rfl rfl) rfl rfl hl.1 rfl (lv_room (Nat.le_of_ble_eq_true rfl)) dX8_meanOf_212 ⟨Nat.le_of_ble_eq_true rfl, Nat.le_of_ble_eq_true rfl⟩) hS hA hP (fun r_119 H locs hw_119 hP hS => ?_)
                    try dsimp only at hw_119
                    refine lv_iload hx hb dX8_meanOf_215 (lv_at hl 0 rfl) ?_
                    refine lv_iload hx hb dX8_meanOf_217 (lv_at hl 8 rfl) ?_
                    refine lv_aload_n hx hb dX8_meanOf_219 rfl (lv_at hl 10 rfl) ?_
                    refine va_get (D := D) (ci := 8) (v := .ref (a 29)) (C := RX8) (T := TX8) (N := 44) hx hb hts inX8 hown hK hP 0 rfl rfl 28 (by decide) (hts _ tw_1001) (fun _ h9 => h9) rfl dX8_meanOf_220 ?_
                    refine lv_iconst (v := 2) hx hb dX8_meanOf_223 (by decide) ?_
                    refine lv_iload hx hb dX8_meanOf_224 (lv_at hl 1 rfl) ?_
                    refine lv_imul hx hb dX8_meanOf_226 ?_
                    refine lv_ti (y := (nI (2 * (kk_110 / 2)))) (pk_mul 2 (kk_110 / 2)) ?_
                    refine va_iald hx hb hK hP 9 1 rfl rfl (vp_in_nI (by omega) (by decide)) dX8_meanOf_227 ?_
                    refine lv_ti (y := (ff_109 (2 * (kk_110 / 2)))) (by rw [nI_clamp (by omega)]) ?_
                    refine lv_iadd hx hb dX8_meanOf_228 ?_
                    refine lv_topi (fun x_120 ex_120 => ?_)
                    refine ro_i (D := D) (va_runS (As := [.int r_119, .int x_117, .int x_120]) (rest := [.int (nI kk_110), .ref (a 30)]) ⟨hx, hb, hml, hown, hts⟩ ((m_mixed l D k st lo r_119 x_117 x_120) H.size) (va_cwS 3 hts (gS tw_1269 tw_1270 tw_87 tw_1271) rfl rfl rfl (by decide +kernel) ⟨Nat.le_of_ble_eq_true rfl, Nat.le_of_ble_eq_true rfl⟩) (pS hS hAlo hlo hP hK (va_Dlo hD hAlo) hZ [] (by decide) rfl) rfl rfl hl.1 rfl (lv_room (Nat.le_of_ble_eq_true rfl)) dX8_meanOf_229 ⟨Nat.le_of_ble_eq_true rfl, Nat.le_of_ble_eq_true rfl⟩) hS hA hP (fun r_121 H locs hw_121 hP hS => ?_)
                    try dsimp only at hw_121
                    refine va_iast hx hb hK hP hD hS 10 1 rfl rfl (vp_in_nI (by omega) (by decide)) dX8_meanOf_232 (fun H locs hP hD hS => ?_)
                    replace hP : va_P D classes [((a 0), .inr (8, (fX8 a (nI tx) fp (nI t0) wd (nI we) nu na (nI rd) ts (nI ru) (nI rw) (nI ca) df db sd))), (aI k (a 1) 3 (nF dn)), (aI k (a 4) 27 (sg se tm gs)), (aI k (a 2) 72 ffrees), (aI k (a 3) 72 fprices), (aI k (a 25) 4 (nF bm)), (aI k (a 26) 48 fbarSeen), (aI k (a 27) 48 fbarFrom), (aI k (a 28) 4 fruleRounds), (aI k (a 29) 52 ff_109), (aI k (a 30) 52 (upd fb_110 (Int32.toNatClampNeg (nI kk_110)) r_121))] H := hP
                    replace hD : va_D A [((a 0), .inr (8, (fX8 a (nI tx) fp (nI t0) wd (nI we) nu na (nI rd) ts (nI ru) (nI rw) (nI ca) df db sd))), (aI k (a 1) 3 (nF dn)), (aI k (a 4) 27 (sg se tm gs)), (aI k (a 2) 72 ffrees), (aI k (a 3) 72 fprices), (aI k (a 25) 4 (nF bm)), (aI k (a 26) 48 fbarSeen), (aI k (a 27) 48 fbarFrom), (aI k (a 28) 4 fruleRounds), (aI k (a 29) 52 ff_109), (aI k (a 30) 52 (upd fb_110 (Int32.toNatClampNeg (nI kk_110)) r_121))] := hD
                    generalize (upd fb_110 (Int32.toNatClampNeg (nI kk_110)) r_121) = f_122 at hP hD
                    refine lv_iinc (v := (nI (kk_110 + 1))) (lv' := [(11, .int (nI (kk_110 + 1))), (13, .int x_117), (12, .int (nI (kk_110 / 2))), (10, .int (nI qi_109)), (9, .int r_106), (8, .int x_72), (7, .int (nI q_2)), (6, .int bg_2), (5, .int 0), (4, .int (nI (dn sn))), (0, .ref (a 0)), (1, .int (nI sn)), (2, .int (nI kr)), (3, .int p2)]) hx hb dX8_meanOf_233 hl (k := 2) rfl (nI_add kk_110 1) (by decide) rfl (fun ls hl => ?_)
                    refine lv_goto (tgt := 135) hx hb dX8_meanOf_236 (by decide) ?_
                    exact ih_110 _ (kk_110 + 1, f_122) _ _ _ (by omega) ⟨rfl, (by omega), hP, hD, hS, (lv_sub hl [0, 3, 4, 5, 6, 7, 8, 9, 10, 11, 12, 13] rfl)⟩
                  · have c_118 := (nI_eq (a := (kk_110 % 2)) (b := 1) (by omega) (by omega)).mp c_118
                    refine lv_iconst (v := 1) hx hb dX8_meanOf_207 (by decide) ?_
                    refine lv_goto (tgt := 212) hx hb dX8_meanOf_208 (by decide) ?_
                    refine ro_i (D := D) (va_runV (As := [.int (nI sn), .int (nI qi_109), .int 1]) (rest := [.int (nI kk_110), .ref (a 30)]) ⟨hx, hb, hml, hown, hts⟩ ((m_chanceOf l D k st lo a tx t0 we rd ru rw ca fp wd nu na ts df db sd ffrees se tm gs sn qi_109 1 (by omega) (by omega)) H.size) (cwV 3 hts (gV tw_1210 tw_1212 tw_41 tw_87 tw_1213) rfl rfl rfl (by decide +kernel) ⟨Nat.le_of_ble_eq_true rfl, Nat.le_of_ble_eq_true rfl⟩) (pV hS hAlo hlo hP hK (va_Dlo hD hAlo) hZ [0, 3, 2] (by decide) rfl (ci := 8) (q := (RX8, TX8, 44)) (q0 := 0) rfl rfl) rfl rfl hl.1 rfl (lv_room (Nat.le_of_ble_eq_true rfl)) dX8_meanOf_212 ⟨Nat.le_of_ble_eq_true rfl, Nat.le_of_ble_eq_true rfl⟩) hS hA hP (fun r_123 H locs hw_123 hP hS => ?_)
                    try dsimp only at hw_123
                    refine lv_iload hx hb dX8_meanOf_215 (lv_at hl 0 rfl) ?_
                    refine lv_iload hx hb dX8_meanOf_217 (lv_at hl 8 rfl) ?_
                    refine lv_aload_n hx hb dX8_meanOf_219 rfl (lv_at hl 10 rfl) ?_
                    refine va_get (D := D) (ci := 8) (v := .ref (a 29)) (C := RX8) (T := TX8) (N := 44) hx hb hts inX8 hown hK hP 0 rfl rfl 28 (by decide) (hts _ tw_1001) (fun _ h9 => h9) rfl dX8_meanOf_220 ?_
                    refine lv_iconst (v := 2) hx hb dX8_meanOf_223 (by decide) ?_
                    refine lv_iload hx hb dX8_meanOf_224 (lv_at hl 1 rfl) ?_
                    refine lv_imul hx hb dX8_meanOf_226 ?_
                    refine lv_ti (y := (nI (2 * (kk_110 / 2)))) (pk_mul 2 (kk_110 / 2)) ?_
                    refine va_iald hx hb hK hP 9 1 rfl rfl (vp_in_nI (by omega) (by decide)) dX8_meanOf_227 ?_
                    refine lv_ti (y := (ff_109 (2 * (kk_110 / 2)))) (by rw [nI_clamp (by omega)]) ?_
                    refine lv_iadd hx hb dX8_meanOf_228 ?_
                    refine lv_topi (fun x_124 ex_124 => ?_)
                    refine ro_i (D := D) (va_runS (As := [.int r_123, .int x_117, .int x_124]) (rest := [.int (nI kk_110), .ref (a 30)]) ⟨hx, hb, hml, hown, hts⟩ ((m_mixed l D k st lo r_123 x_117 x_124) H.size) (va_cwS 3 hts (gS tw_1269 tw_1270 tw_87 tw_1271) rfl rfl rfl (by decide +kernel) ⟨Nat.le_of_ble_eq_true rfl, Nat.le_of_ble_eq_true rfl⟩) (pS hS hAlo hlo hP hK (va_Dlo hD hAlo) hZ [] (by decide) rfl) rfl rfl hl.1 rfl (lv_room (Nat.le_of_ble_eq_true rfl)) dX8_meanOf_229 ⟨Nat.le_of_ble_eq_true rfl, Nat.le_of_ble_eq_true rfl⟩) hS hA hP (fun r_125 H locs hw_125 hP hS => ?_)
                    try dsimp only at hw_125
                    refine va_iast hx hb hK hP hD hS 10 1 rfl rfl (vp_in_nI (by omega) (by decide)) dX8_meanOf_232 (fun H locs hP hD hS => ?_)
                    replace hP : va_P D classes [((a 0), .inr (8, (fX8 a (nI tx) fp (nI t0) wd (nI we) nu na (nI rd) ts (nI ru) (nI rw) (nI ca) df db sd))), (aI k (a 1) 3 (nF dn)), (aI k (a 4) 27 (sg se tm gs)), (aI k (a 2) 72 ffrees), (aI k (a 3) 72 fprices), (aI k (a 25) 4 (nF bm)), (aI k (a 26) 48 fbarSeen), (aI k (a 27) 48 fbarFrom), (aI k (a 28) 4 fruleRounds), (aI k (a 29) 52 ff_109), (aI k (a 30) 52 (upd fb_110 (Int32.toNatClampNeg (nI kk_110)) r_125))] H := hP
                    replace hD : va_D A [((a 0), .inr (8, (fX8 a (nI tx) fp (nI t0) wd (nI we) nu na (nI rd) ts (nI ru) (nI rw) (nI ca) df db sd))), (aI k (a 1) 3 (nF dn)), (aI k (a 4) 27 (sg se tm gs)), (aI k (a 2) 72 ffrees), (aI k (a 3) 72 fprices), (aI k (a 25) 4 (nF bm)), (aI k (a 26) 48 fbarSeen), (aI k (a 27) 48 fbarFrom), (aI k (a 28) 4 fruleRounds), (aI k (a 29) 52 ff_109), (aI k (a 30) 52 (upd fb_110 (Int32.toNatClampNeg (nI kk_110)) r_125))] := hD
                    generalize (upd fb_110 (Int32.toNatClampNeg (nI kk_110)) r_125) = f_126 at hP hD
                    refine lv_iinc (v := (nI (kk_110 + 1))) (lv' := [(11, .int (nI (kk_110 + 1))), (13, .int x_117), (12, .int (nI (kk_110 / 2))), (10, .int (nI qi_109)), (9, .int r_106), (8, .int x_72), (7, .int (nI q_2)), (6, .int bg_2), (5, .int 0), (4, .int (nI (dn sn))), (0, .ref (a 0)), (1, .int (nI sn)), (2, .int (nI kr)), (3, .int p2)]) hx hb dX8_meanOf_233 hl (k := 2) rfl (nI_add kk_110 1) (by decide) rfl (fun ls hl => ?_)
                    refine lv_goto (tgt := 135) hx hb dX8_meanOf_236 (by decide) ?_
                    exact ih_110 _ (kk_110 + 1, f_126) _ _ _ (by omega) ⟨rfl, (by omega), hP, hD, hS, (lv_sub hl [0, 3, 4, 5, 6, 7, 8, 9, 10, 11, 12, 13] rfl)⟩
                · refine lv_aload_n hx hb dX8_meanOf_160 rfl (lv_at hl 9 rfl) ?_
                  refine lv_iload_n hx hb dX8_meanOf_161 rfl (lv_at hl 10 rfl) ?_
                  refine lv_iload hx hb dX8_meanOf_162 (lv_at hl 5 rfl) ?_
                  refine lv_iload hx hb dX8_meanOf_164 (lv_at hl 2 rfl) ?_
                  refine lv_iload_n hx hb dX8_meanOf_166 rfl (lv_at hl 12 rfl) ?_
                  refine ro_i (D := D) (va_runV (As := [.int (nI sn), .int (nI q_2), .int (nI qi_109), .int p2]) (rest := []) ⟨hx, hb, hml, hown, hts⟩ ((m_byTaking l D k st lo a tx t0 we rd ru rw ca fp wd nu na ts df db sd dn se tm gs fprices sn qi_109 (nI q_2) p2 (by omega) (by omega)) H.size) (cwV 4 hts (gV tw_1342 tw_1344 tw_62 tw_87 tw_1345) rfl rfl rfl (by decide +kernel) ⟨Nat.le_of_ble_eq_true rfl, Nat.le_of_ble_eq_true rfl⟩) (pV hS hAlo hlo hP hK (va_Dlo hD hAlo) hZ [0, 1, 2, 4] (by decide) rfl (ci := 8) (q := (RX8, TX8, 44)) (q0 := 0) rfl rfl) rfl rfl hl.1 rfl (lv_room (Nat.le_of_ble_eq_true rfl)) dX8_meanOf_167 ⟨Nat.le_of_ble_eq_true rfl, Nat.le_of_ble_eq_true rfl⟩) hS hA hP (fun r_127 H locs hw_127 hP hS => ?_)
                  try dsimp only at hw_127
                  refine lv_goto (tgt := 187) hx hb dX8_meanOf_170 (by decide) ?_
                  refine lv_istore (lv' := [(13, .int r_127), (12, .int (nI (kk_110 / 2))), (11, .int (nI kk_110)), (10, .int (nI qi_109)), (9, .int r_106), (8, .int x_72), (7, .int (nI q_2)), (6, .int bg_2), (5, .int 0), (4, .int (nI (dn sn))), (0, .ref (a 0)), (1, .int (nI sn)), (2, .int (nI kr)), (3, .int p2)]) hx hb dX8_meanOf_187 hl (by decide) rfl (fun ls hl => ?_)
                  refine lv_aload_n hx hb dX8_meanOf_189 rfl (lv_at hl 10 rfl) ?_
                  refine va_get (D := D) (ci := 8) (v := .ref (a 30)) (C := RX8) (T := TX8) (N := 44) hx hb hts inX8 hown hK hP 0 rfl rfl 29 (by decide) (hts _ tw_1002) (fun _ h9 => h9) rfl dX8_meanOf_190 ?_
                  refine lv_iload hx hb dX8_meanOf_193 (lv_at hl 2 rfl) ?_
                  refine lv_aload_n hx hb dX8_meanOf_195 rfl (lv_at hl 10 rfl) ?_
                  refine lv_iload_n hx hb dX8_meanOf_196 rfl (lv_at hl 11 rfl) ?_
                  refine lv_iload hx hb dX8_meanOf_197 (lv_at hl 3 rfl) ?_
                  refine lv_iload hx hb dX8_meanOf_199 (lv_at hl 2 rfl) ?_
                  refine lv_iconst (v := 2) hx hb dX8_meanOf_201 (by decide) ?_
                  refine lv_irem hx hb dX8_meanOf_202 (by decide) ?_
                  refine lv_ti (y := (nI (kk_110 % 2))) (pk_rem (by omega) (by decide) (by decide)) ?_
                  refine lv_iconst (v := 1) hx hb dX8_meanOf_203 (by decide) ?_
                  refine lv_icmp_ne (tgt := 211) hx hb dX8_meanOf_204 (by decide) (fun c_128 => ?_) (fun c_128 => ?_)
                  · have c_128 : ¬ ((kk_110 % 2) = 1) := fun h => c_128 ((nI_eq (a := (kk_110 % 2)) (b := 1) (by omega) (by omega)).mpr h)
                    refine lv_iconst (v := 0) hx hb dX8_meanOf_211 (by decide) ?_
                    refine ro_i (D := D) (va_runV (As := [.int (nI sn), .int (nI qi_109), .int 0]) (rest := [.int (nI kk_110), .ref (a 30)]) ⟨hx, hb, hml, hown, hts⟩ ((m_chanceOf l D k st lo a tx t0 we rd ru rw ca fp wd nu na ts df db sd ffrees se tm gs sn qi_109 0 (by omega) (by omega)) H.size) (cwV 3 hts (gV tw_1210 tw_1212 tw_41 tw_87 tw_1213) rfl rfl rfl (by decide +kernel) ⟨Nat.le_of_ble_eq_true rfl, Nat.le_of_ble_eq_true rfl⟩) (pV hS hAlo hlo hP hK (va_Dlo hD hAlo) hZ [0, 3, 2] (by decide) rfl (ci := 8) (q := (RX8, TX8, 44)) (q0 := 0) rfl rfl) rfl rfl hl.1 rfl (lv_room (Nat.le_of_ble_eq_true rfl)) dX8_meanOf_212 ⟨Nat.le_of_ble_eq_true rfl, Nat.le_of_ble_eq_true rfl⟩) hS hA hP (fun r_129 H locs hw_129 hP hS => ?_)
                    try dsimp only at hw_129
                    refine lv_iload hx hb dX8_meanOf_215 (lv_at hl 0 rfl) ?_
                    refine lv_iload hx hb dX8_meanOf_217 (lv_at hl 8 rfl) ?_
                    refine lv_aload_n hx hb dX8_meanOf_219 rfl (lv_at hl 10 rfl) ?_
                    refine va_get (D := D) (ci := 8) (v := .ref (a 29)) (C := RX8) (T := TX8) (N := 44) hx hb hts inX8 hown hK hP 0 rfl rfl 28 (by decide) (hts _ tw_1001) (fun _ h9 => h9) rfl dX8_meanOf_220 ?_
                    refine lv_iconst (v := 2) hx hb dX8_meanOf_223 (by decide) ?_
                    refine lv_iload hx hb dX8_meanOf_224 (lv_at hl 1 rfl) ?_
                    refine lv_imul hx hb dX8_meanOf_226 ?_
                    refine lv_ti (y := (nI (2 * (kk_110 / 2)))) (pk_mul 2 (kk_110 / 2)) ?_
                    refine va_iald hx hb hK hP 9 1 rfl rfl (vp_in_nI (by omega) (by decide)) dX8_meanOf_227 ?_
                    refine lv_ti (y := (ff_109 (2 * (kk_110 / 2)))) (by rw [nI_clamp (by omega)]) ?_
                    refine lv_iadd hx hb dX8_meanOf_228 ?_
                    refine lv_topi (fun x_130 ex_130 => ?_)
                    refine ro_i (D := D) (va_runS (As := [.int r_129, .int r_127, .int x_130]) (rest := [.int (nI kk_110), .ref (a 30)]) ⟨hx, hb, hml, hown, hts⟩ ((m_mixed l D k st lo r_129 r_127 x_130) H.size) (va_cwS 3 hts (gS tw_1269 tw_1270 tw_87 tw_1271) rfl rfl rfl (by decide +kernel) ⟨Nat.le_of_ble_eq_true rfl, Nat.le_of_ble_eq_true rfl⟩) (pS hS hAlo hlo hP hK (va_Dlo hD hAlo) hZ [] (by decide) rfl) rfl rfl hl.1 rfl (lv_room (Nat.le_of_ble_eq_true rfl)) dX8_meanOf_229 ⟨Nat.le_of_ble_eq_true rfl, Nat.le_of_ble_eq_true rfl⟩) hS hA hP (fun r_131 H locs hw_131 hP hS => ?_)
                    try dsimp only at hw_131
                    refine va_iast hx hb hK hP hD hS 10 1 rfl rfl (vp_in_nI (by omega) (by decide)) dX8_meanOf_232 (fun H locs hP hD hS => ?_)
                    replace hP : va_P D classes [((a 0), .inr (8, (fX8 a (nI tx) fp (nI t0) wd (nI we) nu na (nI rd) ts (nI ru) (nI rw) (nI ca) df db sd))), (aI k (a 1) 3 (nF dn)), (aI k (a 4) 27 (sg se tm gs)), (aI k (a 2) 72 ffrees), (aI k (a 3) 72 fprices), (aI k (a 25) 4 (nF bm)), (aI k (a 26) 48 fbarSeen), (aI k (a 27) 48 fbarFrom), (aI k (a 28) 4 fruleRounds), (aI k (a 29) 52 ff_109), (aI k (a 30) 52 (upd fb_110 (Int32.toNatClampNeg (nI kk_110)) r_131))] H := hP
                    replace hD : va_D A [((a 0), .inr (8, (fX8 a (nI tx) fp (nI t0) wd (nI we) nu na (nI rd) ts (nI ru) (nI rw) (nI ca) df db sd))), (aI k (a 1) 3 (nF dn)), (aI k (a 4) 27 (sg se tm gs)), (aI k (a 2) 72 ffrees), (aI k (a 3) 72 fprices), (aI k (a 25) 4 (nF bm)), (aI k (a 26) 48 fbarSeen), (aI k (a 27) 48 fbarFrom), (aI k (a 28) 4 fruleRounds), (aI k (a 29) 52 ff_109), (aI k (a 30) 52 (upd fb_110 (Int32.toNatClampNeg (nI kk_110)) r_131))] := hD
                    generalize (upd fb_110 (Int32.toNatClampNeg (nI kk_110)) r_131) = f_132 at hP hD
                    refine lv_iinc (v := (nI (kk_110 + 1))) (lv' := [(11, .int (nI (kk_110 + 1))), (13, .int r_127), (12, .int (nI (kk_110 / 2))), (10, .int (nI qi_109)), (9, .int r_106), (8, .int x_72), (7, .int (nI q_2)), (6, .int bg_2), (5, .int 0), (4, .int (nI (dn sn))), (0, .ref (a 0)), (1, .int (nI sn)), (2, .int (nI kr)), (3, .int p2)]) hx hb dX8_meanOf_233 hl (k := 2) rfl (nI_add kk_110 1) (by decide) rfl (fun ls hl => ?_)
                    refine lv_goto (tgt := 135) hx hb dX8_meanOf_236 (by decide) ?_
                    exact ih_110 _ (kk_110 + 1, f_132) _ _ _ (by omega) ⟨rfl, (by omega), hP, hD, hS, (lv_sub hl [0, 3, 4, 5, 6, 7, 8, 9, 10, 11, 12, 13] rfl)⟩
                  · have c_128 := (nI_eq (a := (kk_110 % 2)) (b := 1) (by omega) (by omega)).mp c_128
                    refine lv_iconst (v := 1) hx hb dX8_meanOf_207 (by decide) ?_
                    refine lv_goto (tgt := 212) hx hb dX8_meanOf_208 (by decide) ?_
                    refine ro_i (D := D) (va_runV (As := [.int (nI sn), .int (nI qi_109), .int 1]) (rest := [.int (nI kk_110), .ref (a 30)]) ⟨hx, hb, hml, hown, hts⟩ ((m_chanceOf l D k st lo a tx t0 we rd ru rw ca fp wd nu na ts df db sd ffrees se tm gs sn qi_109 1 (by omega) (by omega)) H.size) (cwV 3 hts (gV tw_1210 tw_1212 tw_41 tw_87 tw_1213) rfl rfl rfl (by decide +kernel) ⟨Nat.le_of_ble_eq_true rfl, Nat.le_of_ble_eq_true rfl⟩) (pV hS hAlo hlo hP hK (va_Dlo hD hAlo) hZ [0, 3, 2] (by decide) rfl (ci := 8) (q := (RX8, TX8, 44)) (q0 := 0) rfl rfl) rfl rfl hl.1 rfl (lv_room (Nat.le_of_ble_eq_true rfl)) dX8_meanOf_212 ⟨Nat.le_of_ble_eq_true rfl, Nat.le_of_ble_eq_true rfl⟩) hS hA hP (fun r_133 H locs hw_133 hP hS => ?_)
                    try dsimp only at hw_133
                    refine lv_iload hx hb dX8_meanOf_215 (lv_at hl 0 rfl) ?_
                    refine lv_iload hx hb dX8_meanOf_217 (lv_at hl 8 rfl) ?_
                    refine lv_aload_n hx hb dX8_meanOf_219 rfl (lv_at hl 10 rfl) ?_
                    refine va_get (D := D) (ci := 8) (v := .ref (a 29)) (C := RX8) (T := TX8) (N := 44) hx hb hts inX8 hown hK hP 0 rfl rfl 28 (by decide) (hts _ tw_1001) (fun _ h9 => h9) rfl dX8_meanOf_220 ?_
                    refine lv_iconst (v := 2) hx hb dX8_meanOf_223 (by decide) ?_
                    refine lv_iload hx hb dX8_meanOf_224 (lv_at hl 1 rfl) ?_
                    refine lv_imul hx hb dX8_meanOf_226 ?_
                    refine lv_ti (y := (nI (2 * (kk_110 / 2)))) (pk_mul 2 (kk_110 / 2)) ?_
                    refine va_iald hx hb hK hP 9 1 rfl rfl (vp_in_nI (by omega) (by decide)) dX8_meanOf_227 ?_
                    refine lv_ti (y := (ff_109 (2 * (kk_110 / 2)))) (by rw [nI_clamp (by omega)]) ?_
                    refine lv_iadd hx hb dX8_meanOf_228 ?_
                    refine lv_topi (fun x_134 ex_134 => ?_)
                    refine ro_i (D := D) (va_runS (As := [.int r_133, .int r_127, .int x_134]) (rest := [.int (nI kk_110), .ref (a 30)]) ⟨hx, hb, hml, hown, hts⟩ ((m_mixed l D k st lo r_133 r_127 x_134) H.size) (va_cwS 3 hts (gS tw_1269 tw_1270 tw_87 tw_1271) rfl rfl rfl (by decide +kernel) ⟨Nat.le_of_ble_eq_true rfl, Nat.le_of_ble_eq_true rfl⟩) (pS hS hAlo hlo hP hK (va_Dlo hD hAlo) hZ [] (by decide) rfl) rfl rfl hl.1 rfl (lv_room (Nat.le_of_ble_eq_true rfl)) dX8_meanOf_229 ⟨Nat.le_of_ble_eq_true rfl, Nat.le_of_ble_eq_true rfl⟩) hS hA hP (fun r_135 H locs hw_135 hP hS => ?_)
                    try dsimp only at hw_135
                    refine va_iast hx hb hK hP hD hS 10 1 rfl rfl (vp_in_nI (by omega) (by decide)) dX8_meanOf_232 (fun H locs hP hD hS => ?_)
                    replace hP : va_P D classes [((a 0), .inr (8, (fX8 a (nI tx) fp (nI t0) wd (nI we) nu na (nI rd) ts (nI ru) (nI rw) (nI ca) df db sd))), (aI k (a 1) 3 (nF dn)), (aI k (a 4) 27 (sg se tm gs)), (aI k (a 2) 72 ffrees), (aI k (a 3) 72 fprices), (aI k (a 25) 4 (nF bm)), (aI k (a 26) 48 fbarSeen), (aI k (a 27) 48 fbarFrom), (aI k (a 28) 4 fruleRounds), (aI k (a 29) 52 ff_109), (aI k (a 30) 52 (upd fb_110 (Int32.toNatClampNeg (nI kk_110)) r_135))] H := hP
                    replace hD : va_D A [((a 0), .inr (8, (fX8 a (nI tx) fp (nI t0) wd (nI we) nu na (nI rd) ts (nI ru) (nI rw) (nI ca) df db sd))), (aI k (a 1) 3 (nF dn)), (aI k (a 4) 27 (sg se tm gs)), (aI k (a 2) 72 ffrees), (aI k (a 3) 72 fprices), (aI k (a 25) 4 (nF bm)), (aI k (a 26) 48 fbarSeen), (aI k (a 27) 48 fbarFrom), (aI k (a 28) 4 fruleRounds), (aI k (a 29) 52 ff_109), (aI k (a 30) 52 (upd fb_110 (Int32.toNatClampNeg (nI kk_110)) r_135))] := hD
                    generalize (upd fb_110 (Int32.toNatClampNeg (nI kk_110)) r_135) = f_136 at hP hD
                    refine lv_iinc (v := (nI (kk_110 + 1))) (lv' := [(11, .int (nI (kk_110 + 1))), (13, .int r_127), (12, .int (nI (kk_110 / 2))), (10, .int (nI qi_109)), (9, .int r_106), (8, .int x_72), (7, .int (nI q_2)), (6, .int bg_2), (5, .int 0), (4, .int (nI (dn sn))), (0, .ref (a 0)), (1, .int (nI sn)), (2, .int (nI kr)), (3, .int p2)]) hx hb dX8_meanOf_233 hl (k := 2) rfl (nI_add kk_110 1) (by decide) rfl (fun ls hl => ?_)
                    refine lv_goto (tgt := 135) hx hb dX8_meanOf_236 (by decide) ?_
                    exact ih_110 _ (kk_110 + 1, f_136) _ _ _ (by omega) ⟨rfl, (by omega), hP, hD, hS, (lv_sub hl [0, 3, 4, 5, 6, 7, 8, 9, 10, 11, 12, 13] rfl)⟩
          · have c_108 : ¬ (52 ≤ kk_107) := fun h => c_108 ((nI_leI (a := 52) (b := kk_107) (by omega) (by omega)).mpr h)
            refine lv_aload_n hx hb dX8_meanOf_106 rfl (lv_at hl 7 rfl) ?_
            refine va_get (D := D) (ci := 8) (v := .ref (a 29)) (C := RX8) (T := TX8) (N := 44) hx hb hts inX8 hown hK hP 0 rfl rfl 28 (by decide) (hts _ tw_1001) (fun _ h9 => h9) rfl dX8_meanOf_107 ?_
            refine lv_iload hx hb dX8_meanOf_110 (lv_at hl 0 rfl) ?_
            refine lv_iload hx hb dX8_meanOf_112 (lv_at hl 1 rfl) ?_
            refine va_iast hx hb hK hP hD hS 9 1 rfl rfl (vp_in_nI (by omega) (by decide)) dX8_meanOf_114 (fun H locs hP hD hS => ?_)
            replace hP : va_P D classes [((a 0), .inr (8, (fX8 a (nI tx) fp (nI t0) wd (nI we) nu na (nI rd) ts (nI ru) (nI rw) (nI ca) df db sd))), (aI k (a 1) 3 (nF dn)), (aI k (a 4) 27 (sg se tm gs)), (aI k (a 2) 72 ffrees), (aI k (a 3) 72 fprices), (aI k (a 25) 4 (nF bm)), (aI k (a 26) 48 fbarSeen), (aI k (a 27) 48 fbarFrom), (aI k (a 28) 4 fruleRounds), (aI k (a 29) 52 (upd ff_107 (Int32.toNatClampNeg (nI kk_107)) r_106)), (aI k (a 30) 52 fb_2)] H := hP
            replace hD : va_D A [((a 0), .inr (8, (fX8 a (nI tx) fp (nI t0) wd (nI we) nu na (nI rd) ts (nI ru) (nI rw) (nI ca) df db sd))), (aI k (a 1) 3 (nF dn)), (aI k (a 4) 27 (sg se tm gs)), (aI k (a 2) 72 ffrees), (aI k (a 3) 72 fprices), (aI k (a 25) 4 (nF bm)), (aI k (a 26) 48 fbarSeen), (aI k (a 27) 48 fbarFrom), (aI k (a 28) 4 fruleRounds), (aI k (a 29) 52 (upd ff_107 (Int32.toNatClampNeg (nI kk_107)) r_106)), (aI k (a 30) 52 fb_2)] := hD
            generalize (upd ff_107 (Int32.toNatClampNeg (nI kk_107)) r_106) = f_137 at hP hD
            refine lv_iinc (v := (nI (kk_107 + 1))) (lv' := [(10, .int (nI (kk_107 + 1))), (9, .int r_106), (8, .int x_72), (7, .int (nI q_2)), (6, .int bg_2), (5, .int 0), (4, .int (nI (dn sn))), (0, .ref (a 0)), (1, .int (nI sn)), (2, .int (nI kr)), (3, .int p2)]) hx hb dX8_meanOf_115 hl (k := 0) rfl (nI_add kk_107 1) (by decide) rfl (fun ls hl => ?_)
            refine lv_goto (tgt := 99) hx hb dX8_meanOf_118 (by decide) ?_
            exact ih_107 _ (kk_107 + 1, f_137) _ _ _ (by omega) ⟨rfl, (by omega), hP, hD, hS, (lv_sub hl [0, 1, 2, 3, 4, 5, 6, 7, 8, 9, 10] rfl)⟩
  · refine lv_aload_n hx hb dX8_meanOf_12 rfl (lv_at hl 1 rfl) ?_
    refine lv_iload_n hx hb dX8_meanOf_13 rfl (lv_at hl 2 rfl) ?_
    refine lv_iconst (v := 2) hx hb dX8_meanOf_14 (by decide) ?_
    refine ro_i (D := D) (va_runV (As := [.int (nI sn), .int 2]) (rest := []) ⟨hx, hb, hml, hown, hts⟩ ((m_of l D k st lo a tx t0 we rd ru rw ca fp wd nu na ts df db sd se tm gs sn 2 (by omega) (by omega)) s.heap.size) (cwV 2 hts (gV tw_1194 tw_1196 tw_39 tw_87 tw_1197) rfl rfl rfl (by decide +kernel) ⟨Nat.le_of_ble_eq_true rfl, Nat.le_of_ble_eq_true rfl⟩) (pV hS hAlo hlo hP hK (va_Dlo hD hAlo) hZ [0, 2] (by decide) rfl (ci := 8) (q := (RX8, TX8, 44)) (q0 := 0) rfl rfl) rfl rfl hl.1 rfl (lv_room (Nat.le_of_ble_eq_true rfl)) dX8_meanOf_15 ⟨Nat.le_of_ble_eq_true rfl, Nat.le_of_ble_eq_true rfl⟩) hS hA hP (fun r_138 H locs hw_138 hP hS => ?_)
    try dsimp only at hw_138
    refine lv_sipush (v := 1000) hx hb dX8_meanOf_18 (by decide) ?_
    refine lv_imul hx hb dX8_meanOf_21 ?_
    refine lv_topi (fun x_139 ex_139 => ?_)
    refine lv_goto (tgt := 26) hx hb dX8_meanOf_22 (by decide) ?_
    refine lv_istore (lv' := [(5, .int x_139), (4, .int (nI (dn sn))), (0, .ref (a 0)), (1, .int (nI sn)), (2, .int (nI kr)), (3, .int p2)]) hx hb dX8_meanOf_26 hl (by decide) rfl (fun ls hl => ?_)
    refine lv_iconst (v := 0) hx hb dX8_meanOf_28 (by decide) ?_
    refine lv_istore (lv' := [(6, .int 0), (5, .int x_139), (4, .int (nI (dn sn))), (0, .ref (a 0)), (1, .int (nI sn)), (2, .int (nI kr)), (3, .int p2)]) hx hb dX8_meanOf_29 hl (by decide) rfl (fun ls hl => ?_)
    refine lv_iconst (v := 3) hx hb dX8_meanOf_31 (by decide) ?_
    refine lv_istore (lv' := [(7, .int 3), (6, .int 0), (5, .int x_139), (4, .int (nI (dn sn))), (0, .ref (a 0)), (1, .int (nI sn)), (2, .int (nI kr)), (3, .int p2)]) hx hb dX8_meanOf_32 hl (by decide) rfl (fun ls hl => ?_)
    refine W_loop (σ := Nat × Int32 × (Nat → Int32) × (Nat → Int32)) (fun (n_ : Nat) (x_ : Nat × Int32 × (Nat → Int32) × (Nat → Int32)) (H : Heap) (locs : List Loc) (ls : Array Slot) => match x_ with | (q_140, bg_140, ff_140, fb_140) => n_ = 2 * q_140 ∧ (q_140 ≤ 4) ∧ va_P D classes [((a 0), .inr (8, (fX8 a (nI tx) fp (nI t0) wd (nI we) nu na (nI rd) ts (nI ru) (nI rw) (nI ca) df db sd))), (aI k (a 1) 3 (nF dn)), (aI k (a 4) 27 (sg se tm gs)), (aI k (a 2) 72 ffrees), (aI k (a 3) 72 fprices), (aI k (a 25) 4 (nF bm)), (aI k (a 26) 48 fbarSeen), (aI k (a 27) 48 fbarFrom), (aI k (a 28) 4 fruleRounds), (aI k (a 29) 52 ff_140), (aI k (a 30) 52 fb_140)] H ∧ va_D A [((a 0), .inr (8, (fX8 a (nI tx) fp (nI t0) wd (nI we) nu na (nI rd) ts (nI ru) (nI rw) (nI ca) df db sd))), (aI k (a 1) 3 (nF dn)), (aI k (a 4) 27 (sg se tm gs)), (aI k (a 2) 72 ffrees), (aI k (a 3) 72 fprices), (aI k (a 25) 4 (nF bm)), (aI k (a 26) 48 fbarSeen), (aI k (a 27) 48 fbarFrom), (aI k (a 28) 4 fruleRounds), (aI k (a 29) 52 ff_140), (aI k (a 30) 52 fb_140)] ∧ va_S A s.heap H locs ∧ lv_has ls 14 [(7, .int (nI q_140 - 1)), (6, .int bg_140), (5, .int x_139), (4, .int (nI (dn sn))), (0, .ref (a 0)), (1, .int (nI sn)), (2, .int (nI kr)), (3, .int p2)]) (fun n_140 x_140 H locs ls hI ih_140 => ?_) _ (4, 0, ffollows, fbefore) ⟨rfl, (by omega), hP, hD, hS, (by rw [nI_pred]; exact lv_sub hl [0, 1, 2, 3, 4, 5, 6, 7] rfl)⟩
    obtain ⟨q_140, bg_140, ff_140, fb_140⟩ := x_140
    obtain ⟨hm_140, hv_140, hP, hD, hS, hl⟩ := hI
    subst hm_140
    rcases q_140 with _ | q_140
    · rw [dn0] at hl
      refine lv_iload hx hb dX8_meanOf_34 (lv_at hl 0 rfl) ?_
      refine lv_if_lt (tgt := 289) hx hb dX8_meanOf_36 (by decide) (fun _ => ?_) (fun h => absurd (by decide) h)
      refine lv_iload hx hb dX8_meanOf_289 (lv_at hl 1 rfl) ?_
      have hP9 := hP.sub (ws' := [((a 0), .inr (8, (fX8 a (nI tx) fp (nI t0) wd (nI we) nu na (nI rd) ts (nI ru) (nI rw) (nI ca) df db sd))), (aI k (a 1) 3 (nF dn)), (aI k (a 4) 27 (sg se tm gs)), (aI k (a 2) 72 ffrees), (aI k (a 3) 72 fprices), (aI k (a 25) 4 (nF bm)), (aI k (a 26) 48 fbarSeen), (aI k (a 27) 48 fbarFrom), (aI k (a 28) 4 fruleRounds), (aI k (a 29) 52 ff_140), (aI k (a 30) 52 fb_140)]) [0, 1, 2, 3, 4, 5, 6, 7, 8, 9, 10] rfl
      have hD9 := hD.sub (ws' := [((a 0), .inr (8, (fX8 a (nI tx) fp (nI t0) wd (nI we) nu na (nI rd) ts (nI ru) (nI rw) (nI ca) df db sd))), (aI k (a 1) 3 (nF dn)), (aI k (a 4) 27 (sg se tm gs)), (aI k (a 2) 72 ffrees), (aI k (a 3) 72 fprices), (aI k (a 25) 4 (nF bm)), (aI k (a 26) 48 fbarSeen), (aI k (a 27) 48 fbarFrom), (aI k (a 28) 4 fruleRounds), (aI k (a 29) 52 ff_140), (aI k (a 30) 52 fb_140)]) [0, 1, 2, 3, 4, 5, 6, 7, 8, 9, 10] (by decide +kernel) rfl
      exact W.iret (v := bg_140) hx hb hr (fun t ht hW => ⟨⟨bg_140, (ff_140, fb_140), rfl, trivial, by rw [ht]; exact hP9, hD9⟩, hS.F ht⟩) hS.2.2 dX8_meanOf_291
    · rw [nI_pred] at hl
      refine lv_iload hx hb dX8_meanOf_34 (lv_at hl 0 rfl) ?_
      refine lv_if_lt (tgt := 289) hx hb dX8_meanOf_36 (by decide) (fun h => absurd h (nI_pos0 (by omega))) (fun _ => ?_)
      refine lv_iload_n hx hb dX8_meanOf_39 rfl (lv_at hl 7 rfl) ?_
      refine lv_if_ne (tgt := 64) hx hb dX8_meanOf_40 (by decide) (fun c_141 => ?_) (fun c_141 => ?_)
      · refine lv_iconst (v := 0) hx hb dX8_meanOf_64 (by decide) ?_
        refine lv_istore (lv' := [(8, .int 0), (7, .int (nI q_140)), (6, .int bg_140), (5, .int x_139), (4, .int (nI (dn sn))), (0, .ref (a 0)), (1, .int (nI sn)), (2, .int (nI kr)), (3, .int p2)]) hx hb dX8_meanOf_65 hl (by decide) rfl (fun ls hl => ?_)
        refine lv_aload_n hx hb dX8_meanOf_67 rfl (lv_at hl 5 rfl) ?_
        refine lv_iload_n hx hb dX8_meanOf_68 rfl (lv_at hl 6 rfl) ?_
        refine lv_iload_n hx hb dX8_meanOf_69 rfl (lv_at hl 7 rfl) ?_
        refine lv_iload hx hb dX8_meanOf_70 (lv_at hl 1 rfl) ?_
        refine ro_i (D := D) (va_runV (As := [.int (nI sn), .int (nI kr), .int (nI q_140)]) (rest := []) ⟨hx, hb, hml, hown, hts⟩ ((m_isRoundBy l D k st lo a tx t0 we rd ru rw ca fp wd nu na ts df db sd se tm gs fruleRounds sn kr q_140 htm (by omega) (by omega) (by omega)) H.size) (cwV 3 hts (gV tw_1329 tw_1331 tw_59 tw_87 tw_1332) rfl rfl rfl (by decide +kernel) ⟨Nat.le_of_ble_eq_true rfl, Nat.le_of_ble_eq_true rfl⟩) (pV hS hAlo hlo hP hK (va_Dlo hD hAlo) hZ [0, 2, 8] (by decide) rfl (ci := 8) (q := (RX8, TX8, 44)) (q0 := 0) rfl rfl) rfl rfl hl.1 rfl (lv_room (Nat.le_of_ble_eq_true rfl)) dX8_meanOf_72 ⟨Nat.le_of_ble_eq_true rfl, Nat.le_of_ble_eq_true rfl⟩) hS hA hP (fun r_142 H locs hw_142 hP hS => ?_)
        try dsimp only at hw_142
        rcases hw_142 with ⟨rfl, hw_142⟩ | rfl
        · refine lv_if_eq (tgt := 86) hx hb dX8_meanOf_75 (by decide) (fun h => absurd h (by decide)) (fun _ => ?_)
          refine lv_iload hx hb dX8_meanOf_78 (lv_at hl 0 rfl) ?_
          refine lv_iload hx hb dX8_meanOf_80 (lv_at hl 2 rfl) ?_
          refine lv_iadd hx hb dX8_meanOf_82 ?_
          refine lv_topi (fun x_143 ex_143 => ?_)
          refine lv_goto (tgt := 94) hx hb dX8_meanOf_83 (by decide) ?_
          refine lv_istore (lv' := [(9, .int x_143), (8, .int 0), (7, .int (nI q_140)), (6, .int bg_140), (5, .int x_139), (4, .int (nI (dn sn))), (0, .ref (a 0)), (1, .int (nI sn)), (2, .int (nI kr)), (3, .int p2)]) hx hb dX8_meanOf_94 hl (by decide) rfl (fun ls hl => ?_)
          refine lv_iconst (v := 0) hx hb dX8_meanOf_96 (by decide) ?_
          refine lv_istore (lv' := [(10, .int 0), (9, .int x_143), (8, .int 0), (7, .int (nI q_140)), (6, .int bg_140), (5, .int x_139), (4, .int (nI (dn sn))), (0, .ref (a 0)), (1, .int (nI sn)), (2, .int (nI kr)), (3, .int p2)]) hx hb dX8_meanOf_97 hl (by decide) rfl (fun ls hl => ?_)
          refine W_loop (σ := Nat × (Nat → Int32)) (fun (n_ : Nat) (x_ : Nat × (Nat → Int32)) (H : Heap) (locs : List Loc) (ls : Array Slot) => match x_ with | (kk_144, ff_144) => n_ = 52 - kk_144 ∧ (kk_144 ≤ 52) ∧ va_P D classes [((a 0), .inr (8, (fX8 a (nI tx) fp (nI t0) wd (nI we) nu na (nI rd) ts (nI ru) (nI rw) (nI ca) df db sd))), (aI k (a 1) 3 (nF dn)), (aI k (a 4) 27 (sg se tm gs)), (aI k (a 2) 72 ffrees), (aI k (a 3) 72 fprices), (aI k (a 25) 4 (nF bm)), (aI k (a 26) 48 fbarSeen), (aI k (a 27) 48 fbarFrom), (aI k (a 28) 4 fruleRounds), (aI k (a 29) 52 ff_144), (aI k (a 30) 52 fb_140)] H ∧ va_D A [((a 0), .inr (8, (fX8 a (nI tx) fp (nI t0) wd (nI we) nu na (nI rd) ts (nI ru) (nI rw) (nI ca) df db sd))), (aI k (a 1) 3 (nF dn)), (aI k (a 4) 27 (sg se tm gs)), (aI k (a 2) 72 ffrees), (aI k (a 3) 72 fprices), (aI k (a 25) 4 (nF bm)), (aI k (a 26) 48 fbarSeen), (aI k (a 27) 48 fbarFrom), (aI k (a 28) 4 fruleRounds), (aI k (a 29) 52 ff_144), (aI k (a 30) 52 fb_140)] ∧ va_S A s.heap H locs ∧ lv_has ls 14 [(10, .int (nI kk_144)), (9, .int x_143), (8, .int 0), (7, .int (nI q_140)), (6, .int bg_140), (5, .int x_139), (4, .int (nI (dn sn))), (0, .ref (a 0)), (1, .int (nI sn)), (2, .int (nI kr)), (3, .int p2)]) (fun n_144 x_144 H locs ls hI ih_144 => ?_) _ (0, ff_140) ⟨rfl, (by omega), hP, hD, hS, (lv_sub hl [0, 1, 2, 3, 4, 5, 6, 7, 8, 9, 10] rfl)⟩
          obtain ⟨kk_144, ff_144⟩ := x_144
          obtain ⟨hm_144, hv_144, hP, hD, hS, hl⟩ := hI
          subst hm_144
          refine lv_iload hx hb dX8_meanOf_99 (lv_at hl 0 rfl) ?_
          refine lv_bipush (v := 52) hx hb dX8_meanOf_101 (by decide) ?_
          refine lv_icmp_ge (tgt := 121) hx hb dX8_meanOf_103 (by decide) (fun c_145 => ?_) (fun c_145 => ?_)
          · have c_145 := (nI_leI (a := 52) (b := kk_144) (by omega) (by omega)).mp c_145
            refine lv_iload hx hb dX8_meanOf_121 (lv_at hl 6 rfl) ?_
            refine lv_iconst (v := 1) hx hb dX8_meanOf_123 (by decide) ?_
            refine lv_isub hx hb dX8_meanOf_124 ?_
            refine lv_ti (y := (nI (dn sn) - 1)) rfl ?_
            refine lv_istore (lv' := [(10, .int (nI (dn sn) - 1)), (9, .int x_143), (8, .int 0), (7, .int (nI q_140)), (6, .int bg_140), (5, .int x_139), (4, .int (nI (dn sn))), (0, .ref (a 0)), (1, .int (nI sn)), (2, .int (nI kr)), (3, .int p2)]) hx hb dX8_meanOf_125 hl (by decide) rfl (fun ls hl => ?_)
            refine W_loop (σ := Nat × (Nat → Int32) × (Nat → Int32)) (fun (n_ : Nat) (x_ : Nat × (Nat → Int32) × (Nat → Int32)) (H : Heap) (locs : List Loc) (ls : Array Slot) => match x_ with | (qi_146, ff_146, fb_146) => n_ = 2 * qi_146 ∧ (qi_146 ≤ dn sn) ∧ va_P D classes [((a 0), .inr (8, (fX8 a (nI tx) fp (nI t0) wd (nI we) nu na (nI rd) ts (nI ru) (nI rw) (nI ca) df db sd))), (aI k (a 1) 3 (nF dn)), (aI k (a 4) 27 (sg se tm gs)), (aI k (a 2) 72 ffrees), (aI k (a 3) 72 fprices), (aI k (a 25) 4 (nF bm)), (aI k (a 26) 48 fbarSeen), (aI k (a 27) 48 fbarFrom), (aI k (a 28) 4 fruleRounds), (aI k (a 29) 52 ff_146), (aI k (a 30) 52 fb_146)] H ∧ va_D A [((a 0), .inr (8, (fX8 a (nI tx) fp (nI t0) wd (nI we) nu na (nI rd) ts (nI ru) (nI rw) (nI ca) df db sd))), (aI k (a 1) 3 (nF dn)), (aI k (a 4) 27 (sg se tm gs)), (aI k (a 2) 72 ffrees), (aI k (a 3) 72 fprices), (aI k (a 25) 4 (nF bm)), (aI k (a 26) 48 fbarSeen), (aI k (a 27) 48 fbarFrom), (aI k (a 28) 4 fruleRounds), (aI k (a 29) 52 ff_146), (aI k (a 30) 52 fb_146)] ∧ va_S A s.heap H locs ∧ lv_has ls 14 [(10, .int (nI qi_146 - 1)), (9, .int x_143), (8, .int 0), (7, .int (nI q_140)), (6, .int bg_140), (5, .int x_139), (4, .int (nI (dn sn))), (0, .ref (a 0)), (1, .int (nI sn)), (2, .int (nI kr)), (3, .int p2)]) (fun n_146 x_146 H locs ls hI ih_146 => ?_) _ (dn sn, ff_144, fb_140) ⟨rfl, (by omega), hP, hD, hS, (lv_sub hl [0, 1, 2, 3, 4, 5, 6, 7, 8, 9, 10] rfl)⟩
            obtain ⟨qi_146, ff_146, fb_146⟩ := x_146
            obtain ⟨hm_146, hv_146, hP, hD, hS, hl⟩ := hI
            subst hm_146
            rcases qi_146 with _ | qi_146
            · rw [dn0] at hl
              refine lv_iload hx hb dX8_meanOf_127 (lv_at hl 0 rfl) ?_
              refine lv_if_lt (tgt := 275) hx hb dX8_meanOf_129 (by decide) (fun _ => ?_) (fun h => absurd (by decide) h)
              refine lv_aload_n hx hb dX8_meanOf_275 rfl (lv_at hl 7 rfl) ?_
              refine va_get (D := D) (ci := 8) (v := .ref (a 29)) (C := RX8) (T := TX8) (N := 44) hx hb hts inX8 hown hK hP 0 rfl rfl 28 (by decide) (hts _ tw_1001) (fun _ h9 => h9) rfl dX8_meanOf_276 ?_
              refine lv_iconst (v := 0) hx hb dX8_meanOf_279 (by decide) ?_
              refine va_iald hx hb hK hP 9 1 rfl rfl (by unfold vp_in; decide) dX8_meanOf_280 ?_
              refine lv_ti (y := (ff_146 0)) (by rfl) ?_
              refine lv_istore (lv' := [(6, .int (ff_146 0)), (10, .int (-1)), (9, .int x_143), (8, .int 0), (7, .int (nI q_140)), (5, .int x_139), (4, .int (nI (dn sn))), (0, .ref (a 0)), (1, .int (nI sn)), (2, .int (nI kr)), (3, .int p2)]) hx hb dX8_meanOf_281 hl (by decide) rfl (fun ls hl => ?_)
              refine lv_iinc (v := (nI q_140 - 1)) (lv' := [(7, .int (nI q_140 - 1)), (6, .int (ff_146 0)), (10, .int (-1)), (9, .int x_143), (8, .int 0), (5, .int x_139), (4, .int (nI (dn sn))), (0, .ref (a 0)), (1, .int (nI sn)), (2, .int (nI kr)), (3, .int p2)]) hx hb dX8_meanOf_283 hl (k := 4) rfl (dn1 _) (by decide) rfl (fun ls hl => ?_)
              refine lv_goto (tgt := 34) hx hb dX8_meanOf_286 (by decide) ?_
              exact ih_140 _ (q_140, (ff_146 0), ff_146, fb_146) _ _ _ (by omega) ⟨rfl, (by omega), hP, hD, hS, (lv_sub hl [0, 1, 5, 6, 7, 8, 9, 10] rfl)⟩
            · rw [nI_pred] at hl
              refine lv_iload hx hb dX8_meanOf_127 (lv_at hl 0 rfl) ?_
              refine lv_if_lt (tgt := 275) hx hb dX8_meanOf_129 (by decide) (fun h => absurd h (nI_pos0 (by omega))) (fun _ => ?_)
              refine lv_iconst (v := 0) hx hb dX8_meanOf_132 (by decide) ?_
              refine lv_istore (lv' := [(11, .int 0), (10, .int (nI qi_146)), (9, .int x_143), (8, .int 0), (7, .int (nI q_140)), (6, .int bg_140), (5, .int x_139), (4, .int (nI (dn sn))), (0, .ref (a 0)), (1, .int (nI sn)), (2, .int (nI kr)), (3, .int p2)]) hx hb dX8_meanOf_133 hl (by decide) rfl (fun ls hl => ?_)
              refine W_loop (σ := Nat × (Nat → Int32)) (fun (n_ : Nat) (x_ : Nat × (Nat → Int32)) (H : Heap) (locs : List Loc) (ls : Array Slot) => match x_ with | (kk_147, fb_147) => n_ = 50 - kk_147 ∧ (kk_147 ≤ 50) ∧ va_P D classes [((a 0), .inr (8, (fX8 a (nI tx) fp (nI t0) wd (nI we) nu na (nI rd) ts (nI ru) (nI rw) (nI ca) df db sd))), (aI k (a 1) 3 (nF dn)), (aI k (a 4) 27 (sg se tm gs)), (aI k (a 2) 72 ffrees), (aI k (a 3) 72 fprices), (aI k (a 25) 4 (nF bm)), (aI k (a 26) 48 fbarSeen), (aI k (a 27) 48 fbarFrom), (aI k (a 28) 4 fruleRounds), (aI k (a 29) 52 ff_146), (aI k (a 30) 52 fb_147)] H ∧ va_D A [((a 0), .inr (8, (fX8 a (nI tx) fp (nI t0) wd (nI we) nu na (nI rd) ts (nI ru) (nI rw) (nI ca) df db sd))), (aI k (a 1) 3 (nF dn)), (aI k (a 4) 27 (sg se tm gs)), (aI k (a 2) 72 ffrees), (aI k (a 3) 72 fprices), (aI k (a 25) 4 (nF bm)), (aI k (a 26) 48 fbarSeen), (aI k (a 27) 48 fbarFrom), (aI k (a 28) 4 fruleRounds), (aI k (a 29) 52 ff_146), (aI k (a 30) 52 fb_147)] ∧ va_S A s.heap H locs ∧ lv_has ls 14 [(11, .int (nI kk_147)), (10, .int (nI qi_146)), (9, .int x_143), (8, .int 0), (7, .int (nI q_140)), (6, .int bg_140), (5, .int x_139), (4, .int (nI (dn sn))), (0, .ref (a 0)), (1, .int (nI sn)), (2, .int (nI kr)), (3, .int p2)]) (fun n_147 x_147 H locs ls hI ih_147 => ?_) _ (0, fb_146) ⟨rfl, (by omega), hP, hD, hS, (lv_sub hl [0, 1, 2, 3, 4, 5, 6, 7, 8, 9, 10, 11] rfl)⟩
              obtain ⟨kk_147, fb_147⟩ := x_147
              obtain ⟨hm_147, hv_147, hP, hD, hS, hl⟩ := hI
              subst hm_147
              refine lv_iload hx hb dX8_meanOf_135 (lv_at hl 0 rfl) ?_
              refine lv_bipush (v := 50) hx hb dX8_meanOf_137 (by decide) ?_
              refine lv_icmp_ge (tgt := 239) hx hb dX8_meanOf_139 (by decide) (fun c_148 => ?_) (fun c_148 => ?_)
              · have c_148 := (nI_leI (a := 50) (b := kk_147) (by omega) (by omega)).mp c_148
                refine lv_iconst (v := 0) hx hb dX8_meanOf_239 (by decide) ?_
                refine lv_istore (lv' := [(11, .int 0), (10, .int (nI qi_146)), (9, .int x_143), (8, .int 0), (7, .int (nI q_140)), (6, .int bg_140), (5, .int x_139), (4, .int (nI (dn sn))), (0, .ref (a 0)), (1, .int (nI sn)), (2, .int (nI kr)), (3, .int p2)]) hx hb dX8_meanOf_240 hl (by decide) rfl (fun ls hl => ?_)
                refine W_loop (σ := Nat × (Nat → Int32)) (fun (n_ : Nat) (x_ : Nat × (Nat → Int32)) (H : Heap) (locs : List Loc) (ls : Array Slot) => match x_ with | (kk_149, ff_149) => n_ = 50 - kk_149 ∧ (kk_149 ≤ 50) ∧ va_P D classes [((a 0), .inr (8, (fX8 a (nI tx) fp (nI t0) wd (nI we) nu na (nI rd) ts (nI ru) (nI rw) (nI ca) df db sd))), (aI k (a 1) 3 (nF dn)), (aI k (a 4) 27 (sg se tm gs)), (aI k (a 2) 72 ffrees), (aI k (a 3) 72 fprices), (aI k (a 25) 4 (nF bm)), (aI k (a 26) 48 fbarSeen), (aI k (a 27) 48 fbarFrom), (aI k (a 28) 4 fruleRounds), (aI k (a 29) 52 ff_149), (aI k (a 30) 52 fb_147)] H ∧ va_D A [((a 0), .inr (8, (fX8 a (nI tx) fp (nI t0) wd (nI we) nu na (nI rd) ts (nI ru) (nI rw) (nI ca) df db sd))), (aI k (a 1) 3 (nF dn)), (aI k (a 4) 27 (sg se tm gs)), (aI k (a 2) 72 ffrees), (aI k (a 3) 72 fprices), (aI k (a 25) 4 (nF bm)), (aI k (a 26) 48 fbarSeen), (aI k (a 27) 48 fbarFrom), (aI k (a 28) 4 fruleRounds), (aI k (a 29) 52 ff_149), (aI k (a 30) 52 fb_147)] ∧ va_S A s.heap H locs ∧ lv_has ls 14 [(11, .int (nI kk_149)), (10, .int (nI qi_146)), (9, .int x_143), (8, .int 0), (7, .int (nI q_140)), (6, .int bg_140), (5, .int x_139), (4, .int (nI (dn sn))), (0, .ref (a 0)), (1, .int (nI sn)), (2, .int (nI kr)), (3, .int p2)]) (fun n_149 x_149 H locs ls hI ih_149 => ?_) _ (0, ff_146) ⟨rfl, (by omega), hP, hD, hS, (lv_sub hl [0, 1, 2, 3, 4, 5, 6, 7, 8, 9, 10, 11] rfl)⟩
                obtain ⟨kk_149, ff_149⟩ := x_149
                obtain ⟨hm_149, hv_149, hP, hD, hS, hl⟩ := hI
                subst hm_149
                refine lv_iload hx hb dX8_meanOf_242 (lv_at hl 0 rfl) ?_
                refine lv_bipush (v := 50) hx hb dX8_meanOf_244 (by decide) ?_
                refine lv_icmp_ge (tgt := 269) hx hb dX8_meanOf_246 (by decide) (fun c_150 => ?_) (fun c_150 => ?_)
                · have c_150 := (nI_leI (a := 50) (b := kk_149) (by omega) (by omega)).mp c_150
                  refine lv_iinc (v := (nI qi_146 - 1)) (lv' := [(10, .int (nI qi_146 - 1)), (11, .int (nI kk_149)), (9, .int x_143), (8, .int 0), (7, .int (nI q_140)), (6, .int bg_140), (5, .int x_139), (4, .int (nI (dn sn))), (0, .ref (a 0)), (1, .int (nI sn)), (2, .int (nI kr)), (3, .int p2)]) hx hb dX8_meanOf_269 hl (k := 1) rfl (dn1 _) (by decide) rfl (fun ls hl => ?_)
                  refine lv_goto (tgt := 127) hx hb dX8_meanOf_272 (by decide) ?_
                  exact ih_146 _ (qi_146, ff_149, fb_147) _ _ _ (by omega) ⟨rfl, (by omega), hP, hD, hS, (lv_sub hl [0, 2, 3, 4, 5, 6, 7, 8, 9, 10, 11] rfl)⟩
                · have c_150 : ¬ (50 ≤ kk_149) := fun h => c_150 ((nI_leI (a := 50) (b := kk_149) (by omega) (by omega)).mpr h)
                  refine lv_aload_n hx hb dX8_meanOf_249 rfl (lv_at hl 8 rfl) ?_
                  refine va_get (D := D) (ci := 8) (v := .ref (a 29)) (C := RX8) (T := TX8) (N := 44) hx hb hts inX8 hown hK hP 0 rfl rfl 28 (by decide) (hts _ tw_1001) (fun _ h9 => h9) rfl dX8_meanOf_250 ?_
                  refine lv_iload hx hb dX8_meanOf_253 (lv_at hl 0 rfl) ?_
                  refine lv_aload_n hx hb dX8_meanOf_255 rfl (lv_at hl 8 rfl) ?_
                  refine va_get (D := D) (ci := 8) (v := .ref (a 30)) (C := RX8) (T := TX8) (N := 44) hx hb hts inX8 hown hK hP 0 rfl rfl 29 (by decide) (hts _ tw_1002) (fun _ h9 => h9) rfl dX8_meanOf_256 ?_
                  refine lv_iload hx hb dX8_meanOf_259 (lv_at hl 0 rfl) ?_
                  refine va_iald hx hb hK hP 10 1 rfl rfl (vp_in_nI (by omega) (by decide)) dX8_meanOf_261 ?_
                  refine lv_ti (y := (fb_147 kk_149)) (by rw [nI_clamp (by omega)]) ?_
                  refine va_iast hx hb hK hP hD hS 9 1 rfl rfl (vp_in_nI (by omega) (by decide)) dX8_meanOf_262 (fun H locs hP hD hS => ?_)
                  replace hP : va_P D classes [((a 0), .inr (8, (fX8 a (nI tx) fp (nI t0) wd (nI we) nu na (nI rd) ts (nI ru) (nI rw) (nI ca) df db sd))), (aI k (a 1) 3 (nF dn)), (aI k (a 4) 27 (sg se tm gs)), (aI k (a 2) 72 ffrees), (aI k (a 3) 72 fprices), (aI k (a 25) 4 (nF bm)), (aI k (a 26) 48 fbarSeen), (aI k (a 27) 48 fbarFrom), (aI k (a 28) 4 fruleRounds), (aI k (a 29) 52 (upd ff_149 (Int32.toNatClampNeg (nI kk_149)) (fb_147 kk_149))), (aI k (a 30) 52 fb_147)] H := hP
                  replace hD : va_D A [((a 0), .inr (8, (fX8 a (nI tx) fp (nI t0) wd (nI we) nu na (nI rd) ts (nI ru) (nI rw) (nI ca) df db sd))), (aI k (a 1) 3 (nF dn)), (aI k (a 4) 27 (sg se tm gs)), (aI k (a 2) 72 ffrees), (aI k (a 3) 72 fprices), (aI k (a 25) 4 (nF bm)), (aI k (a 26) 48 fbarSeen), (aI k (a 27) 48 fbarFrom), (aI k (a 28) 4 fruleRounds), (aI k (a 29) 52 (upd ff_149 (Int32.toNatClampNeg (nI kk_149)) (fb_147 kk_149))), (aI k (a 30) 52 fb_147)] := hD
                  generalize (upd ff_149 (Int32.toNatClampNeg (nI kk_149)) (fb_147 kk_149)) = f_151 at hP hD
                  refine lv_iinc (v := (nI (kk_149 + 1))) (lv' := [(11, .int (nI (kk_149 + 1))), (10, .int (nI qi_146)), (9, .int x_143), (8, .int 0), (7, .int (nI q_140)), (6, .int bg_140), (5, .int x_139), (4, .int (nI (dn sn))), (0, .ref (a 0)), (1, .int (nI sn)), (2, .int (nI kr)), (3, .int p2)]) hx hb dX8_meanOf_263 hl (k := 0) rfl (nI_add kk_149 1) (by decide) rfl (fun ls hl => ?_)
                  refine lv_goto (tgt := 242) hx hb dX8_meanOf_266 (by decide) ?_
                  exact ih_149 _ (kk_149 + 1, f_151) _ _ _ (by omega) ⟨rfl, (by omega), hP, hD, hS, (lv_sub hl [0, 1, 2, 3, 4, 5, 6, 7, 8, 9, 10, 11] rfl)⟩
              · have c_148 : ¬ (50 ≤ kk_147) := fun h => c_148 ((nI_leI (a := 50) (b := kk_147) (by omega) (by omega)).mpr h)
                refine lv_iload hx hb dX8_meanOf_142 (lv_at hl 0 rfl) ?_
                refine lv_iconst (v := 2) hx hb dX8_meanOf_144 (by decide) ?_
                refine lv_idiv hx hb dX8_meanOf_145 (by decide) ?_
                refine lv_ti (y := (nI (kk_147 / 2))) (pk_div (by omega) (by decide) (by decide)) ?_
                refine lv_istore (lv' := [(12, .int (nI (kk_147 / 2))), (11, .int (nI kk_147)), (10, .int (nI qi_146)), (9, .int x_143), (8, .int 0), (7, .int (nI q_140)), (6, .int bg_140), (5, .int x_139), (4, .int (nI (dn sn))), (0, .ref (a 0)), (1, .int (nI sn)), (2, .int (nI kr)), (3, .int p2)]) hx hb dX8_meanOf_146 hl (by decide) rfl (fun ls hl => ?_)
                refine lv_aload_n hx hb dX8_meanOf_148 rfl (lv_at hl 9 rfl) ?_
                refine lv_iload_n hx hb dX8_meanOf_149 rfl (lv_at hl 11 rfl) ?_
                refine lv_iload hx hb dX8_meanOf_150 (lv_at hl 2 rfl) ?_
                refine lv_iload hx hb dX8_meanOf_152 (lv_at hl 0 rfl) ?_
                refine ro_i (D := D) (va_runV (As := [.int (nI kr), .int (nI qi_146), .int (nI (kk_147 / 2))]) (rest := []) ⟨hx, hb, hml, hown, hts⟩ ((m_isFor l D k st lo a tx t0 we rd ru rw ca fp wd nu na ts df db sd bm fbarSeen fbarFrom kr (nI qi_146) (nI (kk_147 / 2)) hbm (by omega)) H.size) (cwV 3 hts (gV tw_1338 tw_1340 tw_61 tw_87 tw_1341) rfl rfl rfl (by decide +kernel) ⟨Nat.le_of_ble_eq_true rfl, Nat.le_of_ble_eq_true rfl⟩) (pV hS hAlo hlo hP hK (va_Dlo hD hAlo) hZ [0, 5, 6, 7] (by decide) rfl (ci := 8) (q := (RX8, TX8, 44)) (q0 := 0) rfl rfl) rfl rfl hl.1 rfl (lv_room (Nat.le_of_ble_eq_true rfl)) dX8_meanOf_154 ⟨Nat.le_of_ble_eq_true rfl, Nat.le_of_ble_eq_true rfl⟩) hS hA hP (fun r_152 H locs hw_152 hP hS => ?_)
                try dsimp only at hw_152
                refine lv_if_eq (tgt := 173) hx hb dX8_meanOf_157 (by decide) (fun c_153 => ?_) (fun c_153 => ?_)
                · refine lv_iload hx hb dX8_meanOf_173 (lv_at hl 7 rfl) ?_
                  refine lv_aload_n hx hb dX8_meanOf_175 rfl (lv_at hl 9 rfl) ?_
                  refine va_get (D := D) (ci := 8) (v := .ref (a 29)) (C := RX8) (T := TX8) (N := 44) hx hb hts inX8 hown hK hP 0 rfl rfl 28 (by decide) (hts _ tw_1001) (fun _ h9 => h9) rfl dX8_meanOf_176 ?_
                  refine lv_iconst (v := 2) hx hb dX8_meanOf_179 (by decide) ?_
                  refine lv_iload hx hb dX8_meanOf_180 (lv_at hl 0 rfl) ?_
                  refine lv_imul hx hb dX8_meanOf_182 ?_
                  refine lv_ti (y := (nI (2 * (kk_147 / 2)))) (pk_mul 2 (kk_147 / 2)) ?_
                  refine lv_iconst (v := 3) hx hb dX8_meanOf_183 (by decide) ?_
                  refine lv_iadd hx hb dX8_meanOf_184 ?_
                  refine lv_ti (y := (nI (2 * (kk_147 / 2) + 3))) (nI_add (2 * (kk_147 / 2)) 3) ?_
                  refine va_iald hx hb hK hP 9 1 rfl rfl (vp_in_nI (by omega) (by decide)) dX8_meanOf_185 ?_
                  refine lv_ti (y := (ff_146 (2 * (kk_147 / 2) + 3))) (by rw [nI_clamp (by omega)]) ?_
                  refine lv_iadd hx hb dX8_meanOf_186 ?_
                  refine lv_topi (fun x_154 ex_154 => ?_)
                  refine lv_istore (lv' := [(13, .int x_154), (12, .int (nI (kk_147 / 2))), (11, .int (nI kk_147)), (10, .int (nI qi_146)), (9, .int x_143), (8, .int 0), (7, .int (nI q_140)), (6, .int bg_140), (5, .int x_139), (4, .int (nI (dn sn))), (0, .ref (a 0)), (1, .int (nI sn)), (2, .int (nI kr)), (3, .int p2)]) hx hb dX8_meanOf_187 hl (by decide) rfl (fun ls hl => ?_)
                  refine lv_aload_n hx hb dX8_meanOf_189 rfl (lv_at hl 10 rfl) ?_
                  refine va_get (D := D) (ci := 8) (v := .ref (a 30)) (C := RX8) (T := TX8) (N := 44) hx hb hts inX8 hown hK hP 0 rfl rfl 29 (by decide) (hts _ tw_1002) (fun _ h9 => h9) rfl dX8_meanOf_190 ?_
                  refine lv_iload hx hb dX8_meanOf_193 (lv_at hl 2 rfl) ?_
                  refine lv_aload_n hx hb dX8_meanOf_195 rfl (lv_at hl 10 rfl) ?_
                  refine lv_iload_n hx hb dX8_meanOf_196 rfl (lv_at hl 11 rfl) ?_
                  refine lv_iload hx hb dX8_meanOf_197 (lv_at hl 3 rfl) ?_
                  refine lv_iload hx hb dX8_meanOf_199 (lv_at hl 2 rfl) ?_
                  refine lv_iconst (v := 2) hx hb dX8_meanOf_201 (by decide) ?_
                  refine lv_irem hx hb dX8_meanOf_202 (by decide) ?_
                  refine lv_ti (y := (nI (kk_147 % 2))) (pk_rem (by omega) (by decide) (by decide)) ?_
                  refine lv_iconst (v := 1) hx hb dX8_meanOf_203 (by decide) ?_
                  refine lv_icmp_ne (tgt := 211) hx hb dX8_meanOf_204 (by decide) (fun c_155 => ?_) (fun c_155 => ?_)
                  · have c_155 : ¬ ((kk_147 % 2) = 1) := fun h => c_155 ((nI_eq (a := (kk_147 % 2)) (b := 1) (by omega) (by omega)).mpr h)
                    refine lv_iconst (v := 0) hx hb dX8_meanOf_211 (by decide) ?_
                    refine ro_i (D := D) (va_runV (As := [.int (nI sn), .int (nI qi_146), .int 0]) (rest := [.int (nI kk_147), .ref (a 30)]) ⟨hx, hb, hml, hown, hts⟩ ((m_chanceOf l D k st lo a tx t0 we rd ru rw ca fp wd nu na ts df db sd ffrees se tm gs sn qi_146 0 (by omega) (by omega)) H.size) (cwV 3 hts (gV tw_1210 tw_1212 tw_41 tw_87 tw_1213) rfl rfl rfl (by decide +kernel) ⟨Nat.le_of_ble_eq_true rfl, Nat.le_of_ble_eq_true rfl⟩) (pV hS hAlo hlo hP hK (va_Dlo hD hAlo) hZ [0, 3, 2] (by decide) rfl (ci := 8) (q := (RX8, TX8, 44)) (q0 := 0) rfl rfl) rfl rfl hl.1 rfl (lv_room (Nat.le_of_ble_eq_true rfl)) dX8_meanOf_212 ⟨Nat.le_of_ble_eq_true rfl, Nat.le_of_ble_eq_true rfl⟩) hS hA hP (fun r_156 H locs hw_156 hP hS => ?_)
                    try dsimp only at hw_156
                    refine lv_iload hx hb dX8_meanOf_215 (lv_at hl 0 rfl) ?_
                    refine lv_iload hx hb dX8_meanOf_217 (lv_at hl 8 rfl) ?_
                    refine lv_aload_n hx hb dX8_meanOf_219 rfl (lv_at hl 10 rfl) ?_
                    refine va_get (D := D) (ci := 8) (v := .ref (a 29)) (C := RX8) (T := TX8) (N := 44) hx hb hts inX8 hown hK hP 0 rfl rfl 28 (by decide) (hts _ tw_1001) (fun _ h9 => h9) rfl dX8_meanOf_220 ?_
                    refine lv_iconst (v := 2) hx hb dX8_meanOf_223 (by decide) ?_
                    refine lv_iload hx hb dX8_meanOf_224 (lv_at hl 1 rfl) ?_
                    refine lv_imul hx hb dX8_meanOf_226 ?_
                    refine lv_ti (y := (nI (2 * (kk_147 / 2)))) (pk_mul 2 (kk_147 / 2)) ?_
                    refine va_iald hx hb hK hP 9 1 rfl rfl (vp_in_nI (by omega) (by decide)) dX8_meanOf_227 ?_
                    refine lv_ti (y := (ff_146 (2 * (kk_147 / 2)))) (by rw [nI_clamp (by omega)]) ?_
                    refine lv_iadd hx hb dX8_meanOf_228 ?_
                    refine lv_topi (fun x_157 ex_157 => ?_)
                    refine ro_i (D := D) (va_runS (As := [.int r_156, .int x_154, .int x_157]) (rest := [.int (nI kk_147), .ref (a 30)]) ⟨hx, hb, hml, hown, hts⟩ ((m_mixed l D k st lo r_156 x_154 x_157) H.size) (va_cwS 3 hts (gS tw_1269 tw_1270 tw_87 tw_1271) rfl rfl rfl (by decide +kernel) ⟨Nat.le_of_ble_eq_true rfl, Nat.le_of_ble_eq_true rfl⟩) (pS hS hAlo hlo hP hK (va_Dlo hD hAlo) hZ [] (by decide) rfl) rfl rfl hl.1 rfl (lv_room (Nat.le_of_ble_eq_true rfl)) dX8_meanOf_229 ⟨Nat.le_of_ble_eq_true rfl, Nat.le_of_ble_eq_true rfl⟩) hS hA hP (fun r_158 H locs hw_158 hP hS => ?_)
                    try dsimp only at hw_158
                    refine va_iast hx hb hK hP hD hS 10 1 rfl rfl (vp_in_nI (by omega) (by decide)) dX8_meanOf_232 (fun H locs hP hD hS => ?_)
                    replace hP : va_P D classes [((a 0), .inr (8, (fX8 a (nI tx) fp (nI t0) wd (nI we) nu na (nI rd) ts (nI ru) (nI rw) (nI ca) df db sd))), (aI k (a 1) 3 (nF dn)), (aI k (a 4) 27 (sg se tm gs)), (aI k (a 2) 72 ffrees), (aI k (a 3) 72 fprices), (aI k (a 25) 4 (nF bm)), (aI k (a 26) 48 fbarSeen), (aI k (a 27) 48 fbarFrom), (aI k (a 28) 4 fruleRounds), (aI k (a 29) 52 ff_146), (aI k (a 30) 52 (upd fb_147 (Int32.toNatClampNeg (nI kk_147)) r_158))] H := hP
                    replace hD : va_D A [((a 0), .inr (8, (fX8 a (nI tx) fp (nI t0) wd (nI we) nu na (nI rd) ts (nI ru) (nI rw) (nI ca) df db sd))), (aI k (a 1) 3 (nF dn)), (aI k (a 4) 27 (sg se tm gs)), (aI k (a 2) 72 ffrees), (aI k (a 3) 72 fprices), (aI k (a 25) 4 (nF bm)), (aI k (a 26) 48 fbarSeen), (aI k (a 27) 48 fbarFrom), (aI k (a 28) 4 fruleRounds), (aI k (a 29) 52 ff_146), (aI k (a 30) 52 (upd fb_147 (Int32.toNatClampNeg (nI kk_147)) r_158))] := hD
                    generalize (upd fb_147 (Int32.toNatClampNeg (nI kk_147)) r_158) = f_159 at hP hD
                    refine lv_iinc (v := (nI (kk_147 + 1))) (lv' := [(11, .int (nI (kk_147 + 1))), (13, .int x_154), (12, .int (nI (kk_147 / 2))), (10, .int (nI qi_146)), (9, .int x_143), (8, .int 0), (7, .int (nI q_140)), (6, .int bg_140), (5, .int x_139), (4, .int (nI (dn sn))), (0, .ref (a 0)), (1, .int (nI sn)), (2, .int (nI kr)), (3, .int p2)]) hx hb dX8_meanOf_233 hl (k := 2) rfl (nI_add kk_147 1) (by decide) rfl (fun ls hl => ?_)
                    refine lv_goto (tgt := 135) hx hb dX8_meanOf_236 (by decide) ?_
                    exact ih_147 _ (kk_147 + 1, f_159) _ _ _ (by omega) ⟨rfl, (by omega), hP, hD, hS, (lv_sub hl [0, 3, 4, 5, 6, 7, 8, 9, 10, 11, 12, 13] rfl)⟩
                  · have c_155 := (nI_eq (a := (kk_147 % 2)) (b := 1) (by omega) (by omega)).mp c_155
                    refine lv_iconst (v := 1) hx hb dX8_meanOf_207 (by decide) ?_
                    refine lv_goto (tgt := 212) hx hb dX8_meanOf_208 (by decide) ?_
                    refine ro_i (D := D) (va_runV (As := [.int (nI sn), .int (nI qi_146), .int 1]) (rest := [.int (nI kk_147), .ref (a 30)]) ⟨hx, hb, hml, hown, hts⟩ ((m_chanceOf l D k st lo a tx t0 we rd ru rw ca fp wd nu na ts df db sd ffrees se tm gs sn qi_146 1 (by omega) (by omega)) H.size) (cwV 3 hts (gV tw_1210 tw_1212 tw_41 tw_87 tw_1213) rfl rfl rfl (by decide +kernel) ⟨Nat.le_of_ble_eq_true rfl, Nat.le_of_ble_eq_true rfl⟩) (pV hS hAlo hlo hP hK (va_Dlo hD hAlo) hZ [0, 3, 2] (by decide) rfl (ci := 8) (q := (RX8, TX8, 44)) (q0 := 0) rfl rfl) rfl rfl hl.1 rfl (lv_room (Nat.le_of_ble_eq_true rfl)) dX8_meanOf_212 ⟨Nat.le_of_ble_eq_true rfl, Nat.le_of_ble_eq_true rfl⟩) hS hA hP (fun r_160 H locs hw_160 hP hS => ?_)
                    try dsimp only at hw_160
                    refine lv_iload hx hb dX8_meanOf_215 (lv_at hl 0 rfl) ?_
                    refine lv_iload hx hb dX8_meanOf_217 (lv_at hl 8 rfl) ?_
                    refine lv_aload_n hx hb dX8_meanOf_219 rfl (lv_at hl 10 rfl) ?_
                    refine va_get (D := D) (ci := 8) (v := .ref (a 29)) (C := RX8) (T := TX8) (N := 44) hx hb hts inX8 hown hK hP 0 rfl rfl 28 (by decide) (hts _ tw_1001) (fun _ h9 => h9) rfl dX8_meanOf_220 ?_
                    refine lv_iconst (v := 2) hx hb dX8_meanOf_223 (by decide) ?_
                    refine lv_iload hx hb dX8_meanOf_224 (lv_at hl 1 rfl) ?_
                    refine lv_imul hx hb dX8_meanOf_226 ?_
                    refine lv_ti (y := (nI (2 * (kk_147 / 2)))) (pk_mul 2 (kk_147 / 2)) ?_
                    refine va_iald hx hb hK hP 9 1 rfl rfl (vp_in_nI (by omega) (by decide)) dX8_meanOf_227 ?_
                    refine lv_ti (y := (ff_146 (2 * (kk_147 / 2)))) (by rw [nI_clamp (by omega)]) ?_
                    refine lv_iadd hx hb dX8_meanOf_228 ?_
                    refine lv_topi (fun x_161 ex_161 => ?_)
                    refine ro_i (D := D) (va_runS (As := [.int r_160, .int x_154, .int x_161]) (rest := [.int (nI kk_147), .ref (a 30)]) ⟨hx, hb, hml, hown, hts⟩ ((m_mixed l D k st lo r_160 x_154 x_161) H.size) (va_cwS 3 hts (gS tw_1269 tw_1270 tw_87 tw_1271) rfl rfl rfl (by decide +kernel) ⟨Nat.le_of_ble_eq_true rfl, Nat.le_of_ble_eq_true rfl⟩) (pS hS hAlo hlo hP hK (va_Dlo hD hAlo) hZ [] (by decide) rfl) rfl rfl hl.1 rfl (lv_room (Nat.le_of_ble_eq_true rfl)) dX8_meanOf_229 ⟨Nat.le_of_ble_eq_true rfl, Nat.le_of_ble_eq_true rfl⟩) hS hA hP (fun r_162 H locs hw_162 hP hS => ?_)
                    try dsimp only at hw_162
                    refine va_iast hx hb hK hP hD hS 10 1 rfl rfl (vp_in_nI (by omega) (by decide)) dX8_meanOf_232 (fun H locs hP hD hS => ?_)
                    replace hP : va_P D classes [((a 0), .inr (8, (fX8 a (nI tx) fp (nI t0) wd (nI we) nu na (nI rd) ts (nI ru) (nI rw) (nI ca) df db sd))), (aI k (a 1) 3 (nF dn)), (aI k (a 4) 27 (sg se tm gs)), (aI k (a 2) 72 ffrees), (aI k (a 3) 72 fprices), (aI k (a 25) 4 (nF bm)), (aI k (a 26) 48 fbarSeen), (aI k (a 27) 48 fbarFrom), (aI k (a 28) 4 fruleRounds), (aI k (a 29) 52 ff_146), (aI k (a 30) 52 (upd fb_147 (Int32.toNatClampNeg (nI kk_147)) r_162))] H := hP
                    replace hD : va_D A [((a 0), .inr (8, (fX8 a (nI tx) fp (nI t0) wd (nI we) nu na (nI rd) ts (nI ru) (nI rw) (nI ca) df db sd))), (aI k (a 1) 3 (nF dn)), (aI k (a 4) 27 (sg se tm gs)), (aI k (a 2) 72 ffrees), (aI k (a 3) 72 fprices), (aI k (a 25) 4 (nF bm)), (aI k (a 26) 48 fbarSeen), (aI k (a 27) 48 fbarFrom), (aI k (a 28) 4 fruleRounds), (aI k (a 29) 52 ff_146), (aI k (a 30) 52 (upd fb_147 (Int32.toNatClampNeg (nI kk_147)) r_162))] := hD
                    generalize (upd fb_147 (Int32.toNatClampNeg (nI kk_147)) r_162) = f_163 at hP hD
                    refine lv_iinc (v := (nI (kk_147 + 1))) (lv' := [(11, .int (nI (kk_147 + 1))), (13, .int x_154), (12, .int (nI (kk_147 / 2))), (10, .int (nI qi_146)), (9, .int x_143), (8, .int 0), (7, .int (nI q_140)), (6, .int bg_140), (5, .int x_139), (4, .int (nI (dn sn))), (0, .ref (a 0)), (1, .int (nI sn)), (2, .int (nI kr)), (3, .int p2)]) hx hb dX8_meanOf_233 hl (k := 2) rfl (nI_add kk_147 1) (by decide) rfl (fun ls hl => ?_)
                    refine lv_goto (tgt := 135) hx hb dX8_meanOf_236 (by decide) ?_
                    exact ih_147 _ (kk_147 + 1, f_163) _ _ _ (by omega) ⟨rfl, (by omega), hP, hD, hS, (lv_sub hl [0, 3, 4, 5, 6, 7, 8, 9, 10, 11, 12, 13] rfl)⟩
                · refine lv_aload_n hx hb dX8_meanOf_160 rfl (lv_at hl 9 rfl) ?_
                  refine lv_iload_n hx hb dX8_meanOf_161 rfl (lv_at hl 10 rfl) ?_
                  refine lv_iload hx hb dX8_meanOf_162 (lv_at hl 5 rfl) ?_
                  refine lv_iload hx hb dX8_meanOf_164 (lv_at hl 2 rfl) ?_
                  refine lv_iload_n hx hb dX8_meanOf_166 rfl (lv_at hl 12 rfl) ?_
                  refine ro_i (D := D) (va_runV (As := [.int (nI sn), .int (nI q_140), .int (nI qi_146), .int p2]) (rest := []) ⟨hx, hb, hml, hown, hts⟩ ((m_byTaking l D k st lo a tx t0 we rd ru rw ca fp wd nu na ts df db sd dn se tm gs fprices sn qi_146 (nI q_140) p2 (by omega) (by omega)) H.size) (cwV 4 hts (gV tw_1342 tw_1344 tw_62 tw_87 tw_1345) rfl rfl rfl (by decide +kernel) ⟨Nat.le_of_ble_eq_true rfl, Nat.le_of_ble_eq_true rfl⟩) (pV hS hAlo hlo hP hK (va_Dlo hD hAlo) hZ [0, 1, 2, 4] (by decide) rfl (ci := 8) (q := (RX8, TX8, 44)) (q0 := 0) rfl rfl) rfl rfl hl.1 rfl (lv_room (Nat.le_of_ble_eq_true rfl)) dX8_meanOf_167 ⟨Nat.le_of_ble_eq_true rfl, Nat.le_of_ble_eq_true rfl⟩) hS hA hP (fun r_164 H locs hw_164 hP hS => ?_)
                  try dsimp only at hw_164
                  refine lv_goto (tgt := 187) hx hb dX8_meanOf_170 (by decide) ?_
                  refine lv_istore (lv' := [(13, .int r_164), (12, .int (nI (kk_147 / 2))), (11, .int (nI kk_147)), (10, .int (nI qi_146)), (9, .int x_143), (8, .int 0), (7, .int (nI q_140)), (6, .int bg_140), (5, .int x_139), (4, .int (nI (dn sn))), (0, .ref (a 0)), (1, .int (nI sn)), (2, .int (nI kr)), (3, .int p2)]) hx hb dX8_meanOf_187 hl (by decide) rfl (fun ls hl => ?_)
                  refine lv_aload_n hx hb dX8_meanOf_189 rfl (lv_at hl 10 rfl) ?_
                  refine va_get (D := D) (ci := 8) (v := .ref (a 30)) (C := RX8) (T := TX8) (N := 44) hx hb hts inX8 hown hK hP 0 rfl rfl 29 (by decide) (hts _ tw_1002) (fun _ h9 => h9) rfl dX8_meanOf_190 ?_
                  refine lv_iload hx hb dX8_meanOf_193 (lv_at hl 2 rfl) ?_
                  refine lv_aload_n hx hb dX8_meanOf_195 rfl (lv_at hl 10 rfl) ?_
                  refine lv_iload_n hx hb dX8_meanOf_196 rfl (lv_at hl 11 rfl) ?_
                  refine lv_iload hx hb dX8_meanOf_197 (lv_at hl 3 rfl) ?_
                  refine lv_iload hx hb dX8_meanOf_199 (lv_at hl 2 rfl) ?_
                  refine lv_iconst (v := 2) hx hb dX8_meanOf_201 (by decide) ?_
                  refine lv_irem hx hb dX8_meanOf_202 (by decide) ?_
                  refine lv_ti (y := (nI (kk_147 % 2))) (pk_rem (by omega) (by decide) (by decide)) ?_
                  refine lv_iconst (v := 1) hx hb dX8_meanOf_203 (by decide) ?_
                  refine lv_icmp_ne (tgt := 211) hx hb dX8_meanOf_204 (by decide) (fun c_165 => ?_) (fun c_165 => ?_)
                  · have c_165 : ¬ ((kk_147 % 2) = 1) := fun h => c_165 ((nI_eq (a := (kk_147 % 2)) (b := 1) (by omega) (by omega)).mpr h)
                    refine lv_iconst (v := 0) hx hb dX8_meanOf_211 (by decide) ?_
                    refine ro_i (D := D) (va_runV (As := [.int (nI sn), .int (nI qi_146), .int 0]) (rest := [.int (nI kk_147), .ref (a 30)]) ⟨hx, hb, hml, hown, hts⟩ ((m_chanceOf l D k st lo a tx t0 we rd ru rw ca fp wd nu na ts df db sd ffrees se tm gs sn qi_146 0 (by omega) (by omega)) H.size) (cwV 3 hts (gV tw_1210 tw_1212 tw_41 tw_87 tw_1213) rfl rfl rfl (by decide +kernel) ⟨Nat.le_of_ble_eq_true rfl, Nat.le_of_ble_eq_true rfl⟩) (pV hS hAlo hlo hP hK (va_Dlo hD hAlo) hZ [0, 3, 2] (by decide) rfl (ci := 8) (q := (RX8, TX8, 44)) (q0 := 0) rfl rfl) rfl rfl hl.1 rfl (lv_room (Nat.le_of_ble_eq_true rfl)) dX8_meanOf_212 ⟨Nat.le_of_ble_eq_true rfl, Nat.le_of_ble_eq_true rfl⟩) hS hA hP (fun r_166 H locs hw_166 hP hS => ?_)
                    try dsimp only at hw_166
                    refine lv_iload hx hb dX8_meanOf_215 (lv_at hl 0 rfl) ?_
                    refine lv_iload hx hb dX8_meanOf_217 (lv_at hl 8 rfl) ?_
                    refine lv_aload_n hx hb dX8_meanOf_219 rfl (lv_at hl 10 rfl) ?_
                    refine va_get (D := D) (ci := 8) (v := .ref (a 29)) (C := RX8) (T := TX8) (N := 44) hx hb hts inX8 hown hK hP 0 rfl rfl 28 (by decide) (hts _ tw_1001) (fun _ h9 => h9) rfl dX8_meanOf_220 ?_
                    refine lv_iconst (v := 2) hx hb dX8_meanOf_223 (by decide) ?_
                    refine lv_iload hx hb dX8_meanOf_224 (lv_at hl 1 rfl) ?_
                    refine lv_imul hx hb dX8_meanOf_226 ?_
                    refine lv_ti (y := (nI (2 * (kk_147 / 2)))) (pk_mul 2 (kk_147 / 2)) ?_
                    refine va_iald hx hb hK hP 9 1 rfl rfl (vp_in_nI (by omega) (by decide)) dX8_meanOf_227 ?_
                    refine lv_ti (y := (ff_146 (2 * (kk_147 / 2)))) (by rw [nI_clamp (by omega)]) ?_
                    refine lv_iadd hx hb dX8_meanOf_228 ?_
                    refine lv_topi (fun x_167 ex_167 => ?_)
                    refine ro_i (D := D) (va_runS (As := [.int r_166, .int r_164, .int x_167]) (rest := [.int (nI kk_147), .ref (a 30)]) ⟨hx, hb, hml, hown, hts⟩ ((m_mixed l D k st lo r_166 r_164 x_167) H.size) (va_cwS 3 hts (gS tw_1269 tw_1270 tw_87 tw_1271) rfl rfl rfl (by decide +kernel) ⟨Nat.le_of_ble_eq_true rfl, Nat.le_of_ble_eq_true rfl⟩) (pS hS hAlo hlo hP hK (va_Dlo hD hAlo) hZ [] (by decide) rfl) rfl rfl hl.1 rfl (lv_room (Nat.le_of_ble_eq_true rfl)) dX8_meanOf_229 ⟨Nat.le_of_ble_eq_true rfl, Nat.le_of_ble_eq_true rfl⟩) hS hA hP (fun r_168 H locs hw_168 hP hS => ?_)
                    try dsimp only at hw_168
                    refine va_iast hx hb hK hP hD hS 10 1 rfl rfl (vp_in_nI (by omega) (by decide)) dX8_meanOf_232 (fun H locs hP hD hS => ?_)
                    replace hP : va_P D classes [((a 0), .inr (8, (fX8 a (nI tx) fp (nI t0) wd (nI we) nu na (nI rd) ts (nI ru) (nI rw) (nI ca) df db sd))), (aI k (a 1) 3 (nF dn)), (aI k (a 4) 27 (sg se tm gs)), (aI k (a 2) 72 ffrees), (aI k (a 3) 72 fprices), (aI k (a 25) 4 (nF bm)), (aI k (a 26) 48 fbarSeen), (aI k (a 27) 48 fbarFrom), (aI k (a 28) 4 fruleRounds), (aI k (a 29) 52 ff_146), (aI k (a 30) 52 (upd fb_147 (Int32.toNatClampNeg (nI kk_147)) r_168))] H := hP
                    replace hD : va_D A [((a 0), .inr (8, (fX8 a (nI tx) fp (nI t0) wd (nI we) nu na (nI rd) ts (nI ru) (nI rw) (nI ca) df db sd))), (aI k (a 1) 3 (nF dn)), (aI k (a 4) 27 (sg se tm gs)), (aI k (a 2) 72 ffrees), (aI k (a 3) 72 fprices), (aI k (a 25) 4 (nF bm)), (aI k (a 26) 48 fbarSeen), (aI k (a 27) 48 fbarFrom), (aI k (a 28) 4 fruleRounds), (aI k (a 29) 52 ff_146), (aI k (a 30) 52 (upd fb_147 (Int32.toNatClampNeg (nI kk_147)) r_168))] := hD
                    generalize (upd fb_147 (Int32.toNatClampNeg (nI kk_147)) r_168) = f_169 at hP hD
                    refine lv_iinc (v := (nI (kk_147 + 1))) (lv' := [(11, .int (nI (kk_147 + 1))), (13, .int r_164), (12, .int (nI (kk_147 / 2))), (10, .int (nI qi_146)), (9, .int x_143), (8, .int 0), (7, .int (nI q_140)), (6, .int bg_140), (5, .int x_139), (4, .int (nI (dn sn))), (0, .ref (a 0)), (1, .int (nI sn)), (2, .int (nI kr)), (3, .int p2)]) hx hb dX8_meanOf_233 hl (k := 2) rfl (nI_add kk_147 1) (by decide) rfl (fun ls hl => ?_)
                    refine lv_goto (tgt := 135) hx hb dX8_meanOf_236 (by decide) ?_
                    exact ih_147 _ (kk_147 + 1, f_169) _ _ _ (by omega) ⟨rfl, (by omega), hP, hD, hS, (lv_sub hl [0, 3, 4, 5, 6, 7, 8, 9, 10, 11, 12, 13] rfl)⟩
                  · have c_165 := (nI_eq (a := (kk_147 % 2)) (b := 1) (by omega) (by omega)).mp c_165
                    refine lv_iconst (v := 1) hx hb dX8_meanOf_207 (by decide) ?_
                    refine lv_goto (tgt := 212) hx hb dX8_meanOf_208 (by decide) ?_
                    refine ro_i (D := D) (va_runV (As := [.int (nI sn), .int (nI qi_146), .int 1]) (rest := [.int (nI kk_147), .ref (a 30)]) ⟨hx, hb, hml, hown, hts⟩ ((m_chanceOf l D k st lo a tx t0 we rd ru rw ca fp wd nu na ts df db sd ffrees se tm gs sn qi_146 1 (by omega) (by omega)) H.size) (cwV 3 hts (gV tw_1210 tw_1212 tw_41 tw_87 tw_1213) rfl rfl rfl (by decide +kernel) ⟨Nat.le_of_ble_eq_true rfl, Nat.le_of_ble_eq_true rfl⟩) (pV hS hAlo hlo hP hK (va_Dlo hD hAlo) hZ [0, 3, 2] (by decide) rfl (ci := 8) (q := (RX8, TX8, 44)) (q0 := 0) rfl rfl) rfl rfl hl.1 rfl (lv_room (Nat.le_of_ble_eq_true rfl)) dX8_meanOf_212 ⟨Nat.le_of_ble_eq_true rfl, Nat.le_of_ble_eq_true rfl⟩) hS hA hP (fun r_170 H locs hw_170 hP hS => ?_)
                    try dsimp only at hw_170
                    refine lv_iload hx hb dX8_meanOf_215 (lv_at hl 0 rfl) ?_
                    refine lv_iload hx hb dX8_meanOf_217 (lv_at hl 8 rfl) ?_
                    refine lv_aload_n hx hb dX8_meanOf_219 rfl (lv_at hl 10 rfl) ?_
                    refine va_get (D := D) (ci := 8) (v := .ref (a 29)) (C := RX8) (T := TX8) (N := 44) hx hb hts inX8 hown hK hP 0 rfl rfl 28 (by decide) (hts _ tw_1001) (fun _ h9 => h9) rfl dX8_meanOf_220 ?_
                    refine lv_iconst (v := 2) hx hb dX8_meanOf_223 (by decide) ?_
                    refine lv_iload hx hb dX8_meanOf_224 (lv_at hl 1 rfl) ?_
                    refine lv_imul hx hb dX8_meanOf_226 ?_
                    refine lv_ti (y := (nI (2 * (kk_147 / 2)))) (pk_mul 2 (kk_147 / 2)) ?_
                    refine va_iald hx hb hK hP 9 1 rfl rfl (vp_in_nI (by omega) (by decide)) dX8_meanOf_227 ?_
                    refine lv_ti (y := (ff_146 (2 * (kk_147 / 2)))) (by rw [nI_clamp (by omega)]) ?_
                    refine lv_iadd hx hb dX8_meanOf_228 ?_
                    refine lv_topi (fun x_171 ex_171 => ?_)
                    refine ro_i (D := D) (va_runS (As := [.int r_170, .int r_164, .int x_171]) (rest := [.int (nI kk_147), .ref (a 30)]) ⟨hx, hb, hml, hown, hts⟩ ((m_mixed l D k st lo r_170 r_164 x_171) H.size) (va_cwS 3 hts (gS tw_1269 tw_1270 tw_87 tw_1271) rfl rfl rfl (by decide +kernel) ⟨Nat.le_of_ble_eq_true rfl, Nat.le_of_ble_eq_true rfl⟩) (pS hS hAlo hlo hP hK (va_Dlo hD hAlo) hZ [] (by decide) rfl) rfl rfl hl.1 rfl (lv_room (Nat.le_of_ble_eq_true rfl)) dX8_meanOf_229 ⟨Nat.le_of_ble_eq_true rfl, Nat.le_of_ble_eq_true rfl⟩) hS hA hP (fun r_172 H locs hw_172 hP hS => ?_)
                    try dsimp only at hw_172
                    refine va_iast hx hb hK hP hD hS 10 1 rfl rfl (vp_in_nI (by omega) (by decide)) dX8_meanOf_232 (fun H locs hP hD hS => ?_)
                    replace hP : va_P D classes [((a 0), .inr (8, (fX8 a (nI tx) fp (nI t0) wd (nI we) nu na (nI rd) ts (nI ru) (nI rw) (nI ca) df db sd))), (aI k (a 1) 3 (nF dn)), (aI k (a 4) 27 (sg se tm gs)), (aI k (a 2) 72 ffrees), (aI k (a 3) 72 fprices), (aI k (a 25) 4 (nF bm)), (aI k (a 26) 48 fbarSeen), (aI k (a 27) 48 fbarFrom), (aI k (a 28) 4 fruleRounds), (aI k (a 29) 52 ff_146), (aI k (a 30) 52 (upd fb_147 (Int32.toNatClampNeg (nI kk_147)) r_172))] H := hP
                    replace hD : va_D A [((a 0), .inr (8, (fX8 a (nI tx) fp (nI t0) wd (nI we) nu na (nI rd) ts (nI ru) (nI rw) (nI ca) df db sd))), (aI k (a 1) 3 (nF dn)), (aI k (a 4) 27 (sg se tm gs)), (aI k (a 2) 72 ffrees), (aI k (a 3) 72 fprices), (aI k (a 25) 4 (nF bm)), (aI k (a 26) 48 fbarSeen), (aI k (a 27) 48 fbarFrom), (aI k (a 28) 4 fruleRounds), (aI k (a 29) 52 ff_146), (aI k (a 30) 52 (upd fb_147 (Int32.toNatClampNeg (nI kk_147)) r_172))] := hD
                    generalize (upd fb_147 (Int32.toNatClampNeg (nI kk_147)) r_172) = f_173 at hP hD
                    refine lv_iinc (v := (nI (kk_147 + 1))) (lv' := [(11, .int (nI (kk_147 + 1))), (13, .int r_164), (12, .int (nI (kk_147 / 2))), (10, .int (nI qi_146)), (9, .int x_143), (8, .int 0), (7, .int (nI q_140)), (6, .int bg_140), (5, .int x_139), (4, .int (nI (dn sn))), (0, .ref (a 0)), (1, .int (nI sn)), (2, .int (nI kr)), (3, .int p2)]) hx hb dX8_meanOf_233 hl (k := 2) rfl (nI_add kk_147 1) (by decide) rfl (fun ls hl => ?_)
                    refine lv_goto (tgt := 135) hx hb dX8_meanOf_236 (by decide) ?_
                    exact ih_147 _ (kk_147 + 1, f_173) _ _ _ (by omega) ⟨rfl, (by omega), hP, hD, hS, (lv_sub hl [0, 3, 4, 5, 6, 7, 8, 9, 10, 11, 12, 13] rfl)⟩
          · have c_145 : ¬ (52 ≤ kk_144) := fun h => c_145 ((nI_leI (a := 52) (b := kk_144) (by omega) (by omega)).mpr h)
            refine lv_aload_n hx hb dX8_meanOf_106 rfl (lv_at hl 7 rfl) ?_
            refine va_get (D := D) (ci := 8) (v := .ref (a 29)) (C := RX8) (T := TX8) (N := 44) hx hb hts inX8 hown hK hP 0 rfl rfl 28 (by decide) (hts _ tw_1001) (fun _ h9 => h9) rfl dX8_meanOf_107 ?_
            refine lv_iload hx hb dX8_meanOf_110 (lv_at hl 0 rfl) ?_
            refine lv_iload hx hb dX8_meanOf_112 (lv_at hl 1 rfl) ?_
            refine va_iast hx hb hK hP hD hS 9 1 rfl rfl (vp_in_nI (by omega) (by decide)) dX8_meanOf_114 (fun H locs hP hD hS => ?_)
            replace hP : va_P D classes [((a 0), .inr (8, (fX8 a (nI tx) fp (nI t0) wd (nI we) nu na (nI rd) ts (nI ru) (nI rw) (nI ca) df db sd))), (aI k (a 1) 3 (nF dn)), (aI k (a 4) 27 (sg se tm gs)), (aI k (a 2) 72 ffrees), (aI k (a 3) 72 fprices), (aI k (a 25) 4 (nF bm)), (aI k (a 26) 48 fbarSeen), (aI k (a 27) 48 fbarFrom), (aI k (a 28) 4 fruleRounds), (aI k (a 29) 52 (upd ff_144 (Int32.toNatClampNeg (nI kk_144)) x_143)), (aI k (a 30) 52 fb_140)] H := hP
            replace hD : va_D A [((a 0), .inr (8, (fX8 a (nI tx) fp (nI t0) wd (nI we) nu na (nI rd) ts (nI ru) (nI rw) (nI ca) df db sd))), (aI k (a 1) 3 (nF dn)), (aI k (a 4) 27 (sg se tm gs)), (aI k (a 2) 72 ffrees), (aI k (a 3) 72 fprices), (aI k (a 25) 4 (nF bm)), (aI k (a 26) 48 fbarSeen), (aI k (a 27) 48 fbarFrom), (aI k (a 28) 4 fruleRounds), (aI k (a 29) 52 (upd ff_144 (Int32.toNatClampNeg (nI kk_144)) x_143)), (aI k (a 30) 52 fb_140)] := hD
            generalize (upd ff_144 (Int32.toNatClampNeg (nI kk_144)) x_143) = f_174 at hP hD
            refine lv_iinc (v := (nI (kk_144 + 1))) (lv' := [(10, .int (nI (kk_144 + 1))), (9, .int x_143), (8, .int 0), (7, .int (nI q_140)), (6, .int bg_140), (5, .int x_139), (4, .int (nI (dn sn))), (0, .ref (a 0)), (1, .int (nI sn)), (2, .int (nI kr)), (3, .int p2)]) hx hb dX8_meanOf_115 hl (k := 0) rfl (nI_add kk_144 1) (by decide) rfl (fun ls hl => ?_)
            refine lv_goto (tgt := 99) hx hb dX8_meanOf_118 (by decide) ?_
            exact ih_144 _ (kk_144 + 1, f_174) _ _ _ (by omega) ⟨rfl, (by omega), hP, hD, hS, (lv_sub hl [0, 1, 2, 3, 4, 5, 6, 7, 8, 9, 10] rfl)⟩
        · refine lv_if_eq (tgt := 86) hx hb dX8_meanOf_75 (by decide) (fun _ => ?_) (fun h => absurd (by decide) h)
          refine lv_aload_n hx hb dX8_meanOf_86 rfl (lv_at hl 5 rfl) ?_
          refine lv_iload_n hx hb dX8_meanOf_87 rfl (lv_at hl 6 rfl) ?_
          refine lv_iload hx hb dX8_meanOf_88 (lv_at hl 1 rfl) ?_
          refine lv_iload_n hx hb dX8_meanOf_90 rfl (lv_at hl 8 rfl) ?_
          refine ro_i (D := D) (va_runV (As := [.int (nI sn), .int (nI q_140), .int p2]) (rest := []) ⟨hx, hb, hml, hown, hts⟩ ((m_byGarage l D k st lo a tx t0 we rd ru rw ca fp wd nu na ts df db sd dn se tm gs sn (nI q_140) p2 (by omega)) H.size) (cwV 3 hts (gV tw_1333 tw_1335 tw_60 tw_87 tw_1336) rfl rfl rfl (by decide +kernel) ⟨Nat.le_of_ble_eq_true rfl, Nat.le_of_ble_eq_true rfl⟩) (pV hS hAlo hlo hP hK (va_Dlo hD hAlo) hZ [0, 1, 2] (by decide) rfl (ci := 8) (q := (RX8, TX8, 44)) (q0 := 0) rfl rfl) rfl rfl hl.1 rfl (lv_room (Nat.le_of_ble_eq_true rfl)) dX8_meanOf_91 ⟨Nat.le_of_ble_eq_true rfl, Nat.le_of_ble_eq_true rfl⟩) hS hA hP (fun r_175 H locs hw_175 hP hS => ?_)
          try dsimp only at hw_175
          refine lv_istore (lv' := [(9, .int r_175), (8, .int 0), (7, .int (nI q_140)), (6, .int bg_140), (5, .int x_139), (4, .int (nI (dn sn))), (0, .ref (a 0)), (1, .int (nI sn)), (2, .int (nI kr)), (3, .int p2)]) hx hb dX8_meanOf_94 hl (by decide) rfl (fun ls hl => ?_)
          refine lv_iconst (v := 0) hx hb dX8_meanOf_96 (by decide) ?_
          refine lv_istore (lv' := [(10, .int 0), (9, .int r_175), (8, .int 0), (7, .int (nI q_140)), (6, .int bg_140), (5, .int x_139), (4, .int (nI (dn sn))), (0, .ref (a 0)), (1, .int (nI sn)), (2, .int (nI kr)), (3, .int p2)]) hx hb dX8_meanOf_97 hl (by decide) rfl (fun ls hl => ?_)
          refine W_loop (σ := Nat × (Nat → Int32)) (fun (n_ : Nat) (x_ : Nat × (Nat → Int32)) (H : Heap) (locs : List Loc) (ls : Array Slot) => match x_ with | (kk_176, ff_176) => n_ = 52 - kk_176 ∧ (kk_176 ≤ 52) ∧ va_P D classes [((a 0), .inr (8, (fX8 a (nI tx) fp (nI t0) wd (nI we) nu na (nI rd) ts (nI ru) (nI rw) (nI ca) df db sd))), (aI k (a 1) 3 (nF dn)), (aI k (a 4) 27 (sg se tm gs)), (aI k (a 2) 72 ffrees), (aI k (a 3) 72 fprices), (aI k (a 25) 4 (nF bm)), (aI k (a 26) 48 fbarSeen), (aI k (a 27) 48 fbarFrom), (aI k (a 28) 4 fruleRounds), (aI k (a 29) 52 ff_176), (aI k (a 30) 52 fb_140)] H ∧ va_D A [((a 0), .inr (8, (fX8 a (nI tx) fp (nI t0) wd (nI we) nu na (nI rd) ts (nI ru) (nI rw) (nI ca) df db sd))), (aI k (a 1) 3 (nF dn)), (aI k (a 4) 27 (sg se tm gs)), (aI k (a 2) 72 ffrees), (aI k (a 3) 72 fprices), (aI k (a 25) 4 (nF bm)), (aI k (a 26) 48 fbarSeen), (aI k (a 27) 48 fbarFrom), (aI k (a 28) 4 fruleRounds), (aI k (a 29) 52 ff_176), (aI k (a 30) 52 fb_140)] ∧ va_S A s.heap H locs ∧ lv_has ls 14 [(10, .int (nI kk_176)), (9, .int r_175), (8, .int 0), (7, .int (nI q_140)), (6, .int bg_140), (5, .int x_139), (4, .int (nI (dn sn))), (0, .ref (a 0)), (1, .int (nI sn)), (2, .int (nI kr)), (3, .int p2)]) (fun n_176 x_176 H locs ls hI ih_176 => ?_) _ (0, ff_140) ⟨rfl, (by omega), hP, hD, hS, (lv_sub hl [0, 1, 2, 3, 4, 5, 6, 7, 8, 9, 10] rfl)⟩
          obtain ⟨kk_176, ff_176⟩ := x_176
          obtain ⟨hm_176, hv_176, hP, hD, hS, hl⟩ := hI
          subst hm_176
          refine lv_iload hx hb dX8_meanOf_99 (lv_at hl 0 rfl) ?_
          refine lv_bipush (v := 52) hx hb dX8_meanOf_101 (by decide) ?_
          refine lv_icmp_ge (tgt := 121) hx hb dX8_meanOf_103 (by decide) (fun c_177 => ?_) (fun c_177 => ?_)
          · have c_177 := (nI_leI (a := 52) (b := kk_176) (by omega) (by omega)).mp c_177
            refine lv_iload hx hb dX8_meanOf_121 (lv_at hl 6 rfl) ?_
            refine lv_iconst (v := 1) hx hb dX8_meanOf_123 (by decide) ?_
            refine lv_isub hx hb dX8_meanOf_124 ?_
            refine lv_ti (y := (nI (dn sn) - 1)) rfl ?_
            refine lv_istore (lv' := [(10, .int (nI (dn sn) - 1)), (9, .int r_175), (8, .int 0), (7, .int (nI q_140)), (6, .int bg_140), (5, .int x_139), (4, .int (nI (dn sn))), (0, .ref (a 0)), (1, .int (nI sn)), (2, .int (nI kr)), (3, .int p2)]) hx hb dX8_meanOf_125 hl (by decide) rfl (fun ls hl => ?_)
            refine W_loop (σ := Nat × (Nat → Int32) × (Nat → Int32)) (fun (n_ : Nat) (x_ : Nat × (Nat → Int32) × (Nat → Int32)) (H : Heap) (locs : List Loc) (ls : Array Slot) => match x_ with | (qi_178, ff_178, fb_178) => n_ = 2 * qi_178 ∧ (qi_178 ≤ dn sn) ∧ va_P D classes [((a 0), .inr (8, (fX8 a (nI tx) fp (nI t0) wd (nI we) nu na (nI rd) ts (nI ru) (nI rw) (nI ca) df db sd))), (aI k (a 1) 3 (nF dn)), (aI k (a 4) 27 (sg se tm gs)), (aI k (a 2) 72 ffrees), (aI k (a 3) 72 fprices), (aI k (a 25) 4 (nF bm)), (aI k (a 26) 48 fbarSeen), (aI k (a 27) 48 fbarFrom), (aI k (a 28) 4 fruleRounds), (aI k (a 29) 52 ff_178), (aI k (a 30) 52 fb_178)] H ∧ va_D A [((a 0), .inr (8, (fX8 a (nI tx) fp (nI t0) wd (nI we) nu na (nI rd) ts (nI ru) (nI rw) (nI ca) df db sd))), (aI k (a 1) 3 (nF dn)), (aI k (a 4) 27 (sg se tm gs)), (aI k (a 2) 72 ffrees), (aI k (a 3) 72 fprices), (aI k (a 25) 4 (nF bm)), (aI k (a 26) 48 fbarSeen), (aI k (a 27) 48 fbarFrom), (aI k (a 28) 4 fruleRounds), (aI k (a 29) 52 ff_178), (aI k (a 30) 52 fb_178)] ∧ va_S A s.heap H locs ∧ lv_has ls 14 [(10, .int (nI qi_178 - 1)), (9, .int r_175), (8, .int 0), (7, .int (nI q_140)), (6, .int bg_140), (5, .int x_139), (4, .int (nI (dn sn))), (0, .ref (a 0)), (1, .int (nI sn)), (2, .int (nI kr)), (3, .int p2)]) (fun n_178 x_178 H locs ls hI ih_178 => ?_) _ (dn sn, ff_176, fb_140) ⟨rfl, (by omega), hP, hD, hS, (lv_sub hl [0, 1, 2, 3, 4, 5, 6, 7, 8, 9, 10] rfl)⟩
            obtain ⟨qi_178, ff_178, fb_178⟩ := x_178
            obtain ⟨hm_178, hv_178, hP, hD, hS, hl⟩ := hI
            subst hm_178
            rcases qi_178 with _ | qi_178
            · rw [dn0] at hl
              refine lv_iload hx hb dX8_meanOf_127 (lv_at hl 0 rfl) ?_
              refine lv_if_lt (tgt := 275) hx hb dX8_meanOf_129 (by decide) (fun _ => ?_) (fun h => absurd (by decide) h)
              refine lv_aload_n hx hb dX8_meanOf_275 rfl (lv_at hl 7 rfl) ?_
              refine va_get (D := D) (ci := 8) (v := .ref (a 29)) (C := RX8) (T := TX8) (N := 44) hx hb hts inX8 hown hK hP 0 rfl rfl 28 (by decide) (hts _ tw_1001) (fun _ h9 => h9) rfl dX8_meanOf_276 ?_
              refine lv_iconst (v := 0) hx hb dX8_meanOf_279 (by decide) ?_
              refine va_iald hx hb hK hP 9 1 rfl rfl (by unfold vp_in; decide) dX8_meanOf_280 ?_
              refine lv_ti (y := (ff_178 0)) (by rfl) ?_
              refine lv_istore (lv' := [(6, .int (ff_178 0)), (10, .int (-1)), (9, .int r_175), (8, .int 0), (7, .int (nI q_140)), (5, .int x_139), (4, .int (nI (dn sn))), (0, .ref (a 0)), (1, .int (nI sn)), (2, .int (nI kr)), (3, .int p2)]) hx hb dX8_meanOf_281 hl (by decide) rfl (fun ls hl => ?_)
              refine lv_iinc (v := (nI q_140 - 1)) (lv' := [(7, .int (nI q_140 - 1)), (6, .int (ff_178 0)), (10, .int (-1)), (9, .int r_175), (8, .int 0), (5, .int x_139), (4, .int (nI (dn sn))), (0, .ref (a 0)), (1, .int (nI sn)), (2, .int (nI kr)), (3, .int p2)]) hx hb dX8_meanOf_283 hl (k := 4) rfl (dn1 _) (by decide) rfl (fun ls hl => ?_)
              refine lv_goto (tgt := 34) hx hb dX8_meanOf_286 (by decide) ?_
              exact ih_140 _ (q_140, (ff_178 0), ff_178, fb_178) _ _ _ (by omega) ⟨rfl, (by omega), hP, hD, hS, (lv_sub hl [0, 1, 5, 6, 7, 8, 9, 10] rfl)⟩
            · rw [nI_pred] at hl
              refine lv_iload hx hb dX8_meanOf_127 (lv_at hl 0 rfl) ?_
              refine lv_if_lt (tgt := 275) hx hb dX8_meanOf_129 (by decide) (fun h => absurd h (nI_pos0 (by omega))) (fun _ => ?_)
              refine lv_iconst (v := 0) hx hb dX8_meanOf_132 (by decide) ?_
              refine lv_istore (lv' := [(11, .int 0), (10, .int (nI qi_178)), (9, .int r_175), (8, .int 0), (7, .int (nI q_140)), (6, .int bg_140), (5, .int x_139), (4, .int (nI (dn sn))), (0, .ref (a 0)), (1, .int (nI sn)), (2, .int (nI kr)), (3, .int p2)]) hx hb dX8_meanOf_133 hl (by decide) rfl (fun ls hl => ?_)
              refine W_loop (σ := Nat × (Nat → Int32)) (fun (n_ : Nat) (x_ : Nat × (Nat → Int32)) (H : Heap) (locs : List Loc) (ls : Array Slot) => match x_ with | (kk_179, fb_179) => n_ = 50 - kk_179 ∧ (kk_179 ≤ 50) ∧ va_P D classes [((a 0), .inr (8, (fX8 a (nI tx) fp (nI t0) wd (nI we) nu na (nI rd) ts (nI ru) (nI rw) (nI ca) df db sd))), (aI k (a 1) 3 (nF dn)), (aI k (a 4) 27 (sg se tm gs)), (aI k (a 2) 72 ffrees), (aI k (a 3) 72 fprices), (aI k (a 25) 4 (nF bm)), (aI k (a 26) 48 fbarSeen), (aI k (a 27) 48 fbarFrom), (aI k (a 28) 4 fruleRounds), (aI k (a 29) 52 ff_178), (aI k (a 30) 52 fb_179)] H ∧ va_D A [((a 0), .inr (8, (fX8 a (nI tx) fp (nI t0) wd (nI we) nu na (nI rd) ts (nI ru) (nI rw) (nI ca) df db sd))), (aI k (a 1) 3 (nF dn)), (aI k (a 4) 27 (sg se tm gs)), (aI k (a 2) 72 ffrees), (aI k (a 3) 72 fprices), (aI k (a 25) 4 (nF bm)), (aI k (a 26) 48 fbarSeen), (aI k (a 27) 48 fbarFrom), (aI k (a 28) 4 fruleRounds), (aI k (a 29) 52 ff_178), (aI k (a 30) 52 fb_179)] ∧ va_S A s.heap H locs ∧ lv_has ls 14 [(11, .int (nI kk_179)), (10, .int (nI qi_178)), (9, .int r_175), (8, .int 0), (7, .int (nI q_140)), (6, .int bg_140), (5, .int x_139), (4, .int (nI (dn sn))), (0, .ref (a 0)), (1, .int (nI sn)), (2, .int (nI kr)), (3, .int p2)]) (fun n_179 x_179 H locs ls hI ih_179 => ?_) _ (0, fb_178) ⟨rfl, (by omega), hP, hD, hS, (lv_sub hl [0, 1, 2, 3, 4, 5, 6, 7, 8, 9, 10, 11] rfl)⟩
              obtain ⟨kk_179, fb_179⟩ := x_179
              obtain ⟨hm_179, hv_179, hP, hD, hS, hl⟩ := hI
              subst hm_179
              refine lv_iload hx hb dX8_meanOf_135 (lv_at hl 0 rfl) ?_
              refine lv_bipush (v := 50) hx hb dX8_meanOf_137 (by decide) ?_
              refine lv_icmp_ge (tgt := 239) hx hb dX8_meanOf_139 (by decide) (fun c_180 => ?_) (fun c_180 => ?_)
              · have c_180 := (nI_leI (a := 50) (b := kk_179) (by omega) (by omega)).mp c_180
                refine lv_iconst (v := 0) hx hb dX8_meanOf_239 (by decide) ?_
                refine lv_istore (lv' := [(11, .int 0), (10, .int (nI qi_178)), (9, .int r_175), (8, .int 0), (7, .int (nI q_140)), (6, .int bg_140), (5, .int x_139), (4, .int (nI (dn sn))), (0, .ref (a 0)), (1, .int (nI sn)), (2, .int (nI kr)), (3, .int p2)]) hx hb dX8_meanOf_240 hl (by decide) rfl (fun ls hl => ?_)
                refine W_loop (σ := Nat × (Nat → Int32)) (fun (n_ : Nat) (x_ : Nat × (Nat → Int32)) (H : Heap) (locs : List Loc) (ls : Array Slot) => match x_ with | (kk_181, ff_181) => n_ = 50 - kk_181 ∧ (kk_181 ≤ 50) ∧ va_P D classes [((a 0), .inr (8, (fX8 a (nI tx) fp (nI t0) wd (nI we) nu na (nI rd) ts (nI ru) (nI rw) (nI ca) df db sd))), (aI k (a 1) 3 (nF dn)), (aI k (a 4) 27 (sg se tm gs)), (aI k (a 2) 72 ffrees), (aI k (a 3) 72 fprices), (aI k (a 25) 4 (nF bm)), (aI k (a 26) 48 fbarSeen), (aI k (a 27) 48 fbarFrom), (aI k (a 28) 4 fruleRounds), (aI k (a 29) 52 ff_181), (aI k (a 30) 52 fb_179)] H ∧ va_D A [((a 0), .inr (8, (fX8 a (nI tx) fp (nI t0) wd (nI we) nu na (nI rd) ts (nI ru) (nI rw) (nI ca) df db sd))), (aI k (a 1) 3 (nF dn)), (aI k (a 4) 27 (sg se tm gs)), (aI k (a 2) 72 ffrees), (aI k (a 3) 72 fprices), (aI k (a 25) 4 (nF bm)), (aI k (a 26) 48 fbarSeen), (aI k (a 27) 48 fbarFrom), (aI k (a 28) 4 fruleRounds), (aI k (a 29) 52 ff_181), (aI k (a 30) 52 fb_179)] ∧ va_S A s.heap H locs ∧ lv_has ls 14 [(11, .int (nI kk_181)), (10, .int (nI qi_178)), (9, .int r_175), (8, .int 0), (7, .int (nI q_140)), (6, .int bg_140), (5, .int x_139), (4, .int (nI (dn sn))), (0, .ref (a 0)), (1, .int (nI sn)), (2, .int (nI kr)), (3, .int p2)]) (fun n_181 x_181 H locs ls hI ih_181 => ?_) _ (0, ff_178) ⟨rfl, (by omega), hP, hD, hS, (lv_sub hl [0, 1, 2, 3, 4, 5, 6, 7, 8, 9, 10, 11] rfl)⟩
                obtain ⟨kk_181, ff_181⟩ := x_181
                obtain ⟨hm_181, hv_181, hP, hD, hS, hl⟩ := hI
                subst hm_181
                refine lv_iload hx hb dX8_meanOf_242 (lv_at hl 0 rfl) ?_
                refine lv_bipush (v := 50) hx hb dX8_meanOf_244 (by decide) ?_
                refine lv_icmp_ge (tgt := 269) hx hb dX8_meanOf_246 (by decide) (fun c_182 => ?_) (fun c_182 => ?_)
                · have c_182 := (nI_leI (a := 50) (b := kk_181) (by omega) (by omega)).mp c_182
                  refine lv_iinc (v := (nI qi_178 - 1)) (lv' := [(10, .int (nI qi_178 - 1)), (11, .int (nI kk_181)), (9, .int r_175), (8, .int 0), (7, .int (nI q_140)), (6, .int bg_140), (5, .int x_139), (4, .int (nI (dn sn))), (0, .ref (a 0)), (1, .int (nI sn)), (2, .int (nI kr)), (3, .int p2)]) hx hb dX8_meanOf_269 hl (k := 1) rfl (dn1 _) (by decide) rfl (fun ls hl => ?_)
                  refine lv_goto (tgt := 127) hx hb dX8_meanOf_272 (by decide) ?_
                  exact ih_178 _ (qi_178, ff_181, fb_179) _ _ _ (by omega) ⟨rfl, (by omega), hP, hD, hS, (lv_sub hl [0, 2, 3, 4, 5, 6, 7, 8, 9, 10, 11] rfl)⟩
                · have c_182 : ¬ (50 ≤ kk_181) := fun h => c_182 ((nI_leI (a := 50) (b := kk_181) (by omega) (by omega)).mpr h)
                  refine lv_aload_n hx hb dX8_meanOf_249 rfl (lv_at hl 8 rfl) ?_
                  refine va_get (D := D) (ci := 8) (v := .ref (a 29)) (C := RX8) (T := TX8) (N := 44) hx hb hts inX8 hown hK hP 0 rfl rfl 28 (by decide) (hts _ tw_1001) (fun _ h9 => h9) rfl dX8_meanOf_250 ?_
                  refine lv_iload hx hb dX8_meanOf_253 (lv_at hl 0 rfl) ?_
                  refine lv_aload_n hx hb dX8_meanOf_255 rfl (lv_at hl 8 rfl) ?_
                  refine va_get (D := D) (ci := 8) (v := .ref (a 30)) (C := RX8) (T := TX8) (N := 44) hx hb hts inX8 hown hK hP 0 rfl rfl 29 (by decide) (hts _ tw_1002) (fun _ h9 => h9) rfl dX8_meanOf_256 ?_
                  refine lv_iload hx hb dX8_meanOf_259 (lv_at hl 0 rfl) ?_
                  refine va_iald hx hb hK hP 10 1 rfl rfl (vp_in_nI (by omega) (by decide)) dX8_meanOf_261 ?_
                  refine lv_ti (y := (fb_179 kk_181)) (by rw [nI_clamp (by omega)]) ?_
                  refine va_iast hx hb hK hP hD hS 9 1 rfl rfl (vp_in_nI (by omega) (by decide)) dX8_meanOf_262 (fun H locs hP hD hS => ?_)
                  replace hP : va_P D classes [((a 0), .inr (8, (fX8 a (nI tx) fp (nI t0) wd (nI we) nu na (nI rd) ts (nI ru) (nI rw) (nI ca) df db sd))), (aI k (a 1) 3 (nF dn)), (aI k (a 4) 27 (sg se tm gs)), (aI k (a 2) 72 ffrees), (aI k (a 3) 72 fprices), (aI k (a 25) 4 (nF bm)), (aI k (a 26) 48 fbarSeen), (aI k (a 27) 48 fbarFrom), (aI k (a 28) 4 fruleRounds), (aI k (a 29) 52 (upd ff_181 (Int32.toNatClampNeg (nI kk_181)) (fb_179 kk_181))), (aI k (a 30) 52 fb_179)] H := hP
                  replace hD : va_D A [((a 0), .inr (8, (fX8 a (nI tx) fp (nI t0) wd (nI we) nu na (nI rd) ts (nI ru) (nI rw) (nI ca) df db sd))), (aI k (a 1) 3 (nF dn)), (aI k (a 4) 27 (sg se tm gs)), (aI k (a 2) 72 ffrees), (aI k (a 3) 72 fprices), (aI k (a 25) 4 (nF bm)), (aI k (a 26) 48 fbarSeen), (aI k (a 27) 48 fbarFrom), (aI k (a 28) 4 fruleRounds), (aI k (a 29) 52 (upd ff_181 (Int32.toNatClampNeg (nI kk_181)) (fb_179 kk_181))), (aI k (a 30) 52 fb_179)] := hD
                  generalize (upd ff_181 (Int32.toNatClampNeg (nI kk_181)) (fb_179 kk_181)) = f_183 at hP hD
                  refine lv_iinc (v := (nI (kk_181 + 1))) (lv' := [(11, .int (nI (kk_181 + 1))), (10, .int (nI qi_178)), (9, .int r_175), (8, .int 0), (7, .int (nI q_140)), (6, .int bg_140), (5, .int x_139), (4, .int (nI (dn sn))), (0, .ref (a 0)), (1, .int (nI sn)), (2, .int (nI kr)), (3, .int p2)]) hx hb dX8_meanOf_263 hl (k := 0) rfl (nI_add kk_181 1) (by decide) rfl (fun ls hl => ?_)
                  refine lv_goto (tgt := 242) hx hb dX8_meanOf_266 (by decide) ?_
                  exact ih_181 _ (kk_181 + 1, f_183) _ _ _ (by omega) ⟨rfl, (by omega), hP, hD, hS, (lv_sub hl [0, 1, 2, 3, 4, 5, 6, 7, 8, 9, 10, 11] rfl)⟩
              · have c_180 : ¬ (50 ≤ kk_179) := fun h => c_180 ((nI_leI (a := 50) (b := kk_179) (by omega) (by omega)).mpr h)
                refine lv_iload hx hb dX8_meanOf_142 (lv_at hl 0 rfl) ?_
                refine lv_iconst (v := 2) hx hb dX8_meanOf_144 (by decide) ?_
                refine lv_idiv hx hb dX8_meanOf_145 (by decide) ?_
                refine lv_ti (y := (nI (kk_179 / 2))) (pk_div (by omega) (by decide) (by decide)) ?_
                refine lv_istore (lv' := [(12, .int (nI (kk_179 / 2))), (11, .int (nI kk_179)), (10, .int (nI qi_178)), (9, .int r_175), (8, .int 0), (7, .int (nI q_140)), (6, .int bg_140), (5, .int x_139), (4, .int (nI (dn sn))), (0, .ref (a 0)), (1, .int (nI sn)), (2, .int (nI kr)), (3, .int p2)]) hx hb dX8_meanOf_146 hl (by decide) rfl (fun ls hl => ?_)
                refine lv_aload_n hx hb dX8_meanOf_148 rfl (lv_at hl 9 rfl) ?_
                refine lv_iload_n hx hb dX8_meanOf_149 rfl (lv_at hl 11 rfl) ?_
                refine lv_iload hx hb dX8_meanOf_150 (lv_at hl 2 rfl) ?_
                refine lv_iload hx hb dX8_meanOf_152 (lv_at hl 0 rfl) ?_
                refine ro_i (D := D) (va_runV (As := [.int (nI kr), .int (nI qi_178), .int (nI (kk_179 / 2))]) (rest := []) ⟨hx, hb, hml, hown, hts⟩ ((m_isFor l D k st lo a tx t0 we rd ru rw ca fp wd nu na ts df db sd bm fbarSeen fbarFrom kr (nI qi_178) (nI (kk_179 / 2)) hbm (by omega)) H.size) (cwV 3 hts (gV tw_1338 tw_1340 tw_61 tw_87 tw_1341) rfl rfl rfl (by decide +kernel) ⟨Nat.le_of_ble_eq_true rfl, Nat.le_of_ble_eq_true rfl⟩) (pV hS hAlo hlo hP hK (va_Dlo hD hAlo) hZ [0, 5, 6, 7] (by decide) rfl (ci := 8) (q := (RX8, TX8, 44)) (q0 := 0) rfl rfl) rfl rfl hl.1 rfl (lv_room (Nat.le_of_ble_eq_true rfl)) dX8_meanOf_154 ⟨Nat.le_of_ble_eq_true rfl, Nat.le_of_ble_eq_true rfl⟩) hS hA hP (fun r_184 H locs hw_184 hP hS => ?_)
                try dsimp only at hw_184
                refine lv_if_eq (tgt := 173) hx hb dX8_meanOf_157 (by decide) (fun c_185 => ?_) (fun c_185 => ?_)
                · refine lv_iload hx hb dX8_meanOf_173 (lv_at hl 7 rfl) ?_
                  refine lv_aload_n hx hb dX8_meanOf_175 rfl (lv_at hl 9 rfl) ?_
                  refine va_get (D := D) (ci := 8) (v := .ref (a 29)) (C := RX8) (T := TX8) (N := 44) hx hb hts inX8 hown hK hP 0 rfl rfl 28 (by decide) (hts _ tw_1001) (fun _ h9 => h9) rfl dX8_meanOf_176 ?_
                  refine lv_iconst (v := 2) hx hb dX8_meanOf_179 (by decide) ?_
                  refine lv_iload hx hb dX8_meanOf_180 (lv_at hl 0 rfl) ?_
                  refine lv_imul hx hb dX8_meanOf_182 ?_
                  refine lv_ti (y := (nI (2 * (kk_179 / 2)))) (pk_mul 2 (kk_179 / 2)) ?_
                  refine lv_iconst (v := 3) hx hb dX8_meanOf_183 (by decide) ?_
                  refine lv_iadd hx hb dX8_meanOf_184 ?_
                  refine lv_ti (y := (nI (2 * (kk_179 / 2) + 3))) (nI_add (2 * (kk_179 / 2)) 3) ?_
                  refine va_iald hx hb hK hP 9 1 rfl rfl (vp_in_nI (by omega) (by decide)) dX8_meanOf_185 ?_
                  refine lv_ti (y := (ff_178 (2 * (kk_179 / 2) + 3))) (by rw [nI_clamp (by omega)]) ?_
                  refine lv_iadd hx hb dX8_meanOf_186 ?_
                  refine lv_topi (fun x_186 ex_186 => ?_)
                  refine lv_istore (lv' := [(13, .int x_186), (12, .int (nI (kk_179 / 2))), (11, .int (nI kk_179)), (10, .int (nI qi_178)), (9, .int r_175), (8, .int 0), (7, .int (nI q_140)), (6, .int bg_140), (5, .int x_139), (4, .int (nI (dn sn))), (0, .ref (a 0)), (1, .int (nI sn)), (2, .int (nI kr)), (3, .int p2)]) hx hb dX8_meanOf_187 hl (by decide) rfl (fun ls hl => ?_)
                  refine lv_aload_n hx hb dX8_meanOf_189 rfl (lv_at hl 10 rfl) ?_
                  refine va_get (D := D) (ci := 8) (v := .ref (a 30)) (C := RX8) (T := TX8) (N := 44) hx hb hts inX8 hown hK hP 0 rfl rfl 29 (by decide) (hts _ tw_1002) (fun _ h9 => h9) rfl dX8_meanOf_190 ?_
                  refine lv_iload hx hb dX8_meanOf_193 (lv_at hl 2 rfl) ?_
                  refine lv_aload_n hx hb dX8_meanOf_195 rfl (lv_at hl 10 rfl) ?_
                  refine lv_iload_n hx hb dX8_meanOf_196 rfl (lv_at hl 11 rfl) ?_
                  refine lv_iload hx hb dX8_meanOf_197 (lv_at hl 3 rfl) ?_
                  refine lv_iload hx hb dX8_meanOf_199 (lv_at hl 2 rfl) ?_
                  refine lv_iconst (v := 2) hx hb dX8_meanOf_201 (by decide) ?_
                  refine lv_irem hx hb dX8_meanOf_202 (by decide) ?_
                  refine lv_ti (y := (nI (kk_179 % 2))) (pk_rem (by omega) (by decide) (by decide)) ?_
                  refine lv_iconst (v := 1) hx hb dX8_meanOf_203 (by decide) ?_
                  refine lv_icmp_ne (tgt := 211) hx hb dX8_meanOf_204 (by decide) (fun c_187 => ?_) (fun c_187 => ?_)
                  · have c_187 : ¬ ((kk_179 % 2) = 1) := fun h => c_187 ((nI_eq (a := (kk_179 % 2)) (b := 1) (by omega) (by omega)).mpr h)
                    refine lv_iconst (v := 0) hx hb dX8_meanOf_211 (by decide) ?_
                    refine ro_i (D := D) (va_runV (As := [.int (nI sn), .int (nI qi_178), .int 0]) (rest := [.int (nI kk_179), .ref (a 30)]) ⟨hx, hb, hml, hown, hts⟩ ((m_chanceOf l D k st lo a tx t0 we rd ru rw ca fp wd nu na ts df db sd ffrees se tm gs sn qi_178 0 (by omega) (by omega)) H.size) (cwV 3 hts (gV tw_1210 tw_1212 tw_41 tw_87 tw_1213) rfl rfl rfl (by decide +kernel) ⟨Nat.le_of_ble_eq_true rfl, Nat.le_of_ble_eq_true rfl⟩) (pV hS hAlo hlo hP hK (va_Dlo hD hAlo) hZ [0, 3, 2] (by decide) rfl (ci := 8) (q := (RX8, TX8, 44)) (q0 := 0) rfl rfl) rfl rfl hl.1 rfl (lv_room (Nat.le_of_ble_eq_true rfl)) dX8_meanOf_212 ⟨Nat.le_of_ble_eq_true rfl, Nat.le_of_ble_eq_true rfl⟩) hS hA hP (fun r_188 H locs hw_188 hP hS => ?_)
                    try dsimp only at hw_188
                    refine lv_iload hx hb dX8_meanOf_215 (lv_at hl 0 rfl) ?_
                    refine lv_iload hx hb dX8_meanOf_217 (lv_at hl 8 rfl) ?_
                    refine lv_aload_n hx hb dX8_meanOf_219 rfl (lv_at hl 10 rfl) ?_
                    refine va_get (D := D) (ci := 8) (v := .ref (a 29)) (C := RX8) (T := TX8) (N := 44) hx hb hts inX8 hown hK hP 0 rfl rfl 28 (by decide) (hts _ tw_1001) (fun _ h9 => h9) rfl dX8_meanOf_220 ?_
                    refine lv_iconst (v := 2) hx hb dX8_meanOf_223 (by decide) ?_
                    refine lv_iload hx hb dX8_meanOf_224 (lv_at hl 1 rfl) ?_
                    refine lv_imul hx hb dX8_meanOf_226 ?_
                    refine lv_ti (y := (nI (2 * (kk_179 / 2)))) (pk_mul 2 (kk_179 / 2)) ?_
                    refine va_iald hx hb hK hP 9 1 rfl rfl (vp_in_nI (by omega) (by decide)) dX8_meanOf_227 ?_
                    refine lv_ti (y := (ff_178 (2 * (kk_179 / 2)))) (by rw [nI_clamp (by omega)]) ?_
                    refine lv_iadd hx hb dX8_meanOf_228 ?_
                    refine lv_topi (fun x_189 ex_189 => ?_)
                    refine ro_i (D := D) (va_runS (As := [.int r_188, .int x_186, .int x_189]) (rest := [.int (nI kk_179), .ref (a 30)]) ⟨hx, hb, hml, hown, hts⟩ ((m_mixed l D k st lo r_188 x_186 x_189) H.size) (va_cwS 3 hts (gS tw_1269 tw_1270 tw_87 tw_1271) rfl rfl rfl (by decide +kernel) ⟨Nat.le_of_ble_eq_true rfl, Nat.le_of_ble_eq_true rfl⟩) (pS hS hAlo hlo hP hK (va_Dlo hD hAlo) hZ [] (by decide) rfl) rfl rfl hl.1 rfl (lv_room (Nat.le_of_ble_eq_true rfl)) dX8_meanOf_229 ⟨Nat.le_of_ble_eq_true rfl, Nat.le_of_ble_eq_true rfl⟩) hS hA hP (fun r_190 H locs hw_190 hP hS => ?_)
                    try dsimp only at hw_190
                    refine va_iast hx hb hK hP hD hS 10 1 rfl rfl (vp_in_nI (by omega) (by decide)) dX8_meanOf_232 (fun H locs hP hD hS => ?_)
                    replace hP : va_P D classes [((a 0), .inr (8, (fX8 a (nI tx) fp (nI t0) wd (nI we) nu na (nI rd) ts (nI ru) (nI rw) (nI ca) df db sd))), (aI k (a 1) 3 (nF dn)), (aI k (a 4) 27 (sg se tm gs)), (aI k (a 2) 72 ffrees), (aI k (a 3) 72 fprices), (aI k (a 25) 4 (nF bm)), (aI k (a 26) 48 fbarSeen), (aI k (a 27) 48 fbarFrom), (aI k (a 28) 4 fruleRounds), (aI k (a 29) 52 ff_178), (aI k (a 30) 52 (upd fb_179 (Int32.toNatClampNeg (nI kk_179)) r_190))] H := hP
                    replace hD : va_D A [((a 0), .inr (8, (fX8 a (nI tx) fp (nI t0) wd (nI we) nu na (nI rd) ts (nI ru) (nI rw) (nI ca) df db sd))), (aI k (a 1) 3 (nF dn)), (aI k (a 4) 27 (sg se tm gs)), (aI k (a 2) 72 ffrees), (aI k (a 3) 72 fprices), (aI k (a 25) 4 (nF bm)), (aI k (a 26) 48 fbarSeen), (aI k (a 27) 48 fbarFrom), (aI k (a 28) 4 fruleRounds), (aI k (a 29) 52 ff_178), (aI k (a 30) 52 (upd fb_179 (Int32.toNatClampNeg (nI kk_179)) r_190))] := hD
                    generalize (upd fb_179 (Int32.toNatClampNeg (nI kk_179)) r_190) = f_191 at hP hD
                    refine lv_iinc (v := (nI (kk_179 + 1))) (lv' := [(11, .int (nI (kk_179 + 1))), (13, .int x_186), (12, .int (nI (kk_179 / 2))), (10, .int (nI qi_178)), (9, .int r_175), (8, .int 0), (7, .int (nI q_140)), (6, .int bg_140), (5, .int x_139), (4, .int (nI (dn sn))), (0, .ref (a 0)), (1, .int (nI sn)), (2, .int (nI kr)), (3, .int p2)]) hx hb dX8_meanOf_233 hl (k := 2) rfl (nI_add kk_179 1) (by decide) rfl (fun ls hl => ?_)
                    refine lv_goto (tgt := 135) hx hb dX8_meanOf_236 (by decide) ?_
                    exact ih_179 _ (kk_179 + 1, f_191) _ _ _ (by omega) ⟨rfl, (by omega), hP, hD, hS, (lv_sub hl [0, 3, 4, 5, 6, 7, 8, 9, 10, 11, 12, 13] rfl)⟩
                  · have c_187 := (nI_eq (a := (kk_179 % 2)) (b := 1) (by omega) (by omega)).mp c_187
                    refine lv_iconst (v := 1) hx hb dX8_meanOf_207 (by decide) ?_
                    refine lv_goto (tgt := 212) hx hb dX8_meanOf_208 (by decide) ?_
                    refine ro_i (D := D) (va_runV (As := [.int (nI sn), .int (nI qi_178), .int 1]) (rest := [.int (nI kk_179), .ref (a 30)]) ⟨hx, hb, hml, hown, hts⟩ ((m_chanceOf l D k st lo a tx t0 we rd ru rw ca fp wd nu na ts df db sd ffrees se tm gs sn qi_178 1 (by omega) (by omega)) H.size) (cwV 3 hts (gV tw_1210 tw_1212 tw_41 tw_87 tw_1213) rfl rfl rfl (by decide +kernel) ⟨Nat.le_of_ble_eq_true rfl, Nat.le_of_ble_eq_true rfl⟩) (pV hS hAlo hlo hP hK (va_Dlo hD hAlo) hZ [0, 3, 2] (by decide) rfl (ci := 8) (q := (RX8, TX8, 44)) (q0 := 0) rfl rfl) rfl rfl hl.1 rfl (lv_room (Nat.le_of_ble_eq_true rfl)) dX8_meanOf_212 ⟨Nat.le_of_ble_eq_true rfl, Nat.le_of_ble_eq_true rfl⟩) hS hA hP (fun r_192 H locs hw_192 hP hS => ?_)
                    try dsimp only at hw_192
                    refine lv_iload hx hb dX8_meanOf_215 (lv_at hl 0 rfl) ?_
                    refine lv_iload hx hb dX8_meanOf_217 (lv_at hl 8 rfl) ?_
                    refine lv_aload_n hx hb dX8_meanOf_219 rfl (lv_at hl 10 rfl) ?_
                    refine va_get (D := D) (ci := 8) (v := .ref (a 29)) (C := RX8) (T := TX8) (N := 44) hx hb hts inX8 hown hK hP 0 rfl rfl 28 (by decide) (hts _ tw_1001) (fun _ h9 => h9) rfl dX8_meanOf_220 ?_
                    refine lv_iconst (v := 2) hx hb dX8_meanOf_223 (by decide) ?_
                    refine lv_iload hx hb dX8_meanOf_224 (lv_at hl 1 rfl) ?_
                    refine lv_imul hx hb dX8_meanOf_226 ?_
                    refine lv_ti (y := (nI (2 * (kk_179 / 2)))) (pk_mul 2 (kk_179 / 2)) ?_
                    refine va_iald hx hb hK hP 9 1 rfl rfl (vp_in_nI (by omega) (by decide)) dX8_meanOf_227 ?_
                    refine lv_ti (y := (ff_178 (2 * (kk_179 / 2)))) (by rw [nI_clamp (by omega)]) ?_
                    refine lv_iadd hx hb dX8_meanOf_228 ?_
                    refine lv_topi (fun x_193 ex_193 => ?_)
                    refine ro_i (D := D) (va_runS (As := [.int r_192, .int x_186, .int x_193]) (rest := [.int (nI kk_179), .ref (a 30)]) ⟨hx, hb, hml, hown, hts⟩ ((m_mixed l D k st lo r_192 x_186 x_193) H.size) (va_cwS 3 hts (gS tw_1269 tw_1270 tw_87 tw_1271) rfl rfl rfl (by decide +kernel) ⟨Nat.le_of_ble_eq_true rfl, Nat.le_of_ble_eq_true rfl⟩) (pS hS hAlo hlo hP hK (va_Dlo hD hAlo) hZ [] (by decide) rfl) rfl rfl hl.1 rfl (lv_room (Nat.le_of_ble_eq_true rfl)) dX8_meanOf_229 ⟨Nat.le_of_ble_eq_true rfl, Nat.le_of_ble_eq_true rfl⟩) hS hA hP (fun r_194 H locs hw_194 hP hS => ?_)
                    try dsimp only at hw_194
                    refine va_iast hx hb hK hP hD hS 10 1 rfl rfl (vp_in_nI (by omega) (by decide)) dX8_meanOf_232 (fun H locs hP hD hS => ?_)
                    replace hP : va_P D classes [((a 0), .inr (8, (fX8 a (nI tx) fp (nI t0) wd (nI we) nu na (nI rd) ts (nI ru) (nI rw) (nI ca) df db sd))), (aI k (a 1) 3 (nF dn)), (aI k (a 4) 27 (sg se tm gs)), (aI k (a 2) 72 ffrees), (aI k (a 3) 72 fprices), (aI k (a 25) 4 (nF bm)), (aI k (a 26) 48 fbarSeen), (aI k (a 27) 48 fbarFrom), (aI k (a 28) 4 fruleRounds), (aI k (a 29) 52 ff_178), (aI k (a 30) 52 (upd fb_179 (Int32.toNatClampNeg (nI kk_179)) r_194))] H := hP
                    replace hD : va_D A [((a 0), .inr (8, (fX8 a (nI tx) fp (nI t0) wd (nI we) nu na (nI rd) ts (nI ru) (nI rw) (nI ca) df db sd))), (aI k (a 1) 3 (nF dn)), (aI k (a 4) 27 (sg se tm gs)), (aI k (a 2) 72 ffrees), (aI k (a 3) 72 fprices), (aI k (a 25) 4 (nF bm)), (aI k (a 26) 48 fbarSeen), (aI k (a 27) 48 fbarFrom), (aI k (a 28) 4 fruleRounds), (aI k (a 29) 52 ff_178), (aI k (a 30) 52 (upd fb_179 (Int32.toNatClampNeg (nI kk_179)) r_194))] := hD
                    generalize (upd fb_179 (Int32.toNatClampNeg (nI kk_179)) r_194) = f_195 at hP hD
                    refine lv_iinc (v := (nI (kk_179 + 1))) (lv' := [(11, .int (nI (kk_179 + 1))), (13, .int x_186), (12, .int (nI (kk_179 / 2))), (10, .int (nI qi_178)), (9, .int r_175), (8, .int 0), (7, .int (nI q_140)), (6, .int bg_140), (5, .int x_139), (4, .int (nI (dn sn))), (0, .ref (a 0)), (1, .int (nI sn)), (2, .int (nI kr)), (3, .int p2)]) hx hb dX8_meanOf_233 hl (k := 2) rfl (nI_add kk_179 1) (by decide) rfl (fun ls hl => ?_)
                    refine lv_goto (tgt := 135) hx hb dX8_meanOf_236 (by decide) ?_
                    exact ih_179 _ (kk_179 + 1, f_195) _ _ _ (by omega) ⟨rfl, (by omega), hP, hD, hS, (lv_sub hl [0, 3, 4, 5, 6, 7, 8, 9, 10, 11, 12, 13] rfl)⟩
                · refine lv_aload_n hx hb dX8_meanOf_160 rfl (lv_at hl 9 rfl) ?_
                  refine lv_iload_n hx hb dX8_meanOf_161 rfl (lv_at hl 10 rfl) ?_
                  refine lv_iload hx hb dX8_meanOf_162 (lv_at hl 5 rfl) ?_
                  refine lv_iload hx hb dX8_meanOf_164 (lv_at hl 2 rfl) ?_
                  refine lv_iload_n hx hb dX8_meanOf_166 rfl (lv_at hl 12 rfl) ?_
                  refine ro_i (D := D) (va_runV (As := [.int (nI sn), .int (nI q_140), .int (nI qi_178), .int p2]) (rest := []) ⟨hx, hb, hml, hown, hts⟩ ((m_byTaking l D k st lo a tx t0 we rd ru rw ca fp wd nu na ts df db sd dn se tm gs fprices sn qi_178 (nI q_140) p2 (by omega) (by omega)) H.size) (cwV 4 hts (gV tw_1342 tw_1344 tw_62 tw_87 tw_1345) rfl rfl rfl (by decide +kernel) ⟨Nat.le_of_ble_eq_true rfl, Nat.le_of_ble_eq_true rfl⟩) (pV hS hAlo hlo hP hK (va_Dlo hD hAlo) hZ [0, 1, 2, 4] (by decide) rfl (ci := 8) (q := (RX8, TX8, 44)) (q0 := 0) rfl rfl) rfl rfl hl.1 rfl (lv_room (Nat.le_of_ble_eq_true rfl)) dX8_meanOf_167 ⟨Nat.le_of_ble_eq_true rfl, Nat.le_of_ble_eq_true rfl⟩) hS hA hP (fun r_196 H locs hw_196 hP hS => ?_)
                  try dsimp only at hw_196
                  refine lv_goto (tgt := 187) hx hb dX8_meanOf_170 (by decide) ?_
                  refine lv_istore (lv' := [(13, .int r_196), (12, .int (nI (kk_179 / 2))), (11, .int (nI kk_179)), (10, .int (nI qi_178)), (9, .int r_175), (8, .int 0), (7, .int (nI q_140)), (6, .int bg_140), (5, .int x_139), (4, .int (nI (dn sn))), (0, .ref (a 0)), (1, .int (nI sn)), (2, .int (nI kr)), (3, .int p2)]) hx hb dX8_meanOf_187 hl (by decide) rfl (fun ls hl => ?_)
                  refine lv_aload_n hx hb dX8_meanOf_189 rfl (lv_at hl 10 rfl) ?_
                  refine va_get (D := D) (ci := 8) (v := .ref (a 30)) (C := RX8) (T := TX8) (N := 44) hx hb hts inX8 hown hK hP 0 rfl rfl 29 (by decide) (hts _ tw_1002) (fun _ h9 => h9) rfl dX8_meanOf_190 ?_
                  refine lv_iload hx hb dX8_meanOf_193 (lv_at hl 2 rfl) ?_
                  refine lv_aload_n hx hb dX8_meanOf_195 rfl (lv_at hl 10 rfl) ?_
                  refine lv_iload_n hx hb dX8_meanOf_196 rfl (lv_at hl 11 rfl) ?_
                  refine lv_iload hx hb dX8_meanOf_197 (lv_at hl 3 rfl) ?_
                  refine lv_iload hx hb dX8_meanOf_199 (lv_at hl 2 rfl) ?_
                  refine lv_iconst (v := 2) hx hb dX8_meanOf_201 (by decide) ?_
                  refine lv_irem hx hb dX8_meanOf_202 (by decide) ?_
                  refine lv_ti (y := (nI (kk_179 % 2))) (pk_rem (by omega) (by decide) (by decide)) ?_
                  refine lv_iconst (v := 1) hx hb dX8_meanOf_203 (by decide) ?_
                  refine lv_icmp_ne (tgt := 211) hx hb dX8_meanOf_204 (by decide) (fun c_197 => ?_) (fun c_197 => ?_)
                  · have c_197 : ¬ ((kk_179 % 2) = 1) := fun h => c_197 ((nI_eq (a := (kk_179 % 2)) (b := 1) (by omega) (by omega)).mpr h)
                    refine lv_iconst (v := 0) hx hb dX8_meanOf_211 (by decide) ?_
                    refine ro_i (D := D) (va_runV (As := [.int (nI sn), .int (nI qi_178), .int 0]) (rest := [.int (nI kk_179), .ref (a 30)]) ⟨hx, hb, hml, hown, hts⟩ ((m_chanceOf l D k st lo a tx t0 we rd ru rw ca fp wd nu na ts df db sd ffrees se tm gs sn qi_178 0 (by omega) (by omega)) H.size) (cwV 3 hts (gV tw_1210 tw_1212 tw_41 tw_87 tw_1213) rfl rfl rfl (by decide +kernel) ⟨Nat.le_of_ble_eq_true rfl, Nat.le_of_ble_eq_true rfl⟩) (pV hS hAlo hlo hP hK (va_Dlo hD hAlo) hZ [0, 3, 2] (by decide) rfl (ci := 8) (q := (RX8, TX8, 44)) (q0 := 0) rfl rfl) rfl rfl hl.1 rfl (lv_room (Nat.le_of_ble_eq_true rfl)) dX8_meanOf_212 ⟨Nat.le_of_ble_eq_true rfl, Nat.le_of_ble_eq_true rfl⟩) hS hA hP (fun r_198 H locs hw_198 hP hS => ?_)
                    try dsimp only at hw_198
                    refine lv_iload hx hb dX8_meanOf_215 (lv_at hl 0 rfl) ?_
                    refine lv_iload hx hb dX8_meanOf_217 (lv_at hl 8 rfl) ?_
                    refine lv_aload_n hx hb dX8_meanOf_219 rfl (lv_at hl 10 rfl) ?_
                    refine va_get (D := D) (ci := 8) (v := .ref (a 29)) (C := RX8) (T := TX8) (N := 44) hx hb hts inX8 hown hK hP 0 rfl rfl 28 (by decide) (hts _ tw_1001) (fun _ h9 => h9) rfl dX8_meanOf_220 ?_
                    refine lv_iconst (v := 2) hx hb dX8_meanOf_223 (by decide) ?_
                    refine lv_iload hx hb dX8_meanOf_224 (lv_at hl 1 rfl) ?_
                    refine lv_imul hx hb dX8_meanOf_226 ?_
                    refine lv_ti (y := (nI (2 * (kk_179 / 2)))) (pk_mul 2 (kk_179 / 2)) ?_
                    refine va_iald hx hb hK hP 9 1 rfl rfl (vp_in_nI (by omega) (by decide)) dX8_meanOf_227 ?_
                    refine lv_ti (y := (ff_178 (2 * (kk_179 / 2)))) (by rw [nI_clamp (by omega)]) ?_
                    refine lv_iadd hx hb dX8_meanOf_228 ?_
                    refine lv_topi (fun x_199 ex_199 => ?_)
                    refine ro_i (D := D) (va_runS (As := [.int r_198, .int r_196, .int x_199]) (rest := [.int (nI kk_179), .ref (a 30)]) ⟨hx, hb, hml, hown, hts⟩ ((m_mixed l D k st lo r_198 r_196 x_199) H.size) (va_cwS 3 hts (gS tw_1269 tw_1270 tw_87 tw_1271) rfl rfl rfl (by decide +kernel) ⟨Nat.le_of_ble_eq_true rfl, Nat.le_of_ble_eq_true rfl⟩) (pS hS hAlo hlo hP hK (va_Dlo hD hAlo) hZ [] (by decide) rfl) rfl rfl hl.1 rfl (lv_room (Nat.le_of_ble_eq_true rfl)) dX8_meanOf_229 ⟨Nat.le_of_ble_eq_true rfl, Nat.le_of_ble_eq_true rfl⟩) hS hA hP (fun r_200 H locs hw_200 hP hS => ?_)
                    try dsimp only at hw_200
                    refine va_iast hx hb hK hP hD hS 10 1 rfl rfl (vp_in_nI (by omega) (by decide)) dX8_meanOf_232 (fun H locs hP hD hS => ?_)
                    replace hP : va_P D classes [((a 0), .inr (8, (fX8 a (nI tx) fp (nI t0) wd (nI we) nu na (nI rd) ts (nI ru) (nI rw) (nI ca) df db sd))), (aI k (a 1) 3 (nF dn)), (aI k (a 4) 27 (sg se tm gs)), (aI k (a 2) 72 ffrees), (aI k (a 3) 72 fprices), (aI k (a 25) 4 (nF bm)), (aI k (a 26) 48 fbarSeen), (aI k (a 27) 48 fbarFrom), (aI k (a 28) 4 fruleRounds), (aI k (a 29) 52 ff_178), (aI k (a 30) 52 (upd fb_179 (Int32.toNatClampNeg (nI kk_179)) r_200))] H := hP
                    replace hD : va_D A [((a 0), .inr (8, (fX8 a (nI tx) fp (nI t0) wd (nI we) nu na (nI rd) ts (nI ru) (nI rw) (nI ca) df db sd))), (aI k (a 1) 3 (nF dn)), (aI k (a 4) 27 (sg se tm gs)), (aI k (a 2) 72 ffrees), (aI k (a 3) 72 fprices), (aI k (a 25) 4 (nF bm)), (aI k (a 26) 48 fbarSeen), (aI k (a 27) 48 fbarFrom), (aI k (a 28) 4 fruleRounds), (aI k (a 29) 52 ff_178), (aI k (a 30) 52 (upd fb_179 (Int32.toNatClampNeg (nI kk_179)) r_200))] := hD
                    generalize (upd fb_179 (Int32.toNatClampNeg (nI kk_179)) r_200) = f_201 at hP hD
                    refine lv_iinc (v := (nI (kk_179 + 1))) (lv' := [(11, .int (nI (kk_179 + 1))), (13, .int r_196), (12, .int (nI (kk_179 / 2))), (10, .int (nI qi_178)), (9, .int r_175), (8, .int 0), (7, .int (nI q_140)), (6, .int bg_140), (5, .int x_139), (4, .int (nI (dn sn))), (0, .ref (a 0)), (1, .int (nI sn)), (2, .int (nI kr)), (3, .int p2)]) hx hb dX8_meanOf_233 hl (k := 2) rfl (nI_add kk_179 1) (by decide) rfl (fun ls hl => ?_)
                    refine lv_goto (tgt := 135) hx hb dX8_meanOf_236 (by decide) ?_
                    exact ih_179 _ (kk_179 + 1, f_201) _ _ _ (by omega) ⟨rfl, (by omega), hP, hD, hS, (lv_sub hl [0, 3, 4, 5, 6, 7, 8, 9, 10, 11, 12, 13] rfl)⟩
                  · have c_197 := (nI_eq (a := (kk_179 % 2)) (b := 1) (by omega) (by omega)).mp c_197
                    refine lv_iconst (v := 1) hx hb dX8_meanOf_207 (by decide) ?_
                    refine lv_goto (tgt := 212) hx hb dX8_meanOf_208 (by decide) ?_
                    refine ro_i (D := D) (va_runV (As := [.int (nI sn), .int (nI qi_178), .int 1]) (rest := [.int (nI kk_179), .ref (a 30)]) ⟨hx, hb, hml, hown, hts⟩ ((m_chanceOf l D k st lo a tx t0 we rd ru rw ca fp wd nu na ts df db sd ffrees se tm gs sn qi_178 1 (by omega) (by omega)) H.size) (cwV 3 hts (gV tw_1210 tw_1212 tw_41 tw_87 tw_1213) rfl rfl rfl (by decide +kernel) ⟨Nat.le_of_ble_eq_true rfl, Nat.le_of_ble_eq_true rfl⟩) (pV hS hAlo hlo hP hK (va_Dlo hD hAlo) hZ [0, 3, 2] (by decide) rfl (ci := 8) (q := (RX8, TX8, 44)) (q0 := 0) rfl rfl) rfl rfl hl.1 rfl (lv_room (Nat.le_of_ble_eq_true rfl)) dX8_meanOf_212 ⟨Nat.le_of_ble_eq_true rfl, Nat.le_of_ble_eq_true rfl⟩) hS hA hP (fun r_202 H locs hw_202 hP hS => ?_)
                    try dsimp only at hw_202
                    refine lv_iload hx hb dX8_meanOf_215 (lv_at hl 0 rfl) ?_
                    refine lv_iload hx hb dX8_meanOf_217 (lv_at hl 8 rfl) ?_
                    refine lv_aload_n hx hb dX8_meanOf_219 rfl (lv_at hl 10 rfl) ?_
                    refine va_get (D := D) (ci := 8) (v := .ref (a 29)) (C := RX8) (T := TX8) (N := 44) hx hb hts inX8 hown hK hP 0 rfl rfl 28 (by decide) (hts _ tw_1001) (fun _ h9 => h9) rfl dX8_meanOf_220 ?_
                    refine lv_iconst (v := 2) hx hb dX8_meanOf_223 (by decide) ?_
                    refine lv_iload hx hb dX8_meanOf_224 (lv_at hl 1 rfl) ?_
                    refine lv_imul hx hb dX8_meanOf_226 ?_
                    refine lv_ti (y := (nI (2 * (kk_179 / 2)))) (pk_mul 2 (kk_179 / 2)) ?_
                    refine va_iald hx hb hK hP 9 1 rfl rfl (vp_in_nI (by omega) (by decide)) dX8_meanOf_227 ?_
                    refine lv_ti (y := (ff_178 (2 * (kk_179 / 2)))) (by rw [nI_clamp (by omega)]) ?_
                    refine lv_iadd hx hb dX8_meanOf_228 ?_
                    refine lv_topi (fun x_203 ex_203 => ?_)
                    refine ro_i (D := D) (va_runS (As := [.int r_202, .int r_196, .int x_203]) (rest := [.int (nI kk_179), .ref (a 30)]) ⟨hx, hb, hml, hown, hts⟩ ((m_mixed l D k st lo r_202 r_196 x_203) H.size) (va_cwS 3 hts (gS tw_1269 tw_1270 tw_87 tw_1271) rfl rfl rfl (by decide +kernel) ⟨Nat.le_of_ble_eq_true rfl, Nat.le_of_ble_eq_true rfl⟩) (pS hS hAlo hlo hP hK (va_Dlo hD hAlo) hZ [] (by decide) rfl) rfl rfl hl.1 rfl (lv_room (Nat.le_of_ble_eq_true rfl)) dX8_meanOf_229 ⟨Nat.le_of_ble_eq_true rfl, Nat.le_of_ble_eq_true rfl⟩) hS hA hP (fun r_204 H locs hw_204 hP hS => ?_)
                    try dsimp only at hw_204
                    refine va_iast hx hb hK hP hD hS 10 1 rfl rfl (vp_in_nI (by omega) (by decide)) dX8_meanOf_232 (fun H locs hP hD hS => ?_)
                    replace hP : va_P D classes [((a 0), .inr (8, (fX8 a (nI tx) fp (nI t0) wd (nI we) nu na (nI rd) ts (nI ru) (nI rw) (nI ca) df db sd))), (aI k (a 1) 3 (nF dn)), (aI k (a 4) 27 (sg se tm gs)), (aI k (a 2) 72 ffrees), (aI k (a 3) 72 fprices), (aI k (a 25) 4 (nF bm)), (aI k (a 26) 48 fbarSeen), (aI k (a 27) 48 fbarFrom), (aI k (a 28) 4 fruleRounds), (aI k (a 29) 52 ff_178), (aI k (a 30) 52 (upd fb_179 (Int32.toNatClampNeg (nI kk_179)) r_204))] H := hP
                    replace hD : va_D A [((a 0), .inr (8, (fX8 a (nI tx) fp (nI t0) wd (nI we) nu na (nI rd) ts (nI ru) (nI rw) (nI ca) df db sd))), (aI k (a 1) 3 (nF dn)), (aI k (a 4) 27 (sg se tm gs)), (aI k (a 2) 72 ffrees), (aI k (a 3) 72 fprices), (aI k (a 25) 4 (nF bm)), (aI k (a 26) 48 fbarSeen), (aI k (a 27) 48 fbarFrom), (aI k (a 28) 4 fruleRounds), (aI k (a 29) 52 ff_178), (aI k (a 30) 52 (upd fb_179 (Int32.toNatClampNeg (nI kk_179)) r_204))] := hD
                    generalize (upd fb_179 (Int32.toNatClampNeg (nI kk_179)) r_204) = f_205 at hP hD
                    refine lv_iinc (v := (nI (kk_179 + 1))) (lv' := [(11, .int (nI (kk_179 + 1))), (13, .int r_196), (12, .int (nI (kk_179 / 2))), (10, .int (nI qi_178)), (9, .int r_175), (8, .int 0), (7, .int (nI q_140)), (6, .int bg_140), (5, .int x_139), (4, .int (nI (dn sn))), (0, .ref (a 0)), (1, .int (nI sn)), (2, .int (nI kr)), (3, .int p2)]) hx hb dX8_meanOf_233 hl (k := 2) rfl (nI_add kk_179 1) (by decide) rfl (fun ls hl => ?_)
                    refine lv_goto (tgt := 135) hx hb dX8_meanOf_236 (by decide) ?_
                    exact ih_179 _ (kk_179 + 1, f_205) _ _ _ (by omega) ⟨rfl, (by omega), hP, hD, hS, (lv_sub hl [0, 3, 4, 5, 6, 7, 8, 9, 10, 11, 12, 13] rfl)⟩
          · have c_177 : ¬ (52 ≤ kk_176) := fun h => c_177 ((nI_leI (a := 52) (b := kk_176) (by omega) (by omega)).mpr h)
            refine lv_aload_n hx hb dX8_meanOf_106 rfl (lv_at hl 7 rfl) ?_
            refine va_get (D := D) (ci := 8) (v := .ref (a 29)) (C := RX8) (T := TX8) (N := 44) hx hb hts inX8 hown hK hP 0 rfl rfl 28 (by decide) (hts _ tw_1001) (fun _ h9 => h9) rfl dX8_meanOf_107 ?_
            refine lv_iload hx hb dX8_meanOf_110 (lv_at hl 0 rfl) ?_
            refine lv_iload hx hb dX8_meanOf_112 (lv_at hl 1 rfl) ?_
            refine va_iast hx hb hK hP hD hS 9 1 rfl rfl (vp_in_nI (by omega) (by decide)) dX8_meanOf_114 (fun H locs hP hD hS => ?_)
            replace hP : va_P D classes [((a 0), .inr (8, (fX8 a (nI tx) fp (nI t0) wd (nI we) nu na (nI rd) ts (nI ru) (nI rw) (nI ca) df db sd))), (aI k (a 1) 3 (nF dn)), (aI k (a 4) 27 (sg se tm gs)), (aI k (a 2) 72 ffrees), (aI k (a 3) 72 fprices), (aI k (a 25) 4 (nF bm)), (aI k (a 26) 48 fbarSeen), (aI k (a 27) 48 fbarFrom), (aI k (a 28) 4 fruleRounds), (aI k (a 29) 52 (upd ff_176 (Int32.toNatClampNeg (nI kk_176)) r_175)), (aI k (a 30) 52 fb_140)] H := hP
            replace hD : va_D A [((a 0), .inr (8, (fX8 a (nI tx) fp (nI t0) wd (nI we) nu na (nI rd) ts (nI ru) (nI rw) (nI ca) df db sd))), (aI k (a 1) 3 (nF dn)), (aI k (a 4) 27 (sg se tm gs)), (aI k (a 2) 72 ffrees), (aI k (a 3) 72 fprices), (aI k (a 25) 4 (nF bm)), (aI k (a 26) 48 fbarSeen), (aI k (a 27) 48 fbarFrom), (aI k (a 28) 4 fruleRounds), (aI k (a 29) 52 (upd ff_176 (Int32.toNatClampNeg (nI kk_176)) r_175)), (aI k (a 30) 52 fb_140)] := hD
            generalize (upd ff_176 (Int32.toNatClampNeg (nI kk_176)) r_175) = f_206 at hP hD
            refine lv_iinc (v := (nI (kk_176 + 1))) (lv' := [(10, .int (nI (kk_176 + 1))), (9, .int r_175), (8, .int 0), (7, .int (nI q_140)), (6, .int bg_140), (5, .int x_139), (4, .int (nI (dn sn))), (0, .ref (a 0)), (1, .int (nI sn)), (2, .int (nI kr)), (3, .int p2)]) hx hb dX8_meanOf_115 hl (k := 0) rfl (nI_add kk_176 1) (by decide) rfl (fun ls hl => ?_)
            refine lv_goto (tgt := 99) hx hb dX8_meanOf_118 (by decide) ?_
            exact ih_176 _ (kk_176 + 1, f_206) _ _ _ (by omega) ⟨rfl, (by omega), hP, hD, hS, (lv_sub hl [0, 1, 2, 3, 4, 5, 6, 7, 8, 9, 10] rfl)⟩
      · refine lv_aload_n hx hb dX8_meanOf_43 rfl (lv_at hl 4 rfl) ?_
        refine lv_iload_n hx hb dX8_meanOf_44 rfl (lv_at hl 5 rfl) ?_
        refine lv_iconst (v := 2) hx hb dX8_meanOf_45 (by decide) ?_
        refine ro_i (D := D) (va_runV (As := [.int (nI sn), .int 2]) (rest := []) ⟨hx, hb, hml, hown, hts⟩ ((m_of l D k st lo a tx t0 we rd ru rw ca fp wd nu na ts df db sd se tm gs sn 2 (by omega) (by omega)) H.size) (cwV 2 hts (gV tw_1194 tw_1196 tw_39 tw_87 tw_1197) rfl rfl rfl (by decide +kernel) ⟨Nat.le_of_ble_eq_true rfl, Nat.le_of_ble_eq_true rfl⟩) (pV hS hAlo hlo hP hK (va_Dlo hD hAlo) hZ [0, 2] (by decide) rfl (ci := 8) (q := (RX8, TX8, 44)) (q0 := 0) rfl rfl) rfl rfl hl.1 rfl (lv_room (Nat.le_of_ble_eq_true rfl)) dX8_meanOf_46 ⟨Nat.le_of_ble_eq_true rfl, Nat.le_of_ble_eq_true rfl⟩) hS hA hP (fun r_207 H locs hw_207 hP hS => ?_)
        try dsimp only at hw_207
        refine lv_aload_n hx hb dX8_meanOf_49 rfl (lv_at hl 4 rfl) ?_
        refine lv_iload_n hx hb dX8_meanOf_50 rfl (lv_at hl 5 rfl) ?_
        refine lv_bipush (v := 6) hx hb dX8_meanOf_51 (by decide) ?_
        refine ro_i (D := D) (va_runV (As := [.int (nI sn), .int 6]) (rest := [.int r_207]) ⟨hx, hb, hml, hown, hts⟩ ((m_of l D k st lo a tx t0 we rd ru rw ca fp wd nu na ts df db sd se tm gs sn 6 (by omega) (by omega)) H.size) (cwV 2 hts (gV tw_1194 tw_1196 tw_39 tw_87 tw_1197) rfl rfl rfl (by decide +kernel) ⟨Nat.le_of_ble_eq_true rfl, Nat.le_of_ble_eq_true rfl⟩) (pV hS hAlo hlo hP hK (va_Dlo hD hAlo) hZ [0, 2] (by decide) rfl (ci := 8) (q := (RX8, TX8, 44)) (q0 := 0) rfl rfl) rfl rfl hl.1 rfl (lv_room (Nat.le_of_ble_eq_true rfl)) dX8_meanOf_53 ⟨Nat.le_of_ble_eq_true rfl, Nat.le_of_ble_eq_true rfl⟩) hS hA hP (fun r_208 H locs hw_208 hP hS => ?_)
        try dsimp only at hw_208
        refine lv_imul hx hb dX8_meanOf_56 ?_
        refine lv_topi (fun x_209 ex_209 => ?_)
        refine lv_sipush (v := 1000) hx hb dX8_meanOf_57 (by decide) ?_
        refine lv_imul hx hb dX8_meanOf_60 ?_
        refine lv_topi (fun x_210 ex_210 => ?_)
        refine lv_goto (tgt := 65) hx hb dX8_meanOf_61 (by decide) ?_
        refine lv_istore (lv' := [(8, .int x_210), (7, .int (nI q_140)), (6, .int bg_140), (5, .int x_139), (4, .int (nI (dn sn))), (0, .ref (a 0)), (1, .int (nI sn)), (2, .int (nI kr)), (3, .int p2)]) hx hb dX8_meanOf_65 hl (by decide) rfl (fun ls hl => ?_)
        refine lv_aload_n hx hb dX8_meanOf_67 rfl (lv_at hl 5 rfl) ?_
        refine lv_iload_n hx hb dX8_meanOf_68 rfl (lv_at hl 6 rfl) ?_
        refine lv_iload_n hx hb dX8_meanOf_69 rfl (lv_at hl 7 rfl) ?_
        refine lv_iload hx hb dX8_meanOf_70 (lv_at hl 1 rfl) ?_
        refine ro_i (D := D) (va_runV (As := [.int (nI sn), .int (nI kr), .int (nI q_140)]) (rest := []) ⟨hx, hb, hml, hown, hts⟩ ((m_isRoundBy l D k st lo a tx t0 we rd ru rw ca fp wd nu na ts df db sd se tm gs fruleRounds sn kr q_140 htm (by omega) (by omega) (by omega)) H.size) (cwV 3 hts (gV tw_1329 tw_1331 tw_59 tw_87 tw_1332) rfl rfl rfl (by decide +kernel) ⟨Nat.le_of_ble_eq_true rfl, Nat.le_of_ble_eq_true rfl⟩) (pV hS hAlo hlo hP hK (va_Dlo hD hAlo) hZ [0, 2, 8] (by decide) rfl (ci := 8) (q := (RX8, TX8, 44)) (q0 := 0) rfl rfl) rfl rfl hl.1 rfl (lv_room (Nat.le_of_ble_eq_true rfl)) dX8_meanOf_72 ⟨Nat.le_of_ble_eq_true rfl, Nat.le_of_ble_eq_true rfl⟩) hS hA hP (fun r_211 H locs hw_211 hP hS => ?_)
        try dsimp only at hw_211
        rcases hw_211 with ⟨rfl, hw_211⟩ | rfl
        · refine lv_if_eq (tgt := 86) hx hb dX8_meanOf_75 (by decide) (fun h => absurd h (by decide)) (fun _ => ?_)
          refine lv_iload hx hb dX8_meanOf_78 (lv_at hl 0 rfl) ?_
          refine lv_iload hx hb dX8_meanOf_80 (lv_at hl 2 rfl) ?_
          refine lv_iadd hx hb dX8_meanOf_82 ?_
          refine lv_topi (fun x_212 ex_212 => ?_)
          refine lv_goto (tgt := 94) hx hb dX8_meanOf_83 (by decide) ?_
          refine lv_istore (lv' := [(9, .int x_212), (8, .int x_210), (7, .int (nI q_140)), (6, .int bg_140), (5, .int x_139), (4, .int (nI (dn sn))), (0, .ref (a 0)), (1, .int (nI sn)), (2, .int (nI kr)), (3, .int p2)]) hx hb dX8_meanOf_94 hl (by decide) rfl (fun ls hl => ?_)
          refine lv_iconst (v := 0) hx hb dX8_meanOf_96 (by decide) ?_
          refine lv_istore (lv' := [(10, .int 0), (9, .int x_212), (8, .int x_210), (7, .int (nI q_140)), (6, .int bg_140), (5, .int x_139), (4, .int (nI (dn sn))), (0, .ref (a 0)), (1, .int (nI sn)), (2, .int (nI kr)), (3, .int p2)]) hx hb dX8_meanOf_97 hl (by decide) rfl (fun ls hl => ?_)
          refine W_loop (σ := Nat × (Nat → Int32)) (fun (n_ : Nat) (x_ : Nat × (Nat → Int32)) (H : Heap) (locs : List Loc) (ls : Array Slot) => match x_ with | (kk_213, ff_213) => n_ = 52 - kk_213 ∧ (kk_213 ≤ 52) ∧ va_P D classes [((a 0), .inr (8, (fX8 a (nI tx) fp (nI t0) wd (nI we) nu na (nI rd) ts (nI ru) (nI rw) (nI ca) df db sd))), (aI k (a 1) 3 (nF dn)), (aI k (a 4) 27 (sg se tm gs)), (aI k (a 2) 72 ffrees), (aI k (a 3) 72 fprices), (aI k (a 25) 4 (nF bm)), (aI k (a 26) 48 fbarSeen), (aI k (a 27) 48 fbarFrom), (aI k (a 28) 4 fruleRounds), (aI k (a 29) 52 ff_213), (aI k (a 30) 52 fb_140)] H ∧ va_D A [((a 0), .inr (8, (fX8 a (nI tx) fp (nI t0) wd (nI we) nu na (nI rd) ts (nI ru) (nI rw) (nI ca) df db sd))), (aI k (a 1) 3 (nF dn)), (aI k (a 4) 27 (sg se tm gs)), (aI k (a 2) 72 ffrees), (aI k (a 3) 72 fprices), (aI k (a 25) 4 (nF bm)), (aI k (a 26) 48 fbarSeen), (aI k (a 27) 48 fbarFrom), (aI k (a 28) 4 fruleRounds), (aI k (a 29) 52 ff_213), (aI k (a 30) 52 fb_140)] ∧ va_S A s.heap H locs ∧ lv_has ls 14 [(10, .int (nI kk_213)), (9, .int x_212), (8, .int x_210), (7, .int (nI q_140)), (6, .int bg_140), (5, .int x_139), (4, .int (nI (dn sn))), (0, .ref (a 0)), (1, .int (nI sn)), (2, .int (nI kr)), (3, .int p2)]) (fun n_213 x_213 H locs ls hI ih_213 => ?_) _ (0, ff_140) ⟨rfl, (by omega), hP, hD, hS, (lv_sub hl [0, 1, 2, 3, 4, 5, 6, 7, 8, 9, 10] rfl)⟩
          obtain ⟨kk_213, ff_213⟩ := x_213
          obtain ⟨hm_213, hv_213, hP, hD, hS, hl⟩ := hI
          subst hm_213
          refine lv_iload hx hb dX8_meanOf_99 (lv_at hl 0 rfl) ?_
          refine lv_bipush (v := 52) hx hb dX8_meanOf_101 (by decide) ?_
          refine lv_icmp_ge (tgt := 121) hx hb dX8_meanOf_103 (by decide) (fun c_214 => ?_) (fun c_214 => ?_)
          · have c_214 := (nI_leI (a := 52) (b := kk_213) (by omega) (by omega)).mp c_214
            refine lv_iload hx hb dX8_meanOf_121 (lv_at hl 6 rfl) ?_
            refine lv_iconst (v := 1) hx hb dX8_meanOf_123 (by decide) ?_
            refine lv_isub hx hb dX8_meanOf_124 ?_
            refine lv_ti (y := (nI (dn sn) - 1)) rfl ?_
            refine lv_istore (lv' := [(10, .int (nI (dn sn) - 1)), (9, .int x_212), (8, .int x_210), (7, .int (nI q_140)), (6, .int bg_140), (5, .int x_139), (4, .int (nI (dn sn))), (0, .ref (a 0)), (1, .int (nI sn)), (2, .int (nI kr)), (3, .int p2)]) hx hb dX8_meanOf_125 hl (by decide) rfl (fun ls hl => ?_)
            refine W_loop (σ := Nat × (Nat → Int32) × (Nat → Int32)) (fun (n_ : Nat) (x_ : Nat × (Nat → Int32) × (Nat → Int32)) (H : Heap) (locs : List Loc) (ls : Array Slot) => match x_ with | (qi_215, ff_215, fb_215) => n_ = 2 * qi_215 ∧ (qi_215 ≤ dn sn) ∧ va_P D classes [((a 0), .inr (8, (fX8 a (nI tx) fp (nI t0) wd (nI we) nu na (nI rd) ts (nI ru) (nI rw) (nI ca) df db sd))), (aI k (a 1) 3 (nF dn)), (aI k (a 4) 27 (sg se tm gs)), (aI k (a 2) 72 ffrees), (aI k (a 3) 72 fprices), (aI k (a 25) 4 (nF bm)), (aI k (a 26) 48 fbarSeen), (aI k (a 27) 48 fbarFrom), (aI k (a 28) 4 fruleRounds), (aI k (a 29) 52 ff_215), (aI k (a 30) 52 fb_215)] H ∧ va_D A [((a 0), .inr (8, (fX8 a (nI tx) fp (nI t0) wd (nI we) nu na (nI rd) ts (nI ru) (nI rw) (nI ca) df db sd))), (aI k (a 1) 3 (nF dn)), (aI k (a 4) 27 (sg se tm gs)), (aI k (a 2) 72 ffrees), (aI k (a 3) 72 fprices), (aI k (a 25) 4 (nF bm)), (aI k (a 26) 48 fbarSeen), (aI k (a 27) 48 fbarFrom), (aI k (a 28) 4 fruleRounds), (aI k (a 29) 52 ff_215), (aI k (a 30) 52 fb_215)] ∧ va_S A s.heap H locs ∧ lv_has ls 14 [(10, .int (nI qi_215 - 1)), (9, .int x_212), (8, .int x_210), (7, .int (nI q_140)), (6, .int bg_140), (5, .int x_139), (4, .int (nI (dn sn))), (0, .ref (a 0)), (1, .int (nI sn)), (2, .int (nI kr)), (3, .int p2)]) (fun n_215 x_215 H locs ls hI ih_215 => ?_) _ (dn sn, ff_213, fb_140) ⟨rfl, (by omega), hP, hD, hS, (lv_sub hl [0, 1, 2, 3, 4, 5, 6, 7, 8, 9, 10] rfl)⟩
            obtain ⟨qi_215, ff_215, fb_215⟩ := x_215
            obtain ⟨hm_215, hv_215, hP, hD, hS, hl⟩ := hI
            subst hm_215
            rcases qi_215 with _ | qi_215
            · rw [dn0] at hl
              refine lv_iload hx hb dX8_meanOf_127 (lv_at hl 0 rfl) ?_
              refine lv_if_lt (tgt := 275) hx hb dX8_meanOf_129 (by decide) (fun _ => ?_) (fun h => absurd (by decide) h)
              refine lv_aload_n hx hb dX8_meanOf_275 rfl (lv_at hl 7 rfl) ?_
              refine va_get (D := D) (ci := 8) (v := .ref (a 29)) (C := RX8) (T := TX8) (N := 44) hx hb hts inX8 hown hK hP 0 rfl rfl 28 (by decide) (hts _ tw_1001) (fun _ h9 => h9) rfl dX8_meanOf_276 ?_
              refine lv_iconst (v := 0) hx hb dX8_meanOf_279 (by decide) ?_
              refine va_iald hx hb hK hP 9 1 rfl rfl (by unfold vp_in; decide) dX8_meanOf_280 ?_
              refine lv_ti (y := (ff_215 0)) (by rfl) ?_
              refine lv_istore (lv' := [(6, .int (ff_215 0)), (10, .int (-1)), (9, .int x_212), (8, .int x_210), (7, .int (nI q_140)), (5, .int x_139), (4, .int (nI (dn sn))), (0, .ref (a 0)), (1, .int (nI sn)), (2, .int (nI kr)), (3, .int p2)]) hx hb dX8_meanOf_281 hl (by decide) rfl (fun ls hl => ?_)
              refine lv_iinc (v := (nI q_140 - 1)) (lv' := [(7, .int (nI q_140 - 1)), (6, .int (ff_215 0)), (10, .int (-1)), (9, .int x_212), (8, .int x_210), (5, .int x_139), (4, .int (nI (dn sn))), (0, .ref (a 0)), (1, .int (nI sn)), (2, .int (nI kr)), (3, .int p2)]) hx hb dX8_meanOf_283 hl (k := 4) rfl (dn1 _) (by decide) rfl (fun ls hl => ?_)
              refine lv_goto (tgt := 34) hx hb dX8_meanOf_286 (by decide) ?_
              exact ih_140 _ (q_140, (ff_215 0), ff_215, fb_215) _ _ _ (by omega) ⟨rfl, (by omega), hP, hD, hS, (lv_sub hl [0, 1, 5, 6, 7, 8, 9, 10] rfl)⟩
            · rw [nI_pred] at hl
              refine lv_iload hx hb dX8_meanOf_127 (lv_at hl 0 rfl) ?_
              refine lv_if_lt (tgt := 275) hx hb dX8_meanOf_129 (by decide) (fun h => absurd h (nI_pos0 (by omega))) (fun _ => ?_)
              refine lv_iconst (v := 0) hx hb dX8_meanOf_132 (by decide) ?_
              refine lv_istore (lv' := [(11, .int 0), (10, .int (nI qi_215)), (9, .int x_212), (8, .int x_210), (7, .int (nI q_140)), (6, .int bg_140), (5, .int x_139), (4, .int (nI (dn sn))), (0, .ref (a 0)), (1, .int (nI sn)), (2, .int (nI kr)), (3, .int p2)]) hx hb dX8_meanOf_133 hl (by decide) rfl (fun ls hl => ?_)
              refine W_loop (σ := Nat × (Nat → Int32)) (fun (n_ : Nat) (x_ : Nat × (Nat → Int32)) (H : Heap) (locs : List Loc) (ls : Array Slot) => match x_ with | (kk_216, fb_216) => n_ = 50 - kk_216 ∧ (kk_216 ≤ 50) ∧ va_P D classes [((a 0), .inr (8, (fX8 a (nI tx) fp (nI t0) wd (nI we) nu na (nI rd) ts (nI ru) (nI rw) (nI ca) df db sd))), (aI k (a 1) 3 (nF dn)), (aI k (a 4) 27 (sg se tm gs)), (aI k (a 2) 72 ffrees), (aI k (a 3) 72 fprices), (aI k (a 25) 4 (nF bm)), (aI k (a 26) 48 fbarSeen), (aI k (a 27) 48 fbarFrom), (aI k (a 28) 4 fruleRounds), (aI k (a 29) 52 ff_215), (aI k (a 30) 52 fb_216)] H ∧ va_D A [((a 0), .inr (8, (fX8 a (nI tx) fp (nI t0) wd (nI we) nu na (nI rd) ts (nI ru) (nI rw) (nI ca) df db sd))), (aI k (a 1) 3 (nF dn)), (aI k (a 4) 27 (sg se tm gs)), (aI k (a 2) 72 ffrees), (aI k (a 3) 72 fprices), (aI k (a 25) 4 (nF bm)), (aI k (a 26) 48 fbarSeen), (aI k (a 27) 48 fbarFrom), (aI k (a 28) 4 fruleRounds), (aI k (a 29) 52 ff_215), (aI k (a 30) 52 fb_216)] ∧ va_S A s.heap H locs ∧ lv_has ls 14 [(11, .int (nI kk_216)), (10, .int (nI qi_215)), (9, .int x_212), (8, .int x_210), (7, .int (nI q_140)), (6, .int bg_140), (5, .int x_139), (4, .int (nI (dn sn))), (0, .ref (a 0)), (1, .int (nI sn)), (2, .int (nI kr)), (3, .int p2)]) (fun n_216 x_216 H locs ls hI ih_216 => ?_) _ (0, fb_215) ⟨rfl, (by omega), hP, hD, hS, (lv_sub hl [0, 1, 2, 3, 4, 5, 6, 7, 8, 9, 10, 11] rfl)⟩
              obtain ⟨kk_216, fb_216⟩ := x_216
              obtain ⟨hm_216, hv_216, hP, hD, hS, hl⟩ := hI
              subst hm_216
              refine lv_iload hx hb dX8_meanOf_135 (lv_at hl 0 rfl) ?_
              refine lv_bipush (v := 50) hx hb dX8_meanOf_137 (by decide) ?_
              refine lv_icmp_ge (tgt := 239) hx hb dX8_meanOf_139 (by decide) (fun c_217 => ?_) (fun c_217 => ?_)
              · have c_217 := (nI_leI (a := 50) (b := kk_216) (by omega) (by omega)).mp c_217
                refine lv_iconst (v := 0) hx hb dX8_meanOf_239 (by decide) ?_
                refine lv_istore (lv' := [(11, .int 0), (10, .int (nI qi_215)), (9, .int x_212), (8, .int x_210), (7, .int (nI q_140)), (6, .int bg_140), (5, .int x_139), (4, .int (nI (dn sn))), (0, .ref (a 0)), (1, .int (nI sn)), (2, .int (nI kr)), (3, .int p2)]) hx hb dX8_meanOf_240 hl (by decide) rfl (fun ls hl => ?_)
                refine W_loop (σ := Nat × (Nat → Int32)) (fun (n_ : Nat) (x_ : Nat × (Nat → Int32)) (H : Heap) (locs : List Loc) (ls : Array Slot) => match x_ with | (kk_218, ff_218) => n_ = 50 - kk_218 ∧ (kk_218 ≤ 50) ∧ va_P D classes [((a 0), .inr (8, (fX8 a (nI tx) fp (nI t0) wd (nI we) nu na (nI rd) ts (nI ru) (nI rw) (nI ca) df db sd))), (aI k (a 1) 3 (nF dn)), (aI k (a 4) 27 (sg se tm gs)), (aI k (a 2) 72 ffrees), (aI k (a 3) 72 fprices), (aI k (a 25) 4 (nF bm)), (aI k (a 26) 48 fbarSeen), (aI k (a 27) 48 fbarFrom), (aI k (a 28) 4 fruleRounds), (aI k (a 29) 52 ff_218), (aI k (a 30) 52 fb_216)] H ∧ va_D A [((a 0), .inr (8, (fX8 a (nI tx) fp (nI t0) wd (nI we) nu na (nI rd) ts (nI ru) (nI rw) (nI ca) df db sd))), (aI k (a 1) 3 (nF dn)), (aI k (a 4) 27 (sg se tm gs)), (aI k (a 2) 72 ffrees), (aI k (a 3) 72 fprices), (aI k (a 25) 4 (nF bm)), (aI k (a 26) 48 fbarSeen), (aI k (a 27) 48 fbarFrom), (aI k (a 28) 4 fruleRounds), (aI k (a 29) 52 ff_218), (aI k (a 30) 52 fb_216)] ∧ va_S A s.heap H locs ∧ lv_has ls 14 [(11, .int (nI kk_218)), (10, .int (nI qi_215)), (9, .int x_212), (8, .int x_210), (7, .int (nI q_140)), (6, .int bg_140), (5, .int x_139), (4, .int (nI (dn sn))), (0, .ref (a 0)), (1, .int (nI sn)), (2, .int (nI kr)), (3, .int p2)]) (fun n_218 x_218 H locs ls hI ih_218 => ?_) _ (0, ff_215) ⟨rfl, (by omega), hP, hD, hS, (lv_sub hl [0, 1, 2, 3, 4, 5, 6, 7, 8, 9, 10, 11] rfl)⟩
                obtain ⟨kk_218, ff_218⟩ := x_218
                obtain ⟨hm_218, hv_218, hP, hD, hS, hl⟩ := hI
                subst hm_218
                refine lv_iload hx hb dX8_meanOf_242 (lv_at hl 0 rfl) ?_
                refine lv_bipush (v := 50) hx hb dX8_meanOf_244 (by decide) ?_
                refine lv_icmp_ge (tgt := 269) hx hb dX8_meanOf_246 (by decide) (fun c_219 => ?_) (fun c_219 => ?_)
                · have c_219 := (nI_leI (a := 50) (b := kk_218) (by omega) (by omega)).mp c_219
                  refine lv_iinc (v := (nI qi_215 - 1)) (lv' := [(10, .int (nI qi_215 - 1)), (11, .int (nI kk_218)), (9, .int x_212), (8, .int x_210), (7, .int (nI q_140)), (6, .int bg_140), (5, .int x_139), (4, .int (nI (dn sn))), (0, .ref (a 0)), (1, .int (nI sn)), (2, .int (nI kr)), (3, .int p2)]) hx hb dX8_meanOf_269 hl (k := 1) rfl (dn1 _) (by decide) rfl (fun ls hl => ?_)
                  refine lv_goto (tgt := 127) hx hb dX8_meanOf_272 (by decide) ?_
                  exact ih_215 _ (qi_215, ff_218, fb_216) _ _ _ (by omega) ⟨rfl, (by omega), hP, hD, hS, (lv_sub hl [0, 2, 3, 4, 5, 6, 7, 8, 9, 10, 11] rfl)⟩
                · have c_219 : ¬ (50 ≤ kk_218) := fun h => c_219 ((nI_leI (a := 50) (b := kk_218) (by omega) (by omega)).mpr h)
                  refine lv_aload_n hx hb dX8_meanOf_249 rfl (lv_at hl 8 rfl) ?_
                  refine va_get (D := D) (ci := 8) (v := .ref (a 29)) (C := RX8) (T := TX8) (N := 44) hx hb hts inX8 hown hK hP 0 rfl rfl 28 (by decide) (hts _ tw_1001) (fun _ h9 => h9) rfl dX8_meanOf_250 ?_
                  refine lv_iload hx hb dX8_meanOf_253 (lv_at hl 0 rfl) ?_
                  refine lv_aload_n hx hb dX8_meanOf_255 rfl (lv_at hl 8 rfl) ?_
                  refine va_get (D := D) (ci := 8) (v := .ref (a 30)) (C := RX8) (T := TX8) (N := 44) hx hb hts inX8 hown hK hP 0 rfl rfl 29 (by decide) (hts _ tw_1002) (fun _ h9 => h9) rfl dX8_meanOf_256 ?_
                  refine lv_iload hx hb dX8_meanOf_259 (lv_at hl 0 rfl) ?_
                  refine va_iald hx hb hK hP 10 1 rfl rfl (vp_in_nI (by omega) (by decide)) dX8_meanOf_261 ?_
                  refine lv_ti (y := (fb_216 kk_218)) (by rw [nI_clamp (by omega)]) ?_
                  refine va_iast hx hb hK hP hD hS 9 1 rfl rfl (vp_in_nI (by omega) (by decide)) dX8_meanOf_262 (fun H locs hP hD hS => ?_)
                  replace hP : va_P D classes [((a 0), .inr (8, (fX8 a (nI tx) fp (nI t0) wd (nI we) nu na (nI rd) ts (nI ru) (nI rw) (nI ca) df db sd))), (aI k (a 1) 3 (nF dn)), (aI k (a 4) 27 (sg se tm gs)), (aI k (a 2) 72 ffrees), (aI k (a 3) 72 fprices), (aI k (a 25) 4 (nF bm)), (aI k (a 26) 48 fbarSeen), (aI k (a 27) 48 fbarFrom), (aI k (a 28) 4 fruleRounds), (aI k (a 29) 52 (upd ff_218 (Int32.toNatClampNeg (nI kk_218)) (fb_216 kk_218))), (aI k (a 30) 52 fb_216)] H := hP
                  replace hD : va_D A [((a 0), .inr (8, (fX8 a (nI tx) fp (nI t0) wd (nI we) nu na (nI rd) ts (nI ru) (nI rw) (nI ca) df db sd))), (aI k (a 1) 3 (nF dn)), (aI k (a 4) 27 (sg se tm gs)), (aI k (a 2) 72 ffrees), (aI k (a 3) 72 fprices), (aI k (a 25) 4 (nF bm)), (aI k (a 26) 48 fbarSeen), (aI k (a 27) 48 fbarFrom), (aI k (a 28) 4 fruleRounds), (aI k (a 29) 52 (upd ff_218 (Int32.toNatClampNeg (nI kk_218)) (fb_216 kk_218))), (aI k (a 30) 52 fb_216)] := hD
                  generalize (upd ff_218 (Int32.toNatClampNeg (nI kk_218)) (fb_216 kk_218)) = f_220 at hP hD
                  refine lv_iinc (v := (nI (kk_218 + 1))) (lv' := [(11, .int (nI (kk_218 + 1))), (10, .int (nI qi_215)), (9, .int x_212), (8, .int x_210), (7, .int (nI q_140)), (6, .int bg_140), (5, .int x_139), (4, .int (nI (dn sn))), (0, .ref (a 0)), (1, .int (nI sn)), (2, .int (nI kr)), (3, .int p2)]) hx hb dX8_meanOf_263 hl (k := 0) rfl (nI_add kk_218 1) (by decide) rfl (fun ls hl => ?_)
                  refine lv_goto (tgt := 242) hx hb dX8_meanOf_266 (by decide) ?_
                  exact ih_218 _ (kk_218 + 1, f_220) _ _ _ (by omega) ⟨rfl, (by omega), hP, hD, hS, (lv_sub hl [0, 1, 2, 3, 4, 5, 6, 7, 8, 9, 10, 11] rfl)⟩
              · have c_217 : ¬ (50 ≤ kk_216) := fun h => c_217 ((nI_leI (a := 50) (b := kk_216) (by omega) (by omega)).mpr h)
                refine lv_iload hx hb dX8_meanOf_142 (lv_at hl 0 rfl) ?_
                refine lv_iconst (v := 2) hx hb dX8_meanOf_144 (by decide) ?_
                refine lv_idiv hx hb dX8_meanOf_145 (by decide) ?_
                refine lv_ti (y := (nI (kk_216 / 2))) (pk_div (by omega) (by decide) (by decide)) ?_
                refine lv_istore (lv' := [(12, .int (nI (kk_216 / 2))), (11, .int (nI kk_216)), (10, .int (nI qi_215)), (9, .int x_212), (8, .int x_210), (7, .int (nI q_140)), (6, .int bg_140), (5, .int x_139), (4, .int (nI (dn sn))), (0, .ref (a 0)), (1, .int (nI sn)), (2, .int (nI kr)), (3, .int p2)]) hx hb dX8_meanOf_146 hl (by decide) rfl (fun ls hl => ?_)
                refine lv_aload_n hx hb dX8_meanOf_148 rfl (lv_at hl 9 rfl) ?_
                refine lv_iload_n hx hb dX8_meanOf_149 rfl (lv_at hl 11 rfl) ?_
                refine lv_iload hx hb dX8_meanOf_150 (lv_at hl 2 rfl) ?_
                refine lv_iload hx hb dX8_meanOf_152 (lv_at hl 0 rfl) ?_
                refine ro_i (D := D) (va_runV (As := [.int (nI kr), .int (nI qi_215), .int (nI (kk_216 / 2))]) (rest := []) ⟨hx, hb, hml, hown, hts⟩ ((m_isFor l D k st lo a tx t0 we rd ru rw ca fp wd nu na ts df db sd bm fbarSeen fbarFrom kr (nI qi_215) (nI (kk_216 / 2)) hbm (by omega)) H.size) (cwV 3 hts (gV tw_1338 tw_1340 tw_61 tw_87 tw_1341) rfl rfl rfl (by decide +kernel) ⟨Nat.le_of_ble_eq_true rfl, Nat.le_of_ble_eq_true rfl⟩) (pV hS hAlo hlo hP hK (va_Dlo hD hAlo) hZ [0, 5, 6, 7] (by decide) rfl (ci := 8) (q := (RX8, TX8, 44)) (q0 := 0) rfl rfl) rfl rfl hl.1 rfl (lv_room (Nat.le_of_ble_eq_true rfl)) dX8_meanOf_154 ⟨Nat.le_of_ble_eq_true rfl, Nat.le_of_ble_eq_true rfl⟩) hS hA hP (fun r_221 H locs hw_221 hP hS => ?_)
                try dsimp only at hw_221
                refine lv_if_eq (tgt := 173) hx hb dX8_meanOf_157 (by decide) (fun c_222 => ?_) (fun c_222 => ?_)
                · refine lv_iload hx hb dX8_meanOf_173 (lv_at hl 7 rfl) ?_
                  refine lv_aload_n hx hb dX8_meanOf_175 rfl (lv_at hl 9 rfl) ?_
                  refine va_get (D := D) (ci := 8) (v := .ref (a 29)) (C := RX8) (T := TX8) (N := 44) hx hb hts inX8 hown hK hP 0 rfl rfl 28 (by decide) (hts _ tw_1001) (fun _ h9 => h9) rfl dX8_meanOf_176 ?_
                  refine lv_iconst (v := 2) hx hb dX8_meanOf_179 (by decide) ?_
                  refine lv_iload hx hb dX8_meanOf_180 (lv_at hl 0 rfl) ?_
                  refine lv_imul hx hb dX8_meanOf_182 ?_
                  refine lv_ti (y := (nI (2 * (kk_216 / 2)))) (pk_mul 2 (kk_216 / 2)) ?_
                  refine lv_iconst (v := 3) hx hb dX8_meanOf_183 (by decide) ?_
                  refine lv_iadd hx hb dX8_meanOf_184 ?_
                  refine lv_ti (y := (nI (2 * (kk_216 / 2) + 3))) (nI_add (2 * (kk_216 / 2)) 3) ?_
                  refine va_iald hx hb hK hP 9 1 rfl rfl (vp_in_nI (by omega) (by decide)) dX8_meanOf_185 ?_
                  refine lv_ti (y := (ff_215 (2 * (kk_216 / 2) + 3))) (by rw [nI_clamp (by omega)]) ?_
                  refine lv_iadd hx hb dX8_meanOf_186 ?_
                  refine lv_topi (fun x_223 ex_223 => ?_)
                  refine lv_istore (lv' := [(13, .int x_223), (12, .int (nI (kk_216 / 2))), (11, .int (nI kk_216)), (10, .int (nI qi_215)), (9, .int x_212), (8, .int x_210), (7, .int (nI q_140)), (6, .int bg_140), (5, .int x_139), (4, .int (nI (dn sn))), (0, .ref (a 0)), (1, .int (nI sn)), (2, .int (nI kr)), (3, .int p2)]) hx hb dX8_meanOf_187 hl (by decide) rfl (fun ls hl => ?_)
                  refine lv_aload_n hx hb dX8_meanOf_189 rfl (lv_at hl 10 rfl) ?_
                  refine va_get (D := D) (ci := 8) (v := .ref (a 30)) (C := RX8) (T := TX8) (N := 44) hx hb hts inX8 hown hK hP 0 rfl rfl 29 (by decide) (hts _ tw_1002) (fun _ h9 => h9) rfl dX8_meanOf_190 ?_
                  refine lv_iload hx hb dX8_meanOf_193 (lv_at hl 2 rfl) ?_
                  refine lv_aload_n hx hb dX8_meanOf_195 rfl (lv_at hl 10 rfl) ?_
                  refine lv_iload_n hx hb dX8_meanOf_196 rfl (lv_at hl 11 rfl) ?_
                  refine lv_iload hx hb dX8_meanOf_197 (lv_at hl 3 rfl) ?_
                  refine lv_iload hx hb dX8_meanOf_199 (lv_at hl 2 rfl) ?_
                  refine lv_iconst (v := 2) hx hb dX8_meanOf_201 (by decide) ?_
                  refine lv_irem hx hb dX8_meanOf_202 (by decide) ?_
                  refine lv_ti (y := (nI (kk_216 % 2))) (pk_rem (by omega) (by decide) (by decide)) ?_
                  refine lv_iconst (v := 1) hx hb dX8_meanOf_203 (by decide) ?_
                  refine lv_icmp_ne (tgt := 211) hx hb dX8_meanOf_204 (by decide) (fun c_224 => ?_) (fun c_224 => ?_)
                  · have c_224 : ¬ ((kk_216 % 2) = 1) := fun h => c_224 ((nI_eq (a := (kk_216 % 2)) (b := 1) (by omega) (by omega)).mpr h)
                    refine lv_iconst (v := 0) hx hb dX8_meanOf_211 (by decide) ?_
                    refine ro_i (D := D) (va_runV (As := [.int (nI sn), .int (nI qi_215), .int 0]) (rest := [.int (nI kk_216), .ref (a 30)]) ⟨hx, hb, hml, hown, hts⟩ ((m_chanceOf l D k st lo a tx t0 we rd ru rw ca fp wd nu na ts df db sd ffrees se tm gs sn qi_215 0 (by omega) (by omega)) H.size) (cwV 3 hts (gV tw_1210 tw_1212 tw_41 tw_87 tw_1213) rfl rfl rfl (by decide +kernel) ⟨Nat.le_of_ble_eq_true rfl, Nat.le_of_ble_eq_true rfl⟩) (pV hS hAlo hlo hP hK (va_Dlo hD hAlo) hZ [0, 3, 2] (by decide) rfl (ci := 8) (q := (RX8, TX8, 44)) (q0 := 0) rfl rfl) rfl rfl hl.1 rfl (lv_room (Nat.le_of_ble_eq_true rfl)) dX8_meanOf_212 ⟨Nat.le_of_ble_eq_true rfl, Nat.le_of_ble_eq_true rfl⟩) hS hA hP (fun r_225 H locs hw_225 hP hS => ?_)
                    try dsimp only at hw_225
                    refine lv_iload hx hb dX8_meanOf_215 (lv_at hl 0 rfl) ?_
                    refine lv_iload hx hb dX8_meanOf_217 (lv_at hl 8 rfl) ?_
                    refine lv_aload_n hx hb dX8_meanOf_219 rfl (lv_at hl 10 rfl) ?_
                    refine va_get (D := D) (ci := 8) (v := .ref (a 29)) (C := RX8) (T := TX8) (N := 44) hx hb hts inX8 hown hK hP 0 rfl rfl 28 (by decide) (hts _ tw_1001) (fun _ h9 => h9) rfl dX8_meanOf_220 ?_
                    refine lv_iconst (v := 2) hx hb dX8_meanOf_223 (by decide) ?_
                    refine lv_iload hx hb dX8_meanOf_224 (lv_at hl 1 rfl) ?_
                    refine lv_imul hx hb dX8_meanOf_226 ?_
                    refine lv_ti (y := (nI (2 * (kk_216 / 2)))) (pk_mul 2 (kk_216 / 2)) ?_
                    refine va_iald hx hb hK hP 9 1 rfl rfl (vp_in_nI (by omega) (by decide)) dX8_meanOf_227 ?_
                    refine lv_ti (y := (ff_215 (2 * (kk_216 / 2)))) (by rw [nI_clamp (by omega)]) ?_
                    refine lv_iadd hx hb dX8_meanOf_228 ?_
                    refine lv_topi (fun x_226 ex_226 => ?_)
                    refine ro_i (D := D) (va_runS (As := [.int r_225, .int x_223, .int x_226]) (rest := [.int (nI kk_216), .ref (a 30)]) ⟨hx, hb, hml, hown, hts⟩ ((m_mixed l D k st lo r_225 x_223 x_226) H.size) (va_cwS 3 hts (gS tw_1269 tw_1270 tw_87 tw_1271) rfl rfl rfl (by decide +kernel) ⟨Nat.le_of_ble_eq_true rfl, Nat.le_of_ble_eq_true rfl⟩) (pS hS hAlo hlo hP hK (va_Dlo hD hAlo) hZ [] (by decide) rfl) rfl rfl hl.1 rfl (lv_room (Nat.le_of_ble_eq_true rfl)) dX8_meanOf_229 ⟨Nat.le_of_ble_eq_true rfl, Nat.le_of_ble_eq_true rfl⟩) hS hA hP (fun r_227 H locs hw_227 hP hS => ?_)
                    try dsimp only at hw_227
                    refine va_iast hx hb hK hP hD hS 10 1 rfl rfl (vp_in_nI (by omega) (by decide)) dX8_meanOf_232 (fun H locs hP hD hS => ?_)
                    replace hP : va_P D classes [((a 0), .inr (8, (fX8 a (nI tx) fp (nI t0) wd (nI we) nu na (nI rd) ts (nI ru) (nI rw) (nI ca) df db sd))), (aI k (a 1) 3 (nF dn)), (aI k (a 4) 27 (sg se tm gs)), (aI k (a 2) 72 ffrees), (aI k (a 3) 72 fprices), (aI k (a 25) 4 (nF bm)), (aI k (a 26) 48 fbarSeen), (aI k (a 27) 48 fbarFrom), (aI k (a 28) 4 fruleRounds), (aI k (a 29) 52 ff_215), (aI k (a 30) 52 (upd fb_216 (Int32.toNatClampNeg (nI kk_216)) r_227))] H := hP
                    replace hD : va_D A [((a 0), .inr (8, (fX8 a (nI tx) fp (nI t0) wd (nI we) nu na (nI rd) ts (nI ru) (nI rw) (nI ca) df db sd))), (aI k (a 1) 3 (nF dn)), (aI k (a 4) 27 (sg se tm gs)), (aI k (a 2) 72 ffrees), (aI k (a 3) 72 fprices), (aI k (a 25) 4 (nF bm)), (aI k (a 26) 48 fbarSeen), (aI k (a 27) 48 fbarFrom), (aI k (a 28) 4 fruleRounds), (aI k (a 29) 52 ff_215), (aI k (a 30) 52 (upd fb_216 (Int32.toNatClampNeg (nI kk_216)) r_227))] := hD
                    generalize (upd fb_216 (Int32.toNatClampNeg (nI kk_216)) r_227) = f_228 at hP hD
                    refine lv_iinc (v := (nI (kk_216 + 1))) (lv' := [(11, .int (nI (kk_216 + 1))), (13, .int x_223), (12, .int (nI (kk_216 / 2))), (10, .int (nI qi_215)), (9, .int x_212), (8, .int x_210), (7, .int (nI q_140)), (6, .int bg_140), (5, .int x_139), (4, .int (nI (dn sn))), (0, .ref (a 0)), (1, .int (nI sn)), (2, .int (nI kr)), (3, .int p2)]) hx hb dX8_meanOf_233 hl (k := 2) rfl (nI_add kk_216 1) (by decide) rfl (fun ls hl => ?_)
                    refine lv_goto (tgt := 135) hx hb dX8_meanOf_236 (by decide) ?_
                    exact ih_216 _ (kk_216 + 1, f_228) _ _ _ (by omega) ⟨rfl, (by omega), hP, hD, hS, (lv_sub hl [0, 3, 4, 5, 6, 7, 8, 9, 10, 11, 12, 13] rfl)⟩
                  · have c_224 := (nI_eq (a := (kk_216 % 2)) (b := 1) (by omega) (by omega)).mp c_224
                    refine lv_iconst (v := 1) hx hb dX8_meanOf_207 (by decide) ?_
                    refine lv_goto (tgt := 212) hx hb dX8_meanOf_208 (by decide) ?_
                    refine ro_i (D := D) (va_runV (As := [.int (nI sn), .int (nI qi_215), .int 1]) (rest := [.int (nI kk_216), .ref (a 30)]) ⟨hx, hb, hml, hown, hts⟩ ((m_chanceOf l D k st lo a tx t0 we rd ru rw ca fp wd nu na ts df db sd ffrees se tm gs sn qi_215 1 (by omega) (by omega)) H.size) (cwV 3 hts (gV tw_1210 tw_1212 tw_41 tw_87 tw_1213) rfl rfl rfl (by decide +kernel) ⟨Nat.le_of_ble_eq_true rfl, Nat.le_of_ble_eq_true rfl⟩) (pV hS hAlo hlo hP hK (va_Dlo hD hAlo) hZ [0, 3, 2] (by decide) rfl (ci := 8) (q := (RX8, TX8, 44)) (q0 := 0) rfl rfl) rfl rfl hl.1 rfl (lv_room (Nat.le_of_ble_eq_true rfl)) dX8_meanOf_212 ⟨Nat.le_of_ble_eq_true rfl, Nat.le_of_ble_eq_true rfl⟩) hS hA hP (fun r_229 H locs hw_229 hP hS => ?_)
                    try dsimp only at hw_229
                    refine lv_iload hx hb dX8_meanOf_215 (lv_at hl 0 rfl) ?_
                    refine lv_iload hx hb dX8_meanOf_217 (lv_at hl 8 rfl) ?_
                    refine lv_aload_n hx hb dX8_meanOf_219 rfl (lv_at hl 10 rfl) ?_
                    refine va_get (D := D) (ci := 8) (v := .ref (a 29)) (C := RX8) (T := TX8) (N := 44) hx hb hts inX8 hown hK hP 0 rfl rfl 28 (by decide) (hts _ tw_1001) (fun _ h9 => h9) rfl dX8_meanOf_220 ?_
                    refine lv_iconst (v := 2) hx hb dX8_meanOf_223 (by decide) ?_
                    refine lv_iload hx hb dX8_meanOf_224 (lv_at hl 1 rfl) ?_
                    refine lv_imul hx hb dX8_meanOf_226 ?_
                    refine lv_ti (y := (nI (2 * (kk_216 / 2)))) (pk_mul 2 (kk_216 / 2)) ?_
                    refine va_iald hx hb hK hP 9 1 rfl rfl (vp_in_nI (by omega) (by decide)) dX8_meanOf_227 ?_
                    refine lv_ti (y := (ff_215 (2 * (kk_216 / 2)))) (by rw [nI_clamp (by omega)]) ?_
                    refine lv_iadd hx hb dX8_meanOf_228 ?_
                    refine lv_topi (fun x_230 ex_230 => ?_)
                    refine ro_i (D := D) (va_runS (As := [.int r_229, .int x_223, .int x_230]) (rest := [.int (nI kk_216), .ref (a 30)]) ⟨hx, hb, hml, hown, hts⟩ ((m_mixed l D k st lo r_229 x_223 x_230) H.size) (va_cwS 3 hts (gS tw_1269 tw_1270 tw_87 tw_1271) rfl rfl rfl (by decide +kernel) ⟨Nat.le_of_ble_eq_true rfl, Nat.le_of_ble_eq_true rfl⟩) (pS hS hAlo hlo hP hK (va_Dlo hD hAlo) hZ [] (by decide) rfl) rfl rfl hl.1 rfl (lv_room (Nat.le_of_ble_eq_true rfl)) dX8_meanOf_229 ⟨Nat.le_of_ble_eq_true rfl, Nat.le_of_ble_eq_true rfl⟩) hS hA hP (fun r_231 H locs hw_231 hP hS => ?_)
                    try dsimp only at hw_231
                    refine va_iast hx hb hK hP hD hS 10 1 rfl rfl (vp_in_nI (by omega) (by decide)) dX8_meanOf_232 (fun H locs hP hD hS => ?_)
                    replace hP : va_P D classes [((a 0), .inr (8, (fX8 a (nI tx) fp (nI t0) wd (nI we) nu na (nI rd) ts (nI ru) (nI rw) (nI ca) df db sd))), (aI k (a 1) 3 (nF dn)), (aI k (a 4) 27 (sg se tm gs)), (aI k (a 2) 72 ffrees), (aI k (a 3) 72 fprices), (aI k (a 25) 4 (nF bm)), (aI k (a 26) 48 fbarSeen), (aI k (a 27) 48 fbarFrom), (aI k (a 28) 4 fruleRounds), (aI k (a 29) 52 ff_215), (aI k (a 30) 52 (upd fb_216 (Int32.toNatClampNeg (nI kk_216)) r_231))] H := hP
                    replace hD : va_D A [((a 0), .inr (8, (fX8 a (nI tx) fp (nI t0) wd (nI we) nu na (nI rd) ts (nI ru) (nI rw) (nI ca) df db sd))), (aI k (a 1) 3 (nF dn)), (aI k (a 4) 27 (sg se tm gs)), (aI k (a 2) 72 ffrees), (aI k (a 3) 72 fprices), (aI k (a 25) 4 (nF bm)), (aI k (a 26) 48 fbarSeen), (aI k (a 27) 48 fbarFrom), (aI k (a 28) 4 fruleRounds), (aI k (a 29) 52 ff_215), (aI k (a 30) 52 (upd fb_216 (Int32.toNatClampNeg (nI kk_216)) r_231))] := hD
                    generalize (upd fb_216 (Int32.toNatClampNeg (nI kk_216)) r_231) = f_232 at hP hD
                    refine lv_iinc (v := (nI (kk_216 + 1))) (lv' := [(11, .int (nI (kk_216 + 1))), (13, .int x_223), (12, .int (nI (kk_216 / 2))), (10, .int (nI qi_215)), (9, .int x_212), (8, .int x_210), (7, .int (nI q_140)), (6, .int bg_140), (5, .int x_139), (4, .int (nI (dn sn))), (0, .ref (a 0)), (1, .int (nI sn)), (2, .int (nI kr)), (3, .int p2)]) hx hb dX8_meanOf_233 hl (k := 2) rfl (nI_add kk_216 1) (by decide) rfl (fun ls hl => ?_)
                    refine lv_goto (tgt := 135) hx hb dX8_meanOf_236 (by decide) ?_
                    exact ih_216 _ (kk_216 + 1, f_232) _ _ _ (by omega) ⟨rfl, (by omega), hP, hD, hS, (lv_sub hl [0, 3, 4, 5, 6, 7, 8, 9, 10, 11, 12, 13] rfl)⟩
                · refine lv_aload_n hx hb dX8_meanOf_160 rfl (lv_at hl 9 rfl) ?_
                  refine lv_iload_n hx hb dX8_meanOf_161 rfl (lv_at hl 10 rfl) ?_
                  refine lv_iload hx hb dX8_meanOf_162 (lv_at hl 5 rfl) ?_
                  refine lv_iload hx hb dX8_meanOf_164 (lv_at hl 2 rfl) ?_
                  refine lv_iload_n hx hb dX8_meanOf_166 rfl (lv_at hl 12 rfl) ?_
                  refine ro_i (D := D) (va_runV (As := [.int (nI sn), .int (nI q_140), .int (nI qi_215), .int p2]) (rest := []) ⟨hx, hb, hml, hown, hts⟩ ((m_byTaking l D k st lo a tx t0 we rd ru rw ca fp wd nu na ts df db sd dn se tm gs fprices sn qi_215 (nI q_140) p2 (by omega) (by omega)) H.size) (cwV 4 hts (gV tw_1342 tw_1344 tw_62 tw_87 tw_1345) rfl rfl rfl (by decide +kernel) ⟨Nat.le_of_ble_eq_true rfl, Nat.le_of_ble_eq_true rfl⟩) (pV hS hAlo hlo hP hK (va_Dlo hD hAlo) hZ [0, 1, 2, 4] (by decide) rfl (ci := 8) (q := (RX8, TX8, 44)) (q0 := 0) rfl rfl) rfl rfl hl.1 rfl (lv_room (Nat.le_of_ble_eq_true rfl)) dX8_meanOf_167 ⟨Nat.le_of_ble_eq_true rfl, Nat.le_of_ble_eq_true rfl⟩) hS hA hP (fun r_233 H locs hw_233 hP hS => ?_)
                  try dsimp only at hw_233
                  refine lv_goto (tgt := 187) hx hb dX8_meanOf_170 (by decide) ?_
                  refine lv_istore (lv' := [(13, .int r_233), (12, .int (nI (kk_216 / 2))), (11, .int (nI kk_216)), (10, .int (nI qi_215)), (9, .int x_212), (8, .int x_210), (7, .int (nI q_140)), (6, .int bg_140), (5, .int x_139), (4, .int (nI (dn sn))), (0, .ref (a 0)), (1, .int (nI sn)), (2, .int (nI kr)), (3, .int p2)]) hx hb dX8_meanOf_187 hl (by decide) rfl (fun ls hl => ?_)
                  refine lv_aload_n hx hb dX8_meanOf_189 rfl (lv_at hl 10 rfl) ?_
                  refine va_get (D := D) (ci := 8) (v := .ref (a 30)) (C := RX8) (T := TX8) (N := 44) hx hb hts inX8 hown hK hP 0 rfl rfl 29 (by decide) (hts _ tw_1002) (fun _ h9 => h9) rfl dX8_meanOf_190 ?_
                  refine lv_iload hx hb dX8_meanOf_193 (lv_at hl 2 rfl) ?_
                  refine lv_aload_n hx hb dX8_meanOf_195 rfl (lv_at hl 10 rfl) ?_
                  refine lv_iload_n hx hb dX8_meanOf_196 rfl (lv_at hl 11 rfl) ?_
                  refine lv_iload hx hb dX8_meanOf_197 (lv_at hl 3 rfl) ?_
                  refine lv_iload hx hb dX8_meanOf_199 (lv_at hl 2 rfl) ?_
                  refine lv_iconst (v := 2) hx hb dX8_meanOf_201 (by decide) ?_
                  refine lv_irem hx hb dX8_meanOf_202 (by decide) ?_
                  refine lv_ti (y := (nI (kk_216 % 2))) (pk_rem (by omega) (by decide) (by decide)) ?_
                  refine lv_iconst (v := 1) hx hb dX8_meanOf_203 (by decide) ?_
                  refine lv_icmp_ne (tgt := 211) hx hb dX8_meanOf_204 (by decide) (fun c_234 => ?_) (fun c_234 => ?_)
                  · have c_234 : ¬ ((kk_216 % 2) = 1) := fun h => c_234 ((nI_eq (a := (kk_216 % 2)) (b := 1) (by omega) (by omega)).mpr h)
                    refine lv_iconst (v := 0) hx hb dX8_meanOf_211 (by decide) ?_
                    refine ro_i (D := D) (va_runV (As := [.int (nI sn), .int (nI qi_215), .int 0]) (rest := [.int (nI kk_216), .ref (a 30)]) ⟨hx, hb, hml, hown, hts⟩ ((m_chanceOf l D k st lo a tx t0 we rd ru rw ca fp wd nu na ts df db sd ffrees se tm gs sn qi_215 0 (by omega) (by omega)) H.size) (cwV 3 hts (gV tw_1210 tw_1212 tw_41 tw_87 tw_1213) rfl rfl rfl (by decide +kernel) ⟨Nat.le_of_ble_eq_true rfl, Nat.le_of_ble_eq_true rfl⟩) (pV hS hAlo hlo hP hK (va_Dlo hD hAlo) hZ [0, 3, 2] (by decide) rfl (ci := 8) (q := (RX8, TX8, 44)) (q0 := 0) rfl rfl) rfl rfl hl.1 rfl (lv_room (Nat.le_of_ble_eq_true rfl)) dX8_meanOf_212 ⟨Nat.le_of_ble_eq_true rfl, Nat.le_of_ble_eq_true rfl⟩) hS hA hP (fun r_235 H locs hw_235 hP hS => ?_)
                    try dsimp only at hw_235
                    refine lv_iload hx hb dX8_meanOf_215 (lv_at hl 0 rfl) ?_
                    refine lv_iload hx hb dX8_meanOf_217 (lv_at hl 8 rfl) ?_
                    refine lv_aload_n hx hb dX8_meanOf_219 rfl (lv_at hl 10 rfl) ?_
                    refine va_get (D := D) (ci := 8) (v := .ref (a 29)) (C := RX8) (T := TX8) (N := 44) hx hb hts inX8 hown hK hP 0 rfl rfl 28 (by decide) (hts _ tw_1001) (fun _ h9 => h9) rfl dX8_meanOf_220 ?_
                    refine lv_iconst (v := 2) hx hb dX8_meanOf_223 (by decide) ?_
                    refine lv_iload hx hb dX8_meanOf_224 (lv_at hl 1 rfl) ?_
                    refine lv_imul hx hb dX8_meanOf_226 ?_
                    refine lv_ti (y := (nI (2 * (kk_216 / 2)))) (pk_mul 2 (kk_216 / 2)) ?_
                    refine va_iald hx hb hK hP 9 1 rfl rfl (vp_in_nI (by omega) (by decide)) dX8_meanOf_227 ?_
                    refine lv_ti (y := (ff_215 (2 * (kk_216 / 2)))) (by rw [nI_clamp (by omega)]) ?_
                    refine lv_iadd hx hb dX8_meanOf_228 ?_
                    refine lv_topi (fun x_236 ex_236 => ?_)
                    refine ro_i (D := D) (va_runS (As := [.int r_235, .int r_233, .int x_236]) (rest := [.int (nI kk_216), .ref (a 30)]) ⟨hx, hb, hml, hown, hts⟩ ((m_mixed l D k st lo r_235 r_233 x_236) H.size) (va_cwS 3 hts (gS tw_1269 tw_1270 tw_87 tw_1271) rfl rfl rfl (by decide +kernel) ⟨Nat.le_of_ble_eq_true rfl, Nat.le_of_ble_eq_true rfl⟩) (pS hS hAlo hlo hP hK (va_Dlo hD hAlo) hZ [] (by decide) rfl) rfl rfl hl.1 rfl (lv_room (Nat.le_of_ble_eq_true rfl)) dX8_meanOf_229 ⟨Nat.le_of_ble_eq_true rfl, Nat.le_of_ble_eq_true rfl⟩) hS hA hP (fun r_237 H locs hw_237 hP hS => ?_)
                    try dsimp only at hw_237
                    refine va_iast hx hb hK hP hD hS 10 1 rfl rfl (vp_in_nI (by omega) (by decide)) dX8_meanOf_232 (fun H locs hP hD hS => ?_)
                    replace hP : va_P D classes [((a 0), .inr (8, (fX8 a (nI tx) fp (nI t0) wd (nI we) nu na (nI rd) ts (nI ru) (nI rw) (nI ca) df db sd))), (aI k (a 1) 3 (nF dn)), (aI k (a 4) 27 (sg se tm gs)), (aI k (a 2) 72 ffrees), (aI k (a 3) 72 fprices), (aI k (a 25) 4 (nF bm)), (aI k (a 26) 48 fbarSeen), (aI k (a 27) 48 fbarFrom), (aI k (a 28) 4 fruleRounds), (aI k (a 29) 52 ff_215), (aI k (a 30) 52 (upd fb_216 (Int32.toNatClampNeg (nI kk_216)) r_237))] H := hP
                    replace hD : va_D A [((a 0), .inr (8, (fX8 a (nI tx) fp (nI t0) wd (nI we) nu na (nI rd) ts (nI ru) (nI rw) (nI ca) df db sd))), (aI k (a 1) 3 (nF dn)), (aI k (a 4) 27 (sg se tm gs)), (aI k (a 2) 72 ffrees), (aI k (a 3) 72 fprices), (aI k (a 25) 4 (nF bm)), (aI k (a 26) 48 fbarSeen), (aI k (a 27) 48 fbarFrom), (aI k (a 28) 4 fruleRounds), (aI k (a 29) 52 ff_215), (aI k (a 30) 52 (upd fb_216 (Int32.toNatClampNeg (nI kk_216)) r_237))] := hD
                    generalize (upd fb_216 (Int32.toNatClampNeg (nI kk_216)) r_237) = f_238 at hP hD
                    refine lv_iinc (v := (nI (kk_216 + 1))) (lv' := [(11, .int (nI (kk_216 + 1))), (13, .int r_233), (12, .int (nI (kk_216 / 2))), (10, .int (nI qi_215)), (9, .int x_212), (8, .int x_210), (7, .int (nI q_140)), (6, .int bg_140), (5, .int x_139), (4, .int (nI (dn sn))), (0, .ref (a 0)), (1, .int (nI sn)), (2, .int (nI kr)), (3, .int p2)]) hx hb dX8_meanOf_233 hl (k := 2) rfl (nI_add kk_216 1) (by decide) rfl (fun ls hl => ?_)
                    refine lv_goto (tgt := 135) hx hb dX8_meanOf_236 (by decide) ?_
                    exact ih_216 _ (kk_216 + 1, f_238) _ _ _ (by omega) ⟨rfl, (by omega), hP, hD, hS, (lv_sub hl [0, 3, 4, 5, 6, 7, 8, 9, 10, 11, 12, 13] rfl)⟩
                  · have c_234 := (nI_eq (a := (kk_216 % 2)) (b := 1) (by omega) (by omega)).mp c_234
                    refine lv_iconst (v := 1) hx hb dX8_meanOf_207 (by decide) ?_
                    refine lv_goto (tgt := 212) hx hb dX8_meanOf_208 (by decide) ?_
                    refine ro_i (D := D) (va_runV (As := [.int (nI sn), .int (nI qi_215), .int 1]) (rest := [.int (nI kk_216), .ref (a 30)]) ⟨hx, hb, hml, hown, hts⟩ ((m_chanceOf l D k st lo a tx t0 we rd ru rw ca fp wd nu na ts df db sd ffrees se tm gs sn qi_215 1 (by omega) (by omega)) H.size) (cwV 3 hts (gV tw_1210 tw_1212 tw_41 tw_87 tw_1213) rfl rfl rfl (by decide +kernel) ⟨Nat.le_of_ble_eq_true rfl, Nat.le_of_ble_eq_true rfl⟩) (pV hS hAlo hlo hP hK (va_Dlo hD hAlo) hZ [0, 3, 2] (by decide) rfl (ci := 8) (q := (RX8, TX8, 44)) (q0 := 0) rfl rfl) rfl rfl hl.1 rfl (lv_room (Nat.le_of_ble_eq_true rfl)) dX8_meanOf_212 ⟨Nat.le_of_ble_eq_true rfl, Nat.le_of_ble_eq_true rfl⟩) hS hA hP (fun r_239 H locs hw_239 hP hS => ?_)
                    try dsimp only at hw_239
                    refine lv_iload hx hb dX8_meanOf_215 (lv_at hl 0 rfl) ?_
                    refine lv_iload hx hb dX8_meanOf_217 (lv_at hl 8 rfl) ?_
                    refine lv_aload_n hx hb dX8_meanOf_219 rfl (lv_at hl 10 rfl) ?_
                    refine va_get (D := D) (ci := 8) (v := .ref (a 29)) (C := RX8) (T := TX8) (N := 44) hx hb hts inX8 hown hK hP 0 rfl rfl 28 (by decide) (hts _ tw_1001) (fun _ h9 => h9) rfl dX8_meanOf_220 ?_
                    refine lv_iconst (v := 2) hx hb dX8_meanOf_223 (by decide) ?_
                    refine lv_iload hx hb dX8_meanOf_224 (lv_at hl 1 rfl) ?_
                    refine lv_imul hx hb dX8_meanOf_226 ?_
                    refine lv_ti (y := (nI (2 * (kk_216 / 2)))) (pk_mul 2 (kk_216 / 2)) ?_
                    refine va_iald hx hb hK hP 9 1 rfl rfl (vp_in_nI (by omega) (by decide)) dX8_meanOf_227 ?_
                    refine lv_ti (y := (ff_215 (2 * (kk_216 / 2)))) (by rw [nI_clamp (by omega)]) ?_
                    refine lv_iadd hx hb dX8_meanOf_228 ?_
                    refine lv_topi (fun x_240 ex_240 => ?_)
                    refine ro_i (D := D) (va_runS (As := [.int r_239, .int r_233, .int x_240]) (rest := [.int (nI kk_216), .ref (a 30)]) ⟨hx, hb, hml, hown, hts⟩ ((m_mixed l D k st lo r_239 r_233 x_240) H.size) (va_cwS 3 hts (gS tw_1269 tw_1270 tw_87 tw_1271) rfl rfl rfl (by decide +kernel) ⟨Nat.le_of_ble_eq_true rfl, Nat.le_of_ble_eq_true rfl⟩) (pS hS hAlo hlo hP hK (va_Dlo hD hAlo) hZ [] (by decide) rfl) rfl rfl hl.1 rfl (lv_room (Nat.le_of_ble_eq_true rfl)) dX8_meanOf_229 ⟨Nat.le_of_ble_eq_true rfl, Nat.le_of_ble_eq_true rfl⟩) hS hA hP (fun r_241 H locs hw_241 hP hS => ?_)
                    try dsimp only at hw_241
                    refine va_iast hx hb hK hP hD hS 10 1 rfl rfl (vp_in_nI (by omega) (by decide)) dX8_meanOf_232 (fun H locs hP hD hS => ?_)
                    replace hP : va_P D classes [((a 0), .inr (8, (fX8 a (nI tx) fp (nI t0) wd (nI we) nu na (nI rd) ts (nI ru) (nI rw) (nI ca) df db sd))), (aI k (a 1) 3 (nF dn)), (aI k (a 4) 27 (sg se tm gs)), (aI k (a 2) 72 ffrees), (aI k (a 3) 72 fprices), (aI k (a 25) 4 (nF bm)), (aI k (a 26) 48 fbarSeen), (aI k (a 27) 48 fbarFrom), (aI k (a 28) 4 fruleRounds), (aI k (a 29) 52 ff_215), (aI k (a 30) 52 (upd fb_216 (Int32.toNatClampNeg (nI kk_216)) r_241))] H := hP
                    replace hD : va_D A [((a 0), .inr (8, (fX8 a (nI tx) fp (nI t0) wd (nI we) nu na (nI rd) ts (nI ru) (nI rw) (nI ca) df db sd))), (aI k (a 1) 3 (nF dn)), (aI k (a 4) 27 (sg se tm gs)), (aI k (a 2) 72 ffrees), (aI k (a 3) 72 fprices), (aI k (a 25) 4 (nF bm)), (aI k (a 26) 48 fbarSeen), (aI k (a 27) 48 fbarFrom), (aI k (a 28) 4 fruleRounds), (aI k (a 29) 52 ff_215), (aI k (a 30) 52 (upd fb_216 (Int32.toNatClampNeg (nI kk_216)) r_241))] := hD
                    generalize (upd fb_216 (Int32.toNatClampNeg (nI kk_216)) r_241) = f_242 at hP hD
                    refine lv_iinc (v := (nI (kk_216 + 1))) (lv' := [(11, .int (nI (kk_216 + 1))), (13, .int r_233), (12, .int (nI (kk_216 / 2))), (10, .int (nI qi_215)), (9, .int x_212), (8, .int x_210), (7, .int (nI q_140)), (6, .int bg_140), (5, .int x_139), (4, .int (nI (dn sn))), (0, .ref (a 0)), (1, .int (nI sn)), (2, .int (nI kr)), (3, .int p2)]) hx hb dX8_meanOf_233 hl (k := 2) rfl (nI_add kk_216 1) (by decide) rfl (fun ls hl => ?_)
                    refine lv_goto (tgt := 135) hx hb dX8_meanOf_236 (by decide) ?_
                    exact ih_216 _ (kk_216 + 1, f_242) _ _ _ (by omega) ⟨rfl, (by omega), hP, hD, hS, (lv_sub hl [0, 3, 4, 5, 6, 7, 8, 9, 10, 11, 12, 13] rfl)⟩
          · have c_214 : ¬ (52 ≤ kk_213) := fun h => c_214 ((nI_leI (a := 52) (b := kk_213) (by omega) (by omega)).mpr h)
            refine lv_aload_n hx hb dX8_meanOf_106 rfl (lv_at hl 7 rfl) ?_
            refine va_get (D := D) (ci := 8) (v := .ref (a 29)) (C := RX8) (T := TX8) (N := 44) hx hb hts inX8 hown hK hP 0 rfl rfl 28 (by decide) (hts _ tw_1001) (fun _ h9 => h9) rfl dX8_meanOf_107 ?_
            refine lv_iload hx hb dX8_meanOf_110 (lv_at hl 0 rfl) ?_
            refine lv_iload hx hb dX8_meanOf_112 (lv_at hl 1 rfl) ?_
            refine va_iast hx hb hK hP hD hS 9 1 rfl rfl (vp_in_nI (by omega) (by decide)) dX8_meanOf_114 (fun H locs hP hD hS => ?_)
            replace hP : va_P D classes [((a 0), .inr (8, (fX8 a (nI tx) fp (nI t0) wd (nI we) nu na (nI rd) ts (nI ru) (nI rw) (nI ca) df db sd))), (aI k (a 1) 3 (nF dn)), (aI k (a 4) 27 (sg se tm gs)), (aI k (a 2) 72 ffrees), (aI k (a 3) 72 fprices), (aI k (a 25) 4 (nF bm)), (aI k (a 26) 48 fbarSeen), (aI k (a 27) 48 fbarFrom), (aI k (a 28) 4 fruleRounds), (aI k (a 29) 52 (upd ff_213 (Int32.toNatClampNeg (nI kk_213)) x_212)), (aI k (a 30) 52 fb_140)] H := hP
            replace hD : va_D A [((a 0), .inr (8, (fX8 a (nI tx) fp (nI t0) wd (nI we) nu na (nI rd) ts (nI ru) (nI rw) (nI ca) df db sd))), (aI k (a 1) 3 (nF dn)), (aI k (a 4) 27 (sg se tm gs)), (aI k (a 2) 72 ffrees), (aI k (a 3) 72 fprices), (aI k (a 25) 4 (nF bm)), (aI k (a 26) 48 fbarSeen), (aI k (a 27) 48 fbarFrom), (aI k (a 28) 4 fruleRounds), (aI k (a 29) 52 (upd ff_213 (Int32.toNatClampNeg (nI kk_213)) x_212)), (aI k (a 30) 52 fb_140)] := hD
            generalize (upd ff_213 (Int32.toNatClampNeg (nI kk_213)) x_212) = f_243 at hP hD
            refine lv_iinc (v := (nI (kk_213 + 1))) (lv' := [(10, .int (nI (kk_213 + 1))), (9, .int x_212), (8, .int x_210), (7, .int (nI q_140)), (6, .int bg_140), (5, .int x_139), (4, .int (nI (dn sn))), (0, .ref (a 0)), (1, .int (nI sn)), (2, .int (nI kr)), (3, .int p2)]) hx hb dX8_meanOf_115 hl (k := 0) rfl (nI_add kk_213 1) (by decide) rfl (fun ls hl => ?_)
            refine lv_goto (tgt := 99) hx hb dX8_meanOf_118 (by decide) ?_
            exact ih_213 _ (kk_213 + 1, f_243) _ _ _ (by omega) ⟨rfl, (by omega), hP, hD, hS, (lv_sub hl [0, 1, 2, 3, 4, 5, 6, 7, 8, 9, 10] rfl)⟩
        · refine lv_if_eq (tgt := 86) hx hb dX8_meanOf_75 (by decide) (fun _ => ?_) (fun h => absurd (by decide) h)
          refine lv_aload_n hx hb dX8_meanOf_86 rfl (lv_at hl 5 rfl) ?_
          refine lv_iload_n hx hb dX8_meanOf_87 rfl (lv_at hl 6 rfl) ?_
          refine lv_iload hx hb dX8_meanOf_88 (lv_at hl 1 rfl) ?_
          refine lv_iload_n hx hb dX8_meanOf_90 rfl (lv_at hl 8 rfl) ?_
          refine ro_i (D := D) (va_runV (As := [.int (nI sn), .int (nI q_140), .int p2]) (rest := []) ⟨hx, hb, hml, hown, hts⟩ ((m_byGarage l D k st lo a tx t0 we rd ru rw ca fp wd nu na ts df db sd dn se tm gs sn (nI q_140) p2 (by omega)) H.size) (cwV 3 hts (gV tw_1333 tw_1335 tw_60 tw_87 tw_1336) rfl rfl rfl (by decide +kernel) ⟨Nat.le_of_ble_eq_true rfl, Nat.le_of_ble_eq_true rfl⟩) (pV hS hAlo hlo hP hK (va_Dlo hD hAlo) hZ [0, 1, 2] (by decide) rfl (ci := 8) (q := (RX8, TX8, 44)) (q0 := 0) rfl rfl) rfl rfl hl.1 rfl (lv_room (Nat.le_of_ble_eq_true rfl)) dX8_meanOf_91 ⟨Nat.le_of_ble_eq_true rfl, Nat.le_of_ble_eq_true rfl⟩) hS hA hP (fun r_244 H locs hw_244 hP hS => ?_)
          try dsimp only at hw_244
          refine lv_istore (lv' := [(9, .int r_244), (8, .int x_210), (7, .int (nI q_140)), (6, .int bg_140), (5, .int x_139), (4, .int (nI (dn sn))), (0, .ref (a 0)), (1, .int (nI sn)), (2, .int (nI kr)), (3, .int p2)]) hx hb dX8_meanOf_94 hl (by decide) rfl (fun ls hl => ?_)
          refine lv_iconst (v := 0) hx hb dX8_meanOf_96 (by decide) ?_
          refine lv_istore (lv' := [(10, .int 0), (9, .int r_244), (8, .int x_210), (7, .int (nI q_140)), (6, .int bg_140), (5, .int x_139), (4, .int (nI (dn sn))), (0, .ref (a 0)), (1, .int (nI sn)), (2, .int (nI kr)), (3, .int p2)]) hx hb dX8_meanOf_97 hl (by decide) rfl (fun ls hl => ?_)
          refine W_loop (σ := Nat × (Nat → Int32)) (fun (n_ : Nat) (x_ : Nat × (Nat → Int32)) (H : Heap) (locs : List Loc) (ls : Array Slot) => match x_ with | (kk_245, ff_245) => n_ = 52 - kk_245 ∧ (kk_245 ≤ 52) ∧ va_P D classes [((a 0), .inr (8, (fX8 a (nI tx) fp (nI t0) wd (nI we) nu na (nI rd) ts (nI ru) (nI rw) (nI ca) df db sd))), (aI k (a 1) 3 (nF dn)), (aI k (a 4) 27 (sg se tm gs)), (aI k (a 2) 72 ffrees), (aI k (a 3) 72 fprices), (aI k (a 25) 4 (nF bm)), (aI k (a 26) 48 fbarSeen), (aI k (a 27) 48 fbarFrom), (aI k (a 28) 4 fruleRounds), (aI k (a 29) 52 ff_245), (aI k (a 30) 52 fb_140)] H ∧ va_D A [((a 0), .inr (8, (fX8 a (nI tx) fp (nI t0) wd (nI we) nu na (nI rd) ts (nI ru) (nI rw) (nI ca) df db sd))), (aI k (a 1) 3 (nF dn)), (aI k (a 4) 27 (sg se tm gs)), (aI k (a 2) 72 ffrees), (aI k (a 3) 72 fprices), (aI k (a 25) 4 (nF bm)), (aI k (a 26) 48 fbarSeen), (aI k (a 27) 48 fbarFrom), (aI k (a 28) 4 fruleRounds), (aI k (a 29) 52 ff_245), (aI k (a 30) 52 fb_140)] ∧ va_S A s.heap H locs ∧ lv_has ls 14 [(10, .int (nI kk_245)), (9, .int r_244), (8, .int x_210), (7, .int (nI q_140)), (6, .int bg_140), (5, .int x_139), (4, .int (nI (dn sn))), (0, .ref (a 0)), (1, .int (nI sn)), (2, .int (nI kr)), (3, .int p2)]) (fun n_245 x_245 H locs ls hI ih_245 => ?_) _ (0, ff_140) ⟨rfl, (by omega), hP, hD, hS, (lv_sub hl [0, 1, 2, 3, 4, 5, 6, 7, 8, 9, 10] rfl)⟩
          obtain ⟨kk_245, ff_245⟩ := x_245
          obtain ⟨hm_245, hv_245, hP, hD, hS, hl⟩ := hI
          subst hm_245
          refine lv_iload hx hb dX8_meanOf_99 (lv_at hl 0 rfl) ?_
          refine lv_bipush (v := 52) hx hb dX8_meanOf_101 (by decide) ?_
          refine lv_icmp_ge (tgt := 121) hx hb dX8_meanOf_103 (by decide) (fun c_246 => ?_) (fun c_246 => ?_)
          · have c_246 := (nI_leI (a := 52) (b := kk_245) (by omega) (by omega)).mp c_246
            refine lv_iload hx hb dX8_meanOf_121 (lv_at hl 6 rfl) ?_
            refine lv_iconst (v := 1) hx hb dX8_meanOf_123 (by decide) ?_
            refine lv_isub hx hb dX8_meanOf_124 ?_
            refine lv_ti (y := (nI (dn sn) - 1)) rfl ?_
            refine lv_istore (lv' := [(10, .int (nI (dn sn) - 1)), (9, .int r_244), (8, .int x_210), (7, .int (nI q_140)), (6, .int bg_140), (5, .int x_139), (4, .int (nI (dn sn))), (0, .ref (a 0)), (1, .int (nI sn)), (2, .int (nI kr)), (3, .int p2)]) hx hb dX8_meanOf_125 hl (by decide) rfl (fun ls hl => ?_)
            refine W_loop (σ := Nat × (Nat → Int32) × (Nat → Int32)) (fun (n_ : Nat) (x_ : Nat × (Nat → Int32) × (Nat → Int32)) (H : Heap) (locs : List Loc) (ls : Array Slot) => match x_ with | (qi_247, ff_247, fb_247) => n_ = 2 * qi_247 ∧ (qi_247 ≤ dn sn) ∧ va_P D classes [((a 0), .inr (8, (fX8 a (nI tx) fp (nI t0) wd (nI we) nu na (nI rd) ts (nI ru) (nI rw) (nI ca) df db sd))), (aI k (a 1) 3 (nF dn)), (aI k (a 4) 27 (sg se tm gs)), (aI k (a 2) 72 ffrees), (aI k (a 3) 72 fprices), (aI k (a 25) 4 (nF bm)), (aI k (a 26) 48 fbarSeen), (aI k (a 27) 48 fbarFrom), (aI k (a 28) 4 fruleRounds), (aI k (a 29) 52 ff_247), (aI k (a 30) 52 fb_247)] H ∧ va_D A [((a 0), .inr (8, (fX8 a (nI tx) fp (nI t0) wd (nI we) nu na (nI rd) ts (nI ru) (nI rw) (nI ca) df db sd))), (aI k (a 1) 3 (nF dn)), (aI k (a 4) 27 (sg se tm gs)), (aI k (a 2) 72 ffrees), (aI k (a 3) 72 fprices), (aI k (a 25) 4 (nF bm)), (aI k (a 26) 48 fbarSeen), (aI k (a 27) 48 fbarFrom), (aI k (a 28) 4 fruleRounds), (aI k (a 29) 52 ff_247), (aI k (a 30) 52 fb_247)] ∧ va_S A s.heap H locs ∧ lv_has ls 14 [(10, .int (nI qi_247 - 1)), (9, .int r_244), (8, .int x_210), (7, .int (nI q_140)), (6, .int bg_140), (5, .int x_139), (4, .int (nI (dn sn))), (0, .ref (a 0)), (1, .int (nI sn)), (2, .int (nI kr)), (3, .int p2)]) (fun n_247 x_247 H locs ls hI ih_247 => ?_) _ (dn sn, ff_245, fb_140) ⟨rfl, (by omega), hP, hD, hS, (lv_sub hl [0, 1, 2, 3, 4, 5, 6, 7, 8, 9, 10] rfl)⟩
            obtain ⟨qi_247, ff_247, fb_247⟩ := x_247
            obtain ⟨hm_247, hv_247, hP, hD, hS, hl⟩ := hI
            subst hm_247
            rcases qi_247 with _ | qi_247
            · rw [dn0] at hl
              refine lv_iload hx hb dX8_meanOf_127 (lv_at hl 0 rfl) ?_
              refine lv_if_lt (tgt := 275) hx hb dX8_meanOf_129 (by decide) (fun _ => ?_) (fun h => absurd (by decide) h)
              refine lv_aload_n hx hb dX8_meanOf_275 rfl (lv_at hl 7 rfl) ?_
              refine va_get (D := D) (ci := 8) (v := .ref (a 29)) (C := RX8) (T := TX8) (N := 44) hx hb hts inX8 hown hK hP 0 rfl rfl 28 (by decide) (hts _ tw_1001) (fun _ h9 => h9) rfl dX8_meanOf_276 ?_
              refine lv_iconst (v := 0) hx hb dX8_meanOf_279 (by decide) ?_
              refine va_iald hx hb hK hP 9 1 rfl rfl (by unfold vp_in; decide) dX8_meanOf_280 ?_
              refine lv_ti (y := (ff_247 0)) (by rfl) ?_
              refine lv_istore (lv' := [(6, .int (ff_247 0)), (10, .int (-1)), (9, .int r_244), (8, .int x_210), (7, .int (nI q_140)), (5, .int x_139), (4, .int (nI (dn sn))), (0, .ref (a 0)), (1, .int (nI sn)), (2, .int (nI kr)), (3, .int p2)]) hx hb dX8_meanOf_281 hl (by decide) rfl (fun ls hl => ?_)
              refine lv_iinc (v := (nI q_140 - 1)) (lv' := [(7, .int (nI q_140 - 1)), (6, .int (ff_247 0)), (10, .int (-1)), (9, .int r_244), (8, .int x_210), (5, .int x_139), (4, .int (nI (dn sn))), (0, .ref (a 0)), (1, .int (nI sn)), (2, .int (nI kr)), (3, .int p2)]) hx hb dX8_meanOf_283 hl (k := 4) rfl (dn1 _) (by decide) rfl (fun ls hl => ?_)
              refine lv_goto (tgt := 34) hx hb dX8_meanOf_286 (by decide) ?_
              exact ih_140 _ (q_140, (ff_247 0), ff_247, fb_247) _ _ _ (by omega) ⟨rfl, (by omega), hP, hD, hS, (lv_sub hl [0, 1, 5, 6, 7, 8, 9, 10] rfl)⟩
            · rw [nI_pred] at hl
              refine lv_iload hx hb dX8_meanOf_127 (lv_at hl 0 rfl) ?_
              refine lv_if_lt (tgt := 275) hx hb dX8_meanOf_129 (by decide) (fun h => absurd h (nI_pos0 (by omega))) (fun _ => ?_)
              refine lv_iconst (v := 0) hx hb dX8_meanOf_132 (by decide) ?_
              refine lv_istore (lv' := [(11, .int 0), (10, .int (nI qi_247)), (9, .int r_244), (8, .int x_210), (7, .int (nI q_140)), (6, .int bg_140), (5, .int x_139), (4, .int (nI (dn sn))), (0, .ref (a 0)), (1, .int (nI sn)), (2, .int (nI kr)), (3, .int p2)]) hx hb dX8_meanOf_133 hl (by decide) rfl (fun ls hl => ?_)
              refine W_loop (σ := Nat × (Nat → Int32)) (fun (n_ : Nat) (x_ : Nat × (Nat → Int32)) (H : Heap) (locs : List Loc) (ls : Array Slot) => match x_ with | (kk_248, fb_248) => n_ = 50 - kk_248 ∧ (kk_248 ≤ 50) ∧ va_P D classes [((a 0), .inr (8, (fX8 a (nI tx) fp (nI t0) wd (nI we) nu na (nI rd) ts (nI ru) (nI rw) (nI ca) df db sd))), (aI k (a 1) 3 (nF dn)), (aI k (a 4) 27 (sg se tm gs)), (aI k (a 2) 72 ffrees), (aI k (a 3) 72 fprices), (aI k (a 25) 4 (nF bm)), (aI k (a 26) 48 fbarSeen), (aI k (a 27) 48 fbarFrom), (aI k (a 28) 4 fruleRounds), (aI k (a 29) 52 ff_247), (aI k (a 30) 52 fb_248)] H ∧ va_D A [((a 0), .inr (8, (fX8 a (nI tx) fp (nI t0) wd (nI we) nu na (nI rd) ts (nI ru) (nI rw) (nI ca) df db sd))), (aI k (a 1) 3 (nF dn)), (aI k (a 4) 27 (sg se tm gs)), (aI k (a 2) 72 ffrees), (aI k (a 3) 72 fprices), (aI k (a 25) 4 (nF bm)), (aI k (a 26) 48 fbarSeen), (aI k (a 27) 48 fbarFrom), (aI k (a 28) 4 fruleRounds), (aI k (a 29) 52 ff_247), (aI k (a 30) 52 fb_248)] ∧ va_S A s.heap H locs ∧ lv_has ls 14 [(11, .int (nI kk_248)), (10, .int (nI qi_247)), (9, .int r_244), (8, .int x_210), (7, .int (nI q_140)), (6, .int bg_140), (5, .int x_139), (4, .int (nI (dn sn))), (0, .ref (a 0)), (1, .int (nI sn)), (2, .int (nI kr)), (3, .int p2)]) (fun n_248 x_248 H locs ls hI ih_248 => ?_) _ (0, fb_247) ⟨rfl, (by omega), hP, hD, hS, (lv_sub hl [0, 1, 2, 3, 4, 5, 6, 7, 8, 9, 10, 11] rfl)⟩
              obtain ⟨kk_248, fb_248⟩ := x_248
              obtain ⟨hm_248, hv_248, hP, hD, hS, hl⟩ := hI
              subst hm_248
              refine lv_iload hx hb dX8_meanOf_135 (lv_at hl 0 rfl) ?_
              refine lv_bipush (v := 50) hx hb dX8_meanOf_137 (by decide) ?_
              refine lv_icmp_ge (tgt := 239) hx hb dX8_meanOf_139 (by decide) (fun c_249 => ?_) (fun c_249 => ?_)
              · have c_249 := (nI_leI (a := 50) (b := kk_248) (by omega) (by omega)).mp c_249
                refine lv_iconst (v := 0) hx hb dX8_meanOf_239 (by decide) ?_
                refine lv_istore (lv' := [(11, .int 0), (10, .int (nI qi_247)), (9, .int r_244), (8, .int x_210), (7, .int (nI q_140)), (6, .int bg_140), (5, .int x_139), (4, .int (nI (dn sn))), (0, .ref (a 0)), (1, .int (nI sn)), (2, .int (nI kr)), (3, .int p2)]) hx hb dX8_meanOf_240 hl (by decide) rfl (fun ls hl => ?_)
                refine W_loop (σ := Nat × (Nat → Int32)) (fun (n_ : Nat) (x_ : Nat × (Nat → Int32)) (H : Heap) (locs : List Loc) (ls : Array Slot) => match x_ with | (kk_250, ff_250) => n_ = 50 - kk_250 ∧ (kk_250 ≤ 50) ∧ va_P D classes [((a 0), .inr (8, (fX8 a (nI tx) fp (nI t0) wd (nI we) nu na (nI rd) ts (nI ru) (nI rw) (nI ca) df db sd))), (aI k (a 1) 3 (nF dn)), (aI k (a 4) 27 (sg se tm gs)), (aI k (a 2) 72 ffrees), (aI k (a 3) 72 fprices), (aI k (a 25) 4 (nF bm)), (aI k (a 26) 48 fbarSeen), (aI k (a 27) 48 fbarFrom), (aI k (a 28) 4 fruleRounds), (aI k (a 29) 52 ff_250), (aI k (a 30) 52 fb_248)] H ∧ va_D A [((a 0), .inr (8, (fX8 a (nI tx) fp (nI t0) wd (nI we) nu na (nI rd) ts (nI ru) (nI rw) (nI ca) df db sd))), (aI k (a 1) 3 (nF dn)), (aI k (a 4) 27 (sg se tm gs)), (aI k (a 2) 72 ffrees), (aI k (a 3) 72 fprices), (aI k (a 25) 4 (nF bm)), (aI k (a 26) 48 fbarSeen), (aI k (a 27) 48 fbarFrom), (aI k (a 28) 4 fruleRounds), (aI k (a 29) 52 ff_250), (aI k (a 30) 52 fb_248)] ∧ va_S A s.heap H locs ∧ lv_has ls 14 [(11, .int (nI kk_250)), (10, .int (nI qi_247)), (9, .int r_244), (8, .int x_210), (7, .int (nI q_140)), (6, .int bg_140), (5, .int x_139), (4, .int (nI (dn sn))), (0, .ref (a 0)), (1, .int (nI sn)), (2, .int (nI kr)), (3, .int p2)]) (fun n_250 x_250 H locs ls hI ih_250 => ?_) _ (0, ff_247) ⟨rfl, (by omega), hP, hD, hS, (lv_sub hl [0, 1, 2, 3, 4, 5, 6, 7, 8, 9, 10, 11] rfl)⟩
                obtain ⟨kk_250, ff_250⟩ := x_250
                obtain ⟨hm_250, hv_250, hP, hD, hS, hl⟩ := hI
                subst hm_250
                refine lv_iload hx hb dX8_meanOf_242 (lv_at hl 0 rfl) ?_
                refine lv_bipush (v := 50) hx hb dX8_meanOf_244 (by decide) ?_
                refine lv_icmp_ge (tgt := 269) hx hb dX8_meanOf_246 (by decide) (fun c_251 => ?_) (fun c_251 => ?_)
                · have c_251 := (nI_leI (a := 50) (b := kk_250) (by omega) (by omega)).mp c_251
                  refine lv_iinc (v := (nI qi_247 - 1)) (lv' := [(10, .int (nI qi_247 - 1)), (11, .int (nI kk_250)), (9, .int r_244), (8, .int x_210), (7, .int (nI q_140)), (6, .int bg_140), (5, .int x_139), (4, .int (nI (dn sn))), (0, .ref (a 0)), (1, .int (nI sn)), (2, .int (nI kr)), (3, .int p2)]) hx hb dX8_meanOf_269 hl (k := 1) rfl (dn1 _) (by decide) rfl (fun ls hl => ?_)
                  refine lv_goto (tgt := 127) hx hb dX8_meanOf_272 (by decide) ?_
                  exact ih_247 _ (qi_247, ff_250, fb_248) _ _ _ (by omega) ⟨rfl, (by omega), hP, hD, hS, (lv_sub hl [0, 2, 3, 4, 5, 6, 7, 8, 9, 10, 11] rfl)⟩
                · have c_251 : ¬ (50 ≤ kk_250) := fun h => c_251 ((nI_leI (a := 50) (b := kk_250) (by omega) (by omega)).mpr h)
                  refine lv_aload_n hx hb dX8_meanOf_249 rfl (lv_at hl 8 rfl) ?_
                  refine va_get (D := D) (ci := 8) (v := .ref (a 29)) (C := RX8) (T := TX8) (N := 44) hx hb hts inX8 hown hK hP 0 rfl rfl 28 (by decide) (hts _ tw_1001) (fun _ h9 => h9) rfl dX8_meanOf_250 ?_
                  refine lv_iload hx hb dX8_meanOf_253 (lv_at hl 0 rfl) ?_
                  refine lv_aload_n hx hb dX8_meanOf_255 rfl (lv_at hl 8 rfl) ?_
                  refine va_get (D := D) (ci := 8) (v := .ref (a 30)) (C := RX8) (T := TX8) (N := 44) hx hb hts inX8 hown hK hP 0 rfl rfl 29 (by decide) (hts _ tw_1002) (fun _ h9 => h9) rfl dX8_meanOf_256 ?_
                  refine lv_iload hx hb dX8_meanOf_259 (lv_at hl 0 rfl) ?_
                  refine va_iald hx hb hK hP 10 1 rfl rfl (vp_in_nI (by omega) (by decide)) dX8_meanOf_261 ?_
                  refine lv_ti (y := (fb_248 kk_250)) (by rw [nI_clamp (by omega)]) ?_
                  refine va_iast hx hb hK hP hD hS 9 1 rfl rfl (vp_in_nI (by omega) (by decide)) dX8_meanOf_262 (fun H locs hP hD hS => ?_)
                  replace hP : va_P D classes [((a 0), .inr (8, (fX8 a (nI tx) fp (nI t0) wd (nI we) nu na (nI rd) ts (nI ru) (nI rw) (nI ca) df db sd))), (aI k (a 1) 3 (nF dn)), (aI k (a 4) 27 (sg se tm gs)), (aI k (a 2) 72 ffrees), (aI k (a 3) 72 fprices), (aI k (a 25) 4 (nF bm)), (aI k (a 26) 48 fbarSeen), (aI k (a 27) 48 fbarFrom), (aI k (a 28) 4 fruleRounds), (aI k (a 29) 52 (upd ff_250 (Int32.toNatClampNeg (nI kk_250)) (fb_248 kk_250))), (aI k (a 30) 52 fb_248)] H := hP
                  replace hD : va_D A [((a 0), .inr (8, (fX8 a (nI tx) fp (nI t0) wd (nI we) nu na (nI rd) ts (nI ru) (nI rw) (nI ca) df db sd))), (aI k (a 1) 3 (nF dn)), (aI k (a 4) 27 (sg se tm gs)), (aI k (a 2) 72 ffrees), (aI k (a 3) 72 fprices), (aI k (a 25) 4 (nF bm)), (aI k (a 26) 48 fbarSeen), (aI k (a 27) 48 fbarFrom), (aI k (a 28) 4 fruleRounds), (aI k (a 29) 52 (upd ff_250 (Int32.toNatClampNeg (nI kk_250)) (fb_248 kk_250))), (aI k (a 30) 52 fb_248)] := hD
                  generalize (upd ff_250 (Int32.toNatClampNeg (nI kk_250)) (fb_248 kk_250)) = f_252 at hP hD
                  refine lv_iinc (v := (nI (kk_250 + 1))) (lv' := [(11, .int (nI (kk_250 + 1))), (10, .int (nI qi_247)), (9, .int r_244), (8, .int x_210), (7, .int (nI q_140)), (6, .int bg_140), (5, .int x_139), (4, .int (nI (dn sn))), (0, .ref (a 0)), (1, .int (nI sn)), (2, .int (nI kr)), (3, .int p2)]) hx hb dX8_meanOf_263 hl (k := 0) rfl (nI_add kk_250 1) (by decide) rfl (fun ls hl => ?_)
                  refine lv_goto (tgt := 242) hx hb dX8_meanOf_266 (by decide) ?_
                  exact ih_250 _ (kk_250 + 1, f_252) _ _ _ (by omega) ⟨rfl, (by omega), hP, hD, hS, (lv_sub hl [0, 1, 2, 3, 4, 5, 6, 7, 8, 9, 10, 11] rfl)⟩
              · have c_249 : ¬ (50 ≤ kk_248) := fun h => c_249 ((nI_leI (a := 50) (b := kk_248) (by omega) (by omega)).mpr h)
                refine lv_iload hx hb dX8_meanOf_142 (lv_at hl 0 rfl) ?_
                refine lv_iconst (v := 2) hx hb dX8_meanOf_144 (by decide) ?_
                refine lv_idiv hx hb dX8_meanOf_145 (by decide) ?_
                refine lv_ti (y := (nI (kk_248 / 2))) (pk_div (by omega) (by decide) (by decide)) ?_
                refine lv_istore (lv' := [(12, .int (nI (kk_248 / 2))), (11, .int (nI kk_248)), (10, .int (nI qi_247)), (9, .int r_244), (8, .int x_210), (7, .int (nI q_140)), (6, .int bg_140), (5, .int x_139), (4, .int (nI (dn sn))), (0, .ref (a 0)), (1, .int (nI sn)), (2, .int (nI kr)), (3, .int p2)]) hx hb dX8_meanOf_146 hl (by decide) rfl (fun ls hl => ?_)
                refine lv_aload_n hx hb dX8_meanOf_148 rfl (lv_at hl 9 rfl) ?_
                refine lv_iload_n hx hb dX8_meanOf_149 rfl (lv_at hl 11 rfl) ?_
                refine lv_iload hx hb dX8_meanOf_150 (lv_at hl 2 rfl) ?_
                refine lv_iload hx hb dX8_meanOf_152 (lv_at hl 0 rfl) ?_
                refine ro_i (D := D) (va_runV (As := [.int (nI kr), .int (nI qi_247), .int (nI (kk_248 / 2))]) (rest := []) ⟨hx, hb, hml, hown, hts⟩ ((m_isFor l D k st lo a tx t0 we rd ru rw ca fp wd nu na ts df db sd bm fbarSeen fbarFrom kr (nI qi_247) (nI (kk_248 / 2)) hbm (by omega)) H.size) (cwV 3 hts (gV tw_1338 tw_1340 tw_61 tw_87 tw_1341) rfl rfl rfl (by decide +kernel) ⟨Nat.le_of_ble_eq_true rfl, Nat.le_of_ble_eq_true rfl⟩) (pV hS hAlo hlo hP hK (va_Dlo hD hAlo) hZ [0, 5, 6, 7] (by decide) rfl (ci := 8) (q := (RX8, TX8, 44)) (q0 := 0) rfl rfl) rfl rfl hl.1 rfl (lv_room (Nat.le_of_ble_eq_true rfl)) dX8_meanOf_154 ⟨Nat.le_of_ble_eq_true rfl, Nat.le_of_ble_eq_true rfl⟩) hS hA hP (fun r_253 H locs hw_253 hP hS => ?_)
                try dsimp only at hw_253
                refine lv_if_eq (tgt := 173) hx hb dX8_meanOf_157 (by decide) (fun c_254 => ?_) (fun c_254 => ?_)
                · refine lv_iload hx hb dX8_meanOf_173 (lv_at hl 7 rfl) ?_
                  refine lv_aload_n hx hb dX8_meanOf_175 rfl (lv_at hl 9 rfl) ?_
                  refine va_get (D := D) (ci := 8) (v := .ref (a 29)) (C := RX8) (T := TX8) (N := 44) hx hb hts inX8 hown hK hP 0 rfl rfl 28 (by decide) (hts _ tw_1001) (fun _ h9 => h9) rfl dX8_meanOf_176 ?_
                  refine lv_iconst (v := 2) hx hb dX8_meanOf_179 (by decide) ?_
                  refine lv_iload hx hb dX8_meanOf_180 (lv_at hl 0 rfl) ?_
                  refine lv_imul hx hb dX8_meanOf_182 ?_
                  refine lv_ti (y := (nI (2 * (kk_248 / 2)))) (pk_mul 2 (kk_248 / 2)) ?_
                  refine lv_iconst (v := 3) hx hb dX8_meanOf_183 (by decide) ?_
                  refine lv_iadd hx hb dX8_meanOf_184 ?_
                  refine lv_ti (y := (nI (2 * (kk_248 / 2) + 3))) (nI_add (2 * (kk_248 / 2)) 3) ?_
                  refine va_iald hx hb hK hP 9 1 rfl rfl (vp_in_nI (by omega) (by decide)) dX8_meanOf_185 ?_
                  refine lv_ti (y := (ff_247 (2 * (kk_248 / 2) + 3))) (by rw [nI_clamp (by omega)]) ?_
                  refine lv_iadd hx hb dX8_meanOf_186 ?_
                  refine lv_topi (fun x_255 ex_255 => ?_)
                  refine lv_istore (lv' := [(13, .int x_255), (12, .int (nI (kk_248 / 2))), (11, .int (nI kk_248)), (10, .int (nI qi_247)), (9, .int r_244), (8, .int x_210), (7, .int (nI q_140)), (6, .int bg_140), (5, .int x_139), (4, .int (nI (dn sn))), (0, .ref (a 0)), (1, .int (nI sn)), (2, .int (nI kr)), (3, .int p2)]) hx hb dX8_meanOf_187 hl (by decide) rfl (fun ls hl => ?_)
                  refine lv_aload_n hx hb dX8_meanOf_189 rfl (lv_at hl 10 rfl) ?_
                  refine va_get (D := D) (ci := 8) (v := .ref (a 30)) (C := RX8) (T := TX8) (N := 44) hx hb hts inX8 hown hK hP 0 rfl rfl 29 (by decide) (hts _ tw_1002) (fun _ h9 => h9) rfl dX8_meanOf_190 ?_
                  refine lv_iload hx hb dX8_meanOf_193 (lv_at hl 2 rfl) ?_
                  refine lv_aload_n hx hb dX8_meanOf_195 rfl (lv_at hl 10 rfl) ?_
                  refine lv_iload_n hx hb dX8_meanOf_196 rfl (lv_at hl 11 rfl) ?_
                  refine lv_iload hx hb dX8_meanOf_197 (lv_at hl 3 rfl) ?_
                  refine lv_iload hx hb dX8_meanOf_199 (lv_at hl 2 rfl) ?_
                  refine lv_iconst (v := 2) hx hb dX8_meanOf_201 (by decide) ?_
                  refine lv_irem hx hb dX8_meanOf_202 (by decide) ?_
                  refine lv_ti (y := (nI (kk_248 % 2))) (pk_rem (by omega) (by decide) (by decide)) ?_
                  refine lv_iconst (v := 1) hx hb dX8_meanOf_203 (by decide) ?_
                  refine lv_icmp_ne (tgt := 211) hx hb dX8_meanOf_204 (by decide) (fun c_256 => ?_) (fun c_256 => ?_)
                  · have c_256 : ¬ ((kk_248 % 2) = 1) := fun h => c_256 ((nI_eq (a := (kk_248 % 2)) (b := 1) (by omega) (by omega)).mpr h)
                    refine lv_iconst (v := 0) hx hb dX8_meanOf_211 (by decide) ?_
                    refine ro_i (D := D) (va_runV (As := [.int (nI sn), .int (nI qi_247), .int 0]) (rest := [.int (nI kk_248), .ref (a 30)]) ⟨hx, hb, hml, hown, hts⟩ ((m_chanceOf l D k st lo a tx t0 we rd ru rw ca fp wd nu na ts df db sd ffrees se tm gs sn qi_247 0 (by omega) (by omega)) H.size) (cwV 3 hts (gV tw_1210 tw_1212 tw_41 tw_87 tw_1213) rfl rfl rfl (by decide +kernel) ⟨Nat.le_of_ble_eq_true rfl, Nat.le_of_ble_eq_true rfl⟩) (pV hS hAlo hlo hP hK (va_Dlo hD hAlo) hZ [0, 3, 2] (by decide) rfl (ci := 8) (q := (RX8, TX8, 44)) (q0 := 0) rfl rfl) rfl rfl hl.1 rfl (lv_room (Nat.le_of_ble_eq_true rfl)) dX8_meanOf_212 ⟨Nat.le_of_ble_eq_true rfl, Nat.le_of_ble_eq_true rfl⟩) hS hA hP (fun r_257 H locs hw_257 hP hS => ?_)
                    try dsimp only at hw_257
                    refine lv_iload hx hb dX8_meanOf_215 (lv_at hl 0 rfl) ?_
                    refine lv_iload hx hb dX8_meanOf_217 (lv_at hl 8 rfl) ?_
                    refine lv_aload_n hx hb dX8_meanOf_219 rfl (lv_at hl 10 rfl) ?_
                    refine va_get (D := D) (ci := 8) (v := .ref (a 29)) (C := RX8) (T := TX8) (N := 44) hx hb hts inX8 hown hK hP 0 rfl rfl 28 (by decide) (hts _ tw_1001) (fun _ h9 => h9) rfl dX8_meanOf_220 ?_
                    refine lv_iconst (v := 2) hx hb dX8_meanOf_223 (by decide) ?_
                    refine lv_iload hx hb dX8_meanOf_224 (lv_at hl 1 rfl) ?_
                    refine lv_imul hx hb dX8_meanOf_226 ?_
                    refine lv_ti (y := (nI (2 * (kk_248 / 2)))) (pk_mul 2 (kk_248 / 2)) ?_
                    refine va_iald hx hb hK hP 9 1 rfl rfl (vp_in_nI (by omega) (by decide)) dX8_meanOf_227 ?_
                    refine lv_ti (y := (ff_247 (2 * (kk_248 / 2)))) (by rw [nI_clamp (by omega)]) ?_
                    refine lv_iadd hx hb dX8_meanOf_228 ?_
                    refine lv_topi (fun x_258 ex_258 => ?_)
                    refine ro_i (D := D) (va_runS (As := [.int r_257, .int x_255, .int x_258]) (rest := [.int (nI kk_248), .ref (a 30)]) ⟨hx, hb, hml, hown, hts⟩ ((m_mixed l D k st lo r_257 x_255 x_258) H.size) (va_cwS 3 hts (gS tw_1269 tw_1270 tw_87 tw_1271) rfl rfl rfl (by decide +kernel) ⟨Nat.le_of_ble_eq_true rfl, Nat.le_of_ble_eq_true rfl⟩) (pS hS hAlo hlo hP hK (va_Dlo hD hAlo) hZ [] (by decide) rfl) rfl rfl hl.1 rfl (lv_room (Nat.le_of_ble_eq_true rfl)) dX8_meanOf_229 ⟨Nat.le_of_ble_eq_true rfl, Nat.le_of_ble_eq_true rfl⟩) hS hA hP (fun r_259 H locs hw_259 hP hS => ?_)
                    try dsimp only at hw_259
                    refine va_iast hx hb hK hP hD hS 10 1 rfl rfl (vp_in_nI (by omega) (by decide)) dX8_meanOf_232 (fun H locs hP hD hS => ?_)
                    replace hP : va_P D classes [((a 0), .inr (8, (fX8 a (nI tx) fp (nI t0) wd (nI we) nu na (nI rd) ts (nI ru) (nI rw) (nI ca) df db sd))), (aI k (a 1) 3 (nF dn)), (aI k (a 4) 27 (sg se tm gs)), (aI k (a 2) 72 ffrees), (aI k (a 3) 72 fprices), (aI k (a 25) 4 (nF bm)), (aI k (a 26) 48 fbarSeen), (aI k (a 27) 48 fbarFrom), (aI k (a 28) 4 fruleRounds), (aI k (a 29) 52 ff_247), (aI k (a 30) 52 (upd fb_248 (Int32.toNatClampNeg (nI kk_248)) r_259))] H := hP
                    replace hD : va_D A [((a 0), .inr (8, (fX8 a (nI tx) fp (nI t0) wd (nI we) nu na (nI rd) ts (nI ru) (nI rw) (nI ca) df db sd))), (aI k (a 1) 3 (nF dn)), (aI k (a 4) 27 (sg se tm gs)), (aI k (a 2) 72 ffrees), (aI k (a 3) 72 fprices), (aI k (a 25) 4 (nF bm)), (aI k (a 26) 48 fbarSeen), (aI k (a 27) 48 fbarFrom), (aI k (a 28) 4 fruleRounds), (aI k (a 29) 52 ff_247), (aI k (a 30) 52 (upd fb_248 (Int32.toNatClampNeg (nI kk_248)) r_259))] := hD
                    generalize (upd fb_248 (Int32.toNatClampNeg (nI kk_248)) r_259) = f_260 at hP hD
                    refine lv_iinc (v := (nI (kk_248 + 1))) (lv' := [(11, .int (nI (kk_248 + 1))), (13, .int x_255), (12, .int (nI (kk_248 / 2))), (10, .int (nI qi_247)), (9, .int r_244), (8, .int x_210), (7, .int (nI q_140)), (6, .int bg_140), (5, .int x_139), (4, .int (nI (dn sn))), (0, .ref (a 0)), (1, .int (nI sn)), (2, .int (nI kr)), (3, .int p2)]) hx hb dX8_meanOf_233 hl (k := 2) rfl (nI_add kk_248 1) (by decide) rfl (fun ls hl => ?_)
                    refine lv_goto (tgt := 135) hx hb dX8_meanOf_236 (by decide) ?_
                    exact ih_248 _ (kk_248 + 1, f_260) _ _ _ (by omega) ⟨rfl, (by omega), hP, hD, hS, (lv_sub hl [0, 3, 4, 5, 6, 7, 8, 9, 10, 11, 12, 13] rfl)⟩
                  · have c_256 := (nI_eq (a := (kk_248 % 2)) (b := 1) (by omega) (by omega)).mp c_256
                    refine lv_iconst (v := 1) hx hb dX8_meanOf_207 (by decide) ?_
                    refine lv_goto (tgt := 212) hx hb dX8_meanOf_208 (by decide) ?_
                    refine ro_i (D := D) (va_runV (As := [.int (nI sn), .int (nI qi_247), .int 1]) (rest := [.int (nI kk_248), .ref (a 30)]) ⟨hx, hb, hml, hown, hts⟩ ((m_chanceOf l D k st lo a tx t0 we rd ru rw ca fp wd nu na ts df db sd ffrees se tm gs sn qi_247 1 (by omega) (by omega)) H.size) (cwV 3 hts (gV tw_1210 tw_1212 tw_41 tw_87 tw_1213) rfl rfl rfl (by decide +kernel) ⟨Nat.le_of_ble_eq_true rfl, Nat.le_of_ble_eq_true rfl⟩) (pV hS hAlo hlo hP hK (va_Dlo hD hAlo) hZ [0, 3, 2] (by decide) rfl (ci := 8) (q := (RX8, TX8, 44)) (q0 := 0) rfl rfl) rfl rfl hl.1 rfl (lv_room (Nat.le_of_ble_eq_true rfl)) dX8_meanOf_212 ⟨Nat.le_of_ble_eq_true rfl, Nat.le_of_ble_eq_true rfl⟩) hS hA hP (fun r_261 H locs hw_261 hP hS => ?_)
                    try dsimp only at hw_261
                    refine lv_iload hx hb dX8_meanOf_215 (lv_at hl 0 rfl) ?_
                    refine lv_iload hx hb dX8_meanOf_217 (lv_at hl 8 rfl) ?_
                    refine lv_aload_n hx hb dX8_meanOf_219 rfl (lv_at hl 10 rfl) ?_
                    refine va_get (D := D) (ci := 8) (v := .ref (a 29)) (C := RX8) (T := TX8) (N := 44) hx hb hts inX8 hown hK hP 0 rfl rfl 28 (by decide) (hts _ tw_1001) (fun _ h9 => h9) rfl dX8_meanOf_220 ?_
                    refine lv_iconst (v := 2) hx hb dX8_meanOf_223 (by decide) ?_
                    refine lv_iload hx hb dX8_meanOf_224 (lv_at hl 1 rfl) ?_
                    refine lv_imul hx hb dX8_meanOf_226 ?_
                    refine lv_ti (y := (nI (2 * (kk_248 / 2)))) (pk_mul 2 (kk_248 / 2)) ?_
                    refine va_iald hx hb hK hP 9 1 rfl rfl (vp_in_nI (by omega) (by decide)) dX8_meanOf_227 ?_
                    refine lv_ti (y := (ff_247 (2 * (kk_248 / 2)))) (by rw [nI_clamp (by omega)]) ?_
                    refine lv_iadd hx hb dX8_meanOf_228 ?_
                    refine lv_topi (fun x_262 ex_262 => ?_)
                    refine ro_i (D := D) (va_runS (As := [.int r_261, .int x_255, .int x_262]) (rest := [.int (nI kk_248), .ref (a 30)]) ⟨hx, hb, hml, hown, hts⟩ ((m_mixed l D k st lo r_261 x_255 x_262) H.size) (va_cwS 3 hts (gS tw_1269 tw_1270 tw_87 tw_1271) rfl rfl rfl (by decide +kernel) ⟨Nat.le_of_ble_eq_true rfl, Nat.le_of_ble_eq_true rfl⟩) (pS hS hAlo hlo hP hK (va_Dlo hD hAlo) hZ [] (by decide) rfl) rfl rfl hl.1 rfl (lv_room (Nat.le_of_ble_eq_true rfl)) dX8_meanOf_229 ⟨Nat.le_of_ble_eq_true rfl, Nat.le_of_ble_eq_true rfl⟩) hS hA hP (fun r_263 H locs hw_263 hP hS => ?_)
                    try dsimp only at hw_263
                    refine va_iast hx hb hK hP hD hS 10 1 rfl rfl (vp_in_nI (by omega) (by decide)) dX8_meanOf_232 (fun H locs hP hD hS => ?_)
                    replace hP : va_P D classes [((a 0), .inr (8, (fX8 a (nI tx) fp (nI t0) wd (nI we) nu na (nI rd) ts (nI ru) (nI rw) (nI ca) df db sd))), (aI k (a 1) 3 (nF dn)), (aI k (a 4) 27 (sg se tm gs)), (aI k (a 2) 72 ffrees), (aI k (a 3) 72 fprices), (aI k (a 25) 4 (nF bm)), (aI k (a 26) 48 fbarSeen), (aI k (a 27) 48 fbarFrom), (aI k (a 28) 4 fruleRounds), (aI k (a 29) 52 ff_247), (aI k (a 30) 52 (upd fb_248 (Int32.toNatClampNeg (nI kk_248)) r_263))] H := hP
                    replace hD : va_D A [((a 0), .inr (8, (fX8 a (nI tx) fp (nI t0) wd (nI we) nu na (nI rd) ts (nI ru) (nI rw) (nI ca) df db sd))), (aI k (a 1) 3 (nF dn)), (aI k (a 4) 27 (sg se tm gs)), (aI k (a 2) 72 ffrees), (aI k (a 3) 72 fprices), (aI k (a 25) 4 (nF bm)), (aI k (a 26) 48 fbarSeen), (aI k (a 27) 48 fbarFrom), (aI k (a 28) 4 fruleRounds), (aI k (a 29) 52 ff_247), (aI k (a 30) 52 (upd fb_248 (Int32.toNatClampNeg (nI kk_248)) r_263))] := hD
                    generalize (upd fb_248 (Int32.toNatClampNeg (nI kk_248)) r_263) = f_264 at hP hD
                    refine lv_iinc (v := (nI (kk_248 + 1))) (lv' := [(11, .int (nI (kk_248 + 1))), (13, .int x_255), (12, .int (nI (kk_248 / 2))), (10, .int (nI qi_247)), (9, .int r_244), (8, .int x_210), (7, .int (nI q_140)), (6, .int bg_140), (5, .int x_139), (4, .int (nI (dn sn))), (0, .ref (a 0)), (1, .int (nI sn)), (2, .int (nI kr)), (3, .int p2)]) hx hb dX8_meanOf_233 hl (k := 2) rfl (nI_add kk_248 1) (by decide) rfl (fun ls hl => ?_)
                    refine lv_goto (tgt := 135) hx hb dX8_meanOf_236 (by decide) ?_
                    exact ih_248 _ (kk_248 + 1, f_264) _ _ _ (by omega) ⟨rfl, (by omega), hP, hD, hS, (lv_sub hl [0, 3, 4, 5, 6, 7, 8, 9, 10, 11, 12, 13] rfl)⟩
                · refine lv_aload_n hx hb dX8_meanOf_160 rfl (lv_at hl 9 rfl) ?_
                  refine lv_iload_n hx hb dX8_meanOf_161 rfl (lv_at hl 10 rfl) ?_
                  refine lv_iload hx hb dX8_meanOf_162 (lv_at hl 5 rfl) ?_
                  refine lv_iload hx hb dX8_meanOf_164 (lv_at hl 2 rfl) ?_
                  refine lv_iload_n hx hb dX8_meanOf_166 rfl (lv_at hl 12 rfl) ?_
                  refine ro_i (D := D) (va_runV (As := [.int (nI sn), .int (nI q_140), .int (nI qi_247), .int p2]) (rest := []) ⟨hx, hb, hml, hown, hts⟩ ((m_byTaking l D k st lo a tx t0 we rd ru rw ca fp wd nu na ts df db sd dn se tm gs fprices sn qi_247 (nI q_140) p2 (by omega) (by omega)) H.size) (cwV 4 hts (gV tw_1342 tw_1344 tw_62 tw_87 tw_1345) rfl rfl rfl (by decide +kernel) ⟨Nat.le_of_ble_eq_true rfl, Nat.le_of_ble_eq_true rfl⟩) (pV hS hAlo hlo hP hK (va_Dlo hD hAlo) hZ [0, 1, 2, 4] (by decide) rfl (ci := 8) (q := (RX8, TX8, 44)) (q0 := 0) rfl rfl) rfl rfl hl.1 rfl (lv_room (Nat.le_of_ble_eq_true rfl)) dX8_meanOf_167 ⟨Nat.le_of_ble_eq_true rfl, Nat.le_of_ble_eq_true rfl⟩) hS hA hP (fun r_265 H locs hw_265 hP hS => ?_)
                  try dsimp only at hw_265
                  refine lv_goto (tgt := 187) hx hb dX8_meanOf_170 (by decide) ?_
                  refine lv_istore (lv' := [(13, .int r_265), (12, .int (nI (kk_248 / 2))), (11, .int (nI kk_248)), (10, .int (nI qi_247)), (9, .int r_244), (8, .int x_210), (7, .int (nI q_140)), (6, .int bg_140), (5, .int x_139), (4, .int (nI (dn sn))), (0, .ref (a 0)), (1, .int (nI sn)), (2, .int (nI kr)), (3, .int p2)]) hx hb dX8_meanOf_187 hl (by decide) rfl (fun ls hl => ?_)
                  refine lv_aload_n hx hb dX8_meanOf_189 rfl (lv_at hl 10 rfl) ?_
                  refine va_get (D := D) (ci := 8) (v := .ref (a 30)) (C := RX8) (T := TX8) (N := 44) hx hb hts inX8 hown hK hP 0 rfl rfl 29 (by decide) (hts _ tw_1002) (fun _ h9 => h9) rfl dX8_meanOf_190 ?_
                  refine lv_iload hx hb dX8_meanOf_193 (lv_at hl 2 rfl) ?_
                  refine lv_aload_n hx hb dX8_meanOf_195 rfl (lv_at hl 10 rfl) ?_
                  refine lv_iload_n hx hb dX8_meanOf_196 rfl (lv_at hl 11 rfl) ?_
                  refine lv_iload hx hb dX8_meanOf_197 (lv_at hl 3 rfl) ?_
                  refine lv_iload hx hb dX8_meanOf_199 (lv_at hl 2 rfl) ?_
                  refine lv_iconst (v := 2) hx hb dX8_meanOf_201 (by decide) ?_
                  refine lv_irem hx hb dX8_meanOf_202 (by decide) ?_
                  refine lv_ti (y := (nI (kk_248 % 2))) (pk_rem (by omega) (by decide) (by decide)) ?_
                  refine lv_iconst (v := 1) hx hb dX8_meanOf_203 (by decide) ?_
                  refine lv_icmp_ne (tgt := 211) hx hb dX8_meanOf_204 (by decide) (fun c_266 => ?_) (fun c_266 => ?_)
                  · have c_266 : ¬ ((kk_248 % 2) = 1) := fun h => c_266 ((nI_eq (a := (kk_248 % 2)) (b := 1) (by omega) (by omega)).mpr h)
                    refine lv_iconst (v := 0) hx hb dX8_meanOf_211 (by decide) ?_
                    refine ro_i (D := D) (va_runV (As := [.int (nI sn), .int (nI qi_247), .int 0]) (rest := [.int (nI kk_248), .ref (a 30)]) ⟨hx, hb, hml, hown, hts⟩ ((m_chanceOf l D k st lo a tx t0 we rd ru rw ca fp wd nu na ts df db sd ffrees se tm gs sn qi_247 0 (by omega) (by omega)) H.size) (cwV 3 hts (gV tw_1210 tw_1212 tw_41 tw_87 tw_1213) rfl rfl rfl (by decide +kernel) ⟨Nat.le_of_ble_eq_true rfl, Nat.le_of_ble_eq_true rfl⟩) (pV hS hAlo hlo hP hK (va_Dlo hD hAlo) hZ [0, 3, 2] (by decide) rfl (ci := 8) (q := (RX8, TX8, 44)) (q0 := 0) rfl rfl) rfl rfl hl.1 rfl (lv_room (Nat.le_of_ble_eq_true rfl)) dX8_meanOf_212 ⟨Nat.le_of_ble_eq_true rfl, Nat.le_of_ble_eq_true rfl⟩) hS hA hP (fun r_267 H locs hw_267 hP hS => ?_)
                    try dsimp only at hw_267
                    refine lv_iload hx hb dX8_meanOf_215 (lv_at hl 0 rfl) ?_
                    refine lv_iload hx hb dX8_meanOf_217 (lv_at hl 8 rfl) ?_
                    refine lv_aload_n hx hb dX8_meanOf_219 rfl (lv_at hl 10 rfl) ?_
                    refine va_get (D := D) (ci := 8) (v := .ref (a 29)) (C := RX8) (T := TX8) (N := 44) hx hb hts inX8 hown hK hP 0 rfl rfl 28 (by decide) (hts _ tw_1001) (fun _ h9 => h9) rfl dX8_meanOf_220 ?_
                    refine lv_iconst (v := 2) hx hb dX8_meanOf_223 (by decide) ?_
                    refine lv_iload hx hb dX8_meanOf_224 (lv_at hl 1 rfl) ?_
                    refine lv_imul hx hb dX8_meanOf_226 ?_
                    refine lv_ti (y := (nI (2 * (kk_248 / 2)))) (pk_mul 2 (kk_248 / 2)) ?_
                    refine va_iald hx hb hK hP 9 1 rfl rfl (vp_in_nI (by omega) (by decide)) dX8_meanOf_227 ?_
                    refine lv_ti (y := (ff_247 (2 * (kk_248 / 2)))) (by rw [nI_clamp (by omega)]) ?_
                    refine lv_iadd hx hb dX8_meanOf_228 ?_
                    refine lv_topi (fun x_268 ex_268 => ?_)
                    refine ro_i (D := D) (va_runS (As := [.int r_267, .int r_265, .int x_268]) (rest := [.int (nI kk_248), .ref (a 30)]) ⟨hx, hb, hml, hown, hts⟩ ((m_mixed l D k st lo r_267 r_265 x_268) H.size) (va_cwS 3 hts (gS tw_1269 tw_1270 tw_87 tw_1271) rfl rfl rfl (by decide +kernel) ⟨Nat.le_of_ble_eq_true rfl, Nat.le_of_ble_eq_true rfl⟩) (pS hS hAlo hlo hP hK (va_Dlo hD hAlo) hZ [] (by decide) rfl) rfl rfl hl.1 rfl (lv_room (Nat.le_of_ble_eq_true rfl)) dX8_meanOf_229 ⟨Nat.le_of_ble_eq_true rfl, Nat.le_of_ble_eq_true rfl⟩) hS hA hP (fun r_269 H locs hw_269 hP hS => ?_)
                    try dsimp only at hw_269
                    refine va_iast hx hb hK hP hD hS 10 1 rfl rfl (vp_in_nI (by omega) (by decide)) dX8_meanOf_232 (fun H locs hP hD hS => ?_)
                    replace hP : va_P D classes [((a 0), .inr (8, (fX8 a (nI tx) fp (nI t0) wd (nI we) nu na (nI rd) ts (nI ru) (nI rw) (nI ca) df db sd))), (aI k (a 1) 3 (nF dn)), (aI k (a 4) 27 (sg se tm gs)), (aI k (a 2) 72 ffrees), (aI k (a 3) 72 fprices), (aI k (a 25) 4 (nF bm)), (aI k (a 26) 48 fbarSeen), (aI k (a 27) 48 fbarFrom), (aI k (a 28) 4 fruleRounds), (aI k (a 29) 52 ff_247), (aI k (a 30) 52 (upd fb_248 (Int32.toNatClampNeg (nI kk_248)) r_269))] H := hP
                    replace hD : va_D A [((a 0), .inr (8, (fX8 a (nI tx) fp (nI t0) wd (nI we) nu na (nI rd) ts (nI ru) (nI rw) (nI ca) df db sd))), (aI k (a 1) 3 (nF dn)), (aI k (a 4) 27 (sg se tm gs)), (aI k (a 2) 72 ffrees), (aI k (a 3) 72 fprices), (aI k (a 25) 4 (nF bm)), (aI k (a 26) 48 fbarSeen), (aI k (a 27) 48 fbarFrom), (aI k (a 28) 4 fruleRounds), (aI k (a 29) 52 ff_247), (aI k (a 30) 52 (upd fb_248 (Int32.toNatClampNeg (nI kk_248)) r_269))] := hD
                    generalize (upd fb_248 (Int32.toNatClampNeg (nI kk_248)) r_269) = f_270 at hP hD
                    refine lv_iinc (v := (nI (kk_248 + 1))) (lv' := [(11, .int (nI (kk_248 + 1))), (13, .int r_265), (12, .int (nI (kk_248 / 2))), (10, .int (nI qi_247)), (9, .int r_244), (8, .int x_210), (7, .int (nI q_140)), (6, .int bg_140), (5, .int x_139), (4, .int (nI (dn sn))), (0, .ref (a 0)), (1, .int (nI sn)), (2, .int (nI kr)), (3, .int p2)]) hx hb dX8_meanOf_233 hl (k := 2) rfl (nI_add kk_248 1) (by decide) rfl (fun ls hl => ?_)
                    refine lv_goto (tgt := 135) hx hb dX8_meanOf_236 (by decide) ?_
                    exact ih_248 _ (kk_248 + 1, f_270) _ _ _ (by omega) ⟨rfl, (by omega), hP, hD, hS, (lv_sub hl [0, 3, 4, 5, 6, 7, 8, 9, 10, 11, 12, 13] rfl)⟩
                  · have c_266 := (nI_eq (a := (kk_248 % 2)) (b := 1) (by omega) (by omega)).mp c_266
                    refine lv_iconst (v := 1) hx hb dX8_meanOf_207 (by decide) ?_
                    refine lv_goto (tgt := 212) hx hb dX8_meanOf_208 (by decide) ?_
                    refine ro_i (D := D) (va_runV (As := [.int (nI sn), .int (nI qi_247), .int 1]) (rest := [.int (nI kk_248), .ref (a 30)]) ⟨hx, hb, hml, hown, hts⟩ ((m_chanceOf l D k st lo a tx t0 we rd ru rw ca fp wd nu na ts df db sd ffrees se tm gs sn qi_247 1 (by omega) (by omega)) H.size) (cwV 3 hts (gV tw_1210 tw_1212 tw_41 tw_87 tw_1213) rfl rfl rfl (by decide +kernel) ⟨Nat.le_of_ble_eq_true rfl, Nat.le_of_ble_eq_true rfl⟩) (pV hS hAlo hlo hP hK (va_Dlo hD hAlo) hZ [0, 3, 2] (by decide) rfl (ci := 8) (q := (RX8, TX8, 44)) (q0 := 0) rfl rfl) rfl rfl hl.1 rfl (lv_room (Nat.le_of_ble_eq_true rfl)) dX8_meanOf_212 ⟨Nat.le_of_ble_eq_true rfl, Nat.le_of_ble_eq_true rfl⟩) hS hA hP (fun r_271 H locs hw_271 hP hS => ?_)
                    try dsimp only at hw_271
                    refine lv_iload hx hb dX8_meanOf_215 (lv_at hl 0 rfl) ?_
                    refine lv_iload hx hb dX8_meanOf_217 (lv_at hl 8 rfl) ?_
                    refine lv_aload_n hx hb dX8_meanOf_219 rfl (lv_at hl 10 rfl) ?_
                    refine va_get (D := D) (ci := 8) (v := .ref (a 29)) (C := RX8) (T := TX8) (N := 44) hx hb hts inX8 hown hK hP 0 rfl rfl 28 (by decide) (hts _ tw_1001) (fun _ h9 => h9) rfl dX8_meanOf_220 ?_
                    refine lv_iconst (v := 2) hx hb dX8_meanOf_223 (by decide) ?_
                    refine lv_iload hx hb dX8_meanOf_224 (lv_at hl 1 rfl) ?_
                    refine lv_imul hx hb dX8_meanOf_226 ?_
                    refine lv_ti (y := (nI (2 * (kk_248 / 2)))) (pk_mul 2 (kk_248 / 2)) ?_
                    refine va_iald hx hb hK hP 9 1 rfl rfl (vp_in_nI (by omega) (by decide)) dX8_meanOf_227 ?_
                    refine lv_ti (y := (ff_247 (2 * (kk_248 / 2)))) (by rw [nI_clamp (by omega)]) ?_
                    refine lv_iadd hx hb dX8_meanOf_228 ?_
                    refine lv_topi (fun x_272 ex_272 => ?_)
                    refine ro_i (D := D) (va_runS (As := [.int r_271, .int r_265, .int x_272]) (rest := [.int (nI kk_248), .ref (a 30)]) ⟨hx, hb, hml, hown, hts⟩ ((m_mixed l D k st lo r_271 r_265 x_272) H.size) (va_cwS 3 hts (gS tw_1269 tw_1270 tw_87 tw_1271) rfl rfl rfl (by decide +kernel) ⟨Nat.le_of_ble_eq_true rfl, Nat.le_of_ble_eq_true rfl⟩) (pS hS hAlo hlo hP hK (va_Dlo hD hAlo) hZ [] (by decide) rfl) rfl rfl hl.1 rfl (lv_room (Nat.le_of_ble_eq_true rfl)) dX8_meanOf_229 ⟨Nat.le_of_ble_eq_true rfl, Nat.le_of_ble_eq_true rfl⟩) hS hA hP (fun r_273 H locs hw_273 hP hS => ?_)
                    try dsimp only at hw_273
                    refine va_iast hx hb hK hP hD hS 10 1 rfl rfl (vp_in_nI (by omega) (by decide)) dX8_meanOf_232 (fun H locs hP hD hS => ?_)
                    replace hP : va_P D classes [((a 0), .inr (8, (fX8 a (nI tx) fp (nI t0) wd (nI we) nu na (nI rd) ts (nI ru) (nI rw) (nI ca) df db sd))), (aI k (a 1) 3 (nF dn)), (aI k (a 4) 27 (sg se tm gs)), (aI k (a 2) 72 ffrees), (aI k (a 3) 72 fprices), (aI k (a 25) 4 (nF bm)), (aI k (a 26) 48 fbarSeen), (aI k (a 27) 48 fbarFrom), (aI k (a 28) 4 fruleRounds), (aI k (a 29) 52 ff_247), (aI k (a 30) 52 (upd fb_248 (Int32.toNatClampNeg (nI kk_248)) r_273))] H := hP
                    replace hD : va_D A [((a 0), .inr (8, (fX8 a (nI tx) fp (nI t0) wd (nI we) nu na (nI rd) ts (nI ru) (nI rw) (nI ca) df db sd))), (aI k (a 1) 3 (nF dn)), (aI k (a 4) 27 (sg se tm gs)), (aI k (a 2) 72 ffrees), (aI k (a 3) 72 fprices), (aI k (a 25) 4 (nF bm)), (aI k (a 26) 48 fbarSeen), (aI k (a 27) 48 fbarFrom), (aI k (a 28) 4 fruleRounds), (aI k (a 29) 52 ff_247), (aI k (a 30) 52 (upd fb_248 (Int32.toNatClampNeg (nI kk_248)) r_273))] := hD
                    generalize (upd fb_248 (Int32.toNatClampNeg (nI kk_248)) r_273) = f_274 at hP hD
                    refine lv_iinc (v := (nI (kk_248 + 1))) (lv' := [(11, .int (nI (kk_248 + 1))), (13, .int r_265), (12, .int (nI (kk_248 / 2))), (10, .int (nI qi_247)), (9, .int r_244), (8, .int x_210), (7, .int (nI q_140)), (6, .int bg_140), (5, .int x_139), (4, .int (nI (dn sn))), (0, .ref (a 0)), (1, .int (nI sn)), (2, .int (nI kr)), (3, .int p2)]) hx hb dX8_meanOf_233 hl (k := 2) rfl (nI_add kk_248 1) (by decide) rfl (fun ls hl => ?_)
                    refine lv_goto (tgt := 135) hx hb dX8_meanOf_236 (by decide) ?_
                    exact ih_248 _ (kk_248 + 1, f_274) _ _ _ (by omega) ⟨rfl, (by omega), hP, hD, hS, (lv_sub hl [0, 3, 4, 5, 6, 7, 8, 9, 10, 11, 12, 13] rfl)⟩
          · have c_246 : ¬ (52 ≤ kk_245) := fun h => c_246 ((nI_leI (a := 52) (b := kk_245) (by omega) (by omega)).mpr h)
            refine lv_aload_n hx hb dX8_meanOf_106 rfl (lv_at hl 7 rfl) ?_
            refine va_get (D := D) (ci := 8) (v := .ref (a 29)) (C := RX8) (T := TX8) (N := 44) hx hb hts inX8 hown hK hP 0 rfl rfl 28 (by decide) (hts _ tw_1001) (fun _ h9 => h9) rfl dX8_meanOf_107 ?_
            refine lv_iload hx hb dX8_meanOf_110 (lv_at hl 0 rfl) ?_
            refine lv_iload hx hb dX8_meanOf_112 (lv_at hl 1 rfl) ?_
            refine va_iast hx hb hK hP hD hS 9 1 rfl rfl (vp_in_nI (by omega) (by decide)) dX8_meanOf_114 (fun H locs hP hD hS => ?_)
            replace hP : va_P D classes [((a 0), .inr (8, (fX8 a (nI tx) fp (nI t0) wd (nI we) nu na (nI rd) ts (nI ru) (nI rw) (nI ca) df db sd))), (aI k (a 1) 3 (nF dn)), (aI k (a 4) 27 (sg se tm gs)), (aI k (a 2) 72 ffrees), (aI k (a 3) 72 fprices), (aI k (a 25) 4 (nF bm)), (aI k (a 26) 48 fbarSeen), (aI k (a 27) 48 fbarFrom), (aI k (a 28) 4 fruleRounds), (aI k (a 29) 52 (upd ff_245 (Int32.toNatClampNeg (nI kk_245)) r_244)), (aI k (a 30) 52 fb_140)] H := hP
            replace hD : va_D A [((a 0), .inr (8, (fX8 a (nI tx) fp (nI t0) wd (nI we) nu na (nI rd) ts (nI ru) (nI rw) (nI ca) df db sd))), (aI k (a 1) 3 (nF dn)), (aI k (a 4) 27 (sg se tm gs)), (aI k (a 2) 72 ffrees), (aI k (a 3) 72 fprices), (aI k (a 25) 4 (nF bm)), (aI k (a 26) 48 fbarSeen), (aI k (a 27) 48 fbarFrom), (aI k (a 28) 4 fruleRounds), (aI k (a 29) 52 (upd ff_245 (Int32.toNatClampNeg (nI kk_245)) r_244)), (aI k (a 30) 52 fb_140)] := hD
            generalize (upd ff_245 (Int32.toNatClampNeg (nI kk_245)) r_244) = f_275 at hP hD
            refine lv_iinc (v := (nI (kk_245 + 1))) (lv' := [(10, .int (nI (kk_245 + 1))), (9, .int r_244), (8, .int x_210), (7, .int (nI q_140)), (6, .int bg_140), (5, .int x_139), (4, .int (nI (dn sn))), (0, .ref (a 0)), (1, .int (nI sn)), (2, .int (nI kr)), (3, .int p2)]) hx hb dX8_meanOf_115 hl (k := 0) rfl (nI_add kk_245 1) (by decide) rfl (fun ls hl => ?_)
            refine lv_goto (tgt := 99) hx hb dX8_meanOf_118 (by decide) ?_
            exact ih_245 _ (kk_245 + 1, f_275) _ _ _ (by omega) ⟨rfl, (by omega), hP, hD, hS, (lv_sub hl [0, 1, 2, 3, 4, 5, 6, 7, 8, 9, 10] rfl)⟩

