theorem dX8_findRound_0 : decode cX8_findRound 0 = .ok (.aload_n 0, 1) := by decide +kernel
theorem dX8_findRound_1 : decode cX8_findRound 1 = .ok (.getfield 7, 3) := by decide +kernel
theorem dX8_findRound_4 : decode cX8_findRound 4 = .ok (.iload_n 1, 1) := by decide +kernel
theorem dX8_findRound_5 : decode cX8_findRound 5 = .ok (.iaload, 1) := by decide +kernel
theorem dX8_findRound_6 : decode cX8_findRound 6 = .ok (.istore_n 3, 1) := by decide +kernel
theorem dX8_findRound_7 : decode cX8_findRound 7 = .ok (.aload_n 0, 1) := by decide +kernel
theorem dX8_findRound_8 : decode cX8_findRound 8 = .ok (.iload_n 1, 1) := by decide +kernel
theorem dX8_findRound_9 : decode cX8_findRound 9 = .ok (.iload_n 2, 1) := by decide +kernel
theorem dX8_findRound_10 : decode cX8_findRound 10 = .ok (.invokevirtual 248, 3) := by decide +kernel
theorem dX8_findRound_13 : decode cX8_findRound 13 = .ok (.istore 4, 2) := by decide +kernel
theorem dX8_findRound_15 : decode cX8_findRound 15 = .ok (.iload_n 2, 1) := by decide +kernel
theorem dX8_findRound_16 : decode cX8_findRound 16 = .ok (.aload_n 0, 1) := by decide +kernel
theorem dX8_findRound_17 : decode cX8_findRound 17 = .ok (.iload_n 1, 1) := by decide +kernel
theorem dX8_findRound_18 : decode cX8_findRound 18 = .ok (.bipush 7, 2) := by decide +kernel
theorem dX8_findRound_20 : decode cX8_findRound 20 = .ok (.invokevirtual 212, 3) := by decide +kernel
theorem dX8_findRound_23 : decode cX8_findRound 23 = .ok (.if_icmp .ge 33, 3) := by decide +kernel
theorem dX8_findRound_26 : decode cX8_findRound 26 = .ok (.aload_n 0, 1) := by decide +kernel
theorem dX8_findRound_27 : decode cX8_findRound 27 = .ok (.iload_n 1, 1) := by decide +kernel
theorem dX8_findRound_28 : decode cX8_findRound 28 = .ok (.iconst 2, 1) := by decide +kernel
theorem dX8_findRound_29 : decode cX8_findRound 29 = .ok (.invokevirtual 212, 3) := by decide +kernel
theorem dX8_findRound_32 : decode cX8_findRound 32 = .ok (.aload_n 0, 1) := by decide +kernel
theorem dX8_findRound_33 : decode cX8_findRound 33 = .ok (.iload_n 1, 1) := by decide +kernel
theorem dX8_findRound_34 : decode cX8_findRound 34 = .ok (.bipush 6, 2) := by decide +kernel
theorem dX8_findRound_36 : decode cX8_findRound 36 = .ok (.invokevirtual 212, 3) := by decide +kernel
theorem dX8_findRound_39 : decode cX8_findRound 39 = .ok (.imul, 1) := by decide +kernel
theorem dX8_findRound_40 : decode cX8_findRound 40 = .ok (.sipush 1000, 3) := by decide +kernel
theorem dX8_findRound_43 : decode cX8_findRound 43 = .ok (.imul, 1) := by decide +kernel
theorem dX8_findRound_44 : decode cX8_findRound 44 = .ok (.aload_n 0, 1) := by decide +kernel
theorem dX8_findRound_45 : decode cX8_findRound 45 = .ok (.getfield 44, 3) := by decide +kernel
theorem dX8_findRound_48 : decode cX8_findRound 48 = .ok (.iload_n 2, 1) := by decide +kernel
theorem dX8_findRound_49 : decode cX8_findRound 49 = .ok (.iconst 1, 1) := by decide +kernel
theorem dX8_findRound_50 : decode cX8_findRound 50 = .ok (.iadd, 1) := by decide +kernel
theorem dX8_findRound_51 : decode cX8_findRound 51 = .ok (.iaload, 1) := by decide +kernel
theorem dX8_findRound_52 : decode cX8_findRound 52 = .ok (.iadd, 1) := by decide +kernel
theorem dX8_findRound_53 : decode cX8_findRound 53 = .ok (.goto 5, 3) := by decide +kernel
theorem dX8_findRound_56 : decode cX8_findRound 56 = .ok (.iload 4, 2) := by decide +kernel
theorem dX8_findRound_58 : decode cX8_findRound 58 = .ok (.istore 5, 2) := by decide +kernel
theorem dX8_findRound_60 : decode cX8_findRound 60 = .ok (.aload_n 0, 1) := by decide +kernel
theorem dX8_findRound_61 : decode cX8_findRound 61 = .ok (.getfield 50, 3) := by decide +kernel
theorem dX8_findRound_64 : decode cX8_findRound 64 = .ok (.iload_n 2, 1) := by decide +kernel
theorem dX8_findRound_65 : decode cX8_findRound 65 = .ok (.iload 5, 2) := by decide +kernel
theorem dX8_findRound_67 : decode cX8_findRound 67 = .ok (.iload 4, 2) := by decide +kernel
theorem dX8_findRound_69 : decode cX8_findRound 69 = .ok (.if_icmp .ge 7, 3) := by decide +kernel
theorem dX8_findRound_72 : decode cX8_findRound 72 = .ok (.iconst 1, 1) := by decide +kernel
theorem dX8_findRound_73 : decode cX8_findRound 73 = .ok (.goto 4, 3) := by decide +kernel
theorem dX8_findRound_76 : decode cX8_findRound 76 = .ok (.iconst 0, 1) := by decide +kernel
theorem dX8_findRound_77 : decode cX8_findRound 77 = .ok (.bastore, 1) := by decide +kernel
theorem dX8_findRound_78 : decode cX8_findRound 78 = .ok (.aload_n 0, 1) := by decide +kernel
theorem dX8_findRound_79 : decode cX8_findRound 79 = .ok (.getfield 47, 3) := by decide +kernel
theorem dX8_findRound_82 : decode cX8_findRound 82 = .ok (.iload_n 2, 1) := by decide +kernel
theorem dX8_findRound_83 : decode cX8_findRound 83 = .ok (.iload 5, 2) := by decide +kernel
theorem dX8_findRound_85 : decode cX8_findRound 85 = .ok (.iload 4, 2) := by decide +kernel
theorem dX8_findRound_87 : decode cX8_findRound 87 = .ok (.if_icmp .ge 8, 3) := by decide +kernel
theorem dX8_findRound_90 : decode cX8_findRound 90 = .ok (.iload 5, 2) := by decide +kernel
theorem dX8_findRound_92 : decode cX8_findRound 92 = .ok (.goto 5, 3) := by decide +kernel
theorem dX8_findRound_95 : decode cX8_findRound 95 = .ok (.iload 4, 2) := by decide +kernel
theorem dX8_findRound_97 : decode cX8_findRound 97 = .ok (.iastore, 1) := by decide +kernel
theorem dX8_findRound_98 : decode cX8_findRound 98 = .ok (.iload_n 3, 1) := by decide +kernel
theorem dX8_findRound_99 : decode cX8_findRound 99 = .ok (.iconst 1, 1) := by decide +kernel
theorem dX8_findRound_100 : decode cX8_findRound 100 = .ok (.isub, 1) := by decide +kernel
theorem dX8_findRound_101 : decode cX8_findRound 101 = .ok (.istore 6, 2) := by decide +kernel
theorem dX8_findRound_103 : decode cX8_findRound 103 = .ok (.iload 6, 2) := by decide +kernel
theorem dX8_findRound_105 : decode cX8_findRound 105 = .ok (.ifCond .lt 132, 3) := by decide +kernel
theorem dX8_findRound_108 : decode cX8_findRound 108 = .ok (.iconst 0, 1) := by decide +kernel
theorem dX8_findRound_109 : decode cX8_findRound 109 = .ok (.istore 7, 2) := by decide +kernel
theorem dX8_findRound_111 : decode cX8_findRound 111 = .ok (.iload 7, 2) := by decide +kernel
theorem dX8_findRound_113 : decode cX8_findRound 113 = .ok (.iconst 1, 1) := by decide +kernel
theorem dX8_findRound_114 : decode cX8_findRound 114 = .ok (.aload_n 0, 1) := by decide +kernel
theorem dX8_findRound_115 : decode cX8_findRound 115 = .ok (.iload_n 1, 1) := by decide +kernel
theorem dX8_findRound_116 : decode cX8_findRound 116 = .ok (.iload 6, 2) := by decide +kernel
theorem dX8_findRound_118 : decode cX8_findRound 118 = .ok (.invokevirtual 251, 3) := by decide +kernel
theorem dX8_findRound_121 : decode cX8_findRound 121 = .ok (.ishl, 1) := by decide +kernel
theorem dX8_findRound_122 : decode cX8_findRound 122 = .ok (.if_icmp .ge 109, 3) := by decide +kernel
theorem dX8_findRound_125 : decode cX8_findRound 125 = .ok (.aload_n 0, 1) := by decide +kernel
theorem dX8_findRound_126 : decode cX8_findRound 126 = .ok (.iload_n 1, 1) := by decide +kernel
theorem dX8_findRound_127 : decode cX8_findRound 127 = .ok (.iconst 2, 1) := by decide +kernel
theorem dX8_findRound_128 : decode cX8_findRound 128 = .ok (.invokevirtual 212, 3) := by decide +kernel
theorem dX8_findRound_131 : decode cX8_findRound 131 = .ok (.sipush 1000, 3) := by decide +kernel
theorem dX8_findRound_134 : decode cX8_findRound 134 = .ok (.imul, 1) := by decide +kernel
theorem dX8_findRound_135 : decode cX8_findRound 135 = .ok (.iload 6, 2) := by decide +kernel
theorem dX8_findRound_137 : decode cX8_findRound 137 = .ok (.iload_n 3, 1) := by decide +kernel
theorem dX8_findRound_138 : decode cX8_findRound 138 = .ok (.iconst 1, 1) := by decide +kernel
theorem dX8_findRound_139 : decode cX8_findRound 139 = .ok (.isub, 1) := by decide +kernel
theorem dX8_findRound_140 : decode cX8_findRound 140 = .ok (.if_icmp .ne 12, 3) := by decide +kernel
theorem dX8_findRound_143 : decode cX8_findRound 143 = .ok (.aload_n 0, 1) := by decide +kernel
theorem dX8_findRound_144 : decode cX8_findRound 144 = .ok (.getfield 47, 3) := by decide +kernel
theorem dX8_findRound_147 : decode cX8_findRound 147 = .ok (.iload_n 2, 1) := by decide +kernel
theorem dX8_findRound_148 : decode cX8_findRound 148 = .ok (.iaload, 1) := by decide +kernel
theorem dX8_findRound_149 : decode cX8_findRound 149 = .ok (.goto 13, 3) := by decide +kernel
theorem dX8_findRound_152 : decode cX8_findRound 152 = .ok (.aload_n 0, 1) := by decide +kernel
theorem dX8_findRound_153 : decode cX8_findRound 153 = .ok (.iload_n 1, 1) := by decide +kernel
theorem dX8_findRound_154 : decode cX8_findRound 154 = .ok (.iload_n 2, 1) := by decide +kernel
theorem dX8_findRound_155 : decode cX8_findRound 155 = .ok (.iload 6, 2) := by decide +kernel
theorem dX8_findRound_157 : decode cX8_findRound 157 = .ok (.iload 7, 2) := by decide +kernel
theorem dX8_findRound_159 : decode cX8_findRound 159 = .ok (.invokevirtual 254, 3) := by decide +kernel
theorem dX8_findRound_162 : decode cX8_findRound 162 = .ok (.iadd, 1) := by decide +kernel
theorem dX8_findRound_163 : decode cX8_findRound 163 = .ok (.istore 8, 2) := by decide +kernel
theorem dX8_findRound_165 : decode cX8_findRound 165 = .ok (.aload_n 0, 1) := by decide +kernel
theorem dX8_findRound_166 : decode cX8_findRound 166 = .ok (.iload_n 1, 1) := by decide +kernel
theorem dX8_findRound_167 : decode cX8_findRound 167 = .ok (.iload_n 2, 1) := by decide +kernel
theorem dX8_findRound_168 : decode cX8_findRound 168 = .ok (.iload 6, 2) := by decide +kernel
theorem dX8_findRound_170 : decode cX8_findRound 170 = .ok (.invokevirtual 237, 3) := by decide +kernel
theorem dX8_findRound_173 : decode cX8_findRound 173 = .ok (.istore 9, 2) := by decide +kernel
theorem dX8_findRound_175 : decode cX8_findRound 175 = .ok (.aload_n 0, 1) := by decide +kernel
theorem dX8_findRound_176 : decode cX8_findRound 176 = .ok (.getfield 38, 3) := by decide +kernel
theorem dX8_findRound_179 : decode cX8_findRound 179 = .ok (.iload_n 2, 1) := by decide +kernel
theorem dX8_findRound_180 : decode cX8_findRound 180 = .ok (.iload 6, 2) := by decide +kernel
theorem dX8_findRound_182 : decode cX8_findRound 182 = .ok (.iload 7, 2) := by decide +kernel
theorem dX8_findRound_184 : decode cX8_findRound 184 = .ok (.invokestatic 242, 3) := by decide +kernel
theorem dX8_findRound_187 : decode cX8_findRound 187 = .ok (.iload 8, 2) := by decide +kernel
theorem dX8_findRound_189 : decode cX8_findRound 189 = .ok (.iastore, 1) := by decide +kernel
theorem dX8_findRound_190 : decode cX8_findRound 190 = .ok (.aload_n 0, 1) := by decide +kernel
theorem dX8_findRound_191 : decode cX8_findRound 191 = .ok (.getfield 41, 3) := by decide +kernel
theorem dX8_findRound_194 : decode cX8_findRound 194 = .ok (.iload_n 2, 1) := by decide +kernel
theorem dX8_findRound_195 : decode cX8_findRound 195 = .ok (.iload 6, 2) := by decide +kernel
theorem dX8_findRound_197 : decode cX8_findRound 197 = .ok (.iload 7, 2) := by decide +kernel
theorem dX8_findRound_199 : decode cX8_findRound 199 = .ok (.invokestatic 242, 3) := by decide +kernel
theorem dX8_findRound_202 : decode cX8_findRound 202 = .ok (.iload 7, 2) := by decide +kernel
theorem dX8_findRound_204 : decode cX8_findRound 204 = .ok (.iconst 1, 1) := by decide +kernel
theorem dX8_findRound_205 : decode cX8_findRound 205 = .ok (.iand, 1) := by decide +kernel
theorem dX8_findRound_206 : decode cX8_findRound 206 = .ok (.iconst 1, 1) := by decide +kernel
theorem dX8_findRound_207 : decode cX8_findRound 207 = .ok (.if_icmp .ne 15, 3) := by decide +kernel
theorem dX8_findRound_210 : decode cX8_findRound 210 = .ok (.iload 9, 2) := by decide +kernel
theorem dX8_findRound_212 : decode cX8_findRound 212 = .ok (.iload 8, 2) := by decide +kernel
theorem dX8_findRound_214 : decode cX8_findRound 214 = .ok (.if_icmp .gt 8, 3) := by decide +kernel
theorem dX8_findRound_217 : decode cX8_findRound 217 = .ok (.iload 9, 2) := by decide +kernel
theorem dX8_findRound_219 : decode cX8_findRound 219 = .ok (.goto 5, 3) := by decide +kernel
theorem dX8_findRound_222 : decode cX8_findRound 222 = .ok (.iload 8, 2) := by decide +kernel
theorem dX8_findRound_224 : decode cX8_findRound 224 = .ok (.iastore, 1) := by decide +kernel
theorem dX8_findRound_225 : decode cX8_findRound 225 = .ok (.iinc 7 1, 3) := by decide +kernel
theorem dX8_findRound_228 : decode cX8_findRound 228 = .ok (.goto (-117), 3) := by decide +kernel
theorem dX8_findRound_231 : decode cX8_findRound 231 = .ok (.iinc 6 (-1), 3) := by decide +kernel
theorem dX8_findRound_234 : decode cX8_findRound 234 = .ok (.goto (-131), 3) := by decide +kernel
theorem dX8_findRound_237 : decode cX8_findRound 237 = .ok (.aload_n 0, 1) := by decide +kernel
theorem dX8_findRound_238 : decode cX8_findRound 238 = .ok (.getfield 44, 3) := by decide +kernel
theorem dX8_findRound_241 : decode cX8_findRound 241 = .ok (.iload_n 2, 1) := by decide +kernel
theorem dX8_findRound_242 : decode cX8_findRound 242 = .ok (.aload_n 0, 1) := by decide +kernel
theorem dX8_findRound_243 : decode cX8_findRound 243 = .ok (.iload_n 1, 1) := by decide +kernel
theorem dX8_findRound_244 : decode cX8_findRound 244 = .ok (.iload_n 2, 1) := by decide +kernel
theorem dX8_findRound_245 : decode cX8_findRound 245 = .ok (.invokevirtual 257, 3) := by decide +kernel
theorem dX8_findRound_248 : decode cX8_findRound 248 = .ok (.iastore, 1) := by decide +kernel
theorem dX8_findRound_249 : decode cX8_findRound 249 = .ok (.return_, 1) := by decide +kernel
set_option maxHeartbeats 4000000 in
set_option maxRecDepth 100000 in
theorem m_findRound (l : Launch) (D : va_G) (k : Nat → ClassId) (st : Nat → Nat) (lo : Nat) (a : Nat → Nat) (tx : Nat) (t0 : Nat) (we : Nat) (rd : Nat) (ru : Nat) (rw : Nat) (ca : Nat) (fp : Int32) (wd : Int64) (nu : Int32) (na : Int32) (ts : Int32) (df : Int32) (db : Int32) (sd : Int32) (dn : Nat → Nat) (se : Nat → Nat) (tm : Nat → Nat) (gs : Nat → Int32) (ffrees : Nat → Int32) (fprices : Nat → Int32) (fons : Nat → Int32) (fworths : Nat → Int32) (fstarts : Nat → Int32) (fends : Nat → Int32) (fgoesRound : Nat → Int32) (fbegin : Nat → Int32) (sn : Nat) (rn : Nat) (hdn : ∀ j, dn j ≤ 24) (hse : ∀ j, se j ≤ 2) (htm : ∀ j, tm j ≤ 3) (hs : sn < 3) (hrn : rn ≤ 3) (h0 : 0 < dn sn) : CWv l D k st lo yX8_findRound cX8_findRound 10 none ({ frames := 4, cells := 0, slots := 0, locals := 93 }) 0 0 [.ref (a 0), .int (nI sn), .int (nI rn)] [((a 0), .inr (8, (fX8 a (nI tx) fp (nI t0) wd (nI we) nu na (nI rd) ts (nI ru) (nI rw) (nI ca) df db sd))), (aI k (a 1) 3 (nF dn)), (aI k (a 4) 27 (sg se tm gs)), (aI k (a 2) 72 ffrees), (aI k (a 3) 72 fprices), (aI k (a 18) 768 fons), (aI k (a 19) 768 fworths), (aI k (a 20) 5 fstarts), (aI k (a 21) 4 fends), (aZ k (a 22) 4 fgoesRound), (aI k (a 23) 8 fbegin)] (fun (u : (Nat → Int32) × (Nat → Int32) × (Nat → Int32) × (Nat → Int32) × (Nat → Int32) × (Nat → Int32)) => match u with | (fons_, fworths_, fstarts_, fends_, fgoesRound_, fbegin_) => True) (fun (u : (Nat → Int32) × (Nat → Int32) × (Nat → Int32) × (Nat → Int32) × (Nat → Int32) × (Nat → Int32)) => match u with | (fons_, fworths_, fstarts_, fends_, fgoesRound_, fbegin_) => [((a 0), .inr (8, (fX8 a (nI tx) fp (nI t0) wd (nI we) nu na (nI rd) ts (nI ru) (nI rw) (nI ca) df db sd))), (aI k (a 1) 3 (nF dn)), (aI k (a 4) 27 (sg se tm gs)), (aI k (a 2) 72 ffrees), (aI k (a 3) 72 fprices), (aI k (a 18) 768 fons_), (aI k (a 19) 768 fworths_), (aI k (a 20) 5 fstarts_), (aI k (a 21) 4 fends_), (aZ k (a 22) 4 fgoesRound_), (aI k (a 23) 8 fbegin_)]) := by
  intro sz
  refine Met.ofW (cc := cX8_findRound) (maxL := 10) (ret := none) (by decide) rfl ?_
  intro p e s m args below meth c s₁ B hml hv
  obtain ⟨rfl, hsz, hlo, hP, hK, hDL, hZ⟩ := hv
  have hx := B.exec
  have hb := B.bytes
  have hr := B.returns
  have hts := WS_ts B.pre
  have hown : s.vm.findClass RX8 = some m.cls := findClass_of_methodNamed B.named
  have hlocks := B.notSynchronized
  subst hsz
  have hD := hDL.self (sz := s.heap.size)
  have hAlo := A_lo hDL hlo
  generalize hAe : va_A [((a 0), .inr (8, (fX8 a (nI tx) fp (nI t0) wd (nI we) nu na (nI rd) ts (nI ru) (nI rw) (nI ca) df db sd))), (aI k (a 1) 3 (nF dn)), (aI k (a 4) 27 (sg se tm gs)), (aI k (a 2) 72 ffrees), (aI k (a 3) 72 fprices), (aI k (a 18) 768 fons), (aI k (a 19) 768 fworths), (aI k (a 20) 5 fstarts), (aI k (a 21) 4 fends), (aZ k (a 22) 4 fgoesRound), (aI k (a 23) 8 fbegin)] s.heap.size = A at hD hAlo ⊢
  have hA : ∀ q : Nat, s.heap.size ≤ q → A q := fun q h => by rw [← hAe]; exact Or.inr h
  have hS : va_S A s.heap s.heap [] := va_S.rf
  have hl := lv_entry ([.ref (a 0), .int (nI sn), .int (nI rn)]) (n := 10) (Nat.le_of_ble_eq_true rfl)
  rw [lg_entry_eq]
  generalize (lg_sl ([.ref (a 0), .int (nI sn), .int (nI rn)]) ++ List.replicate (10 - (lg_sl ([.ref (a 0), .int (nI sn), .int (nI rn)])).length) Slot.unset).toArray = ls at hl ⊢
  have hl : lv_has ls 10 [(0, .ref (a 0)), (1, .int (nI sn)), (2, .int (nI rn))] := hl
  have hd_9 := hdn sn
  have hd_8 := hse sn
  have hd_7 := htm sn
  refine lv_aload_n hx hb dX8_findRound_0 rfl (lv_at hl 0 rfl) ?_
  refine va_get (D := D) (ci := 8) (v := .ref (a 1)) (C := RX8) (T := TX8) (N := 44) hx hb hts inX8 hown hK hP 0 rfl rfl 0 (by decide) (hts _ tw_973) (fun _ h9 => h9) rfl dX8_findRound_1 ?_
  refine lv_iload_n hx hb dX8_findRound_4 rfl (lv_at hl 1 rfl) ?_
  refine va_iald hx hb hK hP 1 1 rfl rfl (vp_in_nI (by omega) (by decide)) dX8_findRound_5 ?_
  refine lv_ti (y := (nI (dn sn))) (by rw [nI_clamp (by omega)]; rfl) ?_
  refine lv_istore_n (lv' := [(3, .int (nI (dn sn))), (0, .ref (a 0)), (1, .int (nI sn)), (2, .int (nI rn))]) hx hb dX8_findRound_6 rfl hl (by decide) rfl (fun ls hl => ?_)
  refine lv_aload_n hx hb dX8_findRound_7 rfl (lv_at hl 1 rfl) ?_
  refine lv_iload_n hx hb dX8_findRound_8 rfl (lv_at hl 2 rfl) ?_
  refine lv_iload_n hx hb dX8_findRound_9 rfl (lv_at hl 3 rfl) ?_
  refine ro_i (D := D) (va_runV (As := [.int (nI sn), .int (nI rn)]) (rest := []) ⟨hx, hb, hml, hown, hts⟩ ((m_garageOf l D k st lo a tx t0 we rd ru rw ca fp wd nu na ts df db sd dn se tm gs sn (nI rn) (by omega)) s.heap.size) (cwV 2 hts (gV tw_1258 tw_1260 tw_51 tw_87 tw_1261) rfl rfl rfl (by decide +kernel) ⟨Nat.le_of_ble_eq_true rfl, Nat.le_of_ble_eq_true rfl⟩) (pV hS hAlo hlo hP hK (va_Dlo hD hAlo) hZ [0, 1, 2] (by decide) rfl (ci := 8) (q := (RX8, TX8, 44)) (q0 := 0) rfl rfl) rfl rfl hl.1 rfl (lv_room (Nat.le_of_ble_eq_true rfl)) dX8_findRound_10 ⟨Nat.le_of_ble_eq_true rfl, Nat.le_of_ble_eq_true rfl⟩) hS hA hP (fun r_1 H locs hw_1 hP hS => ?_)
  try dsimp only at hw_1
  refine lv_istore (lv' := [(4, .int r_1), (3, .int (nI (dn sn))), (0, .ref (a 0)), (1, .int (nI sn)), (2, .int (nI rn))]) hx hb dX8_findRound_13 hl (by decide) rfl (fun ls hl => ?_)
  refine lv_iload_n hx hb dX8_findRound_15 rfl (lv_at hl 4 rfl) ?_
  refine lv_aload_n hx hb dX8_findRound_16 rfl (lv_at hl 2 rfl) ?_
  refine lv_iload_n hx hb dX8_findRound_17 rfl (lv_at hl 3 rfl) ?_
  refine lv_bipush (v := 7) hx hb dX8_findRound_18 (by decide) ?_
  refine ro_i (D := D) (va_runV (As := [.int (nI sn), .int 7]) (rest := [.int (nI rn)]) ⟨hx, hb, hml, hown, hts⟩ ((m_of l D k st lo a tx t0 we rd ru rw ca fp wd nu na ts df db sd se tm gs sn 7 (by omega) (by omega)) H.size) (cwV 2 hts (gV tw_1194 tw_1196 tw_39 tw_87 tw_1197) rfl rfl rfl (by decide +kernel) ⟨Nat.le_of_ble_eq_true rfl, Nat.le_of_ble_eq_true rfl⟩) (pV hS hAlo hlo hP hK (va_Dlo hD hAlo) hZ [0, 2] (by decide) rfl (ci := 8) (q := (RX8, TX8, 44)) (q0 := 0) rfl rfl) rfl rfl hl.1 rfl (lv_room (Nat.le_of_ble_eq_true rfl)) dX8_findRound_20 ⟨Nat.le_of_ble_eq_true rfl, Nat.le_of_ble_eq_true rfl⟩) hS hA hP (fun r_2 H locs hw_2 hP hS => ?_)
  try dsimp only at hw_2
  obtain rfl := hw_2.trans (sg_tm _ _ _ _)
  refine lv_icmp_ge (tgt := 56) hx hb dX8_findRound_23 (by decide) (fun c_3 => ?_) (fun c_3 => ?_)
  · have c_3 := (nI_leI (a := (tm sn)) (b := rn) (by omega) (by omega)).mp c_3
    refine lv_iload hx hb dX8_findRound_56 (lv_at hl 0 rfl) ?_
    refine lv_istore (lv' := [(5, .int r_1), (4, .int r_1), (3, .int (nI (dn sn))), (0, .ref (a 0)), (1, .int (nI sn)), (2, .int (nI rn))]) hx hb dX8_findRound_58 hl (by decide) rfl (fun ls hl => ?_)
    refine lv_aload_n hx hb dX8_findRound_60 rfl (lv_at hl 3 rfl) ?_
    refine va_get (D := D) (ci := 8) (v := .ref (a 22)) (C := RX8) (T := TX8) (N := 44) hx hb hts inX8 hown hK hP 0 rfl rfl 21 (by decide) (hts _ tw_994) (fun _ h9 => h9) rfl dX8_findRound_61 ?_
    refine lv_iload_n hx hb dX8_findRound_64 rfl (lv_at hl 5 rfl) ?_
    refine lv_iload hx hb dX8_findRound_65 (lv_at hl 0 rfl) ?_
    refine lv_iload hx hb dX8_findRound_67 (lv_at hl 1 rfl) ?_
    refine lv_icmp_ge (tgt := 76) hx hb dX8_findRound_69 (by decide) (fun c_4 => ?_) (fun c_4 => ?_)
    · refine lv_iconst (v := 0) hx hb dX8_findRound_76 (by decide) ?_
      refine va_zast hx hb hK hP hD hS 9 2 rfl rfl (vp_in_nI (by omega) (by decide)) dX8_findRound_77 (fun H locs hP hD hS => ?_)
      replace hP : va_P D classes [((a 0), .inr (8, (fX8 a (nI tx) fp (nI t0) wd (nI we) nu na (nI rd) ts (nI ru) (nI rw) (nI ca) df db sd))), (aI k (a 1) 3 (nF dn)), (aI k (a 4) 27 (sg se tm gs)), (aI k (a 2) 72 ffrees), (aI k (a 3) 72 fprices), (aI k (a 18) 768 fons), (aI k (a 19) 768 fworths), (aI k (a 20) 5 fstarts), (aI k (a 21) 4 fends), (aZ k (a 22) 4 (upd fgoesRound (Int32.toNatClampNeg (nI rn)) (vp_nar .boolean 0))), (aI k (a 23) 8 fbegin)] H := hP
      replace hD : va_D A [((a 0), .inr (8, (fX8 a (nI tx) fp (nI t0) wd (nI we) nu na (nI rd) ts (nI ru) (nI rw) (nI ca) df db sd))), (aI k (a 1) 3 (nF dn)), (aI k (a 4) 27 (sg se tm gs)), (aI k (a 2) 72 ffrees), (aI k (a 3) 72 fprices), (aI k (a 18) 768 fons), (aI k (a 19) 768 fworths), (aI k (a 20) 5 fstarts), (aI k (a 21) 4 fends), (aZ k (a 22) 4 (upd fgoesRound (Int32.toNatClampNeg (nI rn)) (vp_nar .boolean 0))), (aI k (a 23) 8 fbegin)] := hD
      generalize (upd fgoesRound (Int32.toNatClampNeg (nI rn)) (vp_nar .boolean 0)) = f_5 at hP hD
      refine lv_aload_n hx hb dX8_findRound_78 rfl (lv_at hl 3 rfl) ?_
      refine va_get (D := D) (ci := 8) (v := .ref (a 21)) (C := RX8) (T := TX8) (N := 44) hx hb hts inX8 hown hK hP 0 rfl rfl 20 (by decide) (hts _ tw_993) (fun _ h9 => h9) rfl dX8_findRound_79 ?_
      refine lv_iload_n hx hb dX8_findRound_82 rfl (lv_at hl 5 rfl) ?_
      refine lv_iload hx hb dX8_findRound_83 (lv_at hl 0 rfl) ?_
      refine lv_iload hx hb dX8_findRound_85 (lv_at hl 1 rfl) ?_
      refine lv_icmp_ge (tgt := 95) hx hb dX8_findRound_87 (by decide) (fun c_6 => ?_) (fun c_6 => ?_)
      · refine lv_iload hx hb dX8_findRound_95 (lv_at hl 1 rfl) ?_
        refine va_iast hx hb hK hP hD hS 8 1 rfl rfl (vp_in_nI (by omega) (by decide)) dX8_findRound_97 (fun H locs hP hD hS => ?_)
        replace hP : va_P D classes [((a 0), .inr (8, (fX8 a (nI tx) fp (nI t0) wd (nI we) nu na (nI rd) ts (nI ru) (nI rw) (nI ca) df db sd))), (aI k (a 1) 3 (nF dn)), (aI k (a 4) 27 (sg se tm gs)), (aI k (a 2) 72 ffrees), (aI k (a 3) 72 fprices), (aI k (a 18) 768 fons), (aI k (a 19) 768 fworths), (aI k (a 20) 5 fstarts), (aI k (a 21) 4 (upd fends (Int32.toNatClampNeg (nI rn)) r_1)), (aZ k (a 22) 4 f_5), (aI k (a 23) 8 fbegin)] H := hP
        replace hD : va_D A [((a 0), .inr (8, (fX8 a (nI tx) fp (nI t0) wd (nI we) nu na (nI rd) ts (nI ru) (nI rw) (nI ca) df db sd))), (aI k (a 1) 3 (nF dn)), (aI k (a 4) 27 (sg se tm gs)), (aI k (a 2) 72 ffrees), (aI k (a 3) 72 fprices), (aI k (a 18) 768 fons), (aI k (a 19) 768 fworths), (aI k (a 20) 5 fstarts), (aI k (a 21) 4 (upd fends (Int32.toNatClampNeg (nI rn)) r_1)), (aZ k (a 22) 4 f_5), (aI k (a 23) 8 fbegin)] := hD
        generalize (upd fends (Int32.toNatClampNeg (nI rn)) r_1) = f_7 at hP hD
        refine lv_iload_n hx hb dX8_findRound_98 rfl (lv_at hl 2 rfl) ?_
        refine lv_iconst (v := 1) hx hb dX8_findRound_99 (by decide) ?_
        refine lv_isub hx hb dX8_findRound_100 ?_
        refine lv_ti (y := (nI (dn sn) - 1)) rfl ?_
        refine lv_istore (lv' := [(6, .int (nI (dn sn) - 1)), (5, .int r_1), (4, .int r_1), (3, .int (nI (dn sn))), (0, .ref (a 0)), (1, .int (nI sn)), (2, .int (nI rn))]) hx hb dX8_findRound_101 hl (by decide) rfl (fun ls hl => ?_)
        refine W_loop (σ := Nat × (Nat → Int32) × (Nat → Int32)) (fun (n_ : Nat) (x_ : Nat × (Nat → Int32) × (Nat → Int32)) (H : Heap) (locs : List Loc) (ls : Array Slot) => match x_ with | (q_8, fo_8, fw_8) => n_ = 2 * q_8 ∧ (q_8 ≤ dn sn) ∧ va_P D classes [((a 0), .inr (8, (fX8 a (nI tx) fp (nI t0) wd (nI we) nu na (nI rd) ts (nI ru) (nI rw) (nI ca) df db sd))), (aI k (a 1) 3 (nF dn)), (aI k (a 4) 27 (sg se tm gs)), (aI k (a 2) 72 ffrees), (aI k (a 3) 72 fprices), (aI k (a 18) 768 fo_8), (aI k (a 19) 768 fw_8), (aI k (a 20) 5 fstarts), (aI k (a 21) 4 f_7), (aZ k (a 22) 4 f_5), (aI k (a 23) 8 fbegin)] H ∧ va_D A [((a 0), .inr (8, (fX8 a (nI tx) fp (nI t0) wd (nI we) nu na (nI rd) ts (nI ru) (nI rw) (nI ca) df db sd))), (aI k (a 1) 3 (nF dn)), (aI k (a 4) 27 (sg se tm gs)), (aI k (a 2) 72 ffrees), (aI k (a 3) 72 fprices), (aI k (a 18) 768 fo_8), (aI k (a 19) 768 fw_8), (aI k (a 20) 5 fstarts), (aI k (a 21) 4 f_7), (aZ k (a 22) 4 f_5), (aI k (a 23) 8 fbegin)] ∧ va_S A s.heap H locs ∧ lv_has ls 10 [(6, .int (nI q_8 - 1)), (5, .int r_1), (4, .int r_1), (3, .int (nI (dn sn))), (0, .ref (a 0)), (1, .int (nI sn)), (2, .int (nI rn))]) (fun n_8 x_8 H locs ls hI ih_8 => ?_) _ (dn sn, fons, fworths) ⟨rfl, (by omega), hP, hD, hS, (lv_sub hl [0, 1, 2, 3, 4, 5, 6] rfl)⟩
        obtain ⟨q_8, fo_8, fw_8⟩ := x_8
        obtain ⟨hm_8, hv_8, hP, hD, hS, hl⟩ := hI
        subst hm_8
        rcases q_8 with _ | q_8
        · rw [dn0] at hl
          refine lv_iload hx hb dX8_findRound_103 (lv_at hl 0 rfl) ?_
          refine lv_if_lt (tgt := 237) hx hb dX8_findRound_105 (by decide) (fun _ => ?_) (fun h => absurd (by decide) h)
          refine lv_aload_n hx hb dX8_findRound_237 rfl (lv_at hl 4 rfl) ?_
          refine va_get (D := D) (ci := 8) (v := .ref (a 20)) (C := RX8) (T := TX8) (N := 44) hx hb hts inX8 hown hK hP 0 rfl rfl 19 (by decide) (hts _ tw_992) (fun _ h9 => h9) rfl dX8_findRound_238 ?_
          refine lv_iload_n hx hb dX8_findRound_241 rfl (lv_at hl 6 rfl) ?_
          refine lv_aload_n hx hb dX8_findRound_242 rfl (lv_at hl 4 rfl) ?_
          refine lv_iload_n hx hb dX8_findRound_243 rfl (lv_at hl 5 rfl) ?_
          refine lv_iload_n hx hb dX8_findRound_244 rfl (lv_at hl 6 rfl) ?_
          refine rw_i (D := D) (wr := [(aI k (a 3) 72 fprices), (aI k (a 18) 768 fo_8), (aI k (a 20) 5 fstarts), (aI k (a 21) 4 f_7), (aZ k (a 22) 4 f_5)]) (va_runV (As := [.int (nI sn), .int (nI rn)]) (rest := [.int (nI rn), .ref (a 20)]) ⟨hx, hb, hml, hown, hts⟩ ((m_startOf l D k st lo a tx t0 we rd ru rw ca fp wd nu na ts df db sd dn se tm gs ffrees fw_8 fbegin sn rn hdn hse (by omega) (by omega) (by omega)) H.size) (cwV 2 hts (gV tw_1273 tw_1275 tw_53 tw_87 tw_1276) rfl rfl rfl (by decide +kernel) ⟨Nat.le_of_ble_eq_true rfl, Nat.le_of_ble_eq_true rfl⟩) (pV hS hAlo hlo hP hK (va_Dlo hD hAlo) hZ [0, 1, 2, 3, 6, 10] (by decide) rfl (ci := 8) (q := (RX8, TX8, 44)) (q0 := 0) rfl rfl) rfl rfl hl.1 rfl (lv_room (Nat.le_of_ble_eq_true rfl)) dX8_findRound_245 ⟨Nat.le_of_ble_eq_true rfl, Nat.le_of_ble_eq_true rfl⟩) hS hA hP hD [0, 1, 2, 3, 6, 10] [4, 5, 7, 8, 9] rfl rfl (by decide +kernel) (by decide +kernel) (fun r_9 u H locs hw_9 hP hD hS => ?_)
          obtain ⟨fbegin__9, rfl⟩ : ∃ z, z = u := ⟨_, rfl⟩
          replace hP : va_P D classes [(aI k (a 3) 72 fprices), (aI k (a 18) 768 fo_8), (aI k (a 20) 5 fstarts), (aI k (a 21) 4 f_7), (aZ k (a 22) 4 f_5), ((a 0), .inr (8, (fX8 a (nI tx) fp (nI t0) wd (nI we) nu na (nI rd) ts (nI ru) (nI rw) (nI ca) df db sd))), (aI k (a 1) 3 (nF dn)), (aI k (a 4) 27 (sg se tm gs)), (aI k (a 2) 72 ffrees), (aI k (a 19) 768 fw_8), (aI k (a 23) 8 fbegin__9)] H := hP
          replace hD : va_D A [(aI k (a 3) 72 fprices), (aI k (a 18) 768 fo_8), (aI k (a 20) 5 fstarts), (aI k (a 21) 4 f_7), (aZ k (a 22) 4 f_5), ((a 0), .inr (8, (fX8 a (nI tx) fp (nI t0) wd (nI we) nu na (nI rd) ts (nI ru) (nI rw) (nI ca) df db sd))), (aI k (a 1) 3 (nF dn)), (aI k (a 4) 27 (sg se tm gs)), (aI k (a 2) 72 ffrees), (aI k (a 19) 768 fw_8), (aI k (a 23) 8 fbegin__9)] := hD
          try dsimp only at hw_9
          refine va_iast hx hb hK hP hD hS 2 1 rfl rfl (vp_in_nI (by omega) (by decide)) dX8_findRound_248 (fun H locs hP hD hS => ?_)
          replace hP : va_P D classes [(aI k (a 3) 72 fprices), (aI k (a 18) 768 fo_8), (aI k (a 20) 5 (upd fstarts (Int32.toNatClampNeg (nI rn)) r_9)), (aI k (a 21) 4 f_7), (aZ k (a 22) 4 f_5), ((a 0), .inr (8, (fX8 a (nI tx) fp (nI t0) wd (nI we) nu na (nI rd) ts (nI ru) (nI rw) (nI ca) df db sd))), (aI k (a 1) 3 (nF dn)), (aI k (a 4) 27 (sg se tm gs)), (aI k (a 2) 72 ffrees), (aI k (a 19) 768 fw_8), (aI k (a 23) 8 fbegin__9)] H := hP
          replace hD : va_D A [(aI k (a 3) 72 fprices), (aI k (a 18) 768 fo_8), (aI k (a 20) 5 (upd fstarts (Int32.toNatClampNeg (nI rn)) r_9)), (aI k (a 21) 4 f_7), (aZ k (a 22) 4 f_5), ((a 0), .inr (8, (fX8 a (nI tx) fp (nI t0) wd (nI we) nu na (nI rd) ts (nI ru) (nI rw) (nI ca) df db sd))), (aI k (a 1) 3 (nF dn)), (aI k (a 4) 27 (sg se tm gs)), (aI k (a 2) 72 ffrees), (aI k (a 19) 768 fw_8), (aI k (a 23) 8 fbegin__9)] := hD
          generalize (upd fstarts (Int32.toNatClampNeg (nI rn)) r_9) = f_10 at hP hD
          have hP9 := hP.sub (ws' := [((a 0), .inr (8, (fX8 a (nI tx) fp (nI t0) wd (nI we) nu na (nI rd) ts (nI ru) (nI rw) (nI ca) df db sd))), (aI k (a 1) 3 (nF dn)), (aI k (a 4) 27 (sg se tm gs)), (aI k (a 2) 72 ffrees), (aI k (a 3) 72 fprices), (aI k (a 18) 768 fo_8), (aI k (a 19) 768 fw_8), (aI k (a 20) 5 f_10), (aI k (a 21) 4 f_7), (aZ k (a 22) 4 f_5), (aI k (a 23) 8 fbegin__9)]) [5, 6, 7, 8, 0, 1, 9, 2, 3, 4, 10] rfl
          have hD9 := hD.sub (ws' := [((a 0), .inr (8, (fX8 a (nI tx) fp (nI t0) wd (nI we) nu na (nI rd) ts (nI ru) (nI rw) (nI ca) df db sd))), (aI k (a 1) 3 (nF dn)), (aI k (a 4) 27 (sg se tm gs)), (aI k (a 2) 72 ffrees), (aI k (a 3) 72 fprices), (aI k (a 18) 768 fo_8), (aI k (a 19) 768 fw_8), (aI k (a 20) 5 f_10), (aI k (a 21) 4 f_7), (aZ k (a 22) 4 f_5), (aI k (a 23) 8 fbegin__9)]) [5, 6, 7, 8, 0, 1, 9, 2, 3, 4, 10] (by decide +kernel) rfl
          exact W.vret hx hb hr (fun t ht hW => ⟨⟨(fo_8, fw_8, f_10, f_7, f_5, fbegin__9), rfl, trivial, by rw [ht]; exact hP9, hD9⟩, hS.F ht⟩) hS.2.2 dX8_findRound_249
        · rw [nI_pred] at hl
          refine lv_iload hx hb dX8_findRound_103 (lv_at hl 0 rfl) ?_
          refine lv_if_lt (tgt := 237) hx hb dX8_findRound_105 (by decide) (fun h => absurd h (nI_pos0 (by omega))) (fun _ => ?_)
          refine lv_iconst (v := 0) hx hb dX8_findRound_108 (by decide) ?_
          refine lv_istore (lv' := [(7, .int 0), (6, .int (nI q_8)), (5, .int r_1), (4, .int r_1), (3, .int (nI (dn sn))), (0, .ref (a 0)), (1, .int (nI sn)), (2, .int (nI rn))]) hx hb dX8_findRound_109 hl (by decide) rfl (fun ls hl => ?_)
          refine W_loop (σ := Nat × (Nat → Int32) × (Nat → Int32)) (fun (n_ : Nat) (x_ : Nat × (Nat → Int32) × (Nat → Int32)) (H : Heap) (locs : List Loc) (ls : Array Slot) => match x_ with | (g_11, fo_11, fw_11) => n_ = 8 - g_11 ∧ (g_11 ≤ 8) ∧ va_P D classes [((a 0), .inr (8, (fX8 a (nI tx) fp (nI t0) wd (nI we) nu na (nI rd) ts (nI ru) (nI rw) (nI ca) df db sd))), (aI k (a 1) 3 (nF dn)), (aI k (a 4) 27 (sg se tm gs)), (aI k (a 2) 72 ffrees), (aI k (a 3) 72 fprices), (aI k (a 18) 768 fo_11), (aI k (a 19) 768 fw_11), (aI k (a 20) 5 fstarts), (aI k (a 21) 4 f_7), (aZ k (a 22) 4 f_5), (aI k (a 23) 8 fbegin)] H ∧ va_D A [((a 0), .inr (8, (fX8 a (nI tx) fp (nI t0) wd (nI we) nu na (nI rd) ts (nI ru) (nI rw) (nI ca) df db sd))), (aI k (a 1) 3 (nF dn)), (aI k (a 4) 27 (sg se tm gs)), (aI k (a 2) 72 ffrees), (aI k (a 3) 72 fprices), (aI k (a 18) 768 fo_11), (aI k (a 19) 768 fw_11), (aI k (a 20) 5 fstarts), (aI k (a 21) 4 f_7), (aZ k (a 22) 4 f_5), (aI k (a 23) 8 fbegin)] ∧ va_S A s.heap H locs ∧ lv_has ls 10 [(7, .int (nI g_11)), (6, .int (nI q_8)), (5, .int r_1), (4, .int r_1), (3, .int (nI (dn sn))), (0, .ref (a 0)), (1, .int (nI sn)), (2, .int (nI rn))]) (fun n_11 x_11 H locs ls hI ih_11 => ?_) _ (0, fo_8, fw_8) ⟨rfl, (by omega), hP, hD, hS, (lv_sub hl [0, 1, 2, 3, 4, 5, 6, 7] rfl)⟩
          obtain ⟨g_11, fo_11, fw_11⟩ := x_11
          obtain ⟨hm_11, hv_11, hP, hD, hS, hl⟩ := hI
          subst hm_11
          refine lv_iload hx hb dX8_findRound_111 (lv_at hl 0 rfl) ?_
          refine lv_iconst (v := 1) hx hb dX8_findRound_113 (by decide) ?_
          refine lv_aload_n hx hb dX8_findRound_114 rfl (lv_at hl 5 rfl) ?_
          refine lv_iload_n hx hb dX8_findRound_115 rfl (lv_at hl 6 rfl) ?_
          refine lv_iload hx hb dX8_findRound_116 (lv_at hl 1 rfl) ?_
          refine ro_i (D := D) (va_runV (As := [.int (nI sn), .int (nI q_8)]) (rest := [.int 1, .int (nI g_11)]) ⟨hx, hb, hml, hown, hts⟩ ((m_seen l D k st lo a tx t0 we rd ru rw ca fp wd nu na ts df db sd dn se tm gs sn q_8 hdn hse (by omega) (by omega)) H.size) (cwV 2 hts (gV tw_1246 tw_1248 tw_48 tw_87 tw_1249) rfl rfl rfl (by decide +kernel) ⟨Nat.le_of_ble_eq_true rfl, Nat.le_of_ble_eq_true rfl⟩) (pV hS hAlo hlo hP hK (va_Dlo hD hAlo) hZ [0, 1, 2] (by decide) rfl (ci := 8) (q := (RX8, TX8, 44)) (q0 := 0) rfl rfl) rfl rfl hl.1 rfl (lv_room (Nat.le_of_ble_eq_true rfl)) dX8_findRound_118 ⟨Nat.le_of_ble_eq_true rfl, Nat.le_of_ble_eq_true rfl⟩) hS hA hP (fun r_12 H locs hw_12 hP hS => ?_)
          try dsimp only at hw_12
          obtain ⟨sv_13, esv_13⟩ : ∃ z : Nat, z = (if dn sn - q_8 < se sn + 1 then dn sn - q_8 else se sn + 1) := ⟨_, rfl⟩
          rw [← esv_13] at hw_12
          subst hw_12
          have hsv_13 : sv_13 ≤ 3 ∧ sv_13 ≤ dn sn - q_8 ∧ (0 < dn sn - q_8 → 1 ≤ sv_13) := by
            have hse9 := hse sn
            split at esv_13 <;> omega
          obtain ⟨pw_14, epw_14⟩ : ∃ z : Nat, z = 2 ^ sv_13 := ⟨_, rfl⟩
          have hpw_14 : 1 ≤ pw_14 ∧ pw_14 ≤ 8 := by rw [epw_14]; exact pw8 (by omega)
          refine lv_ishl hx hb dX8_findRound_121 ?_
          refine lv_ti (y := (nI pw_14)) (by rw [epw_14]; exact shl1 sv_13 (by omega)) ?_
          refine lv_icmp_ge (tgt := 231) hx hb dX8_findRound_122 (by decide) (fun c_15 => ?_) (fun c_15 => ?_)
          · have c_15 := (nI_leI (a := pw_14) (b := g_11) (by omega) (by omega)).mp c_15
            refine lv_iinc (v := (nI q_8 - 1)) (lv' := [(6, .int (nI q_8 - 1)), (7, .int (nI g_11)), (5, .int r_1), (4, .int r_1), (3, .int (nI (dn sn))), (0, .ref (a 0)), (1, .int (nI sn)), (2, .int (nI rn))]) hx hb dX8_findRound_231 hl (k := 1) rfl (dn1 _) (by decide) rfl (fun ls hl => ?_)
            refine lv_goto (tgt := 103) hx hb dX8_findRound_234 (by decide) ?_
            exact ih_8 _ (q_8, fo_11, fw_11) _ _ _ (by omega) ⟨rfl, (by omega), hP, hD, hS, (lv_sub hl [0, 2, 3, 4, 5, 6, 7] rfl)⟩
          · have c_15 : ¬ (pw_14 ≤ g_11) := fun h => c_15 ((nI_leI (a := pw_14) (b := g_11) (by omega) (by omega)).mpr h)
            refine lv_aload_n hx hb dX8_findRound_125 rfl (lv_at hl 5 rfl) ?_
            refine lv_iload_n hx hb dX8_findRound_126 rfl (lv_at hl 6 rfl) ?_
            refine lv_iconst (v := 2) hx hb dX8_findRound_127 (by decide) ?_
            refine ro_i (D := D) (va_runV (As := [.int (nI sn), .int 2]) (rest := []) ⟨hx, hb, hml, hown, hts⟩ ((m_of l D k st lo a tx t0 we rd ru rw ca fp wd nu na ts df db sd se tm gs sn 2 (by omega) (by omega)) H.size) (cwV 2 hts (gV tw_1194 tw_1196 tw_39 tw_87 tw_1197) rfl rfl rfl (by decide +kernel) ⟨Nat.le_of_ble_eq_true rfl, Nat.le_of_ble_eq_true rfl⟩) (pV hS hAlo hlo hP hK (va_Dlo hD hAlo) hZ [0, 2] (by decide) rfl (ci := 8) (q := (RX8, TX8, 44)) (q0 := 0) rfl rfl) rfl rfl hl.1 rfl (lv_room (Nat.le_of_ble_eq_true rfl)) dX8_findRound_128 ⟨Nat.le_of_ble_eq_true rfl, Nat.le_of_ble_eq_true rfl⟩) hS hA hP (fun r_16 H locs hw_16 hP hS => ?_)
            try dsimp only at hw_16
            refine lv_sipush (v := 1000) hx hb dX8_findRound_131 (by decide) ?_
            refine lv_imul hx hb dX8_findRound_134 ?_
            refine lv_topi (fun x_17 ex_17 => ?_)
            refine lv_iload hx hb dX8_findRound_135 (lv_at hl 1 rfl) ?_
            refine lv_iload_n hx hb dX8_findRound_137 rfl (lv_at hl 4 rfl) ?_
            refine lv_iconst (v := 1) hx hb dX8_findRound_138 (by decide) ?_
            refine lv_isub hx hb dX8_findRound_139 ?_
            refine lv_ti (y := (nI ((dn sn) - 1))) (pk_sub (a := (dn sn)) (b := 1) (by omega)) ?_
            refine lv_icmp_ne (tgt := 152) hx hb dX8_findRound_140 (by decide) (fun c_18 => ?_) (fun c_18 => ?_)
            · have c_18 : ¬ (q_8 = ((dn sn) - 1)) := fun h => c_18 ((nI_eq (a := q_8) (b := ((dn sn) - 1)) (by omega) (by omega)).mpr h)
              refine lv_aload_n hx hb dX8_findRound_152 rfl (lv_at hl 5 rfl) ?_
              refine lv_iload_n hx hb dX8_findRound_153 rfl (lv_at hl 6 rfl) ?_
              refine lv_iload_n hx hb dX8_findRound_154 rfl (lv_at hl 7 rfl) ?_
              refine lv_iload hx hb dX8_findRound_155 (lv_at hl 1 rfl) ?_
              refine lv_iload hx hb dX8_findRound_157 (lv_at hl 0 rfl) ?_
              refine ro_i (D := D) (va_runV (As := [.int (nI sn), .int (nI rn), .int (nI q_8), .int (nI g_11)]) (rest := [.int x_17]) ⟨hx, hb, hml, hown, hts⟩ ((m_on l D k st lo a tx t0 we rd ru rw ca fp wd nu na ts df db sd dn se tm gs ffrees fw_11 sn rn q_8 g_11 hdn hse (by omega) (by omega) (by omega) (by omega)) H.size) (cwV 4 hts (gV tw_1262 tw_1264 tw_52 tw_87 tw_1265) rfl rfl rfl (by decide +kernel) ⟨Nat.le_of_ble_eq_true rfl, Nat.le_of_ble_eq_true rfl⟩) (pV hS hAlo hlo hP hK (va_Dlo hD hAlo) hZ [0, 1, 2, 3, 6] (by decide) rfl (ci := 8) (q := (RX8, TX8, 44)) (q0 := 0) rfl rfl) rfl rfl hl.1 rfl (lv_room (Nat.le_of_ble_eq_true rfl)) dX8_findRound_159 ⟨Nat.le_of_ble_eq_true rfl, Nat.le_of_ble_eq_true rfl⟩) hS hA hP (fun r_19 H locs hw_19 hP hS => ?_)
              try dsimp only at hw_19
              refine lv_iadd hx hb dX8_findRound_162 ?_
              refine lv_topi (fun x_20 ex_20 => ?_)
              refine lv_istore (lv' := [(8, .int x_20), (7, .int (nI g_11)), (6, .int (nI q_8)), (5, .int r_1), (4, .int r_1), (3, .int (nI (dn sn))), (0, .ref (a 0)), (1, .int (nI sn)), (2, .int (nI rn))]) hx hb dX8_findRound_163 hl (by decide) rfl (fun ls hl => ?_)
              refine lv_aload_n hx hb dX8_findRound_165 rfl (lv_at hl 6 rfl) ?_
              refine lv_iload_n hx hb dX8_findRound_166 rfl (lv_at hl 7 rfl) ?_
              refine lv_iload_n hx hb dX8_findRound_167 rfl (lv_at hl 8 rfl) ?_
              refine lv_iload hx hb dX8_findRound_168 (lv_at hl 2 rfl) ?_
              refine ro_i (D := D) (va_runV (As := [.int (nI sn), .int (nI rn), .int (nI q_8)]) (rest := []) ⟨hx, hb, hml, hown, hts⟩ ((m_takingOf l D k st lo a tx t0 we rd ru rw ca fp wd nu na ts df db sd dn se tm gs fprices sn q_8 (nI rn) (by omega) (by omega)) H.size) (cwV 3 hts (gV tw_1222 tw_1224 tw_43 tw_87 tw_1225) rfl rfl rfl (by decide +kernel) ⟨Nat.le_of_ble_eq_true rfl, Nat.le_of_ble_eq_true rfl⟩) (pV hS hAlo hlo hP hK (va_Dlo hD hAlo) hZ [0, 1, 2, 4] (by decide) rfl (ci := 8) (q := (RX8, TX8, 44)) (q0 := 0) rfl rfl) rfl rfl hl.1 rfl (lv_room (Nat.le_of_ble_eq_true rfl)) dX8_findRound_170 ⟨Nat.le_of_ble_eq_true rfl, Nat.le_of_ble_eq_true rfl⟩) hS hA hP (fun r_21 H locs hw_21 hP hS => ?_)
              try dsimp only at hw_21
              refine lv_istore (lv' := [(9, .int r_21), (8, .int x_20), (7, .int (nI g_11)), (6, .int (nI q_8)), (5, .int r_1), (4, .int r_1), (3, .int (nI (dn sn))), (0, .ref (a 0)), (1, .int (nI sn)), (2, .int (nI rn))]) hx hb dX8_findRound_173 hl (by decide) rfl (fun ls hl => ?_)
              refine lv_aload_n hx hb dX8_findRound_175 rfl (lv_at hl 7 rfl) ?_
              refine va_get (D := D) (ci := 8) (v := .ref (a 18)) (C := RX8) (T := TX8) (N := 44) hx hb hts inX8 hown hK hP 0 rfl rfl 17 (by decide) (hts _ tw_990) (fun _ h9 => h9) rfl dX8_findRound_176 ?_
              refine lv_iload_n hx hb dX8_findRound_179 rfl (lv_at hl 9 rfl) ?_
              refine lv_iload hx hb dX8_findRound_180 (lv_at hl 3 rfl) ?_
              refine lv_iload hx hb dX8_findRound_182 (lv_at hl 2 rfl) ?_
              refine ro_i (D := D) (va_runS (As := [.int (nI rn), .int (nI q_8), .int (nI g_11)]) (rest := [.ref (a 18)]) ⟨hx, hb, hml, hown, hts⟩ ((m_at l D k st lo rn q_8 g_11) H.size) (va_cwS 3 hts (gS tw_1266 tw_1267 tw_87 tw_1268) rfl rfl rfl (by decide +kernel) ⟨Nat.le_of_ble_eq_true rfl, Nat.le_of_ble_eq_true rfl⟩) (pS hS hAlo hlo hP hK (va_Dlo hD hAlo) hZ [] (by decide) rfl) rfl rfl hl.1 rfl (lv_room (Nat.le_of_ble_eq_true rfl)) dX8_findRound_184 ⟨Nat.le_of_ble_eq_true rfl, Nat.le_of_ble_eq_true rfl⟩) hS hA hP (fun r_22 H locs hw_22 hP hS => ?_)
              try dsimp only at hw_22
              subst hw_22
              refine lv_iload hx hb dX8_findRound_187 (lv_at hl 1 rfl) ?_
              refine va_iast hx hb hK hP hD hS 5 1 rfl rfl (vp_in_nI (by omega) (by decide)) dX8_findRound_189 (fun H locs hP hD hS => ?_)
              replace hP : va_P D classes [((a 0), .inr (8, (fX8 a (nI tx) fp (nI t0) wd (nI we) nu na (nI rd) ts (nI ru) (nI rw) (nI ca) df db sd))), (aI k (a 1) 3 (nF dn)), (aI k (a 4) 27 (sg se tm gs)), (aI k (a 2) 72 ffrees), (aI k (a 3) 72 fprices), (aI k (a 18) 768 (upd fo_11 (Int32.toNatClampNeg (nI (192 * rn + 8 * q_8 + g_11))) x_20)), (aI k (a 19) 768 fw_11), (aI k (a 20) 5 fstarts), (aI k (a 21) 4 f_7), (aZ k (a 22) 4 f_5), (aI k (a 23) 8 fbegin)] H := hP
              replace hD : va_D A [((a 0), .inr (8, (fX8 a (nI tx) fp (nI t0) wd (nI we) nu na (nI rd) ts (nI ru) (nI rw) (nI ca) df db sd))), (aI k (a 1) 3 (nF dn)), (aI k (a 4) 27 (sg se tm gs)), (aI k (a 2) 72 ffrees), (aI k (a 3) 72 fprices), (aI k (a 18) 768 (upd fo_11 (Int32.toNatClampNeg (nI (192 * rn + 8 * q_8 + g_11))) x_20)), (aI k (a 19) 768 fw_11), (aI k (a 20) 5 fstarts), (aI k (a 21) 4 f_7), (aZ k (a 22) 4 f_5), (aI k (a 23) 8 fbegin)] := hD
              generalize (upd fo_11 (Int32.toNatClampNeg (nI (192 * rn + 8 * q_8 + g_11))) x_20) = f_23 at hP hD
              refine lv_aload_n hx hb dX8_findRound_190 rfl (lv_at hl 7 rfl) ?_
              refine va_get (D := D) (ci := 8) (v := .ref (a 19)) (C := RX8) (T := TX8) (N := 44) hx hb hts inX8 hown hK hP 0 rfl rfl 18 (by decide) (hts _ tw_991) (fun _ h9 => h9) rfl dX8_findRound_191 ?_
              refine lv_iload_n hx hb dX8_findRound_194 rfl (lv_at hl 9 rfl) ?_
              refine lv_iload hx hb dX8_findRound_195 (lv_at hl 3 rfl) ?_
              refine lv_iload hx hb dX8_findRound_197 (lv_at hl 2 rfl) ?_
              refine ro_i (D := D) (va_runS (As := [.int (nI rn), .int (nI q_8), .int (nI g_11)]) (rest := [.ref (a 19)]) ⟨hx, hb, hml, hown, hts⟩ ((m_at l D k st lo rn q_8 g_11) H.size) (va_cwS 3 hts (gS tw_1266 tw_1267 tw_87 tw_1268) rfl rfl rfl (by decide +kernel) ⟨Nat.le_of_ble_eq_true rfl, Nat.le_of_ble_eq_true rfl⟩) (pS hS hAlo hlo hP hK (va_Dlo hD hAlo) hZ [] (by decide) rfl) rfl rfl hl.1 rfl (lv_room (Nat.le_of_ble_eq_true rfl)) dX8_findRound_199 ⟨Nat.le_of_ble_eq_true rfl, Nat.le_of_ble_eq_true rfl⟩) hS hA hP (fun r_24 H locs hw_24 hP hS => ?_)
              try dsimp only at hw_24
              subst hw_24
              refine lv_iload hx hb dX8_findRound_202 (lv_at hl 2 rfl) ?_
              refine lv_iconst (v := 1) hx hb dX8_findRound_204 (by decide) ?_
              refine lv_iand hx hb dX8_findRound_205 ?_
              refine lv_topi (fun x_25 ex_25 => ?_)
              refine lv_iconst (v := 1) hx hb dX8_findRound_206 (by decide) ?_
              refine lv_icmp_ne (tgt := 222) hx hb dX8_findRound_207 (by decide) (fun c_26 => ?_) (fun c_26 => ?_)
              · refine lv_iload hx hb dX8_findRound_222 (lv_at hl 1 rfl) ?_
                refine va_iast hx hb hK hP hD hS 6 1 rfl rfl (vp_in_nI (by omega) (by decide)) dX8_findRound_224 (fun H locs hP hD hS => ?_)
                replace hP : va_P D classes [((a 0), .inr (8, (fX8 a (nI tx) fp (nI t0) wd (nI we) nu na (nI rd) ts (nI ru) (nI rw) (nI ca) df db sd))), (aI k (a 1) 3 (nF dn)), (aI k (a 4) 27 (sg se tm gs)), (aI k (a 2) 72 ffrees), (aI k (a 3) 72 fprices), (aI k (a 18) 768 f_23), (aI k (a 19) 768 (upd fw_11 (Int32.toNatClampNeg (nI (192 * rn + 8 * q_8 + g_11))) x_20)), (aI k (a 20) 5 fstarts), (aI k (a 21) 4 f_7), (aZ k (a 22) 4 f_5), (aI k (a 23) 8 fbegin)] H := hP
                replace hD : va_D A [((a 0), .inr (8, (fX8 a (nI tx) fp (nI t0) wd (nI we) nu na (nI rd) ts (nI ru) (nI rw) (nI ca) df db sd))), (aI k (a 1) 3 (nF dn)), (aI k (a 4) 27 (sg se tm gs)), (aI k (a 2) 72 ffrees), (aI k (a 3) 72 fprices), (aI k (a 18) 768 f_23), (aI k (a 19) 768 (upd fw_11 (Int32.toNatClampNeg (nI (192 * rn + 8 * q_8 + g_11))) x_20)), (aI k (a 20) 5 fstarts), (aI k (a 21) 4 f_7), (aZ k (a 22) 4 f_5), (aI k (a 23) 8 fbegin)] := hD
                generalize (upd fw_11 (Int32.toNatClampNeg (nI (192 * rn + 8 * q_8 + g_11))) x_20) = f_27 at hP hD
                refine lv_iinc (v := (nI (g_11 + 1))) (lv' := [(7, .int (nI (g_11 + 1))), (9, .int r_21), (8, .int x_20), (6, .int (nI q_8)), (5, .int r_1), (4, .int r_1), (3, .int (nI (dn sn))), (0, .ref (a 0)), (1, .int (nI sn)), (2, .int (nI rn))]) hx hb dX8_findRound_225 hl (k := 2) rfl (nI_add g_11 1) (by decide) rfl (fun ls hl => ?_)
                refine lv_goto (tgt := 111) hx hb dX8_findRound_228 (by decide) ?_
                exact ih_11 _ (g_11 + 1, f_23, f_27) _ _ _ (by omega) ⟨rfl, (by omega), hP, hD, hS, (lv_sub hl [0, 3, 4, 5, 6, 7, 8, 9] rfl)⟩
              · refine lv_iload hx hb dX8_findRound_210 (lv_at hl 0 rfl) ?_
                refine lv_iload hx hb dX8_findRound_212 (lv_at hl 1 rfl) ?_
                refine lv_icmp_gt (tgt := 222) hx hb dX8_findRound_214 (by decide) (fun c_28 => ?_) (fun c_28 => ?_)
                · refine lv_iload hx hb dX8_findRound_222 (lv_at hl 1 rfl) ?_
                  refine va_iast hx hb hK hP hD hS 6 1 rfl rfl (vp_in_nI (by omega) (by decide)) dX8_findRound_224 (fun H locs hP hD hS => ?_)
                  replace hP : va_P D classes [((a 0), .inr (8, (fX8 a (nI tx) fp (nI t0) wd (nI we) nu na (nI rd) ts (nI ru) (nI rw) (nI ca) df db sd))), (aI k (a 1) 3 (nF dn)), (aI k (a 4) 27 (sg se tm gs)), (aI k (a 2) 72 ffrees), (aI k (a 3) 72 fprices), (aI k (a 18) 768 f_23), (aI k (a 19) 768 (upd fw_11 (Int32.toNatClampNeg (nI (192 * rn + 8 * q_8 + g_11))) x_20)), (aI k (a 20) 5 fstarts), (aI k (a 21) 4 f_7), (aZ k (a 22) 4 f_5), (aI k (a 23) 8 fbegin)] H := hP
                  replace hD : va_D A [((a 0), .inr (8, (fX8 a (nI tx) fp (nI t0) wd (nI we) nu na (nI rd) ts (nI ru) (nI rw) (nI ca) df db sd))), (aI k (a 1) 3 (nF dn)), (aI k (a 4) 27 (sg se tm gs)), (aI k (a 2) 72 ffrees), (aI k (a 3) 72 fprices), (aI k (a 18) 768 f_23), (aI k (a 19) 768 (upd fw_11 (Int32.toNatClampNeg (nI (192 * rn + 8 * q_8 + g_11))) x_20)), (aI k (a 20) 5 fstarts), (aI k (a 21) 4 f_7), (aZ k (a 22) 4 f_5), (aI k (a 23) 8 fbegin)] := hD
                  generalize (upd fw_11 (Int32.toNatClampNeg (nI (192 * rn + 8 * q_8 + g_11))) x_20) = f_29 at hP hD
                  refine lv_iinc (v := (nI (g_11 + 1))) (lv' := [(7, .int (nI (g_11 + 1))), (9, .int r_21), (8, .int x_20), (6, .int (nI q_8)), (5, .int r_1), (4, .int r_1), (3, .int (nI (dn sn))), (0, .ref (a 0)), (1, .int (nI sn)), (2, .int (nI rn))]) hx hb dX8_findRound_225 hl (k := 2) rfl (nI_add g_11 1) (by decide) rfl (fun ls hl => ?_)
                  refine lv_goto (tgt := 111) hx hb dX8_findRound_228 (by decide) ?_
                  exact ih_11 _ (g_11 + 1, f_23, f_29) _ _ _ (by omega) ⟨rfl, (by omega), hP, hD, hS, (lv_sub hl [0, 3, 4, 5, 6, 7, 8, 9] rfl)⟩
                · refine lv_iload hx hb dX8_findRound_217 (lv_at hl 0 rfl) ?_
                  refine lv_goto (tgt := 224) hx hb dX8_findRound_219 (by decide) ?_
                  refine va_iast hx hb hK hP hD hS 6 1 rfl rfl (vp_in_nI (by omega) (by decide)) dX8_findRound_224 (fun H locs hP hD hS => ?_)
                  replace hP : va_P D classes [((a 0), .inr (8, (fX8 a (nI tx) fp (nI t0) wd (nI we) nu na (nI rd) ts (nI ru) (nI rw) (nI ca) df db sd))), (aI k (a 1) 3 (nF dn)), (aI k (a 4) 27 (sg se tm gs)), (aI k (a 2) 72 ffrees), (aI k (a 3) 72 fprices), (aI k (a 18) 768 f_23), (aI k (a 19) 768 (upd fw_11 (Int32.toNatClampNeg (nI (192 * rn + 8 * q_8 + g_11))) r_21)), (aI k (a 20) 5 fstarts), (aI k (a 21) 4 f_7), (aZ k (a 22) 4 f_5), (aI k (a 23) 8 fbegin)] H := hP
                  replace hD : va_D A [((a 0), .inr (8, (fX8 a (nI tx) fp (nI t0) wd (nI we) nu na (nI rd) ts (nI ru) (nI rw) (nI ca) df db sd))), (aI k (a 1) 3 (nF dn)), (aI k (a 4) 27 (sg se tm gs)), (aI k (a 2) 72 ffrees), (aI k (a 3) 72 fprices), (aI k (a 18) 768 f_23), (aI k (a 19) 768 (upd fw_11 (Int32.toNatClampNeg (nI (192 * rn + 8 * q_8 + g_11))) r_21)), (aI k (a 20) 5 fstarts), (aI k (a 21) 4 f_7), (aZ k (a 22) 4 f_5), (aI k (a 23) 8 fbegin)] := hD
                  generalize (upd fw_11 (Int32.toNatClampNeg (nI (192 * rn + 8 * q_8 + g_11))) r_21) = f_30 at hP hD
                  refine lv_iinc (v := (nI (g_11 + 1))) (lv' := [(7, .int (nI (g_11 + 1))), (9, .int r_21), (8, .int x_20), (6, .int (nI q_8)), (5, .int r_1), (4, .int r_1), (3, .int (nI (dn sn))), (0, .ref (a 0)), (1, .int (nI sn)), (2, .int (nI rn))]) hx hb dX8_findRound_225 hl (k := 2) rfl (nI_add g_11 1) (by decide) rfl (fun ls hl => ?_)
                  refine lv_goto (tgt := 111) hx hb dX8_findRound_228 (by decide) ?_
                  exact ih_11 _ (g_11 + 1, f_23, f_30) _ _ _ (by omega) ⟨rfl, (by omega), hP, hD, hS, (lv_sub hl [0, 3, 4, 5, 6, 7, 8, 9] rfl)⟩
            · have c_18 := (nI_eq (a := q_8) (b := ((dn sn) - 1)) (by omega) (by omega)).mp c_18
              refine lv_aload_n hx hb dX8_findRound_143 rfl (lv_at hl 5 rfl) ?_
              refine va_get (D := D) (ci := 8) (v := .ref (a 21)) (C := RX8) (T := TX8) (N := 44) hx hb hts inX8 hown hK hP 0 rfl rfl 20 (by decide) (hts _ tw_993) (fun _ h9 => h9) rfl dX8_findRound_144 ?_
              refine lv_iload_n hx hb dX8_findRound_147 rfl (lv_at hl 7 rfl) ?_
              refine va_iald hx hb hK hP 8 1 rfl rfl (vp_in_nI (by omega) (by decide)) dX8_findRound_148 ?_
              refine lv_ti (y := (f_7 rn)) (by rw [nI_clamp (by omega)]) ?_
              refine lv_goto (tgt := 162) hx hb dX8_findRound_149 (by decide) ?_
              refine lv_iadd hx hb dX8_findRound_162 ?_
              refine lv_topi (fun x_31 ex_31 => ?_)
              refine lv_istore (lv' := [(8, .int x_31), (7, .int (nI g_11)), (6, .int (nI q_8)), (5, .int r_1), (4, .int r_1), (3, .int (nI (dn sn))), (0, .ref (a 0)), (1, .int (nI sn)), (2, .int (nI rn))]) hx hb dX8_findRound_163 hl (by decide) rfl (fun ls hl => ?_)
              refine lv_aload_n hx hb dX8_findRound_165 rfl (lv_at hl 6 rfl) ?_
              refine lv_iload_n hx hb dX8_findRound_166 rfl (lv_at hl 7 rfl) ?_
              refine lv_iload_n hx hb dX8_findRound_167 rfl (lv_at hl 8 rfl) ?_
              refine lv_iload hx hb dX8_findRound_168 (lv_at hl 2 rfl) ?_
              refine ro_i (D := D) (va_runV (As := [.int (nI sn), .int (nI rn), .int (nI q_8)]) (rest := []) ⟨hx, hb, hml, hown, hts⟩ ((m_takingOf l D k st lo a tx t0 we rd ru rw ca fp wd nu na ts df db sd dn se tm gs fprices sn q_8 (nI rn) (by omega) (by omega)) H.size) (cwV 3 hts (gV tw_1222 tw_1224 tw_43 tw_87 tw_1225) rfl rfl rfl (by decide +kernel) ⟨Nat.le_of_ble_eq_true rfl, Nat.le_of_ble_eq_true rfl⟩) (pV hS hAlo hlo hP hK (va_Dlo hD hAlo) hZ [0, 1, 2, 4] (by decide) rfl (ci := 8) (q := (RX8, TX8, 44)) (q0 := 0) rfl rfl) rfl rfl hl.1 rfl (lv_room (Nat.le_of_ble_eq_true rfl)) dX8_findRound_170 ⟨Nat.le_of_ble_eq_true rfl, Nat.le_of_ble_eq_true rfl⟩) hS hA hP (fun r_32 H locs hw_32 hP hS => ?_)
              try dsimp only at hw_32
              refine lv_istore (lv' := [(9, .int r_32), (8, .int x_31), (7, .int (nI g_11)), (6, .int (nI q_8)), (5, .int r_1), (4, .int r_1), (3, .int (nI (dn sn))), (0, .ref (a 0)), (1, .int (nI sn)), (2, .int (nI rn))]) hx hb dX8_findRound_173 hl (by decide) rfl (fun ls hl => ?_)
              refine lv_aload_n hx hb dX8_findRound_175 rfl (lv_at hl 7 rfl) ?_
              refine va_get (D := D) (ci := 8) (v := .ref (a 18)) (C := RX8) (T := TX8) (N := 44) hx hb hts inX8 hown hK hP 0 rfl rfl 17 (by decide) (hts _ tw_990) (fun _ h9 => h9) rfl dX8_findRound_176 ?_
              refine lv_iload_n hx hb dX8_findRound_179 rfl (lv_at hl 9 rfl) ?_
              refine lv_iload hx hb dX8_findRound_180 (lv_at hl 3 rfl) ?_
              refine lv_iload hx hb dX8_findRound_182 (lv_at hl 2 rfl) ?_
              refine ro_i (D := D) (va_runS (As := [.int (nI rn), .int (nI q_8), .int (nI g_11)]) (rest := [.ref (a 18)]) ⟨hx, hb, hml, hown, hts⟩ ((m_at l D k st lo rn q_8 g_11) H.size) (va_cwS 3 hts (gS tw_1266 tw_1267 tw_87 tw_1268) rfl rfl rfl (by decide +kernel) ⟨Nat.le_of_ble_eq_true rfl, Nat.le_of_ble_eq_true rfl⟩) (pS hS hAlo hlo hP hK (va_Dlo hD hAlo) hZ [] (by decide) rfl) rfl rfl hl.1 rfl (lv_room (Nat.le_of_ble_eq_true rfl)) dX8_findRound_184 ⟨Nat.le_of_ble_eq_true rfl, Nat.le_of_ble_eq_true rfl⟩) hS hA hP (fun r_33 H locs hw_33 hP hS => ?_)
              try dsimp only at hw_33
              subst hw_33
              refine lv_iload hx hb dX8_findRound_187 (lv_at hl 1 rfl) ?_
              refine va_iast hx hb hK hP hD hS 5 1 rfl rfl (vp_in_nI (by omega) (by decide)) dX8_findRound_189 (fun H locs hP hD hS => ?_)
              replace hP : va_P D classes [((a 0), .inr (8, (fX8 a (nI tx) fp (nI t0) wd (nI we) nu na (nI rd) ts (nI ru) (nI rw) (nI ca) df db sd))), (aI k (a 1) 3 (nF dn)), (aI k (a 4) 27 (sg se tm gs)), (aI k (a 2) 72 ffrees), (aI k (a 3) 72 fprices), (aI k (a 18) 768 (upd fo_11 (Int32.toNatClampNeg (nI (192 * rn + 8 * q_8 + g_11))) x_31)), (aI k (a 19) 768 fw_11), (aI k (a 20) 5 fstarts), (aI k (a 21) 4 f_7), (aZ k (a 22) 4 f_5), (aI k (a 23) 8 fbegin)] H := hP
              replace hD : va_D A [((a 0), .inr (8, (fX8 a (nI tx) fp (nI t0) wd (nI we) nu na (nI rd) ts (nI ru) (nI rw) (nI ca) df db sd))), (aI k (a 1) 3 (nF dn)), (aI k (a 4) 27 (sg se tm gs)), (aI k (a 2) 72 ffrees), (aI k (a 3) 72 fprices), (aI k (a 18) 768 (upd fo_11 (Int32.toNatClampNeg (nI (192 * rn + 8 * q_8 + g_11))) x_31)), (aI k (a 19) 768 fw_11), (aI k (a 20) 5 fstarts), (aI k (a 21) 4 f_7), (aZ k (a 22) 4 f_5), (aI k (a 23) 8 fbegin)] := hD
              generalize (upd fo_11 (Int32.toNatClampNeg (nI (192 * rn + 8 * q_8 + g_11))) x_31) = f_34 at hP hD
              refine lv_aload_n hx hb dX8_findRound_190 rfl (lv_at hl 7 rfl) ?_
              refine va_get (D := D) (ci := 8) (v := .ref (a 19)) (C := RX8) (T := TX8) (N := 44) hx hb hts inX8 hown hK hP 0 rfl rfl 18 (by decide) (hts _ tw_991) (fun _ h9 => h9) rfl dX8_findRound_191 ?_
              refine lv_iload_n hx hb dX8_findRound_194 rfl (lv_at hl 9 rfl) ?_
              refine lv_iload hx hb dX8_findRound_195 (lv_at hl 3 rfl) ?_
              refine lv_iload hx hb dX8_findRound_197 (lv_at hl 2 rfl) ?_
              refine ro_i (D := D) (va_runS (As := [.int (nI rn), .int (nI q_8), .int (nI g_11)]) (rest := [.ref (a 19)]) ⟨hx, hb, hml, hown, hts⟩ ((m_at l D k st lo rn q_8 g_11) H.size) (va_cwS 3 hts (gS tw_1266 tw_1267 tw_87 tw_1268) rfl rfl rfl (by decide +kernel) ⟨Nat.le_of_ble_eq_true rfl, Nat.le_of_ble_eq_true rfl⟩) (pS hS hAlo hlo hP hK (va_Dlo hD hAlo) hZ [] (by decide) rfl) rfl rfl hl.1 rfl (lv_room (Nat.le_of_ble_eq_true rfl)) dX8_findRound_199 ⟨Nat.le_of_ble_eq_true rfl, Nat.le_of_ble_eq_true rfl⟩) hS hA hP (fun r_35 H locs hw_35 hP hS => ?_)
              try dsimp only at hw_35
              subst hw_35
              refine lv_iload hx hb dX8_findRound_202 (lv_at hl 2 rfl) ?_
              refine lv_iconst (v := 1) hx hb dX8_findRound_204 (by decide) ?_
              refine lv_iand hx hb dX8_findRound_205 ?_
              refine lv_topi (fun x_36 ex_36 => ?_)
              refine lv_iconst (v := 1) hx hb dX8_findRound_206 (by decide) ?_
              refine lv_icmp_ne (tgt := 222) hx hb dX8_findRound_207 (by decide) (fun c_37 => ?_) (fun c_37 => ?_)
              · refine lv_iload hx hb dX8_findRound_222 (lv_at hl 1 rfl) ?_
                refine va_iast hx hb hK hP hD hS 6 1 rfl rfl (vp_in_nI (by omega) (by decide)) dX8_findRound_224 (fun H locs hP hD hS => ?_)
                replace hP : va_P D classes [((a 0), .inr (8, (fX8 a (nI tx) fp (nI t0) wd (nI we) nu na (nI rd) ts (nI ru) (nI rw) (nI ca) df db sd))), (aI k (a 1) 3 (nF dn)), (aI k (a 4) 27 (sg se tm gs)), (aI k (a 2) 72 ffrees), (aI k (a 3) 72 fprices), (aI k (a 18) 768 f_34), (aI k (a 19) 768 (upd fw_11 (Int32.toNatClampNeg (nI (192 * rn + 8 * q_8 + g_11))) x_31)), (aI k (a 20) 5 fstarts), (aI k (a 21) 4 f_7), (aZ k (a 22) 4 f_5), (aI k (a 23) 8 fbegin)] H := hP
                replace hD : va_D A [((a 0), .inr (8, (fX8 a (nI tx) fp (nI t0) wd (nI we) nu na (nI rd) ts (nI ru) (nI rw) (nI ca) df db sd))), (aI k (a 1) 3 (nF dn)), (aI k (a 4) 27 (sg se tm gs)), (aI k (a 2) 72 ffrees), (aI k (a 3) 72 fprices), (aI k (a 18) 768 f_34), (aI k (a 19) 768 (upd fw_11 (Int32.toNatClampNeg (nI (192 * rn + 8 * q_8 + g_11))) x_31)), (aI k (a 20) 5 fstarts), (aI k (a 21) 4 f_7), (aZ k (a 22) 4 f_5), (aI k (a 23) 8 fbegin)] := hD
                generalize (upd fw_11 (Int32.toNatClampNeg (nI (192 * rn + 8 * q_8 + g_11))) x_31) = f_38 at hP hD
                refine lv_iinc (v := (nI (g_11 + 1))) (lv' := [(7, .int (nI (g_11 + 1))), (9, .int r_32), (8, .int x_31), (6, .int (nI q_8)), (5, .int r_1), (4, .int r_1), (3, .int (nI (dn sn))), (0, .ref (a 0)), (1, .int (nI sn)), (2, .int (nI rn))]) hx hb dX8_findRound_225 hl (k := 2) rfl (nI_add g_11 1) (by decide) rfl (fun ls hl => ?_)
                refine lv_goto (tgt := 111) hx hb dX8_findRound_228 (by decide) ?_
                exact ih_11 _ (g_11 + 1, f_34, f_38) _ _ _ (by omega) ⟨rfl, (by omega), hP, hD, hS, (lv_sub hl [0, 3, 4, 5, 6, 7, 8, 9] rfl)⟩
              · refine lv_iload hx hb dX8_findRound_210 (lv_at hl 0 rfl) ?_
                refine lv_iload hx hb dX8_findRound_212 (lv_at hl 1 rfl) ?_
                refine lv_icmp_gt (tgt := 222) hx hb dX8_findRound_214 (by decide) (fun c_39 => ?_) (fun c_39 => ?_)
                · refine lv_iload hx hb dX8_findRound_222 (lv_at hl 1 rfl) ?_
                  refine va_iast hx hb hK hP hD hS 6 1 rfl rfl (vp_in_nI (by omega) (by decide)) dX8_findRound_224 (fun H locs hP hD hS => ?_)
                  replace hP : va_P D classes [((a 0), .inr (8, (fX8 a (nI tx) fp (nI t0) wd (nI we) nu na (nI rd) ts (nI ru) (nI rw) (nI ca) df db sd))), (aI k (a 1) 3 (nF dn)), (aI k (a 4) 27 (sg se tm gs)), (aI k (a 2) 72 ffrees), (aI k (a 3) 72 fprices), (aI k (a 18) 768 f_34), (aI k (a 19) 768 (upd fw_11 (Int32.toNatClampNeg (nI (192 * rn + 8 * q_8 + g_11))) x_31)), (aI k (a 20) 5 fstarts), (aI k (a 21) 4 f_7), (aZ k (a 22) 4 f_5), (aI k (a 23) 8 fbegin)] H := hP
                  replace hD : va_D A [((a 0), .inr (8, (fX8 a (nI tx) fp (nI t0) wd (nI we) nu na (nI rd) ts (nI ru) (nI rw) (nI ca) df db sd))), (aI k (a 1) 3 (nF dn)), (aI k (a 4) 27 (sg se tm gs)), (aI k (a 2) 72 ffrees), (aI k (a 3) 72 fprices), (aI k (a 18) 768 f_34), (aI k (a 19) 768 (upd fw_11 (Int32.toNatClampNeg (nI (192 * rn + 8 * q_8 + g_11))) x_31)), (aI k (a 20) 5 fstarts), (aI k (a 21) 4 f_7), (aZ k (a 22) 4 f_5), (aI k (a 23) 8 fbegin)] := hD
                  generalize (upd fw_11 (Int32.toNatClampNeg (nI (192 * rn + 8 * q_8 + g_11))) x_31) = f_40 at hP hD
                  refine lv_iinc (v := (nI (g_11 + 1))) (lv' := [(7, .int (nI (g_11 + 1))), (9, .int r_32), (8, .int x_31), (6, .int (nI q_8)), (5, .int r_1), (4, .int r_1), (3, .int (nI (dn sn))), (0, .ref (a 0)), (1, .int (nI sn)), (2, .int (nI rn))]) hx hb dX8_findRound_225 hl (k := 2) rfl (nI_add g_11 1) (by decide) rfl (fun ls hl => ?_)
                  refine lv_goto (tgt := 111) hx hb dX8_findRound_228 (by decide) ?_
                  exact ih_11 _ (g_11 + 1, f_34, f_40) _ _ _ (by omega) ⟨rfl, (by omega), hP, hD, hS, (lv_sub hl [0, 3, 4, 5, 6, 7, 8, 9] rfl)⟩
                · refine lv_iload hx hb dX8_findRound_217 (lv_at hl 0 rfl) ?_
                  refine lv_goto (tgt := 224) hx hb dX8_findRound_219 (by decide) ?_
                  refine va_iast hx hb hK hP hD hS 6 1 rfl rfl (vp_in_nI (by omega) (by decide)) dX8_findRound_224 (fun H locs hP hD hS => ?_)
                  replace hP : va_P D classes [((a 0), .inr (8, (fX8 a (nI tx) fp (nI t0) wd (nI we) nu na (nI rd) ts (nI ru) (nI rw) (nI ca) df db sd))), (aI k (a 1) 3 (nF dn)), (aI k (a 4) 27 (sg se tm gs)), (aI k (a 2) 72 ffrees), (aI k (a 3) 72 fprices), (aI k (a 18) 768 f_34), (aI k (a 19) 768 (upd fw_11 (Int32.toNatClampNeg (nI (192 * rn + 8 * q_8 + g_11))) r_32)), (aI k (a 20) 5 fstarts), (aI k (a 21) 4 f_7), (aZ k (a 22) 4 f_5), (aI k (a 23) 8 fbegin)] H := hP
                  replace hD : va_D A [((a 0), .inr (8, (fX8 a (nI tx) fp (nI t0) wd (nI we) nu na (nI rd) ts (nI ru) (nI rw) (nI ca) df db sd))), (aI k (a 1) 3 (nF dn)), (aI k (a 4) 27 (sg se tm gs)), (aI k (a 2) 72 ffrees), (aI k (a 3) 72 fprices), (aI k (a 18) 768 f_34), (aI k (a 19) 768 (upd fw_11 (Int32.toNatClampNeg (nI (192 * rn + 8 * q_8 + g_11))) r_32)), (aI k (a 20) 5 fstarts), (aI k (a 21) 4 f_7), (aZ k (a 22) 4 f_5), (aI k (a 23) 8 fbegin)] := hD
                  generalize (upd fw_11 (Int32.toNatClampNeg (nI (192 * rn + 8 * q_8 + g_11))) r_32) = f_41 at hP hD
                  refine lv_iinc (v := (nI (g_11 + 1))) (lv' := [(7, .int (nI (g_11 + 1))), (9, .int r_32), (8, .int x_31), (6, .int (nI q_8)), (5, .int r_1), (4, .int r_1), (3, .int (nI (dn sn))), (0, .ref (a 0)), (1, .int (nI sn)), (2, .int (nI rn))]) hx hb dX8_findRound_225 hl (k := 2) rfl (nI_add g_11 1) (by decide) rfl (fun ls hl => ?_)
                  refine lv_goto (tgt := 111) hx hb dX8_findRound_228 (by decide) ?_
                  exact ih_11 _ (g_11 + 1, f_34, f_41) _ _ _ (by omega) ⟨rfl, (by omega), hP, hD, hS, (lv_sub hl [0, 3, 4, 5, 6, 7, 8, 9] rfl)⟩
      · refine lv_iload hx hb dX8_findRound_90 (lv_at hl 0 rfl) ?_
        refine lv_goto (tgt := 97) hx hb dX8_findRound_92 (by decide) ?_
        refine va_iast hx hb hK hP hD hS 8 1 rfl rfl (vp_in_nI (by omega) (by decide)) dX8_findRound_97 (fun H locs hP hD hS => ?_)
        replace hP : va_P D classes [((a 0), .inr (8, (fX8 a (nI tx) fp (nI t0) wd (nI we) nu na (nI rd) ts (nI ru) (nI rw) (nI ca) df db sd))), (aI k (a 1) 3 (nF dn)), (aI k (a 4) 27 (sg se tm gs)), (aI k (a 2) 72 ffrees), (aI k (a 3) 72 fprices), (aI k (a 18) 768 fons), (aI k (a 19) 768 fworths), (aI k (a 20) 5 fstarts), (aI k (a 21) 4 (upd fends (Int32.toNatClampNeg (nI rn)) r_1)), (aZ k (a 22) 4 f_5), (aI k (a 23) 8 fbegin)] H := hP
        replace hD : va_D A [((a 0), .inr (8, (fX8 a (nI tx) fp (nI t0) wd (nI we) nu na (nI rd) ts (nI ru) (nI rw) (nI ca) df db sd))), (aI k (a 1) 3 (nF dn)), (aI k (a 4) 27 (sg se tm gs)), (aI k (a 2) 72 ffrees), (aI k (a 3) 72 fprices), (aI k (a 18) 768 fons), (aI k (a 19) 768 fworths), (aI k (a 20) 5 fstarts), (aI k (a 21) 4 (upd fends (Int32.toNatClampNeg (nI rn)) r_1)), (aZ k (a 22) 4 f_5), (aI k (a 23) 8 fbegin)] := hD
        generalize (upd fends (Int32.toNatClampNeg (nI rn)) r_1) = f_42 at hP hD
        refine lv_iload_n hx hb dX8_findRound_98 rfl (lv_at hl 2 rfl) ?_
        refine lv_iconst (v := 1) hx hb dX8_findRound_99 (by decide) ?_
        refine lv_isub hx hb dX8_findRound_100 ?_
        refine lv_ti (y := (nI (dn sn) - 1)) rfl ?_
        refine lv_istore (lv' := [(6, .int (nI (dn sn) - 1)), (5, .int r_1), (4, .int r_1), (3, .int (nI (dn sn))), (0, .ref (a 0)), (1, .int (nI sn)), (2, .int (nI rn))]) hx hb dX8_findRound_101 hl (by decide) rfl (fun ls hl => ?_)
        refine W_loop (σ := Nat × (Nat → Int32) × (Nat → Int32)) (fun (n_ : Nat) (x_ : Nat × (Nat → Int32) × (Nat → Int32)) (H : Heap) (locs : List Loc) (ls : Array Slot) => match x_ with | (q_43, fo_43, fw_43) => n_ = 2 * q_43 ∧ (q_43 ≤ dn sn) ∧ va_P D classes [((a 0), .inr (8, (fX8 a (nI tx) fp (nI t0) wd (nI we) nu na (nI rd) ts (nI ru) (nI rw) (nI ca) df db sd))), (aI k (a 1) 3 (nF dn)), (aI k (a 4) 27 (sg se tm gs)), (aI k (a 2) 72 ffrees), (aI k (a 3) 72 fprices), (aI k (a 18) 768 fo_43), (aI k (a 19) 768 fw_43), (aI k (a 20) 5 fstarts), (aI k (a 21) 4 f_42), (aZ k (a 22) 4 f_5), (aI k (a 23) 8 fbegin)] H ∧ va_D A [((a 0), .inr (8, (fX8 a (nI tx) fp (nI t0) wd (nI we) nu na (nI rd) ts (nI ru) (nI rw) (nI ca) df db sd))), (aI k (a 1) 3 (nF dn)), (aI k (a 4) 27 (sg se tm gs)), (aI k (a 2) 72 ffrees), (aI k (a 3) 72 fprices), (aI k (a 18) 768 fo_43), (aI k (a 19) 768 fw_43), (aI k (a 20) 5 fstarts), (aI k (a 21) 4 f_42), (aZ k (a 22) 4 f_5), (aI k (a 23) 8 fbegin)] ∧ va_S A s.heap H locs ∧ lv_has ls 10 [(6, .int (nI q_43 - 1)), (5, .int r_1), (4, .int r_1), (3, .int (nI (dn sn))), (0, .ref (a 0)), (1, .int (nI sn)), (2, .int (nI rn))]) (fun n_43 x_43 H locs ls hI ih_43 => ?_) _ (dn sn, fons, fworths) ⟨rfl, (by omega), hP, hD, hS, (lv_sub hl [0, 1, 2, 3, 4, 5, 6] rfl)⟩
        obtain ⟨q_43, fo_43, fw_43⟩ := x_43
        obtain ⟨hm_43, hv_43, hP, hD, hS, hl⟩ := hI
        subst hm_43
        rcases q_43 with _ | q_43
        · rw [dn0] at hl
          refine lv_iload hx hb dX8_findRound_103 (lv_at hl 0 rfl) ?_
          refine lv_if_lt (tgt := 237) hx hb dX8_findRound_105 (by decide) (fun _ => ?_) (fun h => absurd (by decide) h)
          refine lv_aload_n hx hb dX8_findRound_237 rfl (lv_at hl 4 rfl) ?_
          refine va_get (D := D) (ci := 8) (v := .ref (a 20)) (C := RX8) (T := TX8) (N := 44) hx hb hts inX8 hown hK hP 0 rfl rfl 19 (by decide) (hts _ tw_992) (fun _ h9 => h9) rfl dX8_findRound_238 ?_
          refine lv_iload_n hx hb dX8_findRound_241 rfl (lv_at hl 6 rfl) ?_
          refine lv_aload_n hx hb dX8_findRound_242 rfl (lv_at hl 4 rfl) ?_
          refine lv_iload_n hx hb dX8_findRound_243 rfl (lv_at hl 5 rfl) ?_
          refine lv_iload_n hx hb dX8_findRound_244 rfl (lv_at hl 6 rfl) ?_
          refine rw_i (D := D) (wr := [(aI k (a 3) 72 fprices), (aI k (a 18) 768 fo_43), (aI k (a 20) 5 fstarts), (aI k (a 21) 4 f_42), (aZ k (a 22) 4 f_5)]) (va_runV (As := [.int (nI sn), .int (nI rn)]) (rest := [.int (nI rn), .ref (a 20)]) ⟨hx, hb, hml, hown, hts⟩ ((m_startOf l D k st lo a tx t0 we rd ru rw ca fp wd nu na ts df db sd dn se tm gs ffrees fw_43 fbegin sn rn hdn hse (by omega) (by omega) (by omega)) H.size) (cwV 2 hts (gV tw_1273 tw_1275 tw_53 tw_87 tw_1276) rfl rfl rfl (by decide +kernel) ⟨Nat.le_of_ble_eq_true rfl, Nat.le_of_ble_eq_true rfl⟩) (pV hS hAlo hlo hP hK (va_Dlo hD hAlo) hZ [0, 1, 2, 3, 6, 10] (by decide) rfl (ci := 8) (q := (RX8, TX8, 44)) (q0 := 0) rfl rfl) rfl rfl hl.1 rfl (lv_room (Nat.le_of_ble_eq_true rfl)) dX8_findRound_245 ⟨Nat.le_of_ble_eq_true rfl, Nat.le_of_ble_eq_true rfl⟩) hS hA hP hD [0, 1, 2, 3, 6, 10] [4, 5, 7, 8, 9] rfl rfl (by decide +kernel) (by decide +kernel) (fun r_44 u H locs hw_44 hP hD hS => ?_)
          obtain ⟨fbegin__44, rfl⟩ : ∃ z, z = u := ⟨_, rfl⟩
          replace hP : va_P D classes [(aI k (a 3) 72 fprices), (aI k (a 18) 768 fo_43), (aI k (a 20) 5 fstarts), (aI k (a 21) 4 f_42), (aZ k (a 22) 4 f_5), ((a 0), .inr (8, (fX8 a (nI tx) fp (nI t0) wd (nI we) nu na (nI rd) ts (nI ru) (nI rw) (nI ca) df db sd))), (aI k (a 1) 3 (nF dn)), (aI k (a 4) 27 (sg se tm gs)), (aI k (a 2) 72 ffrees), (aI k (a 19) 768 fw_43), (aI k (a 23) 8 fbegin__44)] H := hP
          replace hD : va_D A [(aI k (a 3) 72 fprices), (aI k (a 18) 768 fo_43), (aI k (a 20) 5 fstarts), (aI k (a 21) 4 f_42), (aZ k (a 22) 4 f_5), ((a 0), .inr (8, (fX8 a (nI tx) fp (nI t0) wd (nI we) nu na (nI rd) ts (nI ru) (nI rw) (nI ca) df db sd))), (aI k (a 1) 3 (nF dn)), (aI k (a 4) 27 (sg se tm gs)), (aI k (a 2) 72 ffrees), (aI k (a 19) 768 fw_43), (aI k (a 23) 8 fbegin__44)] := hD
          try dsimp only at hw_44
          refine va_iast hx hb hK hP hD hS 2 1 rfl rfl (vp_in_nI (by omega) (by decide)) dX8_findRound_248 (fun H locs hP hD hS => ?_)
          replace hP : va_P D classes [(aI k (a 3) 72 fprices), (aI k (a 18) 768 fo_43), (aI k (a 20) 5 (upd fstarts (Int32.toNatClampNeg (nI rn)) r_44)), (aI k (a 21) 4 f_42), (aZ k (a 22) 4 f_5), ((a 0), .inr (8, (fX8 a (nI tx) fp (nI t0) wd (nI we) nu na (nI rd) ts (nI ru) (nI rw) (nI ca) df db sd))), (aI k (a 1) 3 (nF dn)), (aI k (a 4) 27 (sg se tm gs)), (aI k (a 2) 72 ffrees), (aI k (a 19) 768 fw_43), (aI k (a 23) 8 fbegin__44)] H := hP
          replace hD : va_D A [(aI k (a 3) 72 fprices), (aI k (a 18) 768 fo_43), (aI k (a 20) 5 (upd fstarts (Int32.toNatClampNeg (nI rn)) r_44)), (aI k (a 21) 4 f_42), (aZ k (a 22) 4 f_5), ((a 0), .inr (8, (fX8 a (nI tx) fp (nI t0) wd (nI we) nu na (nI rd) ts (nI ru) (nI rw) (nI ca) df db sd))), (aI k (a 1) 3 (nF dn)), (aI k (a 4) 27 (sg se tm gs)), (aI k (a 2) 72 ffrees), (aI k (a 19) 768 fw_43), (aI k (a 23) 8 fbegin__44)] := hD
          generalize (upd fstarts (Int32.toNatClampNeg (nI rn)) r_44) = f_45 at hP hD
          have hP9 := hP.sub (ws' := [((a 0), .inr (8, (fX8 a (nI tx) fp (nI t0) wd (nI we) nu na (nI rd) ts (nI ru) (nI rw) (nI ca) df db sd))), (aI k (a 1) 3 (nF dn)), (aI k (a 4) 27 (sg se tm gs)), (aI k (a 2) 72 ffrees), (aI k (a 3) 72 fprices), (aI k (a 18) 768 fo_43), (aI k (a 19) 768 fw_43), (aI k (a 20) 5 f_45), (aI k (a 21) 4 f_42), (aZ k (a 22) 4 f_5), (aI k (a 23) 8 fbegin__44)]) [5, 6, 7, 8, 0, 1, 9, 2, 3, 4, 10] rfl
          have hD9 := hD.sub (ws' := [((a 0), .inr (8, (fX8 a (nI tx) fp (nI t0) wd (nI we) nu na (nI rd) ts (nI ru) (nI rw) (nI ca) df db sd))), (aI k (a 1) 3 (nF dn)), (aI k (a 4) 27 (sg se tm gs)), (aI k (a 2) 72 ffrees), (aI k (a 3) 72 fprices), (aI k (a 18) 768 fo_43), (aI k (a 19) 768 fw_43), (aI k (a 20) 5 f_45), (aI k (a 21) 4 f_42), (aZ k (a 22) 4 f_5), (aI k (a 23) 8 fbegin__44)]) [5, 6, 7, 8, 0, 1, 9, 2, 3, 4, 10] (by decide +kernel) rfl
          exact W.vret hx hb hr (fun t ht hW => ⟨⟨(fo_43, fw_43, f_45, f_42, f_5, fbegin__44), rfl, trivial, by rw [ht]; exact hP9, hD9⟩, hS.F ht⟩) hS.2.2 dX8_findRound_249
        · rw [nI_pred] at hl
          refine lv_iload hx hb dX8_findRound_103 (lv_at hl 0 rfl) ?_
          refine lv_if_lt (tgt := 237) hx hb dX8_findRound_105 (by decide) (fun h => absurd h (nI_pos0 (by omega))) (fun _ => ?_)
          refine lv_iconst (v := 0) hx hb dX8_findRound_108 (by decide) ?_
          refine lv_istore (lv' := [(7, .int 0), (6, .int (nI q_43)), (5, .int r_1), (4, .int r_1), (3, .int (nI (dn sn))), (0, .ref (a 0)), (1, .int (nI sn)), (2, .int (nI rn))]) hx hb dX8_findRound_109 hl (by decide) rfl (fun ls hl => ?_)
          refine W_loop (σ := Nat × (Nat → Int32) × (Nat → Int32)) (fun (n_ : Nat) (x_ : Nat × (Nat → Int32) × (Nat → Int32)) (H : Heap) (locs : List Loc) (ls : Array Slot) => match x_ with | (g_46, fo_46, fw_46) => n_ = 8 - g_46 ∧ (g_46 ≤ 8) ∧ va_P D classes [((a 0), .inr (8, (fX8 a (nI tx) fp (nI t0) wd (nI we) nu na (nI rd) ts (nI ru) (nI rw) (nI ca) df db sd))), (aI k (a 1) 3 (nF dn)), (aI k (a 4) 27 (sg se tm gs)), (aI k (a 2) 72 ffrees), (aI k (a 3) 72 fprices), (aI k (a 18) 768 fo_46), (aI k (a 19) 768 fw_46), (aI k (a 20) 5 fstarts), (aI k (a 21) 4 f_42), (aZ k (a 22) 4 f_5), (aI k (a 23) 8 fbegin)] H ∧ va_D A [((a 0), .inr (8, (fX8 a (nI tx) fp (nI t0) wd (nI we) nu na (nI rd) ts (nI ru) (nI rw) (nI ca) df db sd))), (aI k (a 1) 3 (nF dn)), (aI k (a 4) 27 (sg se tm gs)), (aI k (a 2) 72 ffrees), (aI k (a 3) 72 fprices), (aI k (a 18) 768 fo_46), (aI k (a 19) 768 fw_46), (aI k (a 20) 5 fstarts), (aI k (a 21) 4 f_42), (aZ k (a 22) 4 f_5), (aI k (a 23) 8 fbegin)] ∧ va_S A s.heap H locs ∧ lv_has ls 10 [(7, .int (nI g_46)), (6, .int (nI q_43)), (5, .int r_1), (4, .int r_1), (3, .int (nI (dn sn))), (0, .ref (a 0)), (1, .int (nI sn)), (2, .int (nI rn))]) (fun n_46 x_46 H locs ls hI ih_46 => ?_) _ (0, fo_43, fw_43) ⟨rfl, (by omega), hP, hD, hS, (lv_sub hl [0, 1, 2, 3, 4, 5, 6, 7] rfl)⟩
          obtain ⟨g_46, fo_46, fw_46⟩ := x_46
          obtain ⟨hm_46, hv_46, hP, hD, hS, hl⟩ := hI
          subst hm_46
          refine lv_iload hx hb dX8_findRound_111 (lv_at hl 0 rfl) ?_
          refine lv_iconst (v := 1) hx hb dX8_findRound_113 (by decide) ?_
          refine lv_aload_n hx hb dX8_findRound_114 rfl (lv_at hl 5 rfl) ?_
          refine lv_iload_n hx hb dX8_findRound_115 rfl (lv_at hl 6 rfl) ?_
          refine lv_iload hx hb dX8_findRound_116 (lv_at hl 1 rfl) ?_
          refine ro_i (D := D) (va_runV (As := [.int (nI sn), .int (nI q_43)]) (rest := [.int 1, .int (nI g_46)]) ⟨hx, hb, hml, hown, hts⟩ ((m_seen l D k st lo a tx t0 we rd ru rw ca fp wd nu na ts df db sd dn se tm gs sn q_43 hdn hse (by omega) (by omega)) H.size) (cwV 2 hts (gV tw_1246 tw_1248 tw_48 tw_87 tw_1249) rfl rfl rfl (by decide +kernel) ⟨Nat.le_of_ble_eq_true rfl, Nat.le_of_ble_eq_true rfl⟩) (pV hS hAlo hlo hP hK (va_Dlo hD hAlo) hZ [0, 1, 2] (by decide) rfl (ci := 8) (q := (RX8, TX8, 44)) (q0 := 0) rfl rfl) rfl rfl hl.1 rfl (lv_room (Nat.le_of_ble_eq_true rfl)) dX8_findRound_118 ⟨Nat.le_of_ble_eq_true rfl, Nat.le_of_ble_eq_true rfl⟩) hS hA hP (fun r_47 H locs hw_47 hP hS => ?_)
          try dsimp only at hw_47
          obtain ⟨sv_48, esv_48⟩ : ∃ z : Nat, z = (if dn sn - q_43 < se sn + 1 then dn sn - q_43 else se sn + 1) := ⟨_, rfl⟩
          rw [← esv_48] at hw_47
          subst hw_47
          have hsv_48 : sv_48 ≤ 3 ∧ sv_48 ≤ dn sn - q_43 ∧ (0 < dn sn - q_43 → 1 ≤ sv_48) := by
            have hse9 := hse sn
            split at esv_48 <;> omega
          obtain ⟨pw_49, epw_49⟩ : ∃ z : Nat, z = 2 ^ sv_48 := ⟨_, rfl⟩
          have hpw_49 : 1 ≤ pw_49 ∧ pw_49 ≤ 8 := by rw [epw_49]; exact pw8 (by omega)
          refine lv_ishl hx hb dX8_findRound_121 ?_
          refine lv_ti (y := (nI pw_49)) (by rw [epw_49]; exact shl1 sv_48 (by omega)) ?_
          refine lv_icmp_ge (tgt := 231) hx hb dX8_findRound_122 (by decide) (fun c_50 => ?_) (fun c_50 => ?_)
          · have c_50 := (nI_leI (a := pw_49) (b := g_46) (by omega) (by omega)).mp c_50
            refine lv_iinc (v := (nI q_43 - 1)) (lv' := [(6, .int (nI q_43 - 1)), (7, .int (nI g_46)), (5, .int r_1), (4, .int r_1), (3, .int (nI (dn sn))), (0, .ref (a 0)), (1, .int (nI sn)), (2, .int (nI rn))]) hx hb dX8_findRound_231 hl (k := 1) rfl (dn1 _) (by decide) rfl (fun ls hl => ?_)
            refine lv_goto (tgt := 103) hx hb dX8_findRound_234 (by decide) ?_
            exact ih_43 _ (q_43, fo_46, fw_46) _ _ _ (by omega) ⟨rfl, (by omega), hP, hD, hS, (lv_sub hl [0, 2, 3, 4, 5, 6, 7] rfl)⟩
          · have c_50 : ¬ (pw_49 ≤ g_46) := fun h => c_50 ((nI_leI (a := pw_49) (b := g_46) (by omega) (by omega)).mpr h)
            refine lv_aload_n hx hb dX8_findRound_125 rfl (lv_at hl 5 rfl) ?_
            refine lv_iload_n hx hb dX8_findRound_126 rfl (lv_at hl 6 rfl) ?_
            refine lv_iconst (v := 2) hx hb dX8_findRound_127 (by decide) ?_
            refine ro_i (D := D) (va_runV (As := [.int (nI sn), .int 2]) (rest := []) ⟨hx, hb, hml, hown, hts⟩ ((m_of l D k st lo a tx t0 we rd ru rw ca fp wd nu na ts df db sd se tm gs sn 2 (by omega) (by omega)) H.size) (cwV 2 hts (gV tw_1194 tw_1196 tw_39 tw_87 tw_1197) rfl rfl rfl (by decide +kernel) ⟨Nat.le_of_ble_eq_true rfl, Nat.le_of_ble_eq_true rfl⟩) (pV hS hAlo hlo hP hK (va_Dlo hD hAlo) hZ [0, 2] (by decide) rfl (ci := 8) (q := (RX8, TX8, 44)) (q0 := 0) rfl rfl) rfl rfl hl.1 rfl (lv_room (Nat.le_of_ble_eq_true rfl)) dX8_findRound_128 ⟨Nat.le_of_ble_eq_true rfl, Nat.le_of_ble_eq_true rfl⟩) hS hA hP (fun r_51 H locs hw_51 hP hS => ?_)
            try dsimp only at hw_51
            refine lv_sipush (v := 1000) hx hb dX8_findRound_131 (by decide) ?_
            refine lv_imul hx hb dX8_findRound_134 ?_
            refine lv_topi (fun x_52 ex_52 => ?_)
            refine lv_iload hx hb dX8_findRound_135 (lv_at hl 1 rfl) ?_
            refine lv_iload_n hx hb dX8_findRound_137 rfl (lv_at hl 4 rfl) ?_
            refine lv_iconst (v := 1) hx hb dX8_findRound_138 (by decide) ?_
            refine lv_isub hx hb dX8_findRound_139 ?_
            refine lv_ti (y := (nI ((dn sn) - 1))) (pk_sub (a := (dn sn)) (b := 1) (by omega)) ?_
            refine lv_icmp_ne (tgt := 152) hx hb dX8_findRound_140 (by decide) (fun c_53 => ?_) (fun c_53 => ?_)
            · have c_53 : ¬ (q_43 = ((dn sn) - 1)) := fun h => c_53 ((nI_eq (a := q_43) (b := ((dn sn) - 1)) (by omega) (by omega)).mpr h)
              refine lv_aload_n hx hb dX8_findRound_152 rfl (lv_at hl 5 rfl) ?_
              refine lv_iload_n hx hb dX8_findRound_153 rfl (lv_at hl 6 rfl) ?_
              refine lv_iload_n hx hb dX8_findRound_154 rfl (lv_at hl 7 rfl) ?_
              refine lv_iload hx hb dX8_findRound_155 (lv_at hl 1 rfl) ?_
              refine lv_iload hx hb dX8_findRound_157 (lv_at hl 0 rfl) ?_
              refine ro_i (D := D) (va_runV (As := [.int (nI sn), .int (nI rn), .int (nI q_43), .int (nI g_46)]) (rest := [.int x_52]) ⟨hx, hb, hml, hown, hts⟩ ((m_on l D k st lo a tx t0 we rd ru rw ca fp wd nu na ts df db sd dn se tm gs ffrees fw_46 sn rn q_43 g_46 hdn hse (by omega) (by omega) (by omega) (by omega)) H.size) (cwV 4 hts (gV tw_1262 tw_1264 tw_52 tw_87 tw_1265) rfl rfl rfl (by decide +kernel) ⟨Nat.le_of_ble_eq_true rfl, Nat.le_of_ble_eq_true rfl⟩) (pV hS hAlo hlo hP hK (va_Dlo hD hAlo) hZ [0, 1, 2, 3, 6] (by decide) rfl (ci := 8) (q := (RX8, TX8, 44)) (q0 := 0) rfl rfl) rfl rfl hl.1 rfl (lv_room (Nat.le_of_ble_eq_true rfl)) dX8_findRound_159 ⟨Nat.le_of_ble_eq_true rfl, Nat.le_of_ble_eq_true rfl⟩) hS hA hP (fun r_54 H locs hw_54 hP hS => ?_)
              try dsimp only at hw_54
              refine lv_iadd hx hb dX8_findRound_162 ?_
              refine lv_topi (fun x_55 ex_55 => ?_)
              refine lv_istore (lv' := [(8, .int x_55), (7, .int (nI g_46)), (6, .int (nI q_43)), (5, .int r_1), (4, .int r_1), (3, .int (nI (dn sn))), (0, .ref (a 0)), (1, .int (nI sn)), (2, .int (nI rn))]) hx hb dX8_findRound_163 hl (by decide) rfl (fun ls hl => ?_)
              refine lv_aload_n hx hb dX8_findRound_165 rfl (lv_at hl 6 rfl) ?_
              refine lv_iload_n hx hb dX8_findRound_166 rfl (lv_at hl 7 rfl) ?_
              refine lv_iload_n hx hb dX8_findRound_167 rfl (lv_at hl 8 rfl) ?_
              refine lv_iload hx hb dX8_findRound_168 (lv_at hl 2 rfl) ?_
              refine ro_i (D := D) (va_runV (As := [.int (nI sn), .int (nI rn), .int (nI q_43)]) (rest := []) ⟨hx, hb, hml, hown, hts⟩ ((m_takingOf l D k st lo a tx t0 we rd ru rw ca fp wd nu na ts df db sd dn se tm gs fprices sn q_43 (nI rn) (by omega) (by omega)) H.size) (cwV 3 hts (gV tw_1222 tw_1224 tw_43 tw_87 tw_1225) rfl rfl rfl (by decide +kernel) ⟨Nat.le_of_ble_eq_true rfl, Nat.le_of_ble_eq_true rfl⟩) (pV hS hAlo hlo hP hK (va_Dlo hD hAlo) hZ [0, 1, 2, 4] (by decide) rfl (ci := 8) (q := (RX8, TX8, 44)) (q0 := 0) rfl rfl) rfl rfl hl.1 rfl (lv_room (Nat.le_of_ble_eq_true rfl)) dX8_findRound_170 ⟨Nat.le_of_ble_eq_true rfl, Nat.le_of_ble_eq_true rfl⟩) hS hA hP (fun r_56 H locs hw_56 hP hS => ?_)
              try dsimp only at hw_56
              refine lv_istore (lv' := [(9, .int r_56), (8, .int x_55), (7, .int (nI g_46)), (6, .int (nI q_43)), (5, .int r_1), (4, .int r_1), (3, .int (nI (dn sn))), (0, .ref (a 0)), (1, .int (nI sn)), (2, .int (nI rn))]) hx hb dX8_findRound_173 hl (by decide) rfl (fun ls hl => ?_)
              refine lv_aload_n hx hb dX8_findRound_175 rfl (lv_at hl 7 rfl) ?_
              refine va_get (D := D) (ci := 8) (v := .ref (a 18)) (C := RX8) (T := TX8) (N := 44) hx hb hts inX8 hown hK hP 0 rfl rfl 17 (by decide) (hts _ tw_990) (fun _ h9 => h9) rfl dX8_findRound_176 ?_
              refine lv_iload_n hx hb dX8_findRound_179 rfl (lv_at hl 9 rfl) ?_
              refine lv_iload hx hb dX8_findRound_180 (lv_at hl 3 rfl) ?_
              refine lv_iload hx hb dX8_findRound_182 (lv_at hl 2 rfl) ?_
              refine ro_i (D := D) (va_runS (As := [.int (nI rn), .int (nI q_43), .int (nI g_46)]) (rest := [.ref (a 18)]) ⟨hx, hb, hml, hown, hts⟩ ((m_at l D k st lo rn q_43 g_46) H.size) (va_cwS 3 hts (gS tw_1266 tw_1267 tw_87 tw_1268) rfl rfl rfl (by decide +kernel) ⟨Nat.le_of_ble_eq_true rfl, Nat.le_of_ble_eq_true rfl⟩) (pS hS hAlo hlo hP hK (va_Dlo hD hAlo) hZ [] (by decide) rfl) rfl rfl hl.1 rfl (lv_room (Nat.le_of_ble_eq_true rfl)) dX8_findRound_184 ⟨Nat.le_of_ble_eq_true rfl, Nat.le_of_ble_eq_true rfl⟩) hS hA hP (fun r_57 H locs hw_57 hP hS => ?_)
              try dsimp only at hw_57
              subst hw_57
              refine lv_iload hx hb dX8_findRound_187 (lv_at hl 1 rfl) ?_
              refine va_iast hx hb hK hP hD hS 5 1 rfl rfl (vp_in_nI (by omega) (by decide)) dX8_findRound_189 (fun H locs hP hD hS => ?_)
              replace hP : va_P D classes [((a 0), .inr (8, (fX8 a (nI tx) fp (nI t0) wd (nI we) nu na (nI rd) ts (nI ru) (nI rw) (nI ca) df db sd))), (aI k (a 1) 3 (nF dn)), (aI k (a 4) 27 (sg se tm gs)), (aI k (a 2) 72 ffrees), (aI k (a 3) 72 fprices), (aI k (a 18) 768 (upd fo_46 (Int32.toNatClampNeg (nI (192 * rn + 8 * q_43 + g_46))) x_55)), (aI k (a 19) 768 fw_46), (aI k (a 20) 5 fstarts), (aI k (a 21) 4 f_42), (aZ k (a 22) 4 f_5), (aI k (a 23) 8 fbegin)] H := hP
              replace hD : va_D A [((a 0), .inr (8, (fX8 a (nI tx) fp (nI t0) wd (nI we) nu na (nI rd) ts (nI ru) (nI rw) (nI ca) df db sd))), (aI k (a 1) 3 (nF dn)), (aI k (a 4) 27 (sg se tm gs)), (aI k (a 2) 72 ffrees), (aI k (a 3) 72 fprices), (aI k (a 18) 768 (upd fo_46 (Int32.toNatClampNeg (nI (192 * rn + 8 * q_43 + g_46))) x_55)), (aI k (a 19) 768 fw_46), (aI k (a 20) 5 fstarts), (aI k (a 21) 4 f_42), (aZ k (a 22) 4 f_5), (aI k (a 23) 8 fbegin)] := hD
              generalize (upd fo_46 (Int32.toNatClampNeg (nI (192 * rn + 8 * q_43 + g_46))) x_55) = f_58 at hP hD
              refine lv_aload_n hx hb dX8_findRound_190 rfl (lv_at hl 7 rfl) ?_
              refine va_get (D := D) (ci := 8) (v := .ref (a 19)) (C := RX8) (T := TX8) (N := 44) hx hb hts inX8 hown hK hP 0 rfl rfl 18 (by decide) (hts _ tw_991) (fun _ h9 => h9) rfl dX8_findRound_191 ?_
              refine lv_iload_n hx hb dX8_findRound_194 rfl (lv_at hl 9 rfl) ?_
              refine lv_iload hx hb dX8_findRound_195 (lv_at hl 3 rfl) ?_
              refine lv_iload hx hb dX8_findRound_197 (lv_at hl 2 rfl) ?_
              refine ro_i (D := D) (va_runS (As := [.int (nI rn), .int (nI q_43), .int (nI g_46)]) (rest := [.ref (a 19)]) ⟨hx, hb, hml, hown, hts⟩ ((m_at l D k st lo rn q_43 g_46) H.size) (va_cwS 3 hts (gS tw_1266 tw_1267 tw_87 tw_1268) rfl rfl rfl (by decide +kernel) ⟨Nat.le_of_ble_eq_true rfl, Nat.le_of_ble_eq_true rfl⟩) (pS hS hAlo hlo hP hK (va_Dlo hD hAlo) hZ [] (by decide) rfl) rfl rfl hl.1 rfl (lv_room (Nat.le_of_ble_eq_true rfl)) dX8_findRound_199 ⟨Nat.le_of_ble_eq_true rfl, Nat.le_of_ble_eq_true rfl⟩) hS hA hP (fun r_59 H locs hw_59 hP hS => ?_)
              try dsimp only at hw_59
              subst hw_59
              refine lv_iload hx hb dX8_findRound_202 (lv_at hl 2 rfl) ?_
              refine lv_iconst (v := 1) hx hb dX8_findRound_204 (by decide) ?_
              refine lv_iand hx hb dX8_findRound_205 ?_
              refine lv_topi (fun x_60 ex_60 => ?_)
              refine lv_iconst (v := 1) hx hb dX8_findRound_206 (by decide) ?_
              refine lv_icmp_ne (tgt := 222) hx hb dX8_findRound_207 (by decide) (fun c_61 => ?_) (fun c_61 => ?_)
              · refine lv_iload hx hb dX8_findRound_222 (lv_at hl 1 rfl) ?_
                refine va_iast hx hb hK hP hD hS 6 1 rfl rfl (vp_in_nI (by omega) (by decide)) dX8_findRound_224 (fun H locs hP hD hS => ?_)
                replace hP : va_P D classes [((a 0), .inr (8, (fX8 a (nI tx) fp (nI t0) wd (nI we) nu na (nI rd) ts (nI ru) (nI rw) (nI ca) df db sd))), (aI k (a 1) 3 (nF dn)), (aI k (a 4) 27 (sg se tm gs)), (aI k (a 2) 72 ffrees), (aI k (a 3) 72 fprices), (aI k (a 18) 768 f_58), (aI k (a 19) 768 (upd fw_46 (Int32.toNatClampNeg (nI (192 * rn + 8 * q_43 + g_46))) x_55)), (aI k (a 20) 5 fstarts), (aI k (a 21) 4 f_42), (aZ k (a 22) 4 f_5), (aI k (a 23) 8 fbegin)] H := hP
                replace hD : va_D A [((a 0), .inr (8, (fX8 a (nI tx) fp (nI t0) wd (nI we) nu na (nI rd) ts (nI ru) (nI rw) (nI ca) df db sd))), (aI k (a 1) 3 (nF dn)), (aI k (a 4) 27 (sg se tm gs)), (aI k (a 2) 72 ffrees), (aI k (a 3) 72 fprices), (aI k (a 18) 768 f_58), (aI k (a 19) 768 (upd fw_46 (Int32.toNatClampNeg (nI (192 * rn + 8 * q_43 + g_46))) x_55)), (aI k (a 20) 5 fstarts), (aI k (a 21) 4 f_42), (aZ k (a 22) 4 f_5), (aI k (a 23) 8 fbegin)] := hD
                generalize (upd fw_46 (Int32.toNatClampNeg (nI (192 * rn + 8 * q_43 + g_46))) x_55) = f_62 at hP hD
                refine lv_iinc (v := (nI (g_46 + 1))) (lv' := [(7, .int (nI (g_46 + 1))), (9, .int r_56), (8, .int x_55), (6, .int (nI q_43)), (5, .int r_1), (4, .int r_1), (3, .int (nI (dn sn))), (0, .ref (a 0)), (1, .int (nI sn)), (2, .int (nI rn))]) hx hb dX8_findRound_225 hl (k := 2) rfl (nI_add g_46 1) (by decide) rfl (fun ls hl => ?_)
                refine lv_goto (tgt := 111) hx hb dX8_findRound_228 (by decide) ?_
                exact ih_46 _ (g_46 + 1, f_58, f_62) _ _ _ (by omega) ⟨rfl, (by omega), hP, hD, hS, (lv_sub hl [0, 3, 4, 5, 6, 7, 8, 9] rfl)⟩
              · refine lv_iload hx hb dX8_findRound_210 (lv_at hl 0 rfl) ?_
                refine lv_iload hx hb dX8_findRound_212 (lv_at hl 1 rfl) ?_
                refine lv_icmp_gt (tgt := 222) hx hb dX8_findRound_214 (by decide) (fun c_63 => ?_) (fun c_63 => ?_)
                · refine lv_iload hx hb dX8_findRound_222 (lv_at hl 1 rfl) ?_
                  refine va_iast hx hb hK hP hD hS 6 1 rfl rfl (vp_in_nI (by omega) (by decide)) dX8_findRound_224 (fun H locs hP hD hS => ?_)
                  replace hP : va_P D classes [((a 0), .inr (8, (fX8 a (nI tx) fp (nI t0) wd (nI we) nu na (nI rd) ts (nI ru) (nI rw) (nI ca) df db sd))), (aI k (a 1) 3 (nF dn)), (aI k (a 4) 27 (sg se tm gs)), (aI k (a 2) 72 ffrees), (aI k (a 3) 72 fprices), (aI k (a 18) 768 f_58), (aI k (a 19) 768 (upd fw_46 (Int32.toNatClampNeg (nI (192 * rn + 8 * q_43 + g_46))) x_55)), (aI k (a 20) 5 fstarts), (aI k (a 21) 4 f_42), (aZ k (a 22) 4 f_5), (aI k (a 23) 8 fbegin)] H := hP
                  replace hD : va_D A [((a 0), .inr (8, (fX8 a (nI tx) fp (nI t0) wd (nI we) nu na (nI rd) ts (nI ru) (nI rw) (nI ca) df db sd))), (aI k (a 1) 3 (nF dn)), (aI k (a 4) 27 (sg se tm gs)), (aI k (a 2) 72 ffrees), (aI k (a 3) 72 fprices), (aI k (a 18) 768 f_58), (aI k (a 19) 768 (upd fw_46 (Int32.toNatClampNeg (nI (192 * rn + 8 * q_43 + g_46))) x_55)), (aI k (a 20) 5 fstarts), (aI k (a 21) 4 f_42), (aZ k (a 22) 4 f_5), (aI k (a 23) 8 fbegin)] := hD
                  generalize (upd fw_46 (Int32.toNatClampNeg (nI (192 * rn + 8 * q_43 + g_46))) x_55) = f_64 at hP hD
                  refine lv_iinc (v := (nI (g_46 + 1))) (lv' := [(7, .int (nI (g_46 + 1))), (9, .int r_56), (8, .int x_55), (6, .int (nI q_43)), (5, .int r_1), (4, .int r_1), (3, .int (nI (dn sn))), (0, .ref (a 0)), (1, .int (nI sn)), (2, .int (nI rn))]) hx hb dX8_findRound_225 hl (k := 2) rfl (nI_add g_46 1) (by decide) rfl (fun ls hl => ?_)
                  refine lv_goto (tgt := 111) hx hb dX8_findRound_228 (by decide) ?_
                  exact ih_46 _ (g_46 + 1, f_58, f_64) _ _ _ (by omega) ⟨rfl, (by omega), hP, hD, hS, (lv_sub hl [0, 3, 4, 5, 6, 7, 8, 9] rfl)⟩
                · refine lv_iload hx hb dX8_findRound_217 (lv_at hl 0 rfl) ?_
                  refine lv_goto (tgt := 224) hx hb dX8_findRound_219 (by decide) ?_
                  refine va_iast hx hb hK hP hD hS 6 1 rfl rfl (vp_in_nI (by omega) (by decide)) dX8_findRound_224 (fun H locs hP hD hS => ?_)
                  replace hP : va_P D classes [((a 0), .inr (8, (fX8 a (nI tx) fp (nI t0) wd (nI we) nu na (nI rd) ts (nI ru) (nI rw) (nI ca) df db sd))), (aI k (a 1) 3 (nF dn)), (aI k (a 4) 27 (sg se tm gs)), (aI k (a 2) 72 ffrees), (aI k (a 3) 72 fprices), (aI k (a 18) 768 f_58), (aI k (a 19) 768 (upd fw_46 (Int32.toNatClampNeg (nI (192 * rn + 8 * q_43 + g_46))) r_56)), (aI k (a 20) 5 fstarts), (aI k (a 21) 4 f_42), (aZ k (a 22) 4 f_5), (aI k (a 23) 8 fbegin)] H := hP
                  replace hD : va_D A [((a 0), .inr (8, (fX8 a (nI tx) fp (nI t0) wd (nI we) nu na (nI rd) ts (nI ru) (nI rw) (nI ca) df db sd))), (aI k (a 1) 3 (nF dn)), (aI k (a 4) 27 (sg se tm gs)), (aI k (a 2) 72 ffrees), (aI k (a 3) 72 fprices), (aI k (a 18) 768 f_58), (aI k (a 19) 768 (upd fw_46 (Int32.toNatClampNeg (nI (192 * rn + 8 * q_43 + g_46))) r_56)), (aI k (a 20) 5 fstarts), (aI k (a 21) 4 f_42), (aZ k (a 22) 4 f_5), (aI k (a 23) 8 fbegin)] := hD
                  generalize (upd fw_46 (Int32.toNatClampNeg (nI (192 * rn + 8 * q_43 + g_46))) r_56) = f_65 at hP hD
                  refine lv_iinc (v := (nI (g_46 + 1))) (lv' := [(7, .int (nI (g_46 + 1))), (9, .int r_56), (8, .int x_55), (6, .int (nI q_43)), (5, .int r_1), (4, .int r_1), (3, .int (nI (dn sn))), (0, .ref (a 0)), (1, .int (nI sn)), (2, .int (nI rn))]) hx hb dX8_findRound_225 hl (k := 2) rfl (nI_add g_46 1) (by decide) rfl (fun ls hl => ?_)
                  refine lv_goto (tgt := 111) hx hb dX8_findRound_228 (by decide) ?_
                  exact ih_46 _ (g_46 + 1, f_58, f_65) _ _ _ (by omega) ⟨rfl, (by omega), hP, hD, hS, (lv_sub hl [0, 3, 4, 5, 6, 7, 8, 9] rfl)⟩
            · have c_53 := (nI_eq (a := q_43) (b := ((dn sn) - 1)) (by omega) (by omega)).mp c_53
              refine lv_aload_n hx hb dX8_findRound_143 rfl (lv_at hl 5 rfl) ?_
              refine va_get (D := D) (ci := 8) (v := .ref (a 21)) (C := RX8) (T := TX8) (N := 44) hx hb hts inX8 hown hK hP 0 rfl rfl 20 (by decide) (hts _ tw_993) (fun _ h9 => h9) rfl dX8_findRound_144 ?_
              refine lv_iload_n hx hb dX8_findRound_147 rfl (lv_at hl 7 rfl) ?_
              refine va_iald hx hb hK hP 8 1 rfl rfl (vp_in_nI (by omega) (by decide)) dX8_findRound_148 ?_
              refine lv_ti (y := (f_42 rn)) (by rw [nI_clamp (by omega)]) ?_
              refine lv_goto (tgt := 162) hx hb dX8_findRound_149 (by decide) ?_
              refine lv_iadd hx hb dX8_findRound_162 ?_
              refine lv_topi (fun x_66 ex_66 => ?_)
              refine lv_istore (lv' := [(8, .int x_66), (7, .int (nI g_46)), (6, .int (nI q_43)), (5, .int r_1), (4, .int r_1), (3, .int (nI (dn sn))), (0, .ref (a 0)), (1, .int (nI sn)), (2, .int (nI rn))]) hx hb dX8_findRound_163 hl (by decide) rfl (fun ls hl => ?_)
              refine lv_aload_n hx hb dX8_findRound_165 rfl (lv_at hl 6 rfl) ?_
              refine lv_iload_n hx hb dX8_findRound_166 rfl (lv_at hl 7 rfl) ?_
              refine lv_iload_n hx hb dX8_findRound_167 rfl (lv_at hl 8 rfl) ?_
              refine lv_iload hx hb dX8_findRound_168 (lv_at hl 2 rfl) ?_
              refine ro_i (D := D) (va_runV (As := [.int (nI sn), .int (nI rn), .int (nI q_43)]) (rest := []) ⟨hx, hb, hml, hown, hts⟩ ((m_takingOf l D k st lo a tx t0 we rd ru rw ca fp wd nu na ts df db sd dn se tm gs fprices sn q_43 (nI rn) (by omega) (by omega)) H.size) (cwV 3 hts (gV tw_1222 tw_1224 tw_43 tw_87 tw_1225) rfl rfl rfl (by decide +kernel) ⟨Nat.le_of_ble_eq_true rfl, Nat.le_of_ble_eq_true rfl⟩) (pV hS hAlo hlo hP hK (va_Dlo hD hAlo) hZ [0, 1, 2, 4] (by decide) rfl (ci := 8) (q := (RX8, TX8, 44)) (q0 := 0) rfl rfl) rfl rfl hl.1 rfl (lv_room (Nat.le_of_ble_eq_true rfl)) dX8_findRound_170 ⟨Nat.le_of_ble_eq_true rfl, Nat.le_of_ble_eq_true rfl⟩) hS hA hP (fun r_67 H locs hw_67 hP hS => ?_)
              try dsimp only at hw_67
              refine lv_istore (lv' := [(9, .int r_67), (8, .int x_66), (7, .int (nI g_46)), (6, .int (nI q_43)), (5, .int r_1), (4, .int r_1), (3, .int (nI (dn sn))), (0, .ref (a 0)), (1, .int (nI sn)), (2, .int (nI rn))]) hx hb dX8_findRound_173 hl (by decide) rfl (fun ls hl => ?_)
              refine lv_aload_n hx hb dX8_findRound_175 rfl (lv_at hl 7 rfl) ?_
              refine va_get (D := D) (ci := 8) (v := .ref (a 18)) (C := RX8) (T := TX8) (N := 44) hx hb hts inX8 hown hK hP 0 rfl rfl 17 (by decide) (hts _ tw_990) (fun _ h9 => h9) rfl dX8_findRound_176 ?_
              refine lv_iload_n hx hb dX8_findRound_179 rfl (lv_at hl 9 rfl) ?_
              refine lv_iload hx hb dX8_findRound_180 (lv_at hl 3 rfl) ?_
              refine lv_iload hx hb dX8_findRound_182 (lv_at hl 2 rfl) ?_
              refine ro_i (D := D) (va_runS (As := [.int (nI rn), .int (nI q_43), .int (nI g_46)]) (rest := [.ref (a 18)]) ⟨hx, hb, hml, hown, hts⟩ ((m_at l D k st lo rn q_43 g_46) H.size) (va_cwS 3 hts (gS tw_1266 tw_1267 tw_87 tw_1268) rfl rfl rfl (by decide +kernel) ⟨Nat.le_of_ble_eq_true rfl, Nat.le_of_ble_eq_true rfl⟩) (pS hS hAlo hlo hP hK (va_Dlo hD hAlo) hZ [] (by decide) rfl) rfl rfl hl.1 rfl (lv_room (Nat.le_of_ble_eq_true rfl)) dX8_findRound_184 ⟨Nat.le_of_ble_eq_true rfl, Nat.le_of_ble_eq_true rfl⟩) hS hA hP (fun r_68 H locs hw_68 hP hS => ?_)
              try dsimp only at hw_68
              subst hw_68
              refine lv_iload hx hb dX8_findRound_187 (lv_at hl 1 rfl) ?_
              refine va_iast hx hb hK hP hD hS 5 1 rfl rfl (vp_in_nI (by omega) (by decide)) dX8_findRound_189 (fun H locs hP hD hS => ?_)
              replace hP : va_P D classes [((a 0), .inr (8, (fX8 a (nI tx) fp (nI t0) wd (nI we) nu na (nI rd) ts (nI ru) (nI rw) (nI ca) df db sd))), (aI k (a 1) 3 (nF dn)), (aI k (a 4) 27 (sg se tm gs)), (aI k (a 2) 72 ffrees), (aI k (a 3) 72 fprices), (aI k (a 18) 768 (upd fo_46 (Int32.toNatClampNeg (nI (192 * rn + 8 * q_43 + g_46))) x_66)), (aI k (a 19) 768 fw_46), (aI k (a 20) 5 fstarts), (aI k (a 21) 4 f_42), (aZ k (a 22) 4 f_5), (aI k (a 23) 8 fbegin)] H := hP
              replace hD : va_D A [((a 0), .inr (8, (fX8 a (nI tx) fp (nI t0) wd (nI we) nu na (nI rd) ts (nI ru) (nI rw) (nI ca) df db sd))), (aI k (a 1) 3 (nF dn)), (aI k (a 4) 27 (sg se tm gs)), (aI k (a 2) 72 ffrees), (aI k (a 3) 72 fprices), (aI k (a 18) 768 (upd fo_46 (Int32.toNatClampNeg (nI (192 * rn + 8 * q_43 + g_46))) x_66)), (aI k (a 19) 768 fw_46), (aI k (a 20) 5 fstarts), (aI k (a 21) 4 f_42), (aZ k (a 22) 4 f_5), (aI k (a 23) 8 fbegin)] := hD
              generalize (upd fo_46 (Int32.toNatClampNeg (nI (192 * rn + 8 * q_43 + g_46))) x_66) = f_69 at hP hD
              refine lv_aload_n hx hb dX8_findRound_190 rfl (lv_at hl 7 rfl) ?_
              refine va_get (D := D) (ci := 8) (v := .ref (a 19)) (C := RX8) (T := TX8) (N := 44) hx hb hts inX8 hown hK hP 0 rfl rfl 18 (by decide) (hts _ tw_991) (fun _ h9 => h9) rfl dX8_findRound_191 ?_
              refine lv_iload_n hx hb dX8_findRound_194 rfl (lv_at hl 9 rfl) ?_
              refine lv_iload hx hb dX8_findRound_195 (lv_at hl 3 rfl) ?_
              refine lv_iload hx hb dX8_findRound_197 (lv_at hl 2 rfl) ?_
              refine ro_i (D := D) (va_runS (As := [.int (nI rn), .int (nI q_43), .int (nI g_46)]) (rest := [.ref (a 19)]) ⟨hx, hb, hml, hown, hts⟩ ((m_at l D k st lo rn q_43 g_46) H.size) (va_cwS 3 hts (gS tw_1266 tw_1267 tw_87 tw_1268) rfl rfl rfl (by decide +kernel) ⟨Nat.le_of_ble_eq_true rfl, Nat.le_of_ble_eq_true rfl⟩) (pS hS hAlo hlo hP hK (va_Dlo hD hAlo) hZ [] (by decide) rfl) rfl rfl hl.1 rfl (lv_room (Nat.le_of_ble_eq_true rfl)) dX8_findRound_199 ⟨Nat.le_of_ble_eq_true rfl, Nat.le_of_ble_eq_true rfl⟩) hS hA hP (fun r_70 H locs hw_70 hP hS => ?_)
              try dsimp only at hw_70
              subst hw_70
              refine lv_iload hx hb dX8_findRound_202 (lv_at hl 2 rfl) ?_
              refine lv_iconst (v := 1) hx hb dX8_findRound_204 (by decide) ?_
              refine lv_iand hx hb dX8_findRound_205 ?_
              refine lv_topi (fun x_71 ex_71 => ?_)
              refine lv_iconst (v := 1) hx hb dX8_findRound_206 (by decide) ?_
              refine lv_icmp_ne (tgt := 222) hx hb dX8_findRound_207 (by decide) (fun c_72 => ?_) (fun c_72 => ?_)
              · refine lv_iload hx hb dX8_findRound_222 (lv_at hl 1 rfl) ?_
                refine va_iast hx hb hK hP hD hS 6 1 rfl rfl (vp_in_nI (by omega) (by decide)) dX8_findRound_224 (fun H locs hP hD hS => ?_)
                replace hP : va_P D classes [((a 0), .inr (8, (fX8 a (nI tx) fp (nI t0) wd (nI we) nu na (nI rd) ts (nI ru) (nI rw) (nI ca) df db sd))), (aI k (a 1) 3 (nF dn)), (aI k (a 4) 27 (sg se tm gs)), (aI k (a 2) 72 ffrees), (aI k (a 3) 72 fprices), (aI k (a 18) 768 f_69), (aI k (a 19) 768 (upd fw_46 (Int32.toNatClampNeg (nI (192 * rn + 8 * q_43 + g_46))) x_66)), (aI k (a 20) 5 fstarts), (aI k (a 21) 4 f_42), (aZ k (a 22) 4 f_5), (aI k (a 23) 8 fbegin)] H := hP
                replace hD : va_D A [((a 0), .inr (8, (fX8 a (nI tx) fp (nI t0) wd (nI we) nu na (nI rd) ts (nI ru) (nI rw) (nI ca) df db sd))), (aI k (a 1) 3 (nF dn)), (aI k (a 4) 27 (sg se tm gs)), (aI k (a 2) 72 ffrees), (aI k (a 3) 72 fprices), (aI k (a 18) 768 f_69), (aI k (a 19) 768 (upd fw_46 (Int32.toNatClampNeg (nI (192 * rn + 8 * q_43 + g_46))) x_66)), (aI k (a 20) 5 fstarts), (aI k (a 21) 4 f_42), (aZ k (a 22) 4 f_5), (aI k (a 23) 8 fbegin)] := hD
                generalize (upd fw_46 (Int32.toNatClampNeg (nI (192 * rn + 8 * q_43 + g_46))) x_66) = f_73 at hP hD
                refine lv_iinc (v := (nI (g_46 + 1))) (lv' := [(7, .int (nI (g_46 + 1))), (9, .int r_67), (8, .int x_66), (6, .int (nI q_43)), (5, .int r_1), (4, .int r_1), (3, .int (nI (dn sn))), (0, .ref (a 0)), (1, .int (nI sn)), (2, .int (nI rn))]) hx hb dX8_findRound_225 hl (k := 2) rfl (nI_add g_46 1) (by decide) rfl (fun ls hl => ?_)
                refine lv_goto (tgt := 111) hx hb dX8_findRound_228 (by decide) ?_
                exact ih_46 _ (g_46 + 1, f_69, f_73) _ _ _ (by omega) ⟨rfl, (by omega), hP, hD, hS, (lv_sub hl [0, 3, 4, 5, 6, 7, 8, 9] rfl)⟩
              · refine lv_iload hx hb dX8_findRound_210 (lv_at hl 0 rfl) ?_
                refine lv_iload hx hb dX8_findRound_212 (lv_at hl 1 rfl) ?_
                refine lv_icmp_gt (tgt := 222) hx hb dX8_findRound_214 (by decide) (fun c_74 => ?_) (fun c_74 => ?_)
                · refine lv_iload hx hb dX8_findRound_222 (lv_at hl 1 rfl) ?_
                  refine va_iast hx hb hK hP hD hS 6 1 rfl rfl (vp_in_nI (by omega) (by decide)) dX8_findRound_224 (fun H locs hP hD hS => ?_)
                  replace hP : va_P D classes [((a 0), .inr (8, (fX8 a (nI tx) fp (nI t0) wd (nI we) nu na (nI rd) ts (nI ru) (nI rw) (nI ca) df db sd))), (aI k (a 1) 3 (nF dn)), (aI k (a 4) 27 (sg se tm gs)), (aI k (a 2) 72 ffrees), (aI k (a 3) 72 fprices), (aI k (a 18) 768 f_69), (aI k (a 19) 768 (upd fw_46 (Int32.toNatClampNeg (nI (192 * rn + 8 * q_43 + g_46))) x_66)), (aI k (a 20) 5 fstarts), (aI k (a 21) 4 f_42), (aZ k (a 22) 4 f_5), (aI k (a 23) 8 fbegin)] H := hP
                  replace hD : va_D A [((a 0), .inr (8, (fX8 a (nI tx) fp (nI t0) wd (nI we) nu na (nI rd) ts (nI ru) (nI rw) (nI ca) df db sd))), (aI k (a 1) 3 (nF dn)), (aI k (a 4) 27 (sg se tm gs)), (aI k (a 2) 72 ffrees), (aI k (a 3) 72 fprices), (aI k (a 18) 768 f_69), (aI k (a 19) 768 (upd fw_46 (Int32.toNatClampNeg (nI (192 * rn + 8 * q_43 + g_46))) x_66)), (aI k (a 20) 5 fstarts), (aI k (a 21) 4 f_42), (aZ k (a 22) 4 f_5), (aI k (a 23) 8 fbegin)] := hD
                  generalize (upd fw_46 (Int32.toNatClampNeg (nI (192 * rn + 8 * q_43 + g_46))) x_66) = f_75 at hP hD
                  refine lv_iinc (v := (nI (g_46 + 1))) (lv' := [(7, .int (nI (g_46 + 1))), (9, .int r_67), (8, .int x_66), (6, .int (nI q_43)), (5, .int r_1), (4, .int r_1), (3, .int (nI (dn sn))), (0, .ref (a 0)), (1, .int (nI sn)), (2, .int (nI rn))]) hx hb dX8_findRound_225 hl (k := 2) rfl (nI_add g_46 1) (by decide) rfl (fun ls hl => ?_)
                  refine lv_goto (tgt := 111) hx hb dX8_findRound_228 (by decide) ?_
                  exact ih_46 _ (g_46 + 1, f_69, f_75) _ _ _ (by omega) ⟨rfl, (by omega), hP, hD, hS, (lv_sub hl [0, 3, 4, 5, 6, 7, 8, 9] rfl)⟩
                · refine lv_iload hx hb dX8_findRound_217 (lv_at hl 0 rfl) ?_
                  refine lv_goto (tgt := 224) hx hb dX8_findRound_219 (by decide) ?_
                  refine va_iast hx hb hK hP hD hS 6 1 rfl rfl (vp_in_nI (by omega) (by decide)) dX8_findRound_224 (fun H locs hP hD hS => ?_)
                  replace hP : va_P D classes [((a 0), .inr (8, (fX8 a (nI tx) fp (nI t0) wd (nI we) nu na (nI rd) ts (nI ru) (nI rw) (nI ca) df db sd))), (aI k (a 1) 3 (nF dn)), (aI k (a 4) 27 (sg se tm gs)), (aI k (a 2) 72 ffrees), (aI k (a 3) 72 fprices), (aI k (a 18) 768 f_69), (aI k (a 19) 768 (upd fw_46 (Int32.toNatClampNeg (nI (192 * rn + 8 * q_43 + g_46))) r_67)), (aI k (a 20) 5 fstarts), (aI k (a 21) 4 f_42), (aZ k (a 22) 4 f_5), (aI k (a 23) 8 fbegin)] H := hP
                  replace hD : va_D A [((a 0), .inr (8, (fX8 a (nI tx) fp (nI t0) wd (nI we) nu na (nI rd) ts (nI ru) (nI rw) (nI ca) df db sd))), (aI k (a 1) 3 (nF dn)), (aI k (a 4) 27 (sg se tm gs)), (aI k (a 2) 72 ffrees), (aI k (a 3) 72 fprices), (aI k (a 18) 768 f_69), (aI k (a 19) 768 (upd fw_46 (Int32.toNatClampNeg (nI (192 * rn + 8 * q_43 + g_46))) r_67)), (aI k (a 20) 5 fstarts), (aI k (a 21) 4 f_42), (aZ k (a 22) 4 f_5), (aI k (a 23) 8 fbegin)] := hD
                  generalize (upd fw_46 (Int32.toNatClampNeg (nI (192 * rn + 8 * q_43 + g_46))) r_67) = f_76 at hP hD
                  refine lv_iinc (v := (nI (g_46 + 1))) (lv' := [(7, .int (nI (g_46 + 1))), (9, .int r_67), (8, .int x_66), (6, .int (nI q_43)), (5, .int r_1), (4, .int r_1), (3, .int (nI (dn sn))), (0, .ref (a 0)), (1, .int (nI sn)), (2, .int (nI rn))]) hx hb dX8_findRound_225 hl (k := 2) rfl (nI_add g_46 1) (by decide) rfl (fun ls hl => ?_)
                  refine lv_goto (tgt := 111) hx hb dX8_findRound_228 (by decide) ?_
                  exact ih_46 _ (g_46 + 1, f_69, f_76) _ _ _ (by omega) ⟨rfl, (by omega), hP, hD, hS, (lv_sub hl [0, 3, 4, 5, 6, 7, 8, 9] rfl)⟩
    · refine lv_iconst (v := 1) hx hb dX8_findRound_72 (by decide) ?_
      refine lv_goto (tgt := 77) hx hb dX8_findRound_73 (by decide) ?_
      refine va_zast hx hb hK hP hD hS 9 2 rfl rfl (vp_in_nI (by omega) (by decide)) dX8_findRound_77 (fun H locs hP hD hS => ?_)
      replace hP : va_P D classes [((a 0), .inr (8, (fX8 a (nI tx) fp (nI t0) wd (nI we) nu na (nI rd) ts (nI ru) (nI rw) (nI ca) df db sd))), (aI k (a 1) 3 (nF dn)), (aI k (a 4) 27 (sg se tm gs)), (aI k (a 2) 72 ffrees), (aI k (a 3) 72 fprices), (aI k (a 18) 768 fons), (aI k (a 19) 768 fworths), (aI k (a 20) 5 fstarts), (aI k (a 21) 4 fends), (aZ k (a 22) 4 (upd fgoesRound (Int32.toNatClampNeg (nI rn)) (vp_nar .boolean 1))), (aI k (a 23) 8 fbegin)] H := hP
      replace hD : va_D A [((a 0), .inr (8, (fX8 a (nI tx) fp (nI t0) wd (nI we) nu na (nI rd) ts (nI ru) (nI rw) (nI ca) df db sd))), (aI k (a 1) 3 (nF dn)), (aI k (a 4) 27 (sg se tm gs)), (aI k (a 2) 72 ffrees), (aI k (a 3) 72 fprices), (aI k (a 18) 768 fons), (aI k (a 19) 768 fworths), (aI k (a 20) 5 fstarts), (aI k (a 21) 4 fends), (aZ k (a 22) 4 (upd fgoesRound (Int32.toNatClampNeg (nI rn)) (vp_nar .boolean 1))), (aI k (a 23) 8 fbegin)] := hD
      generalize (upd fgoesRound (Int32.toNatClampNeg (nI rn)) (vp_nar .boolean 1)) = f_77 at hP hD
      refine lv_aload_n hx hb dX8_findRound_78 rfl (lv_at hl 3 rfl) ?_
      refine va_get (D := D) (ci := 8) (v := .ref (a 21)) (C := RX8) (T := TX8) (N := 44) hx hb hts inX8 hown hK hP 0 rfl rfl 20 (by decide) (hts _ tw_993) (fun _ h9 => h9) rfl dX8_findRound_79 ?_
      refine lv_iload_n hx hb dX8_findRound_82 rfl (lv_at hl 5 rfl) ?_
      refine lv_iload hx hb dX8_findRound_83 (lv_at hl 0 rfl) ?_
      refine lv_iload hx hb dX8_findRound_85 (lv_at hl 1 rfl) ?_
      refine lv_icmp_ge (tgt := 95) hx hb dX8_findRound_87 (by decide) (fun c_78 => ?_) (fun c_78 => ?_)
      · refine lv_iload hx hb dX8_findRound_95 (lv_at hl 1 rfl) ?_
        refine va_iast hx hb hK hP hD hS 8 1 rfl rfl (vp_in_nI (by omega) (by decide)) dX8_findRound_97 (fun H locs hP hD hS => ?_)
        replace hP : va_P D classes [((a 0), .inr (8, (fX8 a (nI tx) fp (nI t0) wd (nI we) nu na (nI rd) ts (nI ru) (nI rw) (nI ca) df db sd))), (aI k (a 1) 3 (nF dn)), (aI k (a 4) 27 (sg se tm gs)), (aI k (a 2) 72 ffrees), (aI k (a 3) 72 fprices), (aI k (a 18) 768 fons), (aI k (a 19) 768 fworths), (aI k (a 20) 5 fstarts), (aI k (a 21) 4 (upd fends (Int32.toNatClampNeg (nI rn)) r_1)), (aZ k (a 22) 4 f_77), (aI k (a 23) 8 fbegin)] H := hP
        replace hD : va_D A [((a 0), .inr (8, (fX8 a (nI tx) fp (nI t0) wd (nI we) nu na (nI rd) ts (nI ru) (nI rw) (nI ca) df db sd))), (aI k (a 1) 3 (nF dn)), (aI k (a 4) 27 (sg se tm gs)), (aI k (a 2) 72 ffrees), (aI k (a 3) 72 fprices), (aI k (a 18) 768 fons), (aI k (a 19) 768 fworths), (aI k (a 20) 5 fstarts), (aI k (a 21) 4 (upd fends (Int32.toNatClampNeg (nI rn)) r_1)), (aZ k (a 22) 4 f_77), (aI k (a 23) 8 fbegin)] := hD
        generalize (upd fends (Int32.toNatClampNeg (nI rn)) r_1) = f_79 at hP hD
        refine lv_iload_n hx hb dX8_findRound_98 rfl (lv_at hl 2 rfl) ?_
        refine lv_iconst (v := 1) hx hb dX8_findRound_99 (by decide) ?_
        refine lv_isub hx hb dX8_findRound_100 ?_
        refine lv_ti (y := (nI (dn sn) - 1)) rfl ?_
        refine lv_istore (lv' := [(6, .int (nI (dn sn) - 1)), (5, .int r_1), (4, .int r_1), (3, .int (nI (dn sn))), (0, .ref (a 0)), (1, .int (nI sn)), (2, .int (nI rn))]) hx hb dX8_findRound_101 hl (by decide) rfl (fun ls hl => ?_)
        refine W_loop (σ := Nat × (Nat → Int32) × (Nat → Int32)) (fun (n_ : Nat) (x_ : Nat × (Nat → Int32) × (Nat → Int32)) (H : Heap) (locs : List Loc) (ls : Array Slot) => match x_ with | (q_80, fo_80, fw_80) => n_ = 2 * q_80 ∧ (q_80 ≤ dn sn) ∧ va_P D classes [((a 0), .inr (8, (fX8 a (nI tx) fp (nI t0) wd (nI we) nu na (nI rd) ts (nI ru) (nI rw) (nI ca) df db sd))), (aI k (a 1) 3 (nF dn)), (aI k (a 4) 27 (sg se tm gs)), (aI k (a 2) 72 ffrees), (aI k (a 3) 72 fprices), (aI k (a 18) 768 fo_80), (aI k (a 19) 768 fw_80), (aI k (a 20) 5 fstarts), (aI k (a 21) 4 f_79), (aZ k (a 22) 4 f_77), (aI k (a 23) 8 fbegin)] H ∧ va_D A [((a 0), .inr (8, (fX8 a (nI tx) fp (nI t0) wd (nI we) nu na (nI rd) ts (nI ru) (nI rw) (nI ca) df db sd))), (aI k (a 1) 3 (nF dn)), (aI k (a 4) 27 (sg se tm gs)), (aI k (a 2) 72 ffrees), (aI k (a 3) 72 fprices), (aI k (a 18) 768 fo_80), (aI k (a 19) 768 fw_80), (aI k (a 20) 5 fstarts), (aI k (a 21) 4 f_79), (aZ k (a 22) 4 f_77), (aI k (a 23) 8 fbegin)] ∧ va_S A s.heap H locs ∧ lv_has ls 10 [(6, .int (nI q_80 - 1)), (5, .int r_1), (4, .int r_1), (3, .int (nI (dn sn))), (0, .ref (a 0)), (1, .int (nI sn)), (2, .int (nI rn))]) (fun n_80 x_80 H locs ls hI ih_80 => ?_) _ (dn sn, fons, fworths) ⟨rfl, (by omega), hP, hD, hS, (lv_sub hl [0, 1, 2, 3, 4, 5, 6] rfl)⟩
        obtain ⟨q_80, fo_80, fw_80⟩ := x_80
        obtain ⟨hm_80, hv_80, hP, hD, hS, hl⟩ := hI
        subst hm_80
        rcases q_80 with _ | q_80
        · rw [dn0] at hl
          refine lv_iload hx hb dX8_findRound_103 (lv_at hl 0 rfl) ?_
          refine lv_if_lt (tgt := 237) hx hb dX8_findRound_105 (by decide) (fun _ => ?_) (fun h => absurd (by decide) h)
          refine lv_aload_n hx hb dX8_findRound_237 rfl (lv_at hl 4 rfl) ?_
          refine va_get (D := D) (ci := 8) (v := .ref (a 20)) (C := RX8) (T := TX8) (N := 44) hx hb hts inX8 hown hK hP 0 rfl rfl 19 (by decide) (hts _ tw_992) (fun _ h9 => h9) rfl dX8_findRound_238 ?_
          refine lv_iload_n hx hb dX8_findRound_241 rfl (lv_at hl 6 rfl) ?_
          refine lv_aload_n hx hb dX8_findRound_242 rfl (lv_at hl 4 rfl) ?_
          refine lv_iload_n hx hb dX8_findRound_243 rfl (lv_at hl 5 rfl) ?_
          refine lv_iload_n hx hb dX8_findRound_244 rfl (lv_at hl 6 rfl) ?_
          refine rw_i (D := D) (wr := [(aI k (a 3) 72 fprices), (aI k (a 18) 768 fo_80), (aI k (a 20) 5 fstarts), (aI k (a 21) 4 f_79), (aZ k (a 22) 4 f_77)]) (va_runV (As := [.int (nI sn), .int (nI rn)]) (rest := [.int (nI rn), .ref (a 20)]) ⟨hx, hb, hml, hown, hts⟩ ((m_startOf l D k st lo a tx t0 we rd ru rw ca fp wd nu na ts df db sd dn se tm gs ffrees fw_80 fbegin sn rn hdn hse (by omega) (by omega) (by omega)) H.size) (cwV 2 hts (gV tw_1273 tw_1275 tw_53 tw_87 tw_1276) rfl rfl rfl (by decide +kernel) ⟨Nat.le_of_ble_eq_true rfl, Nat.le_of_ble_eq_true rfl⟩) (pV hS hAlo hlo hP hK (va_Dlo hD hAlo) hZ [0, 1, 2, 3, 6, 10] (by decide) rfl (ci := 8) (q := (RX8, TX8, 44)) (q0 := 0) rfl rfl) rfl rfl hl.1 rfl (lv_room (Nat.le_of_ble_eq_true rfl)) dX8_findRound_245 ⟨Nat.le_of_ble_eq_true rfl, Nat.le_of_ble_eq_true rfl⟩) hS hA hP hD [0, 1, 2, 3, 6, 10] [4, 5, 7, 8, 9] rfl rfl (by decide +kernel) (by decide +kernel) (fun r_81 u H locs hw_81 hP hD hS => ?_)
          obtain ⟨fbegin__81, rfl⟩ : ∃ z, z = u := ⟨_, rfl⟩
          replace hP : va_P D classes [(aI k (a 3) 72 fprices), (aI k (a 18) 768 fo_80), (aI k (a 20) 5 fstarts), (aI k (a 21) 4 f_79), (aZ k (a 22) 4 f_77), ((a 0), .inr (8, (fX8 a (nI tx) fp (nI t0) wd (nI we) nu na (nI rd) ts (nI ru) (nI rw) (nI ca) df db sd))), (aI k (a 1) 3 (nF dn)), (aI k (a 4) 27 (sg se tm gs)), (aI k (a 2) 72 ffrees), (aI k (a 19) 768 fw_80), (aI k (a 23) 8 fbegin__81)] H := hP
          replace hD : va_D A [(aI k (a 3) 72 fprices), (aI k (a 18) 768 fo_80), (aI k (a 20) 5 fstarts), (aI k (a 21) 4 f_79), (aZ k (a 22) 4 f_77), ((a 0), .inr (8, (fX8 a (nI tx) fp (nI t0) wd (nI we) nu na (nI rd) ts (nI ru) (nI rw) (nI ca) df db sd))), (aI k (a 1) 3 (nF dn)), (aI k (a 4) 27 (sg se tm gs)), (aI k (a 2) 72 ffrees), (aI k (a 19) 768 fw_80), (aI k (a 23) 8 fbegin__81)] := hD
          try dsimp only at hw_81
          refine va_iast hx hb hK hP hD hS 2 1 rfl rfl (vp_in_nI (by omega) (by decide)) dX8_findRound_248 (fun H locs hP hD hS => ?_)
          replace hP : va_P D classes [(aI k (a 3) 72 fprices), (aI k (a 18) 768 fo_80), (aI k (a 20) 5 (upd fstarts (Int32.toNatClampNeg (nI rn)) r_81)), (aI k (a 21) 4 f_79), (aZ k (a 22) 4 f_77), ((a 0), .inr (8, (fX8 a (nI tx) fp (nI t0) wd (nI we) nu na (nI rd) ts (nI ru) (nI rw) (nI ca) df db sd))), (aI k (a 1) 3 (nF dn)), (aI k (a 4) 27 (sg se tm gs)), (aI k (a 2) 72 ffrees), (aI k (a 19) 768 fw_80), (aI k (a 23) 8 fbegin__81)] H := hP
          replace hD : va_D A [(aI k (a 3) 72 fprices), (aI k (a 18) 768 fo_80), (aI k (a 20) 5 (upd fstarts (Int32.toNatClampNeg (nI rn)) r_81)), (aI k (a 21) 4 f_79), (aZ k (a 22) 4 f_77), ((a 0), .inr (8, (fX8 a (nI tx) fp (nI t0) wd (nI we) nu na (nI rd) ts (nI ru) (nI rw) (nI ca) df db sd))), (aI k (a 1) 3 (nF dn)), (aI k (a 4) 27 (sg se tm gs)), (aI k (a 2) 72 ffrees), (aI k (a 19) 768 fw_80), (aI k (a 23) 8 fbegin__81)] := hD
          generalize (upd fstarts (Int32.toNatClampNeg (nI rn)) r_81) = f_82 at hP hD
          have hP9 := hP.sub (ws' := [((a 0), .inr (8, (fX8 a (nI tx) fp (nI t0) wd (nI we) nu na (nI rd) ts (nI ru) (nI rw) (nI ca) df db sd))), (aI k (a 1) 3 (nF dn)), (aI k (a 4) 27 (sg se tm gs)), (aI k (a 2) 72 ffrees), (aI k (a 3) 72 fprices), (aI k (a 18) 768 fo_80), (aI k (a 19) 768 fw_80), (aI k (a 20) 5 f_82), (aI k (a 21) 4 f_79), (aZ k (a 22) 4 f_77), (aI k (a 23) 8 fbegin__81)]) [5, 6, 7, 8, 0, 1, 9, 2, 3, 4, 10] rfl
          have hD9 := hD.sub (ws' := [((a 0), .inr (8, (fX8 a (nI tx) fp (nI t0) wd (nI we) nu na (nI rd) ts (nI ru) (nI rw) (nI ca) df db sd))), (aI k (a 1) 3 (nF dn)), (aI k (a 4) 27 (sg se tm gs)), (aI k (a 2) 72 ffrees), (aI k (a 3) 72 fprices), (aI k (a 18) 768 fo_80), (aI k (a 19) 768 fw_80), (aI k (a 20) 5 f_82), (aI k (a 21) 4 f_79), (aZ k (a 22) 4 f_77), (aI k (a 23) 8 fbegin__81)]) [5, 6, 7, 8, 0, 1, 9, 2, 3, 4, 10] (by decide +kernel) rfl
          exact W.vret hx hb hr (fun t ht hW => ⟨⟨(fo_80, fw_80, f_82, f_79, f_77, fbegin__81), rfl, trivial, by rw [ht]; exact hP9, hD9⟩, hS.F ht⟩) hS.2.2 dX8_findRound_249
        · rw [nI_pred] at hl
          refine lv_iload hx hb dX8_findRound_103 (lv_at hl 0 rfl) ?_
          refine lv_if_lt (tgt := 237) hx hb dX8_findRound_105 (by decide) (fun h => absurd h (nI_pos0 (by omega))) (fun _ => ?_)
          refine lv_iconst (v := 0) hx hb dX8_findRound_108 (by decide) ?_
          refine lv_istore (lv' := [(7, .int 0), (6, .int (nI q_80)), (5, .int r_1), (4, .int r_1), (3, .int (nI (dn sn))), (0, .ref (a 0)), (1, .int (nI sn)), (2, .int (nI rn))]) hx hb dX8_findRound_109 hl (by decide) rfl (fun ls hl => ?_)
          refine W_loop (σ := Nat × (Nat → Int32) × (Nat → Int32)) (fun (n_ : Nat) (x_ : Nat × (Nat → Int32) × (Nat → Int32)) (H : Heap) (locs : List Loc) (ls : Array Slot) => match x_ with | (g_83, fo_83, fw_83) => n_ = 8 - g_83 ∧ (g_83 ≤ 8) ∧ va_P D classes [((a 0), .inr (8, (fX8 a (nI tx) fp (nI t0) wd (nI we) nu na (nI rd) ts (nI ru) (nI rw) (nI ca) df db sd))), (aI k (a 1) 3 (nF dn)), (aI k (a 4) 27 (sg se tm gs)), (aI k (a 2) 72 ffrees), (aI k (a 3) 72 fprices), (aI k (a 18) 768 fo_83), (aI k (a 19) 768 fw_83), (aI k (a 20) 5 fstarts), (aI k (a 21) 4 f_79), (aZ k (a 22) 4 f_77), (aI k (a 23) 8 fbegin)] H ∧ va_D A [((a 0), .inr (8, (fX8 a (nI tx) fp (nI t0) wd (nI we) nu na (nI rd) ts (nI ru) (nI rw) (nI ca) df db sd))), (aI k (a 1) 3 (nF dn)), (aI k (a 4) 27 (sg se tm gs)), (aI k (a 2) 72 ffrees), (aI k (a 3) 72 fprices), (aI k (a 18) 768 fo_83), (aI k (a 19) 768 fw_83), (aI k (a 20) 5 fstarts), (aI k (a 21) 4 f_79), (aZ k (a 22) 4 f_77), (aI k (a 23) 8 fbegin)] ∧ va_S A s.heap H locs ∧ lv_has ls 10 [(7, .int (nI g_83)), (6, .int (nI q_80)), (5, .int r_1), (4, .int r_1), (3, .int (nI (dn sn))), (0, .ref (a 0)), (1, .int (nI sn)), (2, .int (nI rn))]) (fun n_83 x_83 H locs ls hI ih_83 => ?_) _ (0, fo_80, fw_80) ⟨rfl, (by omega), hP, hD, hS, (lv_sub hl [0, 1, 2, 3, 4, 5, 6, 7] rfl)⟩
          obtain ⟨g_83, fo_83, fw_83⟩ := x_83
          obtain ⟨hm_83, hv_83, hP, hD, hS, hl⟩ := hI
          subst hm_83
          refine lv_iload hx hb dX8_findRound_111 (lv_at hl 0 rfl) ?_
          refine lv_iconst (v := 1) hx hb dX8_findRound_113 (by decide) ?_
          refine lv_aload_n hx hb dX8_findRound_114 rfl (lv_at hl 5 rfl) ?_
          refine lv_iload_n hx hb dX8_findRound_115 rfl (lv_at hl 6 rfl) ?_
          refine lv_iload hx hb dX8_findRound_116 (lv_at hl 1 rfl) ?_
          refine ro_i (D := D) (va_runV (As := [.int (nI sn), .int (nI q_80)]) (rest := [.int 1, .int (nI g_83)]) ⟨hx, hb, hml, hown, hts⟩ ((m_seen l D k st lo a tx t0 we rd ru rw ca fp wd nu na ts df db sd dn se tm gs sn q_80 hdn hse (by omega) (by omega)) H.size) (cwV 2 hts (gV tw_1246 tw_1248 tw_48 tw_87 tw_1249) rfl rfl rfl (by decide +kernel) ⟨Nat.le_of_ble_eq_true rfl, Nat.le_of_ble_eq_true rfl⟩) (pV hS hAlo hlo hP hK (va_Dlo hD hAlo) hZ [0, 1, 2] (by decide) rfl (ci := 8) (q := (RX8, TX8, 44)) (q0 := 0) rfl rfl) rfl rfl hl.1 rfl (lv_room (Nat.le_of_ble_eq_true rfl)) dX8_findRound_118 ⟨Nat.le_of_ble_eq_true rfl, Nat.le_of_ble_eq_true rfl⟩) hS hA hP (fun r_84 H locs hw_84 hP hS => ?_)
          try dsimp only at hw_84
          obtain ⟨sv_85, esv_85⟩ : ∃ z : Nat, z = (if dn sn - q_80 < se sn + 1 then dn sn - q_80 else se sn + 1) := ⟨_, rfl⟩
          rw [← esv_85] at hw_84
          subst hw_84
          have hsv_85 : sv_85 ≤ 3 ∧ sv_85 ≤ dn sn - q_80 ∧ (0 < dn sn - q_80 → 1 ≤ sv_85) := by
            have hse9 := hse sn
            split at esv_85 <;> omega
          obtain ⟨pw_86, epw_86⟩ : ∃ z : Nat, z = 2 ^ sv_85 := ⟨_, rfl⟩
          have hpw_86 : 1 ≤ pw_86 ∧ pw_86 ≤ 8 := by rw [epw_86]; exact pw8 (by omega)
          refine lv_ishl hx hb dX8_findRound_121 ?_
          refine lv_ti (y := (nI pw_86)) (by rw [epw_86]; exact shl1 sv_85 (by omega)) ?_
          refine lv_icmp_ge (tgt := 231) hx hb dX8_findRound_122 (by decide) (fun c_87 => ?_) (fun c_87 => ?_)
          · have c_87 := (nI_leI (a := pw_86) (b := g_83) (by omega) (by omega)).mp c_87
            refine lv_iinc (v := (nI q_80 - 1)) (lv' := [(6, .int (nI q_80 - 1)), (7, .int (nI g_83)), (5, .int r_1), (4, .int r_1), (3, .int (nI (dn sn))), (0, .ref (a 0)), (1, .int (nI sn)), (2, .int (nI rn))]) hx hb dX8_findRound_231 hl (k := 1) rfl (dn1 _) (by decide) rfl (fun ls hl => ?_)
            refine lv_goto (tgt := 103) hx hb dX8_findRound_234 (by decide) ?_
            exact ih_80 _ (q_80, fo_83, fw_83) _ _ _ (by omega) ⟨rfl, (by omega), hP, hD, hS, (lv_sub hl [0, 2, 3, 4, 5, 6, 7] rfl)⟩
          · have c_87 : ¬ (pw_86 ≤ g_83) := fun h => c_87 ((nI_leI (a := pw_86) (b := g_83) (by omega) (by omega)).mpr h)
            refine lv_aload_n hx hb dX8_findRound_125 rfl (lv_at hl 5 rfl) ?_
            refine lv_iload_n hx hb dX8_findRound_126 rfl (lv_at hl 6 rfl) ?_
            refine lv_iconst (v := 2) hx hb dX8_findRound_127 (by decide) ?_
            refine ro_i (D := D) (va_runV (As := [.int (nI sn), .int 2]) (rest := []) ⟨hx, hb, hml, hown, hts⟩ ((m_of l D k st lo a tx t0 we rd ru rw ca fp wd nu na ts df db sd se tm gs sn 2 (by omega) (by omega)) H.size) (cwV 2 hts (gV tw_1194 tw_1196 tw_39 tw_87 tw_1197) rfl rfl rfl (by decide +kernel) ⟨Nat.le_of_ble_eq_true rfl, Nat.le_of_ble_eq_true rfl⟩) (pV hS hAlo hlo hP hK (va_Dlo hD hAlo) hZ [0, 2] (by decide) rfl (ci := 8) (q := (RX8, TX8, 44)) (q0 := 0) rfl rfl) rfl rfl hl.1 rfl (lv_room (Nat.le_of_ble_eq_true rfl)) dX8_findRound_128 ⟨Nat.le_of_ble_eq_true rfl, Nat.le_of_ble_eq_true rfl⟩) hS hA hP (fun r_88 H locs hw_88 hP hS => ?_)
            try dsimp only at hw_88
            refine lv_sipush (v := 1000) hx hb dX8_findRound_131 (by decide) ?_
            refine lv_imul hx hb dX8_findRound_134 ?_
            refine lv_topi (fun x_89 ex_89 => ?_)
            refine lv_iload hx hb dX8_findRound_135 (lv_at hl 1 rfl) ?_
            refine lv_iload_n hx hb dX8_findRound_137 rfl (lv_at hl 4 rfl) ?_
            refine lv_iconst (v := 1) hx hb dX8_findRound_138 (by decide) ?_
            refine lv_isub hx hb dX8_findRound_139 ?_
            refine lv_ti (y := (nI ((dn sn) - 1))) (pk_sub (a := (dn sn)) (b := 1) (by omega)) ?_
            refine lv_icmp_ne (tgt := 152) hx hb dX8_findRound_140 (by decide) (fun c_90 => ?_) (fun c_90 => ?_)
            · have c_90 : ¬ (q_80 = ((dn sn) - 1)) := fun h => c_90 ((nI_eq (a := q_80) (b := ((dn sn) - 1)) (by omega) (by omega)).mpr h)
              refine lv_aload_n hx hb dX8_findRound_152 rfl (lv_at hl 5 rfl) ?_
              refine lv_iload_n hx hb dX8_findRound_153 rfl (lv_at hl 6 rfl) ?_
              refine lv_iload_n hx hb dX8_findRound_154 rfl (lv_at hl 7 rfl) ?_
              refine lv_iload hx hb dX8_findRound_155 (lv_at hl 1 rfl) ?_
              refine lv_iload hx hb dX8_findRound_157 (lv_at hl 0 rfl) ?_
              refine ro_i (D := D) (va_runV (As := [.int (nI sn), .int (nI rn), .int (nI q_80), .int (nI g_83)]) (rest := [.int x_89]) ⟨hx, hb, hml, hown, hts⟩ ((m_on l D k st lo a tx t0 we rd ru rw ca fp wd nu na ts df db sd dn se tm gs ffrees fw_83 sn rn q_80 g_83 hdn hse (by omega) (by omega) (by omega) (by omega)) H.size) (cwV 4 hts (gV tw_1262 tw_1264 tw_52 tw_87 tw_1265) rfl rfl rfl (by decide +kernel) ⟨Nat.le_of_ble_eq_true rfl, Nat.le_of_ble_eq_true rfl⟩) (pV hS hAlo hlo hP hK (va_Dlo hD hAlo) hZ [0, 1, 2, 3, 6] (by decide) rfl (ci := 8) (q := (RX8, TX8, 44)) (q0 := 0) rfl rfl) rfl rfl hl.1 rfl (lv_room (Nat.le_of_ble_eq_true rfl)) dX8_findRound_159 ⟨Nat.le_of_ble_eq_true rfl, Nat.le_of_ble_eq_true rfl⟩) hS hA hP (fun r_91 H locs hw_91 hP hS => ?_)
              try dsimp only at hw_91
              refine lv_iadd hx hb dX8_findRound_162 ?_
              refine lv_topi (fun x_92 ex_92 => ?_)
              refine lv_istore (lv' := [(8, .int x_92), (7, .int (nI g_83)), (6, .int (nI q_80)), (5, .int r_1), (4, .int r_1), (3, .int (nI (dn sn))), (0, .ref (a 0)), (1, .int (nI sn)), (2, .int (nI rn))]) hx hb dX8_findRound_163 hl (by decide) rfl (fun ls hl => ?_)
              refine lv_aload_n hx hb dX8_findRound_165 rfl (lv_at hl 6 rfl) ?_
              refine lv_iload_n hx hb dX8_findRound_166 rfl (lv_at hl 7 rfl) ?_
              refine lv_iload_n hx hb dX8_findRound_167 rfl (lv_at hl 8 rfl) ?_
              refine lv_iload hx hb dX8_findRound_168 (lv_at hl 2 rfl) ?_
              refine ro_i (D := D) (va_runV (As := [.int (nI sn), .int (nI rn), .int (nI q_80)]) (rest := []) ⟨hx, hb, hml, hown, hts⟩ ((m_takingOf l D k st lo a tx t0 we rd ru rw ca fp wd nu na ts df db sd dn se tm gs fprices sn q_80 (nI rn) (by omega) (by omega)) H.size) (cwV 3 hts (gV tw_1222 tw_1224 tw_43 tw_87 tw_1225) rfl rfl rfl (by decide +kernel) ⟨Nat.le_of_ble_eq_true rfl, Nat.le_of_ble_eq_true rfl⟩) (pV hS hAlo hlo hP hK (va_Dlo hD hAlo) hZ [0, 1, 2, 4] (by decide) rfl (ci := 8) (q := (RX8, TX8, 44)) (q0 := 0) rfl rfl) rfl rfl hl.1 rfl (lv_room (Nat.le_of_ble_eq_true rfl)) dX8_findRound_170 ⟨Nat.le_of_ble_eq_true rfl, Nat.le_of_ble_eq_true rfl⟩) hS hA hP (fun r_93 H locs hw_93 hP hS => ?_)
              try dsimp only at hw_93
              refine lv_istore (lv' := [(9, .int r_93), (8, .int x_92), (7, .int (nI g_83)), (6, .int (nI q_80)), (5, .int r_1), (4, .int r_1), (3, .int (nI (dn sn))), (0, .ref (a 0)), (1, .int (nI sn)), (2, .int (nI rn))]) hx hb dX8_findRound_173 hl (by decide) rfl (fun ls hl => ?_)
              refine lv_aload_n hx hb dX8_findRound_175 rfl (lv_at hl 7 rfl) ?_
              refine va_get (D := D) (ci := 8) (v := .ref (a 18)) (C := RX8) (T := TX8) (N := 44) hx hb hts inX8 hown hK hP 0 rfl rfl 17 (by decide) (hts _ tw_990) (fun _ h9 => h9) rfl dX8_findRound_176 ?_
              refine lv_iload_n hx hb dX8_findRound_179 rfl (lv_at hl 9 rfl) ?_
              refine lv_iload hx hb dX8_findRound_180 (lv_at hl 3 rfl) ?_
              refine lv_iload hx hb dX8_findRound_182 (lv_at hl 2 rfl) ?_
              refine ro_i (D := D) (va_runS (As := [.int (nI rn), .int (nI q_80), .int (nI g_83)]) (rest := [.ref (a 18)]) ⟨hx, hb, hml, hown, hts⟩ ((m_at l D k st lo rn q_80 g_83) H.size) (va_cwS 3 hts (gS tw_1266 tw_1267 tw_87 tw_1268) rfl rfl rfl (by decide +kernel) ⟨Nat.le_of_ble_eq_true rfl, Nat.le_of_ble_eq_true rfl⟩) (pS hS hAlo hlo hP hK (va_Dlo hD hAlo) hZ [] (by decide) rfl) rfl rfl hl.1 rfl (lv_room (Nat.le_of_ble_eq_true rfl)) dX8_findRound_184 ⟨Nat.le_of_ble_eq_true rfl, Nat.le_of_ble_eq_true rfl⟩) hS hA hP (fun r_94 H locs hw_94 hP hS => ?_)
              try dsimp only at hw_94
              subst hw_94
              refine lv_iload hx hb dX8_findRound_187 (lv_at hl 1 rfl) ?_
              refine va_iast hx hb hK hP hD hS 5 1 rfl rfl (vp_in_nI (by omega) (by decide)) dX8_findRound_189 (fun H locs hP hD hS => ?_)
              replace hP : va_P D classes [((a 0), .inr (8, (fX8 a (nI tx) fp (nI t0) wd (nI we) nu na (nI rd) ts (nI ru) (nI rw) (nI ca) df db sd))), (aI k (a 1) 3 (nF dn)), (aI k (a 4) 27 (sg se tm gs)), (aI k (a 2) 72 ffrees), (aI k (a 3) 72 fprices), (aI k (a 18) 768 (upd fo_83 (Int32.toNatClampNeg (nI (192 * rn + 8 * q_80 + g_83))) x_92)), (aI k (a 19) 768 fw_83), (aI k (a 20) 5 fstarts), (aI k (a 21) 4 f_79), (aZ k (a 22) 4 f_77), (aI k (a 23) 8 fbegin)] H := hP
              replace hD : va_D A [((a 0), .inr (8, (fX8 a (nI tx) fp (nI t0) wd (nI we) nu na (nI rd) ts (nI ru) (nI rw) (nI ca) df db sd))), (aI k (a 1) 3 (nF dn)), (aI k (a 4) 27 (sg se tm gs)), (aI k (a 2) 72 ffrees), (aI k (a 3) 72 fprices), (aI k (a 18) 768 (upd fo_83 (Int32.toNatClampNeg (nI (192 * rn + 8 * q_80 + g_83))) x_92)), (aI k (a 19) 768 fw_83), (aI k (a 20) 5 fstarts), (aI k (a 21) 4 f_79), (aZ k (a 22) 4 f_77), (aI k (a 23) 8 fbegin)] := hD
              generalize (upd fo_83 (Int32.toNatClampNeg (nI (192 * rn + 8 * q_80 + g_83))) x_92) = f_95 at hP hD
              refine lv_aload_n hx hb dX8_findRound_190 rfl (lv_at hl 7 rfl) ?_
              refine va_get (D := D) (ci := 8) (v := .ref (a 19)) (C := RX8) (T := TX8) (N := 44) hx hb hts inX8 hown hK hP 0 rfl rfl 18 (by decide) (hts _ tw_991) (fun _ h9 => h9) rfl dX8_findRound_191 ?_
              refine lv_iload_n hx hb dX8_findRound_194 rfl (lv_at hl 9 rfl) ?_
              refine lv_iload hx hb dX8_findRound_195 (lv_at hl 3 rfl) ?_
              refine lv_iload hx hb dX8_findRound_197 (lv_at hl 2 rfl) ?_
              refine ro_i (D := D) (va_runS (As := [.int (nI rn), .int (nI q_80), .int (nI g_83)]) (rest := [.ref (a 19)]) ⟨hx, hb, hml, hown, hts⟩ ((m_at l D k st lo rn q_80 g_83) H.size) (va_cwS 3 hts (gS tw_1266 tw_1267 tw_87 tw_1268) rfl rfl rfl (by decide +kernel) ⟨Nat.le_of_ble_eq_true rfl, Nat.le_of_ble_eq_true rfl⟩) (pS hS hAlo hlo hP hK (va_Dlo hD hAlo) hZ [] (by decide) rfl) rfl rfl hl.1 rfl (lv_room (Nat.le_of_ble_eq_true rfl)) dX8_findRound_199 ⟨Nat.le_of_ble_eq_true rfl, Nat.le_of_ble_eq_true rfl⟩) hS hA hP (fun r_96 H locs hw_96 hP hS => ?_)
              try dsimp only at hw_96
              subst hw_96
              refine lv_iload hx hb dX8_findRound_202 (lv_at hl 2 rfl) ?_
              refine lv_iconst (v := 1) hx hb dX8_findRound_204 (by decide) ?_
              refine lv_iand hx hb dX8_findRound_205 ?_
              refine lv_topi (fun x_97 ex_97 => ?_)
              refine lv_iconst (v := 1) hx hb dX8_findRound_206 (by decide) ?_
              refine lv_icmp_ne (tgt := 222) hx hb dX8_findRound_207 (by decide) (fun c_98 => ?_) (fun c_98 => ?_)
              · refine lv_iload hx hb dX8_findRound_222 (lv_at hl 1 rfl) ?_
                refine va_iast hx hb hK hP hD hS 6 1 rfl rfl (vp_in_nI (by omega) (by decide)) dX8_findRound_224 (fun H locs hP hD hS => ?_)
                replace hP : va_P D classes [((a 0), .inr (8, (fX8 a (nI tx) fp (nI t0) wd (nI we) nu na (nI rd) ts (nI ru) (nI rw) (nI ca) df db sd))), (aI k (a 1) 3 (nF dn)), (aI k (a 4) 27 (sg se tm gs)), (aI k (a 2) 72 ffrees), (aI k (a 3) 72 fprices), (aI k (a 18) 768 f_95), (aI k (a 19) 768 (upd fw_83 (Int32.toNatClampNeg (nI (192 * rn + 8 * q_80 + g_83))) x_92)), (aI k (a 20) 5 fstarts), (aI k (a 21) 4 f_79), (aZ k (a 22) 4 f_77), (aI k (a 23) 8 fbegin)] H := hP
                replace hD : va_D A [((a 0), .inr (8, (fX8 a (nI tx) fp (nI t0) wd (nI we) nu na (nI rd) ts (nI ru) (nI rw) (nI ca) df db sd))), (aI k (a 1) 3 (nF dn)), (aI k (a 4) 27 (sg se tm gs)), (aI k (a 2) 72 ffrees), (aI k (a 3) 72 fprices), (aI k (a 18) 768 f_95), (aI k (a 19) 768 (upd fw_83 (Int32.toNatClampNeg (nI (192 * rn + 8 * q_80 + g_83))) x_92)), (aI k (a 20) 5 fstarts), (aI k (a 21) 4 f_79), (aZ k (a 22) 4 f_77), (aI k (a 23) 8 fbegin)] := hD
                generalize (upd fw_83 (Int32.toNatClampNeg (nI (192 * rn + 8 * q_80 + g_83))) x_92) = f_99 at hP hD
                refine lv_iinc (v := (nI (g_83 + 1))) (lv' := [(7, .int (nI (g_83 + 1))), (9, .int r_93), (8, .int x_92), (6, .int (nI q_80)), (5, .int r_1), (4, .int r_1), (3, .int (nI (dn sn))), (0, .ref (a 0)), (1, .int (nI sn)), (2, .int (nI rn))]) hx hb dX8_findRound_225 hl (k := 2) rfl (nI_add g_83 1) (by decide) rfl (fun ls hl => ?_)
                refine lv_goto (tgt := 111) hx hb dX8_findRound_228 (by decide) ?_
                exact ih_83 _ (g_83 + 1, f_95, f_99) _ _ _ (by omega) ⟨rfl, (by omega), hP, hD, hS, (lv_sub hl [0, 3, 4, 5, 6, 7, 8, 9] rfl)⟩
              · refine lv_iload hx hb dX8_findRound_210 (lv_at hl 0 rfl) ?_
                refine lv_iload hx hb dX8_findRound_212 (lv_at hl 1 rfl) ?_
                refine lv_icmp_gt (tgt := 222) hx hb dX8_findRound_214 (by decide) (fun c_100 => ?_) (fun c_100 => ?_)
                · refine lv_iload hx hb dX8_findRound_222 (lv_at hl 1 rfl) ?_
                  refine va_iast hx hb hK hP hD hS 6 1 rfl rfl (vp_in_nI (by omega) (by decide)) dX8_findRound_224 (fun H locs hP hD hS => ?_)
                  replace hP : va_P D classes [((a 0), .inr (8, (fX8 a (nI tx) fp (nI t0) wd (nI we) nu na (nI rd) ts (nI ru) (nI rw) (nI ca) df db sd))), (aI k (a 1) 3 (nF dn)), (aI k (a 4) 27 (sg se tm gs)), (aI k (a 2) 72 ffrees), (aI k (a 3) 72 fprices), (aI k (a 18) 768 f_95), (aI k (a 19) 768 (upd fw_83 (Int32.toNatClampNeg (nI (192 * rn + 8 * q_80 + g_83))) x_92)), (aI k (a 20) 5 fstarts), (aI k (a 21) 4 f_79), (aZ k (a 22) 4 f_77), (aI k (a 23) 8 fbegin)] H := hP
                  replace hD : va_D A [((a 0), .inr (8, (fX8 a (nI tx) fp (nI t0) wd (nI we) nu na (nI rd) ts (nI ru) (nI rw) (nI ca) df db sd))), (aI k (a 1) 3 (nF dn)), (aI k (a 4) 27 (sg se tm gs)), (aI k (a 2) 72 ffrees), (aI k (a 3) 72 fprices), (aI k (a 18) 768 f_95), (aI k (a 19) 768 (upd fw_83 (Int32.toNatClampNeg (nI (192 * rn + 8 * q_80 + g_83))) x_92)), (aI k (a 20) 5 fstarts), (aI k (a 21) 4 f_79), (aZ k (a 22) 4 f_77), (aI k (a 23) 8 fbegin)] := hD
                  generalize (upd fw_83 (Int32.toNatClampNeg (nI (192 * rn + 8 * q_80 + g_83))) x_92) = f_101 at hP hD
                  refine lv_iinc (v := (nI (g_83 + 1))) (lv' := [(7, .int (nI (g_83 + 1))), (9, .int r_93), (8, .int x_92), (6, .int (nI q_80)), (5, .int r_1), (4, .int r_1), (3, .int (nI (dn sn))), (0, .ref (a 0)), (1, .int (nI sn)), (2, .int (nI rn))]) hx hb dX8_findRound_225 hl (k := 2) rfl (nI_add g_83 1) (by decide) rfl (fun ls hl => ?_)
                  refine lv_goto (tgt := 111) hx hb dX8_findRound_228 (by decide) ?_
                  exact ih_83 _ (g_83 + 1, f_95, f_101) _ _ _ (by omega) ⟨rfl, (by omega), hP, hD, hS, (lv_sub hl [0, 3, 4, 5, 6, 7, 8, 9] rfl)⟩
                · refine lv_iload hx hb dX8_findRound_217 (lv_at hl 0 rfl) ?_
                  refine lv_goto (tgt := 224) hx hb dX8_findRound_219 (by decide) ?_
                  refine va_iast hx hb hK hP hD hS 6 1 rfl rfl (vp_in_nI (by omega) (by decide)) dX8_findRound_224 (fun H locs hP hD hS => ?_)
                  replace hP : va_P D classes [((a 0), .inr (8, (fX8 a (nI tx) fp (nI t0) wd (nI we) nu na (nI rd) ts (nI ru) (nI rw) (nI ca) df db sd))), (aI k (a 1) 3 (nF dn)), (aI k (a 4) 27 (sg se tm gs)), (aI k (a 2) 72 ffrees), (aI k (a 3) 72 fprices), (aI k (a 18) 768 f_95), (aI k (a 19) 768 (upd fw_83 (Int32.toNatClampNeg (nI (192 * rn + 8 * q_80 + g_83))) r_93)), (aI k (a 20) 5 fstarts), (aI k (a 21) 4 f_79), (aZ k (a 22) 4 f_77), (aI k (a 23) 8 fbegin)] H := hP
                  replace hD : va_D A [((a 0), .inr (8, (fX8 a (nI tx) fp (nI t0) wd (nI we) nu na (nI rd) ts (nI ru) (nI rw) (nI ca) df db sd))), (aI k (a 1) 3 (nF dn)), (aI k (a 4) 27 (sg se tm gs)), (aI k (a 2) 72 ffrees), (aI k (a 3) 72 fprices), (aI k (a 18) 768 f_95), (aI k (a 19) 768 (upd fw_83 (Int32.toNatClampNeg (nI (192 * rn + 8 * q_80 + g_83))) r_93)), (aI k (a 20) 5 fstarts), (aI k (a 21) 4 f_79), (aZ k (a 22) 4 f_77), (aI k (a 23) 8 fbegin)] := hD
                  generalize (upd fw_83 (Int32.toNatClampNeg (nI (192 * rn + 8 * q_80 + g_83))) r_93) = f_102 at hP hD
                  refine lv_iinc (v := (nI (g_83 + 1))) (lv' := [(7, .int (nI (g_83 + 1))), (9, .int r_93), (8, .int x_92), (6, .int (nI q_80)), (5, .int r_1), (4, .int r_1), (3, .int (nI (dn sn))), (0, .ref (a 0)), (1, .int (nI sn)), (2, .int (nI rn))]) hx hb dX8_findRound_225 hl (k := 2) rfl (nI_add g_83 1) (by decide) rfl (fun ls hl => ?_)
                  refine lv_goto (tgt := 111) hx hb dX8_findRound_228 (by decide) ?_
                  exact ih_83 _ (g_83 + 1, f_95, f_102) _ _ _ (by omega) ⟨rfl, (by omega), hP, hD, hS, (lv_sub hl [0, 3, 4, 5, 6, 7, 8, 9] rfl)⟩
            · have c_90 := (nI_eq (a := q_80) (b := ((dn sn) - 1)) (by omega) (by omega)).mp c_90
              refine lv_aload_n hx hb dX8_findRound_143 rfl (lv_at hl 5 rfl) ?_
              refine va_get (D := D) (ci := 8) (v := .ref (a 21)) (C := RX8) (T := TX8) (N := 44) hx hb hts inX8 hown hK hP 0 rfl rfl 20 (by decide) (hts _ tw_993) (fun _ h9 => h9) rfl dX8_findRound_144 ?_
              refine lv_iload_n hx hb dX8_findRound_147 rfl (lv_at hl 7 rfl) ?_
              refine va_iald hx hb hK hP 8 1 rfl rfl (vp_in_nI (by omega) (by decide)) dX8_findRound_148 ?_
              refine lv_ti (y := (f_79 rn)) (by rw [nI_clamp (by omega)]) ?_
              refine lv_goto (tgt := 162) hx hb dX8_findRound_149 (by decide) ?_
              refine lv_iadd hx hb dX8_findRound_162 ?_
              refine lv_topi (fun x_103 ex_103 => ?_)
              refine lv_istore (lv' := [(8, .int x_103), (7, .int (nI g_83)), (6, .int (nI q_80)), (5, .int r_1), (4, .int r_1), (3, .int (nI (dn sn))), (0, .ref (a 0)), (1, .int (nI sn)), (2, .int (nI rn))]) hx hb dX8_findRound_163 hl (by decide) rfl (fun ls hl => ?_)
              refine lv_aload_n hx hb dX8_findRound_165 rfl (lv_at hl 6 rfl) ?_
              refine lv_iload_n hx hb dX8_findRound_166 rfl (lv_at hl 7 rfl) ?_
              refine lv_iload_n hx hb dX8_findRound_167 rfl (lv_at hl 8 rfl) ?_
              refine lv_iload hx hb dX8_findRound_168 (lv_at hl 2 rfl) ?_
              refine ro_i (D := D) (va_runV (As := [.int (nI sn), .int (nI rn), .int (nI q_80)]) (rest := []) ⟨hx, hb, hml, hown, hts⟩ ((m_takingOf l D k st lo a tx t0 we rd ru rw ca fp wd nu na ts df db sd dn se tm gs fprices sn q_80 (nI rn) (by omega) (by omega)) H.size) (cwV 3 hts (gV tw_1222 tw_1224 tw_43 tw_87 tw_1225) rfl rfl rfl (by decide +kernel) ⟨Nat.le_of_ble_eq_true rfl, Nat.le_of_ble_eq_true rfl⟩) (pV hS hAlo hlo hP hK (va_Dlo hD hAlo) hZ [0, 1, 2, 4] (by decide) rfl (ci := 8) (q := (RX8, TX8, 44)) (q0 := 0) rfl rfl) rfl rfl hl.1 rfl (lv_room (Nat.le_of_ble_eq_true rfl)) dX8_findRound_170 ⟨Nat.le_of_ble_eq_true rfl, Nat.le_of_ble_eq_true rfl⟩) hS hA hP (fun r_104 H locs hw_104 hP hS => ?_)
              try dsimp only at hw_104
              refine lv_istore (lv' := [(9, .int r_104), (8, .int x_103), (7, .int (nI g_83)), (6, .int (nI q_80)), (5, .int r_1), (4, .int r_1), (3, .int (nI (dn sn))), (0, .ref (a 0)), (1, .int (nI sn)), (2, .int (nI rn))]) hx hb dX8_findRound_173 hl (by decide) rfl (fun ls hl => ?_)
              refine lv_aload_n hx hb dX8_findRound_175 rfl (lv_at hl 7 rfl) ?_
              refine va_get (D := D) (ci := 8) (v := .ref (a 18)) (C := RX8) (T := TX8) (N := 44) hx hb hts inX8 hown hK hP 0 rfl rfl 17 (by decide) (hts _ tw_990) (fun _ h9 => h9) rfl dX8_findRound_176 ?_
              refine lv_iload_n hx hb dX8_findRound_179 rfl (lv_at hl 9 rfl) ?_
              refine lv_iload hx hb dX8_findRound_180 (lv_at hl 3 rfl) ?_
              refine lv_iload hx hb dX8_findRound_182 (lv_at hl 2 rfl) ?_
              refine ro_i (D := D) (va_runS (As := [.int (nI rn), .int (nI q_80), .int (nI g_83)]) (rest := [.ref (a 18)]) ⟨hx, hb, hml, hown, hts⟩ ((m_at l D k st lo rn q_80 g_83) H.size) (va_cwS 3 hts (gS tw_1266 tw_1267 tw_87 tw_1268) rfl rfl rfl (by decide +kernel) ⟨Nat.le_of_ble_eq_true rfl, Nat.le_of_ble_eq_true rfl⟩) (pS hS hAlo hlo hP hK (va_Dlo hD hAlo) hZ [] (by decide) rfl) rfl rfl hl.1 rfl (lv_room (Nat.le_of_ble_eq_true rfl)) dX8_findRound_184 ⟨Nat.le_of_ble_eq_true rfl, Nat.le_of_ble_eq_true rfl⟩) hS hA hP (fun r_105 H locs hw_105 hP hS => ?_)
              try dsimp only at hw_105
              subst hw_105
              refine lv_iload hx hb dX8_findRound_187 (lv_at hl 1 rfl) ?_
              refine va_iast hx hb hK hP hD hS 5 1 rfl rfl (vp_in_nI (by omega) (by decide)) dX8_findRound_189 (fun H locs hP hD hS => ?_)
              replace hP : va_P D classes [((a 0), .inr (8, (fX8 a (nI tx) fp (nI t0) wd (nI we) nu na (nI rd) ts (nI ru) (nI rw) (nI ca) df db sd))), (aI k (a 1) 3 (nF dn)), (aI k (a 4) 27 (sg se tm gs)), (aI k (a 2) 72 ffrees), (aI k (a 3) 72 fprices), (aI k (a 18) 768 (upd fo_83 (Int32.toNatClampNeg (nI (192 * rn + 8 * q_80 + g_83))) x_103)), (aI k (a 19) 768 fw_83), (aI k (a 20) 5 fstarts), (aI k (a 21) 4 f_79), (aZ k (a 22) 4 f_77), (aI k (a 23) 8 fbegin)] H := hP
              replace hD : va_D A [((a 0), .inr (8, (fX8 a (nI tx) fp (nI t0) wd (nI we) nu na (nI rd) ts (nI ru) (nI rw) (nI ca) df db sd))), (aI k (a 1) 3 (nF dn)), (aI k (a 4) 27 (sg se tm gs)), (aI k (a 2) 72 ffrees), (aI k (a 3) 72 fprices), (aI k (a 18) 768 (upd fo_83 (Int32.toNatClampNeg (nI (192 * rn + 8 * q_80 + g_83))) x_103)), (aI k (a 19) 768 fw_83), (aI k (a 20) 5 fstarts), (aI k (a 21) 4 f_79), (aZ k (a 22) 4 f_77), (aI k (a 23) 8 fbegin)] := hD
              generalize (upd fo_83 (Int32.toNatClampNeg (nI (192 * rn + 8 * q_80 + g_83))) x_103) = f_106 at hP hD
              refine lv_aload_n hx hb dX8_findRound_190 rfl (lv_at hl 7 rfl) ?_
              refine va_get (D := D) (ci := 8) (v := .ref (a 19)) (C := RX8) (T := TX8) (N := 44) hx hb hts inX8 hown hK hP 0 rfl rfl 18 (by decide) (hts _ tw_991) (fun _ h9 => h9) rfl dX8_findRound_191 ?_
              refine lv_iload_n hx hb dX8_findRound_194 rfl (lv_at hl 9 rfl) ?_
              refine lv_iload hx hb dX8_findRound_195 (lv_at hl 3 rfl) ?_
              refine lv_iload hx hb dX8_findRound_197 (lv_at hl 2 rfl) ?_
              refine ro_i (D := D) (va_runS (As := [.int (nI rn), .int (nI q_80), .int (nI g_83)]) (rest := [.ref (a 19)]) ⟨hx, hb, hml, hown, hts⟩ ((m_at l D k st lo rn q_80 g_83) H.size) (va_cwS 3 hts (gS tw_1266 tw_1267 tw_87 tw_1268) rfl rfl rfl (by decide +kernel) ⟨Nat.le_of_ble_eq_true rfl, Nat.le_of_ble_eq_true rfl⟩) (pS hS hAlo hlo hP hK (va_Dlo hD hAlo) hZ [] (by decide) rfl) rfl rfl hl.1 rfl (lv_room (Nat.le_of_ble_eq_true rfl)) dX8_findRound_199 ⟨Nat.le_of_ble_eq_true rfl, Nat.le_of_ble_eq_true rfl⟩) hS hA hP (fun r_107 H locs hw_107 hP hS => ?_)
              try dsimp only at hw_107
              subst hw_107
              refine lv_iload hx hb dX8_findRound_202 (lv_at hl 2 rfl) ?_
              refine lv_iconst (v := 1) hx hb dX8_findRound_204 (by decide) ?_
              refine lv_iand hx hb dX8_findRound_205 ?_
              refine lv_topi (fun x_108 ex_108 => ?_)
              refine lv_iconst (v := 1) hx hb dX8_findRound_206 (by decide) ?_
              refine lv_icmp_ne (tgt := 222) hx hb dX8_findRound_207 (by decide) (fun c_109 => ?_) (fun c_109 => ?_)
              · refine lv_iload hx hb dX8_findRound_222 (lv_at hl 1 rfl) ?_
                refine va_iast hx hb hK hP hD hS 6 1 rfl rfl (vp_in_nI (by omega) (by decide)) dX8_findRound_224 (fun H locs hP hD hS => ?_)
                replace hP : va_P D classes [((a 0), .inr (8, (fX8 a (nI tx) fp (nI t0) wd (nI we) nu na (nI rd) ts (nI ru) (nI rw) (nI ca) df db sd))), (aI k (a 1) 3 (nF dn)), (aI k (a 4) 27 (sg se tm gs)), (aI k (a 2) 72 ffrees), (aI k (a 3) 72 fprices), (aI k (a 18) 768 f_106), (aI k (a 19) 768 (upd fw_83 (Int32.toNatClampNeg (nI (192 * rn + 8 * q_80 + g_83))) x_103)), (aI k (a 20) 5 fstarts), (aI k (a 21) 4 f_79), (aZ k (a 22) 4 f_77), (aI k (a 23) 8 fbegin)] H := hP
                replace hD : va_D A [((a 0), .inr (8, (fX8 a (nI tx) fp (nI t0) wd (nI we) nu na (nI rd) ts (nI ru) (nI rw) (nI ca) df db sd))), (aI k (a 1) 3 (nF dn)), (aI k (a 4) 27 (sg se tm gs)), (aI k (a 2) 72 ffrees), (aI k (a 3) 72 fprices), (aI k (a 18) 768 f_106), (aI k (a 19) 768 (upd fw_83 (Int32.toNatClampNeg (nI (192 * rn + 8 * q_80 + g_83))) x_103)), (aI k (a 20) 5 fstarts), (aI k (a 21) 4 f_79), (aZ k (a 22) 4 f_77), (aI k (a 23) 8 fbegin)] := hD
                generalize (upd fw_83 (Int32.toNatClampNeg (nI (192 * rn + 8 * q_80 + g_83))) x_103) = f_110 at hP hD
                refine lv_iinc (v := (nI (g_83 + 1))) (lv' := [(7, .int (nI (g_83 + 1))), (9, .int r_104), (8, .int x_103), (6, .int (nI q_80)), (5, .int r_1), (4, .int r_1), (3, .int (nI (dn sn))), (0, .ref (a 0)), (1, .int (nI sn)), (2, .int (nI rn))]) hx hb dX8_findRound_225 hl (k := 2) rfl (nI_add g_83 1) (by decide) rfl (fun ls hl => ?_)
                refine lv_goto (tgt := 111) hx hb dX8_findRound_228 (by decide) ?_
                exact ih_83 _ (g_83 + 1, f_106, f_110) _ _ _ (by omega) ⟨rfl, (by omega), hP, hD, hS, (lv_sub hl [0, 3, 4, 5, 6, 7, 8, 9] rfl)⟩
              · refine lv_iload hx hb dX8_findRound_210 (lv_at hl 0 rfl) ?_
                refine lv_iload hx hb dX8_findRound_212 (lv_at hl 1 rfl) ?_
                refine lv_icmp_gt (tgt := 222) hx hb dX8_findRound_214 (by decide) (fun c_111 => ?_) (fun c_111 => ?_)
                · refine lv_iload hx hb dX8_findRound_222 (lv_at hl 1 rfl) ?_
                  refine va_iast hx hb hK hP hD hS 6 1 rfl rfl (vp_in_nI (by omega) (by decide)) dX8_findRound_224 (fun H locs hP hD hS => ?_)
                  replace hP : va_P D classes [((a 0), .inr (8, (fX8 a (nI tx) fp (nI t0) wd (nI we) nu na (nI rd) ts (nI ru) (nI rw) (nI ca) df db sd))), (aI k (a 1) 3 (nF dn)), (aI k (a 4) 27 (sg se tm gs)), (aI k (a 2) 72 ffrees), (aI k (a 3) 72 fprices), (aI k (a 18) 768 f_106), (aI k (a 19) 768 (upd fw_83 (Int32.toNatClampNeg (nI (192 * rn + 8 * q_80 + g_83))) x_103)), (aI k (a 20) 5 fstarts), (aI k (a 21) 4 f_79), (aZ k (a 22) 4 f_77), (aI k (a 23) 8 fbegin)] H := hP
                  replace hD : va_D A [((a 0), .inr (8, (fX8 a (nI tx) fp (nI t0) wd (nI we) nu na (nI rd) ts (nI ru) (nI rw) (nI ca) df db sd))), (aI k (a 1) 3 (nF dn)), (aI k (a 4) 27 (sg se tm gs)), (aI k (a 2) 72 ffrees), (aI k (a 3) 72 fprices), (aI k (a 18) 768 f_106), (aI k (a 19) 768 (upd fw_83 (Int32.toNatClampNeg (nI (192 * rn + 8 * q_80 + g_83))) x_103)), (aI k (a 20) 5 fstarts), (aI k (a 21) 4 f_79), (aZ k (a 22) 4 f_77), (aI k (a 23) 8 fbegin)] := hD
                  generalize (upd fw_83 (Int32.toNatClampNeg (nI (192 * rn + 8 * q_80 + g_83))) x_103) = f_112 at hP hD
                  refine lv_iinc (v := (nI (g_83 + 1))) (lv' := [(7, .int (nI (g_83 + 1))), (9, .int r_104), (8, .int x_103), (6, .int (nI q_80)), (5, .int r_1), (4, .int r_1), (3, .int (nI (dn sn))), (0, .ref (a 0)), (1, .int (nI sn)), (2, .int (nI rn))]) hx hb dX8_findRound_225 hl (k := 2) rfl (nI_add g_83 1) (by decide) rfl (fun ls hl => ?_)
                  refine lv_goto (tgt := 111) hx hb dX8_findRound_228 (by decide) ?_
                  exact ih_83 _ (g_83 + 1, f_106, f_112) _ _ _ (by omega) ⟨rfl, (by omega), hP, hD, hS, (lv_sub hl [0, 3, 4, 5, 6, 7, 8, 9] rfl)⟩
                · refine lv_iload hx hb dX8_findRound_217 (lv_at hl 0 rfl) ?_
                  refine lv_goto (tgt := 224) hx hb dX8_findRound_219 (by decide) ?_
                  refine va_iast hx hb hK hP hD hS 6 1 rfl rfl (vp_in_nI (by omega) (by decide)) dX8_findRound_224 (fun H locs hP hD hS => ?_)
                  replace hP : va_P D classes [((a 0), .inr (8, (fX8 a (nI tx) fp (nI t0) wd (nI we) nu na (nI rd) ts (nI ru) (nI rw) (nI ca) df db sd))), (aI k (a 1) 3 (nF dn)), (aI k (a 4) 27 (sg se tm gs)), (aI k (a 2) 72 ffrees), (aI k (a 3) 72 fprices), (aI k (a 18) 768 f_106), (aI k (a 19) 768 (upd fw_83 (Int32.toNatClampNeg (nI (192 * rn + 8 * q_80 + g_83))) r_104)), (aI k (a 20) 5 fstarts), (aI k (a 21) 4 f_79), (aZ k (a 22) 4 f_77), (aI k (a 23) 8 fbegin)] H := hP
                  replace hD : va_D A [((a 0), .inr (8, (fX8 a (nI tx) fp (nI t0) wd (nI we) nu na (nI rd) ts (nI ru) (nI rw) (nI ca) df db sd))), (aI k (a 1) 3 (nF dn)), (aI k (a 4) 27 (sg se tm gs)), (aI k (a 2) 72 ffrees), (aI k (a 3) 72 fprices), (aI k (a 18) 768 f_106), (aI k (a 19) 768 (upd fw_83 (Int32.toNatClampNeg (nI (192 * rn + 8 * q_80 + g_83))) r_104)), (aI k (a 20) 5 fstarts), (aI k (a 21) 4 f_79), (aZ k (a 22) 4 f_77), (aI k (a 23) 8 fbegin)] := hD
                  generalize (upd fw_83 (Int32.toNatClampNeg (nI (192 * rn + 8 * q_80 + g_83))) r_104) = f_113 at hP hD
                  refine lv_iinc (v := (nI (g_83 + 1))) (lv' := [(7, .int (nI (g_83 + 1))), (9, .int r_104), (8, .int x_103), (6, .int (nI q_80)), (5, .int r_1), (4, .int r_1), (3, .int (nI (dn sn))), (0, .ref (a 0)), (1, .int (nI sn)), (2, .int (nI rn))]) hx hb dX8_findRound_225 hl (k := 2) rfl (nI_add g_83 1) (by decide) rfl (fun ls hl => ?_)
                  refine lv_goto (tgt := 111) hx hb dX8_findRound_228 (by decide) ?_
                  exact ih_83 _ (g_83 + 1, f_106, f_113) _ _ _ (by omega) ⟨rfl, (by omega), hP, hD, hS, (lv_sub hl [0, 3, 4, 5, 6, 7, 8, 9] rfl)⟩
      · refine lv_iload hx hb dX8_findRound_90 (lv_at hl 0 rfl) ?_
        refine lv_goto (tgt := 97) hx hb dX8_findRound_92 (by decide) ?_
        refine va_iast hx hb hK hP hD hS 8 1 rfl rfl (vp_in_nI (by omega) (by decide)) dX8_findRound_97 (fun H locs hP hD hS => ?_)
        replace hP : va_P D classes [((a 0), .inr (8, (fX8 a (nI tx) fp (nI t0) wd (nI we) nu na (nI rd) ts (nI ru) (nI rw) (nI ca) df db sd))), (aI k (a 1) 3 (nF dn)), (aI k (a 4) 27 (sg se tm gs)), (aI k (a 2) 72 ffrees), (aI k (a 3) 72 fprices), (aI k (a 18) 768 fons), (aI k (a 19) 768 fworths), (aI k (a 20) 5 fstarts), (aI k (a 21) 4 (upd fends (Int32.toNatClampNeg (nI rn)) r_1)), (aZ k (a 22) 4 f_77), (aI k (a 23) 8 fbegin)] H := hP
        replace hD : va_D A [((a 0), .inr (8, (fX8 a (nI tx) fp (nI t0) wd (nI we) nu na (nI rd) ts (nI ru) (nI rw) (nI ca) df db sd))), (aI k (a 1) 3 (nF dn)), (aI k (a 4) 27 (sg se tm gs)), (aI k (a 2) 72 ffrees), (aI k (a 3) 72 fprices), (aI k (a 18) 768 fons), (aI k (a 19) 768 fworths), (aI k (a 20) 5 fstarts), (aI k (a 21) 4 (upd fends (Int32.toNatClampNeg (nI rn)) r_1)), (aZ k (a 22) 4 f_77), (aI k (a 23) 8 fbegin)] := hD
        generalize (upd fends (Int32.toNatClampNeg (nI rn)) r_1) = f_114 at hP hD
        refine lv_iload_n hx hb dX8_findRound_98 rfl (lv_at hl 2 rfl) ?_
        refine lv_iconst (v := 1) hx hb dX8_findRound_99 (by decide) ?_
        refine lv_isub hx hb dX8_findRound_100 ?_
        refine lv_ti (y := (nI (dn sn) - 1)) rfl ?_
        refine lv_istore (lv' := [(6, .int (nI (dn sn) - 1)), (5, .int r_1), (4, .int r_1), (3, .int (nI (dn sn))), (0, .ref (a 0)), (1, .int (nI sn)), (2, .int (nI rn))]) hx hb dX8_findRound_101 hl (by decide) rfl (fun ls hl => ?_)
        refine W_loop (σ := Nat × (Nat → Int32) × (Nat → Int32)) (fun (n_ : Nat) (x_ : Nat × (Nat → Int32) × (Nat → Int32)) (H : Heap) (locs : List Loc) (ls : Array Slot) => match x_ with | (q_115, fo_115, fw_115) => n_ = 2 * q_115 ∧ (q_115 ≤ dn sn) ∧ va_P D classes [((a 0), .inr (8, (fX8 a (nI tx) fp (nI t0) wd (nI we) nu na (nI rd) ts (nI ru) (nI rw) (nI ca) df db sd))), (aI k (a 1) 3 (nF dn)), (aI k (a 4) 27 (sg se tm gs)), (aI k (a 2) 72 ffrees), (aI k (a 3) 72 fprices), (aI k (a 18) 768 fo_115), (aI k (a 19) 768 fw_115), (aI k (a 20) 5 fstarts), (aI k (a 21) 4 f_114), (aZ k (a 22) 4 f_77), (aI k (a 23) 8 fbegin)] H ∧ va_D A [((a 0), .inr (8, (fX8 a (nI tx) fp (nI t0) wd (nI we) nu na (nI rd) ts (nI ru) (nI rw) (nI ca) df db sd))), (aI k (a 1) 3 (nF dn)), (aI k (a 4) 27 (sg se tm gs)), (aI k (a 2) 72 ffrees), (aI k (a 3) 72 fprices), (aI k (a 18) 768 fo_115), (aI k (a 19) 768 fw_115), (aI k (a 20) 5 fstarts), (aI k (a 21) 4 f_114), (aZ k (a 22) 4 f_77), (aI k (a 23) 8 fbegin)] ∧ va_S A s.heap H locs ∧ lv_has ls 10 [(6, .int (nI q_115 - 1)), (5, .int r_1), (4, .int r_1), (3, .int (nI (dn sn))), (0, .ref (a 0)), (1, .int (nI sn)), (2, .int (nI rn))]) (fun n_115 x_115 H locs ls hI ih_115 => ?_) _ (dn sn, fons, fworths) ⟨rfl, (by omega), hP, hD, hS, (lv_sub hl [0, 1, 2, 3, 4, 5, 6] rfl)⟩
        obtain ⟨q_115, fo_115, fw_115⟩ := x_115
        obtain ⟨hm_115, hv_115, hP, hD, hS, hl⟩ := hI
        subst hm_115
        rcases q_115 with _ | q_115
        · rw [dn0] at hl
          refine lv_iload hx hb dX8_findRound_103 (lv_at hl 0 rfl) ?_
          refine lv_if_lt (tgt := 237) hx hb dX8_findRound_105 (by decide) (fun _ => ?_) (fun h => absurd (by decide) h)
          refine lv_aload_n hx hb dX8_findRound_237 rfl (lv_at hl 4 rfl) ?_
          refine va_get (D := D) (ci := 8) (v := .ref (a 20)) (C := RX8) (T := TX8) (N := 44) hx hb hts inX8 hown hK hP 0 rfl rfl 19 (by decide) (hts _ tw_992) (fun _ h9 => h9) rfl dX8_findRound_238 ?_
          refine lv_iload_n hx hb dX8_findRound_241 rfl (lv_at hl 6 rfl) ?_
          refine lv_aload_n hx hb dX8_findRound_242 rfl (lv_at hl 4 rfl) ?_
          refine lv_iload_n hx hb dX8_findRound_243 rfl (lv_at hl 5 rfl) ?_
          refine lv_iload_n hx hb dX8_findRound_244 rfl (lv_at hl 6 rfl) ?_
          refine rw_i (D := D) (wr := [(aI k (a 3) 72 fprices), (aI k (a 18) 768 fo_115), (aI k (a 20) 5 fstarts), (aI k (a 21) 4 f_114), (aZ k (a 22) 4 f_77)]) (va_runV (As := [.int (nI sn), .int (nI rn)]) (rest := [.int (nI rn), .ref (a 20)]) ⟨hx, hb, hml, hown, hts⟩ ((m_startOf l D k st lo a tx t0 we rd ru rw ca fp wd nu na ts df db sd dn se tm gs ffrees fw_115 fbegin sn rn hdn hse (by omega) (by omega) (by omega)) H.size) (cwV 2 hts (gV tw_1273 tw_1275 tw_53 tw_87 tw_1276) rfl rfl rfl (by decide +kernel) ⟨Nat.le_of_ble_eq_true rfl, Nat.le_of_ble_eq_true rfl⟩) (pV hS hAlo hlo hP hK (va_Dlo hD hAlo) hZ [0, 1, 2, 3, 6, 10] (by decide) rfl (ci := 8) (q := (RX8, TX8, 44)) (q0 := 0) rfl rfl) rfl rfl hl.1 rfl (lv_room (Nat.le_of_ble_eq_true rfl)) dX8_findRound_245 ⟨Nat.le_of_ble_eq_true rfl, Nat.le_of_ble_eq_true rfl⟩) hS hA hP hD [0, 1, 2, 3, 6, 10] [4, 5, 7, 8, 9] rfl rfl (by decide +kernel) (by decide +kernel) (fun r_116 u H locs hw_116 hP hD hS => ?_)
          obtain ⟨fbegin__116, rfl⟩ : ∃ z, z = u := ⟨_, rfl⟩
          replace hP : va_P D classes [(aI k (a 3) 72 fprices), (aI k (a 18) 768 fo_115), (aI k (a 20) 5 fstarts), (aI k (a 21) 4 f_114), (aZ k (a 22) 4 f_77), ((a 0), .inr (8, (fX8 a (nI tx) fp (nI t0) wd (nI we) nu na (nI rd) ts (nI ru) (nI rw) (nI ca) df db sd))), (aI k (a 1) 3 (nF dn)), (aI k (a 4) 27 (sg se tm gs)), (aI k (a 2) 72 ffrees), (aI k (a 19) 768 fw_115), (aI k (a 23) 8 fbegin__116)] H := hP
          replace hD : va_D A [(aI k (a 3) 72 fprices), (aI k (a 18) 768 fo_115), (aI k (a 20) 5 fstarts), (aI k (a 21) 4 f_114), (aZ k (a 22) 4 f_77), ((a 0), .inr (8, (fX8 a (nI tx) fp (nI t0) wd (nI we) nu na (nI rd) ts (nI ru) (nI rw) (nI ca) df db sd))), (aI k (a 1) 3 (nF dn)), (aI k (a 4) 27 (sg se tm gs)), (aI k (a 2) 72 ffrees), (aI k (a 19) 768 fw_115), (aI k (a 23) 8 fbegin__116)] := hD
          try dsimp only at hw_116
          refine va_iast hx hb hK hP hD hS 2 1 rfl rfl (vp_in_nI (by omega) (by decide)) dX8_findRound_248 (fun H locs hP hD hS => ?_)
          replace hP : va_P D classes [(aI k (a 3) 72 fprices), (aI k (a 18) 768 fo_115), (aI k (a 20) 5 (upd fstarts (Int32.toNatClampNeg (nI rn)) r_116)), (aI k (a 21) 4 f_114), (aZ k (a 22) 4 f_77), ((a 0), .inr (8, (fX8 a (nI tx) fp (nI t0) wd (nI we) nu na (nI rd) ts (nI ru) (nI rw) (nI ca) df db sd))), (aI k (a 1) 3 (nF dn)), (aI k (a 4) 27 (sg se tm gs)), (aI k (a 2) 72 ffrees), (aI k (a 19) 768 fw_115), (aI k (a 23) 8 fbegin__116)] H := hP
          replace hD : va_D A [(aI k (a 3) 72 fprices), (aI k (a 18) 768 fo_115), (aI k (a 20) 5 (upd fstarts (Int32.toNatClampNeg (nI rn)) r_116)), (aI k (a 21) 4 f_114), (aZ k (a 22) 4 f_77), ((a 0), .inr (8, (fX8 a (nI tx) fp (nI t0) wd (nI we) nu na (nI rd) ts (nI ru) (nI rw) (nI ca) df db sd))), (aI k (a 1) 3 (nF dn)), (aI k (a 4) 27 (sg se tm gs)), (aI k (a 2) 72 ffrees), (aI k (a 19) 768 fw_115), (aI k (a 23) 8 fbegin__116)] := hD
          generalize (upd fstarts (Int32.toNatClampNeg (nI rn)) r_116) = f_117 at hP hD
          have hP9 := hP.sub (ws' := [((a 0), .inr (8, (fX8 a (nI tx) fp (nI t0) wd (nI we) nu na (nI rd) ts (nI ru) (nI rw) (nI ca) df db sd))), (aI k (a 1) 3 (nF dn)), (aI k (a 4) 27 (sg se tm gs)), (aI k (a 2) 72 ffrees), (aI k (a 3) 72 fprices), (aI k (a 18) 768 fo_115), (aI k (a 19) 768 fw_115), (aI k (a 20) 5 f_117), (aI k (a 21) 4 f_114), (aZ k (a 22) 4 f_77), (aI k (a 23) 8 fbegin__116)]) [5, 6, 7, 8, 0, 1, 9, 2, 3, 4, 10] rfl
          have hD9 := hD.sub (ws' := [((a 0), .inr (8, (fX8 a (nI tx) fp (nI t0) wd (nI we) nu na (nI rd) ts (nI ru) (nI rw) (nI ca) df db sd))), (aI k (a 1) 3 (nF dn)), (aI k (a 4) 27 (sg se tm gs)), (aI k (a 2) 72 ffrees), (aI k (a 3) 72 fprices), (aI k (a 18) 768 fo_115), (aI k (a 19) 768 fw_115), (aI k (a 20) 5 f_117), (aI k (a 21) 4 f_114), (aZ k (a 22) 4 f_77), (aI k (a 23) 8 fbegin__116)]) [5, 6, 7, 8, 0, 1, 9, 2, 3, 4, 10] (by decide +kernel) rfl
          exact W.vret hx hb hr (fun t ht hW => ⟨⟨(fo_115, fw_115, f_117, f_114, f_77, fbegin__116), rfl, trivial, by rw [ht]; exact hP9, hD9⟩, hS.F ht⟩) hS.2.2 dX8_findRound_249
        · rw [nI_pred] at hl
          refine lv_iload hx hb dX8_findRound_103 (lv_at hl 0 rfl) ?_
          refine lv_if_lt (tgt := 237) hx hb dX8_findRound_105 (by decide) (fun h => absurd h (nI_pos0 (by omega))) (fun _ => ?_)
          refine lv_iconst (v := 0) hx hb dX8_findRound_108 (by decide) ?_
          refine lv_istore (lv' := [(7, .int 0), (6, .int (nI q_115)), (5, .int r_1), (4, .int r_1), (3, .int (nI (dn sn))), (0, .ref (a 0)), (1, .int (nI sn)), (2, .int (nI rn))]) hx hb dX8_findRound_109 hl (by decide) rfl (fun ls hl => ?_)
          refine W_loop (σ := Nat × (Nat → Int32) × (Nat → Int32)) (fun (n_ : Nat) (x_ : Nat × (Nat → Int32) × (Nat → Int32)) (H : Heap) (locs : List Loc) (ls : Array Slot) => match x_ with | (g_118, fo_118, fw_118) => n_ = 8 - g_118 ∧ (g_118 ≤ 8) ∧ va_P D classes [((a 0), .inr (8, (fX8 a (nI tx) fp (nI t0) wd (nI we) nu na (nI rd) ts (nI ru) (nI rw) (nI ca) df db sd))), (aI k (a 1) 3 (nF dn)), (aI k (a 4) 27 (sg se tm gs)), (aI k (a 2) 72 ffrees), (aI k (a 3) 72 fprices), (aI k (a 18) 768 fo_118), (aI k (a 19) 768 fw_118), (aI k (a 20) 5 fstarts), (aI k (a 21) 4 f_114), (aZ k (a 22) 4 f_77), (aI k (a 23) 8 fbegin)] H ∧ va_D A [((a 0), .inr (8, (fX8 a (nI tx) fp (nI t0) wd (nI we) nu na (nI rd) ts (nI ru) (nI rw) (nI ca) df db sd))), (aI k (a 1) 3 (nF dn)), (aI k (a 4) 27 (sg se tm gs)), (aI k (a 2) 72 ffrees), (aI k (a 3) 72 fprices), (aI k (a 18) 768 fo_118), (aI k (a 19) 768 fw_118), (aI k (a 20) 5 fstarts), (aI k (a 21) 4 f_114), (aZ k (a 22) 4 f_77), (aI k (a 23) 8 fbegin)] ∧ va_S A s.heap H locs ∧ lv_has ls 10 [(7, .int (nI g_118)), (6, .int (nI q_115)), (5, .int r_1), (4, .int r_1), (3, .int (nI (dn sn))), (0, .ref (a 0)), (1, .int (nI sn)), (2, .int (nI rn))]) (fun n_118 x_118 H locs ls hI ih_118 => ?_) _ (0, fo_115, fw_115) ⟨rfl, (by omega), hP, hD, hS, (lv_sub hl [0, 1, 2, 3, 4, 5, 6, 7] rfl)⟩
          obtain ⟨g_118, fo_118, fw_118⟩ := x_118
          obtain ⟨hm_118, hv_118, hP, hD, hS, hl⟩ := hI
          subst hm_118
          refine lv_iload hx hb dX8_findRound_111 (lv_at hl 0 rfl) ?_
          refine lv_iconst (v := 1) hx hb dX8_findRound_113 (by decide) ?_
          refine lv_aload_n hx hb dX8_findRound_114 rfl (lv_at hl 5 rfl) ?_
          refine lv_iload_n hx hb dX8_findRound_115 rfl (lv_at hl 6 rfl) ?_
          refine lv_iload hx hb dX8_findRound_116 (lv_at hl 1 rfl) ?_
          refine ro_i (D := D) (va_runV (As := [.int (nI sn), .int (nI q_115)]) (rest := [.int 1, .int (nI g_118)]) ⟨hx, hb, hml, hown, hts⟩ ((m_seen l D k st lo a tx t0 we rd ru rw ca fp wd nu na ts df db sd dn se tm gs sn q_115 hdn hse (by omega) (by omega)) H.size) (cwV 2 hts (gV tw_1246 tw_1248 tw_48 tw_87 tw_1249) rfl rfl rfl (by decide +kernel) ⟨Nat.le_of_ble_eq_true rfl, Nat.le_of_ble_eq_true rfl⟩) (pV hS hAlo hlo hP hK (va_Dlo hD hAlo) hZ [0, 1, 2] (by decide) rfl (ci := 8) (q := (RX8, TX8, 44)) (q0 := 0) rfl rfl) rfl rfl hl.1 rfl (lv_room (Nat.le_of_ble_eq_true rfl)) dX8_findRound_118 ⟨Nat.le_of_ble_eq_true rfl, Nat.le_of_ble_eq_true rfl⟩) hS hA hP (fun r_119 H locs hw_119 hP hS => ?_)
          try dsimp only at hw_119
          obtain ⟨sv_120, esv_120⟩ : ∃ z : Nat, z = (if dn sn - q_115 < se sn + 1 then dn sn - q_115 else se sn + 1) := ⟨_, rfl⟩
          rw [← esv_120] at hw_119
          subst hw_119
          have hsv_120 : sv_120 ≤ 3 ∧ sv_120 ≤ dn sn - q_115 ∧ (0 < dn sn - q_115 → 1 ≤ sv_120) := by
            have hse9 := hse sn
            split at esv_120 <;> omega
          obtain ⟨pw_121, epw_121⟩ : ∃ z : Nat, z = 2 ^ sv_120 := ⟨_, rfl⟩
          have hpw_121 : 1 ≤ pw_121 ∧ pw_121 ≤ 8 := by rw [epw_121]; exact pw8 (by omega)
          refine lv_ishl hx hb dX8_findRound_121 ?_
          refine lv_ti (y := (nI pw_121)) (by rw [epw_121]; exact shl1 sv_120 (by omega)) ?_
          refine lv_icmp_ge (tgt := 231) hx hb dX8_findRound_122 (by decide) (fun c_122 => ?_) (fun c_122 => ?_)
          · have c_122 := (nI_leI (a := pw_121) (b := g_118) (by omega) (by omega)).mp c_122
            refine lv_iinc (v := (nI q_115 - 1)) (lv' := [(6, .int (nI q_115 - 1)), (7, .int (nI g_118)), (5, .int r_1), (4, .int r_1), (3, .int (nI (dn sn))), (0, .ref (a 0)), (1, .int (nI sn)), (2, .int (nI rn))]) hx hb dX8_findRound_231 hl (k := 1) rfl (dn1 _) (by decide) rfl (fun ls hl => ?_)
            refine lv_goto (tgt := 103) hx hb dX8_findRound_234 (by decide) ?_
            exact ih_115 _ (q_115, fo_118, fw_118) _ _ _ (by omega) ⟨rfl, (by omega), hP, hD, hS, (lv_sub hl [0, 2, 3, 4, 5, 6, 7] rfl)⟩
          · have c_122 : ¬ (pw_121 ≤ g_118) := fun h => c_122 ((nI_leI (a := pw_121) (b := g_118) (by omega) (by omega)).mpr h)
            refine lv_aload_n hx hb dX8_findRound_125 rfl (lv_at hl 5 rfl) ?_
            refine lv_iload_n hx hb dX8_findRound_126 rfl (lv_at hl 6 rfl) ?_
            refine lv_iconst (v := 2) hx hb dX8_findRound_127 (by decide) ?_
            refine ro_i (D := D) (va_runV (As := [.int (nI sn), .int 2]) (rest := []) ⟨hx, hb, hml, hown, hts⟩ ((m_of l D k st lo a tx t0 we rd ru rw ca fp wd nu na ts df db sd se tm gs sn 2 (by omega) (by omega)) H.size) (cwV 2 hts (gV tw_1194 tw_1196 tw_39 tw_87 tw_1197) rfl rfl rfl (by decide +kernel) ⟨Nat.le_of_ble_eq_true rfl, Nat.le_of_ble_eq_true rfl⟩) (pV hS hAlo hlo hP hK (va_Dlo hD hAlo) hZ [0, 2] (by decide) rfl (ci := 8) (q := (RX8, TX8, 44)) (q0 := 0) rfl rfl) rfl rfl hl.1 rfl (lv_room (Nat.le_of_ble_eq_true rfl)) dX8_findRound_128 ⟨Nat.le_of_ble_eq_true rfl, Nat.le_of_ble_eq_true rfl⟩) hS hA hP (fun r_123 H locs hw_123 hP hS => ?_)
            try dsimp only at hw_123
            refine lv_sipush (v := 1000) hx hb dX8_findRound_131 (by decide) ?_
            refine lv_imul hx hb dX8_findRound_134 ?_
            refine lv_topi (fun x_124 ex_124 => ?_)
            refine lv_iload hx hb dX8_findRound_135 (lv_at hl 1 rfl) ?_
            refine lv_iload_n hx hb dX8_findRound_137 rfl (lv_at hl 4 rfl) ?_
            refine lv_iconst (v := 1) hx hb dX8_findRound_138 (by decide) ?_
            refine lv_isub hx hb dX8_findRound_139 ?_
            refine lv_ti (y := (nI ((dn sn) - 1))) (pk_sub (a := (dn sn)) (b := 1) (by omega)) ?_
            refine lv_icmp_ne (tgt := 152) hx hb dX8_findRound_140 (by decide) (fun c_125 => ?_) (fun c_125 => ?_)
            · have c_125 : ¬ (q_115 = ((dn sn) - 1)) := fun h => c_125 ((nI_eq (a := q_115) (b := ((dn sn) - 1)) (by omega) (by omega)).mpr h)
              refine lv_aload_n hx hb dX8_findRound_152 rfl (lv_at hl 5 rfl) ?_
              refine lv_iload_n hx hb dX8_findRound_153 rfl (lv_at hl 6 rfl) ?_
              refine lv_iload_n hx hb dX8_findRound_154 rfl (lv_at hl 7 rfl) ?_
              refine lv_iload hx hb dX8_findRound_155 (lv_at hl 1 rfl) ?_
              refine lv_iload hx hb dX8_findRound_157 (lv_at hl 0 rfl) ?_
              refine ro_i (D := D) (va_runV (As := [.int (nI sn), .int (nI rn), .int (nI q_115), .int (nI g_118)]) (rest := [.int x_124]) ⟨hx, hb, hml, hown, hts⟩ ((m_on l D k st lo a tx t0 we rd ru rw ca fp wd nu na ts df db sd dn se tm gs ffrees fw_118 sn rn q_115 g_118 hdn hse (by omega) (by omega) (by omega) (by omega)) H.size) (cwV 4 hts (gV tw_1262 tw_1264 tw_52 tw_87 tw_1265) rfl rfl rfl (by decide +kernel) ⟨Nat.le_of_ble_eq_true rfl, Nat.le_of_ble_eq_true rfl⟩) (pV hS hAlo hlo hP hK (va_Dlo hD hAlo) hZ [0, 1, 2, 3, 6] (by decide) rfl (ci := 8) (q := (RX8, TX8, 44)) (q0 := 0) rfl rfl) rfl rfl hl.1 rfl (lv_room (Nat.le_of_ble_eq_true rfl)) dX8_findRound_159 ⟨Nat.le_of_ble_eq_true rfl, Nat.le_of_ble_eq_true rfl⟩) hS hA hP (fun r_126 H locs hw_126 hP hS => ?_)
              try dsimp only at hw_126
              refine lv_iadd hx hb dX8_findRound_162 ?_
              refine lv_topi (fun x_127 ex_127 => ?_)
              refine lv_istore (lv' := [(8, .int x_127), (7, .int (nI g_118)), (6, .int (nI q_115)), (5, .int r_1), (4, .int r_1), (3, .int (nI (dn sn))), (0, .ref (a 0)), (1, .int (nI sn)), (2, .int (nI rn))]) hx hb dX8_findRound_163 hl (by decide) rfl (fun ls hl => ?_)
              refine lv_aload_n hx hb dX8_findRound_165 rfl (lv_at hl 6 rfl) ?_
              refine lv_iload_n hx hb dX8_findRound_166 rfl (lv_at hl 7 rfl) ?_
              refine lv_iload_n hx hb dX8_findRound_167 rfl (lv_at hl 8 rfl) ?_
              refine lv_iload hx hb dX8_findRound_168 (lv_at hl 2 rfl) ?_
              refine ro_i (D := D) (va_runV (As := [.int (nI sn), .int (nI rn), .int (nI q_115)]) (rest := []) ⟨hx, hb, hml, hown, hts⟩ ((m_takingOf l D k st lo a tx t0 we rd ru rw ca fp wd nu na ts df db sd dn se tm gs fprices sn q_115 (nI rn) (by omega) (by omega)) H.size) (cwV 3 hts (gV tw_1222 tw_1224 tw_43 tw_87 tw_1225) rfl rfl rfl (by decide +kernel) ⟨Nat.le_of_ble_eq_true rfl, Nat.le_of_ble_eq_true rfl⟩) (pV hS hAlo hlo hP hK (va_Dlo hD hAlo) hZ [0, 1, 2, 4] (by decide) rfl (ci := 8) (q := (RX8, TX8, 44)) (q0 := 0) rfl rfl) rfl rfl hl.1 rfl (lv_room (Nat.le_of_ble_eq_true rfl)) dX8_findRound_170 ⟨Nat.le_of_ble_eq_true rfl, Nat.le_of_ble_eq_true rfl⟩) hS hA hP (fun r_128 H locs hw_128 hP hS => ?_)
              try dsimp only at hw_128
              refine lv_istore (lv' := [(9, .int r_128), (8, .int x_127), (7, .int (nI g_118)), (6, .int (nI q_115)), (5, .int r_1), (4, .int r_1), (3, .int (nI (dn sn))), (0, .ref (a 0)), (1, .int (nI sn)), (2, .int (nI rn))]) hx hb dX8_findRound_173 hl (by decide) rfl (fun ls hl => ?_)
              refine lv_aload_n hx hb dX8_findRound_175 rfl (lv_at hl 7 rfl) ?_
              refine va_get (D := D) (ci := 8) (v := .ref (a 18)) (C := RX8) (T := TX8) (N := 44) hx hb hts inX8 hown hK hP 0 rfl rfl 17 (by decide) (hts _ tw_990) (fun _ h9 => h9) rfl dX8_findRound_176 ?_
              refine lv_iload_n hx hb dX8_findRound_179 rfl (lv_at hl 9 rfl) ?_
              refine lv_iload hx hb dX8_findRound_180 (lv_at hl 3 rfl) ?_
              refine lv_iload hx hb dX8_findRound_182 (lv_at hl 2 rfl) ?_
              refine ro_i (D := D) (va_runS (As := [.int (nI rn), .int (nI q_115), .int (nI g_118)]) (rest := [.ref (a 18)]) ⟨hx, hb, hml, hown, hts⟩ ((m_at l D k st lo rn q_115 g_118) H.size) (va_cwS 3 hts (gS tw_1266 tw_1267 tw_87 tw_1268) rfl rfl rfl (by decide +kernel) ⟨Nat.le_of_ble_eq_true rfl, Nat.le_of_ble_eq_true rfl⟩) (pS hS hAlo hlo hP hK (va_Dlo hD hAlo) hZ [] (by decide) rfl) rfl rfl hl.1 rfl (lv_room (Nat.le_of_ble_eq_true rfl)) dX8_findRound_184 ⟨Nat.le_of_ble_eq_true rfl, Nat.le_of_ble_eq_true rfl⟩) hS hA hP (fun r_129 H locs hw_129 hP hS => ?_)
              try dsimp only at hw_129
              subst hw_129
              refine lv_iload hx hb dX8_findRound_187 (lv_at hl 1 rfl) ?_
              refine va_iast hx hb hK hP hD hS 5 1 rfl rfl (vp_in_nI (by omega) (by decide)) dX8_findRound_189 (fun H locs hP hD hS => ?_)
              replace hP : va_P D classes [((a 0), .inr (8, (fX8 a (nI tx) fp (nI t0) wd (nI we) nu na (nI rd) ts (nI ru) (nI rw) (nI ca) df db sd))), (aI k (a 1) 3 (nF dn)), (aI k (a 4) 27 (sg se tm gs)), (aI k (a 2) 72 ffrees), (aI k (a 3) 72 fprices), (aI k (a 18) 768 (upd fo_118 (Int32.toNatClampNeg (nI (192 * rn + 8 * q_115 + g_118))) x_127)), (aI k (a 19) 768 fw_118), (aI k (a 20) 5 fstarts), (aI k (a 21) 4 f_114), (aZ k (a 22) 4 f_77), (aI k (a 23) 8 fbegin)] H := hP
              replace hD : va_D A [((a 0), .inr (8, (fX8 a (nI tx) fp (nI t0) wd (nI we) nu na (nI rd) ts (nI ru) (nI rw) (nI ca) df db sd))), (aI k (a 1) 3 (nF dn)), (aI k (a 4) 27 (sg se tm gs)), (aI k (a 2) 72 ffrees), (aI k (a 3) 72 fprices), (aI k (a 18) 768 (upd fo_118 (Int32.toNatClampNeg (nI (192 * rn + 8 * q_115 + g_118))) x_127)), (aI k (a 19) 768 fw_118), (aI k (a 20) 5 fstarts), (aI k (a 21) 4 f_114), (aZ k (a 22) 4 f_77), (aI k (a 23) 8 fbegin)] := hD
              generalize (upd fo_118 (Int32.toNatClampNeg (nI (192 * rn + 8 * q_115 + g_118))) x_127) = f_130 at hP hD
              refine lv_aload_n hx hb dX8_findRound_190 rfl (lv_at hl 7 rfl) ?_
              refine va_get (D := D) (ci := 8) (v := .ref (a 19)) (C := RX8) (T := TX8) (N := 44) hx hb hts inX8 hown hK hP 0 rfl rfl 18 (by decide) (hts _ tw_991) (fun _ h9 => h9) rfl dX8_findRound_191 ?_
              refine lv_iload_n hx hb dX8_findRound_194 rfl (lv_at hl 9 rfl) ?_
              refine lv_iload hx hb dX8_findRound_195 (lv_at hl 3 rfl) ?_
              refine lv_iload hx hb dX8_findRound_197 (lv_at hl 2 rfl) ?_
              refine ro_i (D := D) (va_runS (As := [.int (nI rn), .int (nI q_115), .int (nI g_118)]) (rest := [.ref (a 19)]) ⟨hx, hb, hml, hown, hts⟩ ((m_at l D k st lo rn q_115 g_118) H.size) (va_cwS 3 hts (gS tw_1266 tw_1267 tw_87 tw_1268) rfl rfl rfl (by decide +kernel) ⟨Nat.le_of_ble_eq_true rfl, Nat.le_of_ble_eq_true rfl⟩) (pS hS hAlo hlo hP hK (va_Dlo hD hAlo) hZ [] (by decide) rfl) rfl rfl hl.1 rfl (lv_room (Nat.le_of_ble_eq_true rfl)) dX8_findRound_199 ⟨Nat.le_of_ble_eq_true rfl, Nat.le_of_ble_eq_true rfl⟩) hS hA hP (fun r_131 H locs hw_131 hP hS => ?_)
              try dsimp only at hw_131
              subst hw_131
              refine lv_iload hx hb dX8_findRound_202 (lv_at hl 2 rfl) ?_
              refine lv_iconst (v := 1) hx hb dX8_findRound_204 (by decide) ?_
              refine lv_iand hx hb dX8_findRound_205 ?_
              refine lv_topi (fun x_132 ex_132 => ?_)
              refine lv_iconst (v := 1) hx hb dX8_findRound_206 (by decide) ?_
              refine lv_icmp_ne (tgt := 222) hx hb dX8_findRound_207 (by decide) (fun c_133 => ?_) (fun c_133 => ?_)
              · refine lv_iload hx hb dX8_findRound_222 (lv_at hl 1 rfl) ?_
                refine va_iast hx hb hK hP hD hS 6 1 rfl rfl (vp_in_nI (by omega) (by decide)) dX8_findRound_224 (fun H locs hP hD hS => ?_)
                replace hP : va_P D classes [((a 0), .inr (8, (fX8 a (nI tx) fp (nI t0) wd (nI we) nu na (nI rd) ts (nI ru) (nI rw) (nI ca) df db sd))), (aI k (a 1) 3 (nF dn)), (aI k (a 4) 27 (sg se tm gs)), (aI k (a 2) 72 ffrees), (aI k (a 3) 72 fprices), (aI k (a 18) 768 f_130), (aI k (a 19) 768 (upd fw_118 (Int32.toNatClampNeg (nI (192 * rn + 8 * q_115 + g_118))) x_127)), (aI k (a 20) 5 fstarts), (aI k (a 21) 4 f_114), (aZ k (a 22) 4 f_77), (aI k (a 23) 8 fbegin)] H := hP
                replace hD : va_D A [((a 0), .inr (8, (fX8 a (nI tx) fp (nI t0) wd (nI we) nu na (nI rd) ts (nI ru) (nI rw) (nI ca) df db sd))), (aI k (a 1) 3 (nF dn)), (aI k (a 4) 27 (sg se tm gs)), (aI k (a 2) 72 ffrees), (aI k (a 3) 72 fprices), (aI k (a 18) 768 f_130), (aI k (a 19) 768 (upd fw_118 (Int32.toNatClampNeg (nI (192 * rn + 8 * q_115 + g_118))) x_127)), (aI k (a 20) 5 fstarts), (aI k (a 21) 4 f_114), (aZ k (a 22) 4 f_77), (aI k (a 23) 8 fbegin)] := hD
                generalize (upd fw_118 (Int32.toNatClampNeg (nI (192 * rn + 8 * q_115 + g_118))) x_127) = f_134 at hP hD
                refine lv_iinc (v := (nI (g_118 + 1))) (lv' := [(7, .int (nI (g_118 + 1))), (9, .int r_128), (8, .int x_127), (6, .int (nI q_115)), (5, .int r_1), (4, .int r_1), (3, .int (nI (dn sn))), (0, .ref (a 0)), (1, .int (nI sn)), (2, .int (nI rn))]) hx hb dX8_findRound_225 hl (k := 2) rfl (nI_add g_118 1) (by decide) rfl (fun ls hl => ?_)
                refine lv_goto (tgt := 111) hx hb dX8_findRound_228 (by decide) ?_
                exact ih_118 _ (g_118 + 1, f_130, f_134) _ _ _ (by omega) ⟨rfl, (by omega), hP, hD, hS, (lv_sub hl [0, 3, 4, 5, 6, 7, 8, 9] rfl)⟩
              · refine lv_iload hx hb dX8_findRound_210 (lv_at hl 0 rfl) ?_
                refine lv_iload hx hb dX8_findRound_212 (lv_at hl 1 rfl) ?_
                refine lv_icmp_gt (tgt := 222) hx hb dX8_findRound_214 (by decide) (fun c_135 => ?_) (fun c_135 => ?_)
                · refine lv_iload hx hb dX8_findRound_222 (lv_at hl 1 rfl) ?_
                  refine va_iast hx hb hK hP hD hS 6 1 rfl rfl (vp_in_nI (by omega) (by decide)) dX8_findRound_224 (fun H locs hP hD hS => ?_)
                  replace hP : va_P D classes [((a 0), .inr (8, (fX8 a (nI tx) fp (nI t0) wd (nI we) nu na (nI rd) ts (nI ru) (nI rw) (nI ca) df db sd))), (aI k (a 1) 3 (nF dn)), (aI k (a 4) 27 (sg se tm gs)), (aI k (a 2) 72 ffrees), (aI k (a 3) 72 fprices), (aI k (a 18) 768 f_130), (aI k (a 19) 768 (upd fw_118 (Int32.toNatClampNeg (nI (192 * rn + 8 * q_115 + g_118))) x_127)), (aI k (a 20) 5 fstarts), (aI k (a 21) 4 f_114), (aZ k (a 22) 4 f_77), (aI k (a 23) 8 fbegin)] H := hP
                  replace hD : va_D A [((a 0), .inr (8, (fX8 a (nI tx) fp (nI t0) wd (nI we) nu na (nI rd) ts (nI ru) (nI rw) (nI ca) df db sd))), (aI k (a 1) 3 (nF dn)), (aI k (a 4) 27 (sg se tm gs)), (aI k (a 2) 72 ffrees), (aI k (a 3) 72 fprices), (aI k (a 18) 768 f_130), (aI k (a 19) 768 (upd fw_118 (Int32.toNatClampNeg (nI (192 * rn + 8 * q_115 + g_118))) x_127)), (aI k (a 20) 5 fstarts), (aI k (a 21) 4 f_114), (aZ k (a 22) 4 f_77), (aI k (a 23) 8 fbegin)] := hD
                  generalize (upd fw_118 (Int32.toNatClampNeg (nI (192 * rn + 8 * q_115 + g_118))) x_127) = f_136 at hP hD
                  refine lv_iinc (v := (nI (g_118 + 1))) (lv' := [(7, .int (nI (g_118 + 1))), (9, .int r_128), (8, .int x_127), (6, .int (nI q_115)), (5, .int r_1), (4, .int r_1), (3, .int (nI (dn sn))), (0, .ref (a 0)), (1, .int (nI sn)), (2, .int (nI rn))]) hx hb dX8_findRound_225 hl (k := 2) rfl (nI_add g_118 1) (by decide) rfl (fun ls hl => ?_)
                  refine lv_goto (tgt := 111) hx hb dX8_findRound_228 (by decide) ?_
                  exact ih_118 _ (g_118 + 1, f_130, f_136) _ _ _ (by omega) ⟨rfl, (by omega), hP, hD, hS, (lv_sub hl [0, 3, 4, 5, 6, 7, 8, 9] rfl)⟩
                · refine lv_iload hx hb dX8_findRound_217 (lv_at hl 0 rfl) ?_
                  refine lv_goto (tgt := 224) hx hb dX8_findRound_219 (by decide) ?_
                  refine va_iast hx hb hK hP hD hS 6 1 rfl rfl (vp_in_nI (by omega) (by decide)) dX8_findRound_224 (fun H locs hP hD hS => ?_)
                  replace hP : va_P D classes [((a 0), .inr (8, (fX8 a (nI tx) fp (nI t0) wd (nI we) nu na (nI rd) ts (nI ru) (nI rw) (nI ca) df db sd))), (aI k (a 1) 3 (nF dn)), (aI k (a 4) 27 (sg se tm gs)), (aI k (a 2) 72 ffrees), (aI k (a 3) 72 fprices), (aI k (a 18) 768 f_130), (aI k (a 19) 768 (upd fw_118 (Int32.toNatClampNeg (nI (192 * rn + 8 * q_115 + g_118))) r_128)), (aI k (a 20) 5 fstarts), (aI k (a 21) 4 f_114), (aZ k (a 22) 4 f_77), (aI k (a 23) 8 fbegin)] H := hP
                  replace hD : va_D A [((a 0), .inr (8, (fX8 a (nI tx) fp (nI t0) wd (nI we) nu na (nI rd) ts (nI ru) (nI rw) (nI ca) df db sd))), (aI k (a 1) 3 (nF dn)), (aI k (a 4) 27 (sg se tm gs)), (aI k (a 2) 72 ffrees), (aI k (a 3) 72 fprices), (aI k (a 18) 768 f_130), (aI k (a 19) 768 (upd fw_118 (Int32.toNatClampNeg (nI (192 * rn + 8 * q_115 + g_118))) r_128)), (aI k (a 20) 5 fstarts), (aI k (a 21) 4 f_114), (aZ k (a 22) 4 f_77), (aI k (a 23) 8 fbegin)] := hD
                  generalize (upd fw_118 (Int32.toNatClampNeg (nI (192 * rn + 8 * q_115 + g_118))) r_128) = f_137 at hP hD
                  refine lv_iinc (v := (nI (g_118 + 1))) (lv' := [(7, .int (nI (g_118 + 1))), (9, .int r_128), (8, .int x_127), (6, .int (nI q_115)), (5, .int r_1), (4, .int r_1), (3, .int (nI (dn sn))), (0, .ref (a 0)), (1, .int (nI sn)), (2, .int (nI rn))]) hx hb dX8_findRound_225 hl (k := 2) rfl (nI_add g_118 1) (by decide) rfl (fun ls hl => ?_)
                  refine lv_goto (tgt := 111) hx hb dX8_findRound_228 (by decide) ?_
                  exact ih_118 _ (g_118 + 1, f_130, f_137) _ _ _ (by omega) ⟨rfl, (by omega), hP, hD, hS, (lv_sub hl [0, 3, 4, 5, 6, 7, 8, 9] rfl)⟩
            · have c_125 := (nI_eq (a := q_115) (b := ((dn sn) - 1)) (by omega) (by omega)).mp c_125
              refine lv_aload_n hx hb dX8_findRound_143 rfl (lv_at hl 5 rfl) ?_
              refine va_get (D := D) (ci := 8) (v := .ref (a 21)) (C := RX8) (T := TX8) (N := 44) hx hb hts inX8 hown hK hP 0 rfl rfl 20 (by decide) (hts _ tw_993) (fun _ h9 => h9) rfl dX8_findRound_144 ?_
              refine lv_iload_n hx hb dX8_findRound_147 rfl (lv_at hl 7 rfl) ?_
              refine va_iald hx hb hK hP 8 1 rfl rfl (vp_in_nI (by omega) (by decide)) dX8_findRound_148 ?_
              refine lv_ti (y := (f_114 rn)) (by rw [nI_clamp (by omega)]) ?_
              refine lv_goto (tgt := 162) hx hb dX8_findRound_149 (by decide) ?_
              refine lv_iadd hx hb dX8_findRound_162 ?_
              refine lv_topi (fun x_138 ex_138 => ?_)
              refine lv_istore (lv' := [(8, .int x_138), (7, .int (nI g_118)), (6, .int (nI q_115)), (5, .int r_1), (4, .int r_1), (3, .int (nI (dn sn))), (0, .ref (a 0)), (1, .int (nI sn)), (2, .int (nI rn))]) hx hb dX8_findRound_163 hl (by decide) rfl (fun ls hl => ?_)
              refine lv_aload_n hx hb dX8_findRound_165 rfl (lv_at hl 6 rfl) ?_
              refine lv_iload_n hx hb dX8_findRound_166 rfl (lv_at hl 7 rfl) ?_
              refine lv_iload_n hx hb dX8_findRound_167 rfl (lv_at hl 8 rfl) ?_
              refine lv_iload hx hb dX8_findRound_168 (lv_at hl 2 rfl) ?_
              refine ro_i (D := D) (va_runV (As := [.int (nI sn), .int (nI rn), .int (nI q_115)]) (rest := []) ⟨hx, hb, hml, hown, hts⟩ ((m_takingOf l D k st lo a tx t0 we rd ru rw ca fp wd nu na ts df db sd dn se tm gs fprices sn q_115 (nI rn) (by omega) (by omega)) H.size) (cwV 3 hts (gV tw_1222 tw_1224 tw_43 tw_87 tw_1225) rfl rfl rfl (by decide +kernel) ⟨Nat.le_of_ble_eq_true rfl, Nat.le_of_ble_eq_true rfl⟩) (pV hS hAlo hlo hP hK (va_Dlo hD hAlo) hZ [0, 1, 2, 4] (by decide) rfl (ci := 8) (q := (RX8, TX8, 44)) (q0 := 0) rfl rfl) rfl rfl hl.1 rfl (lv_room (Nat.le_of_ble_eq_true rfl)) dX8_findRound_170 ⟨Nat.le_of_ble_eq_true rfl, Nat.le_of_ble_eq_true rfl⟩) hS hA hP (fun r_139 H locs hw_139 hP hS => ?_)
              try dsimp only at hw_139
              refine lv_istore (lv' := [(9, .int r_139), (8, .int x_138), (7, .int (nI g_118)), (6, .int (nI q_115)), (5, .int r_1), (4, .int r_1), (3, .int (nI (dn sn))), (0, .ref (a 0)), (1, .int (nI sn)), (2, .int (nI rn))]) hx hb dX8_findRound_173 hl (by decide) rfl (fun ls hl => ?_)
              refine lv_aload_n hx hb dX8_findRound_175 rfl (lv_at hl 7 rfl) ?_
              refine va_get (D := D) (ci := 8) (v := .ref (a 18)) (C := RX8) (T := TX8) (N := 44) hx hb hts inX8 hown hK hP 0 rfl rfl 17 (by decide) (hts _ tw_990) (fun _ h9 => h9) rfl dX8_findRound_176 ?_
              refine lv_iload_n hx hb dX8_findRound_179 rfl (lv_at hl 9 rfl) ?_
              refine lv_iload hx hb dX8_findRound_180 (lv_at hl 3 rfl) ?_
              refine lv_iload hx hb dX8_findRound_182 (lv_at hl 2 rfl) ?_
              refine ro_i (D := D) (va_runS (As := [.int (nI rn), .int (nI q_115), .int (nI g_118)]) (rest := [.ref (a 18)]) ⟨hx, hb, hml, hown, hts⟩ ((m_at l D k st lo rn q_115 g_118) H.size) (va_cwS 3 hts (gS tw_1266 tw_1267 tw_87 tw_1268) rfl rfl rfl (by decide +kernel) ⟨Nat.le_of_ble_eq_true rfl, Nat.le_of_ble_eq_true rfl⟩) (pS hS hAlo hlo hP hK (va_Dlo hD hAlo) hZ [] (by decide) rfl) rfl rfl hl.1 rfl (lv_room (Nat.le_of_ble_eq_true rfl)) dX8_findRound_184 ⟨Nat.le_of_ble_eq_true rfl, Nat.le_of_ble_eq_true rfl⟩) hS hA hP (fun r_140 H locs hw_140 hP hS => ?_)
              try dsimp only at hw_140
              subst hw_140
              refine lv_iload hx hb dX8_findRound_187 (lv_at hl 1 rfl) ?_
              refine va_iast hx hb hK hP hD hS 5 1 rfl rfl (vp_in_nI (by omega) (by decide)) dX8_findRound_189 (fun H locs hP hD hS => ?_)
              replace hP : va_P D classes [((a 0), .inr (8, (fX8 a (nI tx) fp (nI t0) wd (nI we) nu na (nI rd) ts (nI ru) (nI rw) (nI ca) df db sd))), (aI k (a 1) 3 (nF dn)), (aI k (a 4) 27 (sg se tm gs)), (aI k (a 2) 72 ffrees), (aI k (a 3) 72 fprices), (aI k (a 18) 768 (upd fo_118 (Int32.toNatClampNeg (nI (192 * rn + 8 * q_115 + g_118))) x_138)), (aI k (a 19) 768 fw_118), (aI k (a 20) 5 fstarts), (aI k (a 21) 4 f_114), (aZ k (a 22) 4 f_77), (aI k (a 23) 8 fbegin)] H := hP
              replace hD : va_D A [((a 0), .inr (8, (fX8 a (nI tx) fp (nI t0) wd (nI we) nu na (nI rd) ts (nI ru) (nI rw) (nI ca) df db sd))), (aI k (a 1) 3 (nF dn)), (aI k (a 4) 27 (sg se tm gs)), (aI k (a 2) 72 ffrees), (aI k (a 3) 72 fprices), (aI k (a 18) 768 (upd fo_118 (Int32.toNatClampNeg (nI (192 * rn + 8 * q_115 + g_118))) x_138)), (aI k (a 19) 768 fw_118), (aI k (a 20) 5 fstarts), (aI k (a 21) 4 f_114), (aZ k (a 22) 4 f_77), (aI k (a 23) 8 fbegin)] := hD
              generalize (upd fo_118 (Int32.toNatClampNeg (nI (192 * rn + 8 * q_115 + g_118))) x_138) = f_141 at hP hD
              refine lv_aload_n hx hb dX8_findRound_190 rfl (lv_at hl 7 rfl) ?_
              refine va_get (D := D) (ci := 8) (v := .ref (a 19)) (C := RX8) (T := TX8) (N := 44) hx hb hts inX8 hown hK hP 0 rfl rfl 18 (by decide) (hts _ tw_991) (fun _ h9 => h9) rfl dX8_findRound_191 ?_
              refine lv_iload_n hx hb dX8_findRound_194 rfl (lv_at hl 9 rfl) ?_
              refine lv_iload hx hb dX8_findRound_195 (lv_at hl 3 rfl) ?_
              refine lv_iload hx hb dX8_findRound_197 (lv_at hl 2 rfl) ?_
              refine ro_i (D := D) (va_runS (As := [.int (nI rn), .int (nI q_115), .int (nI g_118)]) (rest := [.ref (a 19)]) ⟨hx, hb, hml, hown, hts⟩ ((m_at l D k st lo rn q_115 g_118) H.size) (va_cwS 3 hts (gS tw_1266 tw_1267 tw_87 tw_1268) rfl rfl rfl (by decide +kernel) ⟨Nat.le_of_ble_eq_true rfl, Nat.le_of_ble_eq_true rfl⟩) (pS hS hAlo hlo hP hK (va_Dlo hD hAlo) hZ [] (by decide) rfl) rfl rfl hl.1 rfl (lv_room (Nat.le_of_ble_eq_true rfl)) dX8_findRound_199 ⟨Nat.le_of_ble_eq_true rfl, Nat.le_of_ble_eq_true rfl⟩) hS hA hP (fun r_142 H locs hw_142 hP hS => ?_)
              try dsimp only at hw_142
              subst hw_142
              refine lv_iload hx hb dX8_findRound_202 (lv_at hl 2 rfl) ?_
              refine lv_iconst (v := 1) hx hb dX8_findRound_204 (by decide) ?_
              refine lv_iand hx hb dX8_findRound_205 ?_
              refine lv_topi (fun x_143 ex_143 => ?_)
              refine lv_iconst (v := 1) hx hb dX8_findRound_206 (by decide) ?_
              refine lv_icmp_ne (tgt := 222) hx hb dX8_findRound_207 (by decide) (fun c_144 => ?_) (fun c_144 => ?_)
              · refine lv_iload hx hb dX8_findRound_222 (lv_at hl 1 rfl) ?_
                refine va_iast hx hb hK hP hD hS 6 1 rfl rfl (vp_in_nI (by omega) (by decide)) dX8_findRound_224 (fun H locs hP hD hS => ?_)
                replace hP : va_P D classes [((a 0), .inr (8, (fX8 a (nI tx) fp (nI t0) wd (nI we) nu na (nI rd) ts (nI ru) (nI rw) (nI ca) df db sd))), (aI k (a 1) 3 (nF dn)), (aI k (a 4) 27 (sg se tm gs)), (aI k (a 2) 72 ffrees), (aI k (a 3) 72 fprices), (aI k (a 18) 768 f_141), (aI k (a 19) 768 (upd fw_118 (Int32.toNatClampNeg (nI (192 * rn + 8 * q_115 + g_118))) x_138)), (aI k (a 20) 5 fstarts), (aI k (a 21) 4 f_114), (aZ k (a 22) 4 f_77), (aI k (a 23) 8 fbegin)] H := hP
                replace hD : va_D A [((a 0), .inr (8, (fX8 a (nI tx) fp (nI t0) wd (nI we) nu na (nI rd) ts (nI ru) (nI rw) (nI ca) df db sd))), (aI k (a 1) 3 (nF dn)), (aI k (a 4) 27 (sg se tm gs)), (aI k (a 2) 72 ffrees), (aI k (a 3) 72 fprices), (aI k (a 18) 768 f_141), (aI k (a 19) 768 (upd fw_118 (Int32.toNatClampNeg (nI (192 * rn + 8 * q_115 + g_118))) x_138)), (aI k (a 20) 5 fstarts), (aI k (a 21) 4 f_114), (aZ k (a 22) 4 f_77), (aI k (a 23) 8 fbegin)] := hD
                generalize (upd fw_118 (Int32.toNatClampNeg (nI (192 * rn + 8 * q_115 + g_118))) x_138) = f_145 at hP hD
                refine lv_iinc (v := (nI (g_118 + 1))) (lv' := [(7, .int (nI (g_118 + 1))), (9, .int r_139), (8, .int x_138), (6, .int (nI q_115)), (5, .int r_1), (4, .int r_1), (3, .int (nI (dn sn))), (0, .ref (a 0)), (1, .int (nI sn)), (2, .int (nI rn))]) hx hb dX8_findRound_225 hl (k := 2) rfl (nI_add g_118 1) (by decide) rfl (fun ls hl => ?_)
                refine lv_goto (tgt := 111) hx hb dX8_findRound_228 (by decide) ?_
                exact ih_118 _ (g_118 + 1, f_141, f_145) _ _ _ (by omega) ⟨rfl, (by omega), hP, hD, hS, (lv_sub hl [0, 3, 4, 5, 6, 7, 8, 9] rfl)⟩
              · refine lv_iload hx hb dX8_findRound_210 (lv_at hl 0 rfl) ?_
                refine lv_iload hx hb dX8_findRound_212 (lv_at hl 1 rfl) ?_
                refine lv_icmp_gt (tgt := 222) hx hb dX8_findRound_214 (by decide) (fun c_146 => ?_) (fun c_146 => ?_)
                · refine lv_iload hx hb dX8_findRound_222 (lv_at hl 1 rfl) ?_
                  refine va_iast hx hb hK hP hD hS 6 1 rfl rfl (vp_in_nI (by omega) (by decide)) dX8_findRound_224 (fun H locs hP hD hS => ?_)
                  replace hP : va_P D classes [((a 0), .inr (8, (fX8 a (nI tx) fp (nI t0) wd (nI we) nu na (nI rd) ts (nI ru) (nI rw) (nI ca) df db sd))), (aI k (a 1) 3 (nF dn)), (aI k (a 4) 27 (sg se tm gs)), (aI k (a 2) 72 ffrees), (aI k (a 3) 72 fprices), (aI k (a 18) 768 f_141), (aI k (a 19) 768 (upd fw_118 (Int32.toNatClampNeg (nI (192 * rn + 8 * q_115 + g_118))) x_138)), (aI k (a 20) 5 fstarts), (aI k (a 21) 4 f_114), (aZ k (a 22) 4 f_77), (aI k (a 23) 8 fbegin)] H := hP
                  replace hD : va_D A [((a 0), .inr (8, (fX8 a (nI tx) fp (nI t0) wd (nI we) nu na (nI rd) ts (nI ru) (nI rw) (nI ca) df db sd))), (aI k (a 1) 3 (nF dn)), (aI k (a 4) 27 (sg se tm gs)), (aI k (a 2) 72 ffrees), (aI k (a 3) 72 fprices), (aI k (a 18) 768 f_141), (aI k (a 19) 768 (upd fw_118 (Int32.toNatClampNeg (nI (192 * rn + 8 * q_115 + g_118))) x_138)), (aI k (a 20) 5 fstarts), (aI k (a 21) 4 f_114), (aZ k (a 22) 4 f_77), (aI k (a 23) 8 fbegin)] := hD
                  generalize (upd fw_118 (Int32.toNatClampNeg (nI (192 * rn + 8 * q_115 + g_118))) x_138) = f_147 at hP hD
                  refine lv_iinc (v := (nI (g_118 + 1))) (lv' := [(7, .int (nI (g_118 + 1))), (9, .int r_139), (8, .int x_138), (6, .int (nI q_115)), (5, .int r_1), (4, .int r_1), (3, .int (nI (dn sn))), (0, .ref (a 0)), (1, .int (nI sn)), (2, .int (nI rn))]) hx hb dX8_findRound_225 hl (k := 2) rfl (nI_add g_118 1) (by decide) rfl (fun ls hl => ?_)
                  refine lv_goto (tgt := 111) hx hb dX8_findRound_228 (by decide) ?_
                  exact ih_118 _ (g_118 + 1, f_141, f_147) _ _ _ (by omega) ⟨rfl, (by omega), hP, hD, hS, (lv_sub hl [0, 3, 4, 5, 6, 7, 8, 9] rfl)⟩
                · refine lv_iload hx hb dX8_findRound_217 (lv_at hl 0 rfl) ?_
                  refine lv_goto (tgt := 224) hx hb dX8_findRound_219 (by decide) ?_
                  refine va_iast hx hb hK hP hD hS 6 1 rfl rfl (vp_in_nI (by omega) (by decide)) dX8_findRound_224 (fun H locs hP hD hS => ?_)
                  replace hP : va_P D classes [((a 0), .inr (8, (fX8 a (nI tx) fp (nI t0) wd (nI we) nu na (nI rd) ts (nI ru) (nI rw) (nI ca) df db sd))), (aI k (a 1) 3 (nF dn)), (aI k (a 4) 27 (sg se tm gs)), (aI k (a 2) 72 ffrees), (aI k (a 3) 72 fprices), (aI k (a 18) 768 f_141), (aI k (a 19) 768 (upd fw_118 (Int32.toNatClampNeg (nI (192 * rn + 8 * q_115 + g_118))) r_139)), (aI k (a 20) 5 fstarts), (aI k (a 21) 4 f_114), (aZ k (a 22) 4 f_77), (aI k (a 23) 8 fbegin)] H := hP
                  replace hD : va_D A [((a 0), .inr (8, (fX8 a (nI tx) fp (nI t0) wd (nI we) nu na (nI rd) ts (nI ru) (nI rw) (nI ca) df db sd))), (aI k (a 1) 3 (nF dn)), (aI k (a 4) 27 (sg se tm gs)), (aI k (a 2) 72 ffrees), (aI k (a 3) 72 fprices), (aI k (a 18) 768 f_141), (aI k (a 19) 768 (upd fw_118 (Int32.toNatClampNeg (nI (192 * rn + 8 * q_115 + g_118))) r_139)), (aI k (a 20) 5 fstarts), (aI k (a 21) 4 f_114), (aZ k (a 22) 4 f_77), (aI k (a 23) 8 fbegin)] := hD
                  generalize (upd fw_118 (Int32.toNatClampNeg (nI (192 * rn + 8 * q_115 + g_118))) r_139) = f_148 at hP hD
                  refine lv_iinc (v := (nI (g_118 + 1))) (lv' := [(7, .int (nI (g_118 + 1))), (9, .int r_139), (8, .int x_138), (6, .int (nI q_115)), (5, .int r_1), (4, .int r_1), (3, .int (nI (dn sn))), (0, .ref (a 0)), (1, .int (nI sn)), (2, .int (nI rn))]) hx hb dX8_findRound_225 hl (k := 2) rfl (nI_add g_118 1) (by decide) rfl (fun ls hl => ?_)
                  refine lv_goto (tgt := 111) hx hb dX8_findRound_228 (by decide) ?_
                  exact ih_118 _ (g_118 + 1, f_141, f_148) _ _ _ (by omega) ⟨rfl, (by omega), hP, hD, hS, (lv_sub hl [0, 3, 4, 5, 6, 7, 8, 9] rfl)⟩
  · have c_3 : ¬ ((tm sn) ≤ rn) := fun h => c_3 ((nI_leI (a := (tm sn)) (b := rn) (by omega) (by omega)).mpr h)
    refine lv_aload_n hx hb dX8_findRound_26 rfl (lv_at hl 2 rfl) ?_
    refine lv_iload_n hx hb dX8_findRound_27 rfl (lv_at hl 3 rfl) ?_
    refine lv_iconst (v := 2) hx hb dX8_findRound_28 (by decide) ?_
    refine ro_i (D := D) (va_runV (As := [.int (nI sn), .int 2]) (rest := []) ⟨hx, hb, hml, hown, hts⟩ ((m_of l D k st lo a tx t0 we rd ru rw ca fp wd nu na ts df db sd se tm gs sn 2 (by omega) (by omega)) H.size) (cwV 2 hts (gV tw_1194 tw_1196 tw_39 tw_87 tw_1197) rfl rfl rfl (by decide +kernel) ⟨Nat.le_of_ble_eq_true rfl, Nat.le_of_ble_eq_true rfl⟩) (pV hS hAlo hlo hP hK (va_Dlo hD hAlo) hZ [0, 2] (by decide) rfl (ci := 8) (q := (RX8, TX8, 44)) (q0 := 0) rfl rfl) rfl rfl hl.1 rfl (lv_room (Nat.le_of_ble_eq_true rfl)) dX8_findRound_29 ⟨Nat.le_of_ble_eq_true rfl, Nat.le_of_ble_eq_true rfl⟩) hS hA hP (fun r_149 H locs hw_149 hP hS => ?_)
    try dsimp only at hw_149
    refine lv_aload_n hx hb dX8_findRound_32 rfl (lv_at hl 2 rfl) ?_
    refine lv_iload_n hx hb dX8_findRound_33 rfl (lv_at hl 3 rfl) ?_
    refine lv_bipush (v := 6) hx hb dX8_findRound_34 (by decide) ?_
    refine ro_i (D := D) (va_runV (As := [.int (nI sn), .int 6]) (rest := [.int r_149]) ⟨hx, hb, hml, hown, hts⟩ ((m_of l D k st lo a tx t0 we rd ru rw ca fp wd nu na ts df db sd se tm gs sn 6 (by omega) (by omega)) H.size) (cwV 2 hts (gV tw_1194 tw_1196 tw_39 tw_87 tw_1197) rfl rfl rfl (by decide +kernel) ⟨Nat.le_of_ble_eq_true rfl, Nat.le_of_ble_eq_true rfl⟩) (pV hS hAlo hlo hP hK (va_Dlo hD hAlo) hZ [0, 2] (by decide) rfl (ci := 8) (q := (RX8, TX8, 44)) (q0 := 0) rfl rfl) rfl rfl hl.1 rfl (lv_room (Nat.le_of_ble_eq_true rfl)) dX8_findRound_36 ⟨Nat.le_of_ble_eq_true rfl, Nat.le_of_ble_eq_true rfl⟩) hS hA hP (fun r_150 H locs hw_150 hP hS => ?_)
    try dsimp only at hw_150
    refine lv_imul hx hb dX8_findRound_39 ?_
    refine lv_topi (fun x_151 ex_151 => ?_)
    refine lv_sipush (v := 1000) hx hb dX8_findRound_40 (by decide) ?_
    refine lv_imul hx hb dX8_findRound_43 ?_
    refine lv_topi (fun x_152 ex_152 => ?_)
    refine lv_aload_n hx hb dX8_findRound_44 rfl (lv_at hl 2 rfl) ?_
    refine va_get (D := D) (ci := 8) (v := .ref (a 20)) (C := RX8) (T := TX8) (N := 44) hx hb hts inX8 hown hK hP 0 rfl rfl 19 (by decide) (hts _ tw_992) (fun _ h9 => h9) rfl dX8_findRound_45 ?_
    refine lv_iload_n hx hb dX8_findRound_48 rfl (lv_at hl 4 rfl) ?_
    refine lv_iconst (v := 1) hx hb dX8_findRound_49 (by decide) ?_
    refine lv_iadd hx hb dX8_findRound_50 ?_
    refine lv_ti (y := (nI (rn + 1))) (nI_add rn 1) ?_
    refine va_iald hx hb hK hP 7 1 rfl rfl (vp_in_nI (by omega) (by decide)) dX8_findRound_51 ?_
    refine lv_ti (y := (fstarts (rn + 1))) (by rw [nI_clamp (by omega)]) ?_
    refine lv_iadd hx hb dX8_findRound_52 ?_
    refine lv_topi (fun x_153 ex_153 => ?_)
    refine lv_goto (tgt := 58) hx hb dX8_findRound_53 (by decide) ?_
    refine lv_istore (lv' := [(5, .int x_153), (4, .int r_1), (3, .int (nI (dn sn))), (0, .ref (a 0)), (1, .int (nI sn)), (2, .int (nI rn))]) hx hb dX8_findRound_58 hl (by decide) rfl (fun ls hl => ?_)
    refine lv_aload_n hx hb dX8_findRound_60 rfl (lv_at hl 3 rfl) ?_
    refine va_get (D := D) (ci := 8) (v := .ref (a 22)) (C := RX8) (T := TX8) (N := 44) hx hb hts inX8 hown hK hP 0 rfl rfl 21 (by decide) (hts _ tw_994) (fun _ h9 => h9) rfl dX8_findRound_61 ?_
    refine lv_iload_n hx hb dX8_findRound_64 rfl (lv_at hl 5 rfl) ?_
    refine lv_iload hx hb dX8_findRound_65 (lv_at hl 0 rfl) ?_
    refine lv_iload hx hb dX8_findRound_67 (lv_at hl 1 rfl) ?_
    refine lv_icmp_ge (tgt := 76) hx hb dX8_findRound_69 (by decide) (fun c_154 => ?_) (fun c_154 => ?_)
    · refine lv_iconst (v := 0) hx hb dX8_findRound_76 (by decide) ?_
      refine va_zast hx hb hK hP hD hS 9 2 rfl rfl (vp_in_nI (by omega) (by decide)) dX8_findRound_77 (fun H locs hP hD hS => ?_)
      replace hP : va_P D classes [((a 0), .inr (8, (fX8 a (nI tx) fp (nI t0) wd (nI we) nu na (nI rd) ts (nI ru) (nI rw) (nI ca) df db sd))), (aI k (a 1) 3 (nF dn)), (aI k (a 4) 27 (sg se tm gs)), (aI k (a 2) 72 ffrees), (aI k (a 3) 72 fprices), (aI k (a 18) 768 fons), (aI k (a 19) 768 fworths), (aI k (a 20) 5 fstarts), (aI k (a 21) 4 fends), (aZ k (a 22) 4 (upd fgoesRound (Int32.toNatClampNeg (nI rn)) (vp_nar .boolean 0))), (aI k (a 23) 8 fbegin)] H := hP
      replace hD : va_D A [((a 0), .inr (8, (fX8 a (nI tx) fp (nI t0) wd (nI we) nu na (nI rd) ts (nI ru) (nI rw) (nI ca) df db sd))), (aI k (a 1) 3 (nF dn)), (aI k (a 4) 27 (sg se tm gs)), (aI k (a 2) 72 ffrees), (aI k (a 3) 72 fprices), (aI k (a 18) 768 fons), (aI k (a 19) 768 fworths), (aI k (a 20) 5 fstarts), (aI k (a 21) 4 fends), (aZ k (a 22) 4 (upd fgoesRound (Int32.toNatClampNeg (nI rn)) (vp_nar .boolean 0))), (aI k (a 23) 8 fbegin)] := hD
      generalize (upd fgoesRound (Int32.toNatClampNeg (nI rn)) (vp_nar .boolean 0)) = f_155 at hP hD
      refine lv_aload_n hx hb dX8_findRound_78 rfl (lv_at hl 3 rfl) ?_
      refine va_get (D := D) (ci := 8) (v := .ref (a 21)) (C := RX8) (T := TX8) (N := 44) hx hb hts inX8 hown hK hP 0 rfl rfl 20 (by decide) (hts _ tw_993) (fun _ h9 => h9) rfl dX8_findRound_79 ?_
      refine lv_iload_n hx hb dX8_findRound_82 rfl (lv_at hl 5 rfl) ?_
      refine lv_iload hx hb dX8_findRound_83 (lv_at hl 0 rfl) ?_
      refine lv_iload hx hb dX8_findRound_85 (lv_at hl 1 rfl) ?_
      refine lv_icmp_ge (tgt := 95) hx hb dX8_findRound_87 (by decide) (fun c_156 => ?_) (fun c_156 => ?_)
      · refine lv_iload hx hb dX8_findRound_95 (lv_at hl 1 rfl) ?_
        refine va_iast hx hb hK hP hD hS 8 1 rfl rfl (vp_in_nI (by omega) (by decide)) dX8_findRound_97 (fun H locs hP hD hS => ?_)
        replace hP : va_P D classes [((a 0), .inr (8, (fX8 a (nI tx) fp (nI t0) wd (nI we) nu na (nI rd) ts (nI ru) (nI rw) (nI ca) df db sd))), (aI k (a 1) 3 (nF dn)), (aI k (a 4) 27 (sg se tm gs)), (aI k (a 2) 72 ffrees), (aI k (a 3) 72 fprices), (aI k (a 18) 768 fons), (aI k (a 19) 768 fworths), (aI k (a 20) 5 fstarts), (aI k (a 21) 4 (upd fends (Int32.toNatClampNeg (nI rn)) r_1)), (aZ k (a 22) 4 f_155), (aI k (a 23) 8 fbegin)] H := hP
        replace hD : va_D A [((a 0), .inr (8, (fX8 a (nI tx) fp (nI t0) wd (nI we) nu na (nI rd) ts (nI ru) (nI rw) (nI ca) df db sd))), (aI k (a 1) 3 (nF dn)), (aI k (a 4) 27 (sg se tm gs)), (aI k (a 2) 72 ffrees), (aI k (a 3) 72 fprices), (aI k (a 18) 768 fons), (aI k (a 19) 768 fworths), (aI k (a 20) 5 fstarts), (aI k (a 21) 4 (upd fends (Int32.toNatClampNeg (nI rn)) r_1)), (aZ k (a 22) 4 f_155), (aI k (a 23) 8 fbegin)] := hD
        generalize (upd fends (Int32.toNatClampNeg (nI rn)) r_1) = f_157 at hP hD
        refine lv_iload_n hx hb dX8_findRound_98 rfl (lv_at hl 2 rfl) ?_
        refine lv_iconst (v := 1) hx hb dX8_findRound_99 (by decide) ?_
        refine lv_isub hx hb dX8_findRound_100 ?_
        refine lv_ti (y := (nI (dn sn) - 1)) rfl ?_
        refine lv_istore (lv' := [(6, .int (nI (dn sn) - 1)), (5, .int x_153), (4, .int r_1), (3, .int (nI (dn sn))), (0, .ref (a 0)), (1, .int (nI sn)), (2, .int (nI rn))]) hx hb dX8_findRound_101 hl (by decide) rfl (fun ls hl => ?_)
        refine W_loop (σ := Nat × (Nat → Int32) × (Nat → Int32)) (fun (n_ : Nat) (x_ : Nat × (Nat → Int32) × (Nat → Int32)) (H : Heap) (locs : List Loc) (ls : Array Slot) => match x_ with | (q_158, fo_158, fw_158) => n_ = 2 * q_158 ∧ (q_158 ≤ dn sn) ∧ va_P D classes [((a 0), .inr (8, (fX8 a (nI tx) fp (nI t0) wd (nI we) nu na (nI rd) ts (nI ru) (nI rw) (nI ca) df db sd))), (aI k (a 1) 3 (nF dn)), (aI k (a 4) 27 (sg se tm gs)), (aI k (a 2) 72 ffrees), (aI k (a 3) 72 fprices), (aI k (a 18) 768 fo_158), (aI k (a 19) 768 fw_158), (aI k (a 20) 5 fstarts), (aI k (a 21) 4 f_157), (aZ k (a 22) 4 f_155), (aI k (a 23) 8 fbegin)] H ∧ va_D A [((a 0), .inr (8, (fX8 a (nI tx) fp (nI t0) wd (nI we) nu na (nI rd) ts (nI ru) (nI rw) (nI ca) df db sd))), (aI k (a 1) 3 (nF dn)), (aI k (a 4) 27 (sg se tm gs)), (aI k (a 2) 72 ffrees), (aI k (a 3) 72 fprices), (aI k (a 18) 768 fo_158), (aI k (a 19) 768 fw_158), (aI k (a 20) 5 fstarts), (aI k (a 21) 4 f_157), (aZ k (a 22) 4 f_155), (aI k (a 23) 8 fbegin)] ∧ va_S A s.heap H locs ∧ lv_has ls 10 [(6, .int (nI q_158 - 1)), (5, .int x_153), (4, .int r_1), (3, .int (nI (dn sn))), (0, .ref (a 0)), (1, .int (nI sn)), (2, .int (nI rn))]) (fun n_158 x_158 H locs ls hI ih_158 => ?_) _ (dn sn, fons, fworths) ⟨rfl, (by omega), hP, hD, hS, (lv_sub hl [0, 1, 2, 3, 4, 5, 6] rfl)⟩
        obtain ⟨q_158, fo_158, fw_158⟩ := x_158
        obtain ⟨hm_158, hv_158, hP, hD, hS, hl⟩ := hI
        subst hm_158
        rcases q_158 with _ | q_158
        · rw [dn0] at hl
          refine lv_iload hx hb dX8_findRound_103 (lv_at hl 0 rfl) ?_
          refine lv_if_lt (tgt := 237) hx hb dX8_findRound_105 (by decide) (fun _ => ?_) (fun h => absurd (by decide) h)
          refine lv_aload_n hx hb dX8_findRound_237 rfl (lv_at hl 4 rfl) ?_
          refine va_get (D := D) (ci := 8) (v := .ref (a 20)) (C := RX8) (T := TX8) (N := 44) hx hb hts inX8 hown hK hP 0 rfl rfl 19 (by decide) (hts _ tw_992) (fun _ h9 => h9) rfl dX8_findRound_238 ?_
          refine lv_iload_n hx hb dX8_findRound_241 rfl (lv_at hl 6 rfl) ?_
          refine lv_aload_n hx hb dX8_findRound_242 rfl (lv_at hl 4 rfl) ?_
          refine lv_iload_n hx hb dX8_findRound_243 rfl (lv_at hl 5 rfl) ?_
          refine lv_iload_n hx hb dX8_findRound_244 rfl (lv_at hl 6 rfl) ?_
          refine rw_i (D := D) (wr := [(aI k (a 3) 72 fprices), (aI k (a 18) 768 fo_158), (aI k (a 20) 5 fstarts), (aI k (a 21) 4 f_157), (aZ k (a 22) 4 f_155)]) (va_runV (As := [.int (nI sn), .int (nI rn)]) (rest := [.int (nI rn), .ref (a 20)]) ⟨hx, hb, hml, hown, hts⟩ ((m_startOf l D k st lo a tx t0 we rd ru rw ca fp wd nu na ts df db sd dn se tm gs ffrees fw_158 fbegin sn rn hdn hse (by omega) (by omega) (by omega)) H.size) (cwV 2 hts (gV tw_1273 tw_1275 tw_53 tw_87 tw_1276) rfl rfl rfl (by decide +kernel) ⟨Nat.le_of_ble_eq_true rfl, Nat.le_of_ble_eq_true rfl⟩) (pV hS hAlo hlo hP hK (va_Dlo hD hAlo) hZ [0, 1, 2, 3, 6, 10] (by decide) rfl (ci := 8) (q := (RX8, TX8, 44)) (q0 := 0) rfl rfl) rfl rfl hl.1 rfl (lv_room (Nat.le_of_ble_eq_true rfl)) dX8_findRound_245 ⟨Nat.le_of_ble_eq_true rfl, Nat.le_of_ble_eq_true rfl⟩) hS hA hP hD [0, 1, 2, 3, 6, 10] [4, 5, 7, 8, 9] rfl rfl (by decide +kernel) (by decide +kernel) (fun r_159 u H locs hw_159 hP hD hS => ?_)
          obtain ⟨fbegin__159, rfl⟩ : ∃ z, z = u := ⟨_, rfl⟩
          replace hP : va_P D classes [(aI k (a 3) 72 fprices), (aI k (a 18) 768 fo_158), (aI k (a 20) 5 fstarts), (aI k (a 21) 4 f_157), (aZ k (a 22) 4 f_155), ((a 0), .inr (8, (fX8 a (nI tx) fp (nI t0) wd (nI we) nu na (nI rd) ts (nI ru) (nI rw) (nI ca) df db sd))), (aI k (a 1) 3 (nF dn)), (aI k (a 4) 27 (sg se tm gs)), (aI k (a 2) 72 ffrees), (aI k (a 19) 768 fw_158), (aI k (a 23) 8 fbegin__159)] H := hP
          replace hD : va_D A [(aI k (a 3) 72 fprices), (aI k (a 18) 768 fo_158), (aI k (a 20) 5 fstarts), (aI k (a 21) 4 f_157), (aZ k (a 22) 4 f_155), ((a 0), .inr (8, (fX8 a (nI tx) fp (nI t0) wd (nI we) nu na (nI rd) ts (nI ru) (nI rw) (nI ca) df db sd))), (aI k (a 1) 3 (nF dn)), (aI k (a 4) 27 (sg se tm gs)), (aI k (a 2) 72 ffrees), (aI k (a 19) 768 fw_158), (aI k (a 23) 8 fbegin__159)] := hD
          try dsimp only at hw_159
          refine va_iast hx hb hK hP hD hS 2 1 rfl rfl (vp_in_nI (by omega) (by decide)) dX8_findRound_248 (fun H locs hP hD hS => ?_)
          replace hP : va_P D classes [(aI k (a 3) 72 fprices), (aI k (a 18) 768 fo_158), (aI k (a 20) 5 (upd fstarts (Int32.toNatClampNeg (nI rn)) r_159)), (aI k (a 21) 4 f_157), (aZ k (a 22) 4 f_155), ((a 0), .inr (8, (fX8 a (nI tx) fp (nI t0) wd (nI we) nu na (nI rd) ts (nI ru) (nI rw) (nI ca) df db sd))), (aI k (a 1) 3 (nF dn)), (aI k (a 4) 27 (sg se tm gs)), (aI k (a 2) 72 ffrees), (aI k (a 19) 768 fw_158), (aI k (a 23) 8 fbegin__159)] H := hP
          replace hD : va_D A [(aI k (a 3) 72 fprices), (aI k (a 18) 768 fo_158), (aI k (a 20) 5 (upd fstarts (Int32.toNatClampNeg (nI rn)) r_159)), (aI k (a 21) 4 f_157), (aZ k (a 22) 4 f_155), ((a 0), .inr (8, (fX8 a (nI tx) fp (nI t0) wd (nI we) nu na (nI rd) ts (nI ru) (nI rw) (nI ca) df db sd))), (aI k (a 1) 3 (nF dn)), (aI k (a 4) 27 (sg se tm gs)), (aI k (a 2) 72 ffrees), (aI k (a 19) 768 fw_158), (aI k (a 23) 8 fbegin__159)] := hD
          generalize (upd fstarts (Int32.toNatClampNeg (nI rn)) r_159) = f_160 at hP hD
          have hP9 := hP.sub (ws' := [((a 0), .inr (8, (fX8 a (nI tx) fp (nI t0) wd (nI we) nu na (nI rd) ts (nI ru) (nI rw) (nI ca) df db sd))), (aI k (a 1) 3 (nF dn)), (aI k (a 4) 27 (sg se tm gs)), (aI k (a 2) 72 ffrees), (aI k (a 3) 72 fprices), (aI k (a 18) 768 fo_158), (aI k (a 19) 768 fw_158), (aI k (a 20) 5 f_160), (aI k (a 21) 4 f_157), (aZ k (a 22) 4 f_155), (aI k (a 23) 8 fbegin__159)]) [5, 6, 7, 8, 0, 1, 9, 2, 3, 4, 10] rfl
          have hD9 := hD.sub (ws' := [((a 0), .inr (8, (fX8 a (nI tx) fp (nI t0) wd (nI we) nu na (nI rd) ts (nI ru) (nI rw) (nI ca) df db sd))), (aI k (a 1) 3 (nF dn)), (aI k (a 4) 27 (sg se tm gs)), (aI k (a 2) 72 ffrees), (aI k (a 3) 72 fprices), (aI k (a 18) 768 fo_158), (aI k (a 19) 768 fw_158), (aI k (a 20) 5 f_160), (aI k (a 21) 4 f_157), (aZ k (a 22) 4 f_155), (aI k (a 23) 8 fbegin__159)]) [5, 6, 7, 8, 0, 1, 9, 2, 3, 4, 10] (by decide +kernel) rfl
          exact W.vret hx hb hr (fun t ht hW => ⟨⟨(fo_158, fw_158, f_160, f_157, f_155, fbegin__159), rfl, trivial, by rw [ht]; exact hP9, hD9⟩, hS.F ht⟩) hS.2.2 dX8_findRound_249
        · rw [nI_pred] at hl
          refine lv_iload hx hb dX8_findRound_103 (lv_at hl 0 rfl) ?_
          refine lv_if_lt (tgt := 237) hx hb dX8_findRound_105 (by decide) (fun h => absurd h (nI_pos0 (by omega))) (fun _ => ?_)
          refine lv_iconst (v := 0) hx hb dX8_findRound_108 (by decide) ?_
          refine lv_istore (lv' := [(7, .int 0), (6, .int (nI q_158)), (5, .int x_153), (4, .int r_1), (3, .int (nI (dn sn))), (0, .ref (a 0)), (1, .int (nI sn)), (2, .int (nI rn))]) hx hb dX8_findRound_109 hl (by decide) rfl (fun ls hl => ?_)
          refine W_loop (σ := Nat × (Nat → Int32) × (Nat → Int32)) (fun (n_ : Nat) (x_ : Nat × (Nat → Int32) × (Nat → Int32)) (H : Heap) (locs : List Loc) (ls : Array Slot) => match x_ with | (g_161, fo_161, fw_161) => n_ = 8 - g_161 ∧ (g_161 ≤ 8) ∧ va_P D classes [((a 0), .inr (8, (fX8 a (nI tx) fp (nI t0) wd (nI we) nu na (nI rd) ts (nI ru) (nI rw) (nI ca) df db sd))), (aI k (a 1) 3 (nF dn)), (aI k (a 4) 27 (sg se tm gs)), (aI k (a 2) 72 ffrees), (aI k (a 3) 72 fprices), (aI k (a 18) 768 fo_161), (aI k (a 19) 768 fw_161), (aI k (a 20) 5 fstarts), (aI k (a 21) 4 f_157), (aZ k (a 22) 4 f_155), (aI k (a 23) 8 fbegin)] H ∧ va_D A [((a 0), .inr (8, (fX8 a (nI tx) fp (nI t0) wd (nI we) nu na (nI rd) ts (nI ru) (nI rw) (nI ca) df db sd))), (aI k (a 1) 3 (nF dn)), (aI k (a 4) 27 (sg se tm gs)), (aI k (a 2) 72 ffrees), (aI k (a 3) 72 fprices), (aI k (a 18) 768 fo_161), (aI k (a 19) 768 fw_161), (aI k (a 20) 5 fstarts), (aI k (a 21) 4 f_157), (aZ k (a 22) 4 f_155), (aI k (a 23) 8 fbegin)] ∧ va_S A s.heap H locs ∧ lv_has ls 10 [(7, .int (nI g_161)), (6, .int (nI q_158)), (5, .int x_153), (4, .int r_1), (3, .int (nI (dn sn))), (0, .ref (a 0)), (1, .int (nI sn)), (2, .int (nI rn))]) (fun n_161 x_161 H locs ls hI ih_161 => ?_) _ (0, fo_158, fw_158) ⟨rfl, (by omega), hP, hD, hS, (lv_sub hl [0, 1, 2, 3, 4, 5, 6, 7] rfl)⟩
          obtain ⟨g_161, fo_161, fw_161⟩ := x_161
          obtain ⟨hm_161, hv_161, hP, hD, hS, hl⟩ := hI
          subst hm_161
          refine lv_iload hx hb dX8_findRound_111 (lv_at hl 0 rfl) ?_
          refine lv_iconst (v := 1) hx hb dX8_findRound_113 (by decide) ?_
          refine lv_aload_n hx hb dX8_findRound_114 rfl (lv_at hl 5 rfl) ?_
          refine lv_iload_n hx hb dX8_findRound_115 rfl (lv_at hl 6 rfl) ?_
          refine lv_iload hx hb dX8_findRound_116 (lv_at hl 1 rfl) ?_
          refine ro_i (D := D) (va_runV (As := [.int (nI sn), .int (nI q_158)]) (rest := [.int 1, .int (nI g_161)]) ⟨hx, hb, hml, hown, hts⟩ ((m_seen l D k st lo a tx t0 we rd ru rw ca fp wd nu na ts df db sd dn se tm gs sn q_158 hdn hse (by omega) (by omega)) H.size) (cwV 2 hts (gV tw_1246 tw_1248 tw_48 tw_87 tw_1249) rfl rfl rfl (by decide +kernel) ⟨Nat.le_of_ble_eq_true rfl, Nat.le_of_ble_eq_true rfl⟩) (pV hS hAlo hlo hP hK (va_Dlo hD hAlo) hZ [0, 1, 2] (by decide) rfl (ci := 8) (q := (RX8, TX8, 44)) (q0 := 0) rfl rfl) rfl rfl hl.1 rfl (lv_room (Nat.le_of_ble_eq_true rfl)) dX8_findRound_118 ⟨Nat.le_of_ble_eq_true rfl, Nat.le_of_ble_eq_true rfl⟩) hS hA hP (fun r_162 H locs hw_162 hP hS => ?_)
          try dsimp only at hw_162
          obtain ⟨sv_163, esv_163⟩ : ∃ z : Nat, z = (if dn sn - q_158 < se sn + 1 then dn sn - q_158 else se sn + 1) := ⟨_, rfl⟩
          rw [← esv_163] at hw_162
          subst hw_162
          have hsv_163 : sv_163 ≤ 3 ∧ sv_163 ≤ dn sn - q_158 ∧ (0 < dn sn - q_158 → 1 ≤ sv_163) := by
            have hse9 := hse sn
            split at esv_163 <;> omega
          obtain ⟨pw_164, epw_164⟩ : ∃ z : Nat, z = 2 ^ sv_163 := ⟨_, rfl⟩
          have hpw_164 : 1 ≤ pw_164 ∧ pw_164 ≤ 8 := by rw [epw_164]; exact pw8 (by omega)
          refine lv_ishl hx hb dX8_findRound_121 ?_
          refine lv_ti (y := (nI pw_164)) (by rw [epw_164]; exact shl1 sv_163 (by omega)) ?_
          refine lv_icmp_ge (tgt := 231) hx hb dX8_findRound_122 (by decide) (fun c_165 => ?_) (fun c_165 => ?_)
          · have c_165 := (nI_leI (a := pw_164) (b := g_161) (by omega) (by omega)).mp c_165
            refine lv_iinc (v := (nI q_158 - 1)) (lv' := [(6, .int (nI q_158 - 1)), (7, .int (nI g_161)), (5, .int x_153), (4, .int r_1), (3, .int (nI (dn sn))), (0, .ref (a 0)), (1, .int (nI sn)), (2, .int (nI rn))]) hx hb dX8_findRound_231 hl (k := 1) rfl (dn1 _) (by decide) rfl (fun ls hl => ?_)
            refine lv_goto (tgt := 103) hx hb dX8_findRound_234 (by decide) ?_
            exact ih_158 _ (q_158, fo_161, fw_161) _ _ _ (by omega) ⟨rfl, (by omega), hP, hD, hS, (lv_sub hl [0, 2, 3, 4, 5, 6, 7] rfl)⟩
          · have c_165 : ¬ (pw_164 ≤ g_161) := fun h => c_165 ((nI_leI (a := pw_164) (b := g_161) (by omega) (by omega)).mpr h)
            refine lv_aload_n hx hb dX8_findRound_125 rfl (lv_at hl 5 rfl) ?_
            refine lv_iload_n hx hb dX8_findRound_126 rfl (lv_at hl 6 rfl) ?_
            refine lv_iconst (v := 2) hx hb dX8_findRound_127 (by decide) ?_
            refine ro_i (D := D) (va_runV (As := [.int (nI sn), .int 2]) (rest := []) ⟨hx, hb, hml, hown, hts⟩ ((m_of l D k st lo a tx t0 we rd ru rw ca fp wd nu na ts df db sd se tm gs sn 2 (by omega) (by omega)) H.size) (cwV 2 hts (gV tw_1194 tw_1196 tw_39 tw_87 tw_1197) rfl rfl rfl (by decide +kernel) ⟨Nat.le_of_ble_eq_true rfl, Nat.le_of_ble_eq_true rfl⟩) (pV hS hAlo hlo hP hK (va_Dlo hD hAlo) hZ [0, 2] (by decide) rfl (ci := 8) (q := (RX8, TX8, 44)) (q0 := 0) rfl rfl) rfl rfl hl.1 rfl (lv_room (Nat.le_of_ble_eq_true rfl)) dX8_findRound_128 ⟨Nat.le_of_ble_eq_true rfl, Nat.le_of_ble_eq_true rfl⟩) hS hA hP (fun r_166 H locs hw_166 hP hS => ?_)
            try dsimp only at hw_166
            refine lv_sipush (v := 1000) hx hb dX8_findRound_131 (by decide) ?_
            refine lv_imul hx hb dX8_findRound_134 ?_
            refine lv_topi (fun x_167 ex_167 => ?_)
            refine lv_iload hx hb dX8_findRound_135 (lv_at hl 1 rfl) ?_
            refine lv_iload_n hx hb dX8_findRound_137 rfl (lv_at hl 4 rfl) ?_
            refine lv_iconst (v := 1) hx hb dX8_findRound_138 (by decide) ?_
            refine lv_isub hx hb dX8_findRound_139 ?_
            refine lv_ti (y := (nI ((dn sn) - 1))) (pk_sub (a := (dn sn)) (b := 1) (by omega)) ?_
            refine lv_icmp_ne (tgt := 152) hx hb dX8_findRound_140 (by decide) (fun c_168 => ?_) (fun c_168 => ?_)
            · have c_168 : ¬ (q_158 = ((dn sn) - 1)) := fun h => c_168 ((nI_eq (a := q_158) (b := ((dn sn) - 1)) (by omega) (by omega)).mpr h)
              refine lv_aload_n hx hb dX8_findRound_152 rfl (lv_at hl 5 rfl) ?_
              refine lv_iload_n hx hb dX8_findRound_153 rfl (lv_at hl 6 rfl) ?_
              refine lv_iload_n hx hb dX8_findRound_154 rfl (lv_at hl 7 rfl) ?_
              refine lv_iload hx hb dX8_findRound_155 (lv_at hl 1 rfl) ?_
              refine lv_iload hx hb dX8_findRound_157 (lv_at hl 0 rfl) ?_
              refine ro_i (D := D) (va_runV (As := [.int (nI sn), .int (nI rn), .int (nI q_158), .int (nI g_161)]) (rest := [.int x_167]) ⟨hx, hb, hml, hown, hts⟩ ((m_on l D k st lo a tx t0 we rd ru rw ca fp wd nu na ts df db sd dn se tm gs ffrees fw_161 sn rn q_158 g_161 hdn hse (by omega) (by omega) (by omega) (by omega)) H.size) (cwV 4 hts (gV tw_1262 tw_1264 tw_52 tw_87 tw_1265) rfl rfl rfl (by decide +kernel) ⟨Nat.le_of_ble_eq_true rfl, Nat.le_of_ble_eq_true rfl⟩) (pV hS hAlo hlo hP hK (va_Dlo hD hAlo) hZ [0, 1, 2, 3, 6] (by decide) rfl (ci := 8) (q := (RX8, TX8, 44)) (q0 := 0) rfl rfl) rfl rfl hl.1 rfl (lv_room (Nat.le_of_ble_eq_true rfl)) dX8_findRound_159 ⟨Nat.le_of_ble_eq_true rfl, Nat.le_of_ble_eq_true rfl⟩) hS hA hP (fun r_169 H locs hw_169 hP hS => ?_)
              try dsimp only at hw_169
              refine lv_iadd hx hb dX8_findRound_162 ?_
              refine lv_topi (fun x_170 ex_170 => ?_)
              refine lv_istore (lv' := [(8, .int x_170), (7, .int (nI g_161)), (6, .int (nI q_158)), (5, .int x_153), (4, .int r_1), (3, .int (nI (dn sn))), (0, .ref (a 0)), (1, .int (nI sn)), (2, .int (nI rn))]) hx hb dX8_findRound_163 hl (by decide) rfl (fun ls hl => ?_)
              refine lv_aload_n hx hb dX8_findRound_165 rfl (lv_at hl 6 rfl) ?_
              refine lv_iload_n hx hb dX8_findRound_166 rfl (lv_at hl 7 rfl) ?_
              refine lv_iload_n hx hb dX8_findRound_167 rfl (lv_at hl 8 rfl) ?_
              refine lv_iload hx hb dX8_findRound_168 (lv_at hl 2 rfl) ?_
              refine ro_i (D := D) (va_runV (As := [.int (nI sn), .int (nI rn), .int (nI q_158)]) (rest := []) ⟨hx, hb, hml, hown, hts⟩ ((m_takingOf l D k st lo a tx t0 we rd ru rw ca fp wd nu na ts df db sd dn se tm gs fprices sn q_158 (nI rn) (by omega) (by omega)) H.size) (cwV 3 hts (gV tw_1222 tw_1224 tw_43 tw_87 tw_1225) rfl rfl rfl (by decide +kernel) ⟨Nat.le_of_ble_eq_true rfl, Nat.le_of_ble_eq_true rfl⟩) (pV hS hAlo hlo hP hK (va_Dlo hD hAlo) hZ [0, 1, 2, 4] (by decide) rfl (ci := 8) (q := (RX8, TX8, 44)) (q0 := 0) rfl rfl) rfl rfl hl.1 rfl (lv_room (Nat.le_of_ble_eq_true rfl)) dX8_findRound_170 ⟨Nat.le_of_ble_eq_true rfl, Nat.le_of_ble_eq_true rfl⟩) hS hA hP (fun r_171 H locs hw_171 hP hS => ?_)
              try dsimp only at hw_171
              refine lv_istore (lv' := [(9, .int r_171), (8, .int x_170), (7, .int (nI g_161)), (6, .int (nI q_158)), (5, .int x_153), (4, .int r_1), (3, .int (nI (dn sn))), (0, .ref (a 0)), (1, .int (nI sn)), (2, .int (nI rn))]) hx hb dX8_findRound_173 hl (by decide) rfl (fun ls hl => ?_)
              refine lv_aload_n hx hb dX8_findRound_175 rfl (lv_at hl 7 rfl) ?_
              refine va_get (D := D) (ci := 8) (v := .ref (a 18)) (C := RX8) (T := TX8) (N := 44) hx hb hts inX8 hown hK hP 0 rfl rfl 17 (by decide) (hts _ tw_990) (fun _ h9 => h9) rfl dX8_findRound_176 ?_
              refine lv_iload_n hx hb dX8_findRound_179 rfl (lv_at hl 9 rfl) ?_
              refine lv_iload hx hb dX8_findRound_180 (lv_at hl 3 rfl) ?_
              refine lv_iload hx hb dX8_findRound_182 (lv_at hl 2 rfl) ?_
              refine ro_i (D := D) (va_runS (As := [.int (nI rn), .int (nI q_158), .int (nI g_161)]) (rest := [.ref (a 18)]) ⟨hx, hb, hml, hown, hts⟩ ((m_at l D k st lo rn q_158 g_161) H.size) (va_cwS 3 hts (gS tw_1266 tw_1267 tw_87 tw_1268) rfl rfl rfl (by decide +kernel) ⟨Nat.le_of_ble_eq_true rfl, Nat.le_of_ble_eq_true rfl⟩) (pS hS hAlo hlo hP hK (va_Dlo hD hAlo) hZ [] (by decide) rfl) rfl rfl hl.1 rfl (lv_room (Nat.le_of_ble_eq_true rfl)) dX8_findRound_184 ⟨Nat.le_of_ble_eq_true rfl, Nat.le_of_ble_eq_true rfl⟩) hS hA hP (fun r_172 H locs hw_172 hP hS => ?_)
              try dsimp only at hw_172
              subst hw_172
              refine lv_iload hx hb dX8_findRound_187 (lv_at hl 1 rfl) ?_
              refine va_iast hx hb hK hP hD hS 5 1 rfl rfl (vp_in_nI (by omega) (by decide)) dX8_findRound_189 (fun H locs hP hD hS => ?_)
              replace hP : va_P D classes [((a 0), .inr (8, (fX8 a (nI tx) fp (nI t0) wd (nI we) nu na (nI rd) ts (nI ru) (nI rw) (nI ca) df db sd))), (aI k (a 1) 3 (nF dn)), (aI k (a 4) 27 (sg se tm gs)), (aI k (a 2) 72 ffrees), (aI k (a 3) 72 fprices), (aI k (a 18) 768 (upd fo_161 (Int32.toNatClampNeg (nI (192 * rn + 8 * q_158 + g_161))) x_170)), (aI k (a 19) 768 fw_161), (aI k (a 20) 5 fstarts), (aI k (a 21) 4 f_157), (aZ k (a 22) 4 f_155), (aI k (a 23) 8 fbegin)] H := hP
              replace hD : va_D A [((a 0), .inr (8, (fX8 a (nI tx) fp (nI t0) wd (nI we) nu na (nI rd) ts (nI ru) (nI rw) (nI ca) df db sd))), (aI k (a 1) 3 (nF dn)), (aI k (a 4) 27 (sg se tm gs)), (aI k (a 2) 72 ffrees), (aI k (a 3) 72 fprices), (aI k (a 18) 768 (upd fo_161 (Int32.toNatClampNeg (nI (192 * rn + 8 * q_158 + g_161))) x_170)), (aI k (a 19) 768 fw_161), (aI k (a 20) 5 fstarts), (aI k (a 21) 4 f_157), (aZ k (a 22) 4 f_155), (aI k (a 23) 8 fbegin)] := hD
              generalize (upd fo_161 (Int32.toNatClampNeg (nI (192 * rn + 8 * q_158 + g_161))) x_170) = f_173 at hP hD
              refine lv_aload_n hx hb dX8_findRound_190 rfl (lv_at hl 7 rfl) ?_
              refine va_get (D := D) (ci := 8) (v := .ref (a 19)) (C := RX8) (T := TX8) (N := 44) hx hb hts inX8 hown hK hP 0 rfl rfl 18 (by decide) (hts _ tw_991) (fun _ h9 => h9) rfl dX8_findRound_191 ?_
              refine lv_iload_n hx hb dX8_findRound_194 rfl (lv_at hl 9 rfl) ?_
              refine lv_iload hx hb dX8_findRound_195 (lv_at hl 3 rfl) ?_
              refine lv_iload hx hb dX8_findRound_197 (lv_at hl 2 rfl) ?_
              refine ro_i (D := D) (va_runS (As := [.int (nI rn), .int (nI q_158), .int (nI g_161)]) (rest := [.ref (a 19)]) ⟨hx, hb, hml, hown, hts⟩ ((m_at l D k st lo rn q_158 g_161) H.size) (va_cwS 3 hts (gS tw_1266 tw_1267 tw_87 tw_1268) rfl rfl rfl (by decide +kernel) ⟨Nat.le_of_ble_eq_true rfl, Nat.le_of_ble_eq_true rfl⟩) (pS hS hAlo hlo hP hK (va_Dlo hD hAlo) hZ [] (by decide) rfl) rfl rfl hl.1 rfl (lv_room (Nat.le_of_ble_eq_true rfl)) dX8_findRound_199 ⟨Nat.le_of_ble_eq_true rfl, Nat.le_of_ble_eq_true rfl⟩) hS hA hP (fun r_174 H locs hw_174 hP hS => ?_)
              try dsimp only at hw_174
              subst hw_174
              refine lv_iload hx hb dX8_findRound_202 (lv_at hl 2 rfl) ?_
              refine lv_iconst (v := 1) hx hb dX8_findRound_204 (by decide) ?_
              refine lv_iand hx hb dX8_findRound_205 ?_
              refine lv_topi (fun x_175 ex_175 => ?_)
              refine lv_iconst (v := 1) hx hb dX8_findRound_206 (by decide) ?_
              refine lv_icmp_ne (tgt := 222) hx hb dX8_findRound_207 (by decide) (fun c_176 => ?_) (fun c_176 => ?_)
              · refine lv_iload hx hb dX8_findRound_222 (lv_at hl 1 rfl) ?_
                refine va_iast hx hb hK hP hD hS 6 1 rfl rfl (vp_in_nI (by omega) (by decide)) dX8_findRound_224 (fun H locs hP hD hS => ?_)
                replace hP : va_P D classes [((a 0), .inr (8, (fX8 a (nI tx) fp (nI t0) wd (nI we) nu na (nI rd) ts (nI ru) (nI rw) (nI ca) df db sd))), (aI k (a 1) 3 (nF dn)), (aI k (a 4) 27 (sg se tm gs)), (aI k (a 2) 72 ffrees), (aI k (a 3) 72 fprices), (aI k (a 18) 768 f_173), (aI k (a 19) 768 (upd fw_161 (Int32.toNatClampNeg (nI (192 * rn + 8 * q_158 + g_161))) x_170)), (aI k (a 20) 5 fstarts), (aI k (a 21) 4 f_157), (aZ k (a 22) 4 f_155), (aI k (a 23) 8 fbegin)] H := hP
                replace hD : va_D A [((a 0), .inr (8, (fX8 a (nI tx) fp (nI t0) wd (nI we) nu na (nI rd) ts (nI ru) (nI rw) (nI ca) df db sd))), (aI k (a 1) 3 (nF dn)), (aI k (a 4) 27 (sg se tm gs)), (aI k (a 2) 72 ffrees), (aI k (a 3) 72 fprices), (aI k (a 18) 768 f_173), (aI k (a 19) 768 (upd fw_161 (Int32.toNatClampNeg (nI (192 * rn + 8 * q_158 + g_161))) x_170)), (aI k (a 20) 5 fstarts), (aI k (a 21) 4 f_157), (aZ k (a 22) 4 f_155), (aI k (a 23) 8 fbegin)] := hD
                generalize (upd fw_161 (Int32.toNatClampNeg (nI (192 * rn + 8 * q_158 + g_161))) x_170) = f_177 at hP hD
                refine lv_iinc (v := (nI (g_161 + 1))) (lv' := [(7, .int (nI (g_161 + 1))), (9, .int r_171), (8, .int x_170), (6, .int (nI q_158)), (5, .int x_153), (4, .int r_1), (3, .int (nI (dn sn))), (0, .ref (a 0)), (1, .int (nI sn)), (2, .int (nI rn))]) hx hb dX8_findRound_225 hl (k := 2) rfl (nI_add g_161 1) (by decide) rfl (fun ls hl => ?_)
                refine lv_goto (tgt := 111) hx hb dX8_findRound_228 (by decide) ?_
                exact ih_161 _ (g_161 + 1, f_173, f_177) _ _ _ (by omega) ⟨rfl, (by omega), hP, hD, hS, (lv_sub hl [0, 3, 4, 5, 6, 7, 8, 9] rfl)⟩
              · refine lv_iload hx hb dX8_findRound_210 (lv_at hl 0 rfl) ?_
                refine lv_iload hx hb dX8_findRound_212 (lv_at hl 1 rfl) ?_
                refine lv_icmp_gt (tgt := 222) hx hb dX8_findRound_214 (by decide) (fun c_178 => ?_) (fun c_178 => ?_)
                · refine lv_iload hx hb dX8_findRound_222 (lv_at hl 1 rfl) ?_
                  refine va_iast hx hb hK hP hD hS 6 1 rfl rfl (vp_in_nI (by omega) (by decide)) dX8_findRound_224 (fun H locs hP hD hS => ?_)
                  replace hP : va_P D classes [((a 0), .inr (8, (fX8 a (nI tx) fp (nI t0) wd (nI we) nu na (nI rd) ts (nI ru) (nI rw) (nI ca) df db sd))), (aI k (a 1) 3 (nF dn)), (aI k (a 4) 27 (sg se tm gs)), (aI k (a 2) 72 ffrees), (aI k (a 3) 72 fprices), (aI k (a 18) 768 f_173), (aI k (a 19) 768 (upd fw_161 (Int32.toNatClampNeg (nI (192 * rn + 8 * q_158 + g_161))) x_170)), (aI k (a 20) 5 fstarts), (aI k (a 21) 4 f_157), (aZ k (a 22) 4 f_155), (aI k (a 23) 8 fbegin)] H := hP
                  replace hD : va_D A [((a 0), .inr (8, (fX8 a (nI tx) fp (nI t0) wd (nI we) nu na (nI rd) ts (nI ru) (nI rw) (nI ca) df db sd))), (aI k (a 1) 3 (nF dn)), (aI k (a 4) 27 (sg se tm gs)), (aI k (a 2) 72 ffrees), (aI k (a 3) 72 fprices), (aI k (a 18) 768 f_173), (aI k (a 19) 768 (upd fw_161 (Int32.toNatClampNeg (nI (192 * rn + 8 * q_158 + g_161))) x_170)), (aI k (a 20) 5 fstarts), (aI k (a 21) 4 f_157), (aZ k (a 22) 4 f_155), (aI k (a 23) 8 fbegin)] := hD
                  generalize (upd fw_161 (Int32.toNatClampNeg (nI (192 * rn + 8 * q_158 + g_161))) x_170) = f_179 at hP hD
                  refine lv_iinc (v := (nI (g_161 + 1))) (lv' := [(7, .int (nI (g_161 + 1))), (9, .int r_171), (8, .int x_170), (6, .int (nI q_158)), (5, .int x_153), (4, .int r_1), (3, .int (nI (dn sn))), (0, .ref (a 0)), (1, .int (nI sn)), (2, .int (nI rn))]) hx hb dX8_findRound_225 hl (k := 2) rfl (nI_add g_161 1) (by decide) rfl (fun ls hl => ?_)
                  refine lv_goto (tgt := 111) hx hb dX8_findRound_228 (by decide) ?_
                  exact ih_161 _ (g_161 + 1, f_173, f_179) _ _ _ (by omega) ⟨rfl, (by omega), hP, hD, hS, (lv_sub hl [0, 3, 4, 5, 6, 7, 8, 9] rfl)⟩
                · refine lv_iload hx hb dX8_findRound_217 (lv_at hl 0 rfl) ?_
                  refine lv_goto (tgt := 224) hx hb dX8_findRound_219 (by decide) ?_
                  refine va_iast hx hb hK hP hD hS 6 1 rfl rfl (vp_in_nI (by omega) (by decide)) dX8_findRound_224 (fun H locs hP hD hS => ?_)
                  replace hP : va_P D classes [((a 0), .inr (8, (fX8 a (nI tx) fp (nI t0) wd (nI we) nu na (nI rd) ts (nI ru) (nI rw) (nI ca) df db sd))), (aI k (a 1) 3 (nF dn)), (aI k (a 4) 27 (sg se tm gs)), (aI k (a 2) 72 ffrees), (aI k (a 3) 72 fprices), (aI k (a 18) 768 f_173), (aI k (a 19) 768 (upd fw_161 (Int32.toNatClampNeg (nI (192 * rn + 8 * q_158 + g_161))) r_171)), (aI k (a 20) 5 fstarts), (aI k (a 21) 4 f_157), (aZ k (a 22) 4 f_155), (aI k (a 23) 8 fbegin)] H := hP
                  replace hD : va_D A [((a 0), .inr (8, (fX8 a (nI tx) fp (nI t0) wd (nI we) nu na (nI rd) ts (nI ru) (nI rw) (nI ca) df db sd))), (aI k (a 1) 3 (nF dn)), (aI k (a 4) 27 (sg se tm gs)), (aI k (a 2) 72 ffrees), (aI k (a 3) 72 fprices), (aI k (a 18) 768 f_173), (aI k (a 19) 768 (upd fw_161 (Int32.toNatClampNeg (nI (192 * rn + 8 * q_158 + g_161))) r_171)), (aI k (a 20) 5 fstarts), (aI k (a 21) 4 f_157), (aZ k (a 22) 4 f_155), (aI k (a 23) 8 fbegin)] := hD
                  generalize (upd fw_161 (Int32.toNatClampNeg (nI (192 * rn + 8 * q_158 + g_161))) r_171) = f_180 at hP hD
                  refine lv_iinc (v := (nI (g_161 + 1))) (lv' := [(7, .int (nI (g_161 + 1))), (9, .int r_171), (8, .int x_170), (6, .int (nI q_158)), (5, .int x_153), (4, .int r_1), (3, .int (nI (dn sn))), (0, .ref (a 0)), (1, .int (nI sn)), (2, .int (nI rn))]) hx hb dX8_findRound_225 hl (k := 2) rfl (nI_add g_161 1) (by decide) rfl (fun ls hl => ?_)
                  refine lv_goto (tgt := 111) hx hb dX8_findRound_228 (by decide) ?_
                  exact ih_161 _ (g_161 + 1, f_173, f_180) _ _ _ (by omega) ⟨rfl, (by omega), hP, hD, hS, (lv_sub hl [0, 3, 4, 5, 6, 7, 8, 9] rfl)⟩
            · have c_168 := (nI_eq (a := q_158) (b := ((dn sn) - 1)) (by omega) (by omega)).mp c_168
              refine lv_aload_n hx hb dX8_findRound_143 rfl (lv_at hl 5 rfl) ?_
              refine va_get (D := D) (ci := 8) (v := .ref (a 21)) (C := RX8) (T := TX8) (N := 44) hx hb hts inX8 hown hK hP 0 rfl rfl 20 (by decide) (hts _ tw_993) (fun _ h9 => h9) rfl dX8_findRound_144 ?_
              refine lv_iload_n hx hb dX8_findRound_147 rfl (lv_at hl 7 rfl) ?_
              refine va_iald hx hb hK hP 8 1 rfl rfl (vp_in_nI (by omega) (by decide)) dX8_findRound_148 ?_
              refine lv_ti (y := (f_157 rn)) (by rw [nI_clamp (by omega)]) ?_
              refine lv_goto (tgt := 162) hx hb dX8_findRound_149 (by decide) ?_
              refine lv_iadd hx hb dX8_findRound_162 ?_
              refine lv_topi (fun x_181 ex_181 => ?_)
              refine lv_istore (lv' := [(8, .int x_181), (7, .int (nI g_161)), (6, .int (nI q_158)), (5, .int x_153), (4, .int r_1), (3, .int (nI (dn sn))), (0, .ref (a 0)), (1, .int (nI sn)), (2, .int (nI rn))]) hx hb dX8_findRound_163 hl (by decide) rfl (fun ls hl => ?_)
              refine lv_aload_n hx hb dX8_findRound_165 rfl (lv_at hl 6 rfl) ?_
              refine lv_iload_n hx hb dX8_findRound_166 rfl (lv_at hl 7 rfl) ?_
              refine lv_iload_n hx hb dX8_findRound_167 rfl (lv_at hl 8 rfl) ?_
              refine lv_iload hx hb dX8_findRound_168 (lv_at hl 2 rfl) ?_
              refine ro_i (D := D) (va_runV (As := [.int (nI sn), .int (nI rn), .int (nI q_158)]) (rest := []) ⟨hx, hb, hml, hown, hts⟩ ((m_takingOf l D k st lo a tx t0 we rd ru rw ca fp wd nu na ts df db sd dn se tm gs fprices sn q_158 (nI rn) (by omega) (by omega)) H.size) (cwV 3 hts (gV tw_1222 tw_1224 tw_43 tw_87 tw_1225) rfl rfl rfl (by decide +kernel) ⟨Nat.le_of_ble_eq_true rfl, Nat.le_of_ble_eq_true rfl⟩) (pV hS hAlo hlo hP hK (va_Dlo hD hAlo) hZ [0, 1, 2, 4] (by decide) rfl (ci := 8) (q := (RX8, TX8, 44)) (q0 := 0) rfl rfl) rfl rfl hl.1 rfl (lv_room (Nat.le_of_ble_eq_true rfl)) dX8_findRound_170 ⟨Nat.le_of_ble_eq_true rfl, Nat.le_of_ble_eq_true rfl⟩) hS hA hP (fun r_182 H locs hw_182 hP hS => ?_)
              try dsimp only at hw_182
              refine lv_istore (lv' := [(9, .int r_182), (8, .int x_181), (7, .int (nI g_161)), (6, .int (nI q_158)), (5, .int x_153), (4, .int r_1), (3, .int (nI (dn sn))), (0, .ref (a 0)), (1, .int (nI sn)), (2, .int (nI rn))]) hx hb dX8_findRound_173 hl (by decide) rfl (fun ls hl => ?_)
              refine lv_aload_n hx hb dX8_findRound_175 rfl (lv_at hl 7 rfl) ?_
              refine va_get (D := D) (ci := 8) (v := .ref (a 18)) (C := RX8) (T := TX8) (N := 44) hx hb hts inX8 hown hK hP 0 rfl rfl 17 (by decide) (hts _ tw_990) (fun _ h9 => h9) rfl dX8_findRound_176 ?_
              refine lv_iload_n hx hb dX8_findRound_179 rfl (lv_at hl 9 rfl) ?_
              refine lv_iload hx hb dX8_findRound_180 (lv_at hl 3 rfl) ?_
              refine lv_iload hx hb dX8_findRound_182 (lv_at hl 2 rfl) ?_
              refine ro_i (D := D) (va_runS (As := [.int (nI rn), .int (nI q_158), .int (nI g_161)]) (rest := [.ref (a 18)]) ⟨hx, hb, hml, hown, hts⟩ ((m_at l D k st lo rn q_158 g_161) H.size) (va_cwS 3 hts (gS tw_1266 tw_1267 tw_87 tw_1268) rfl rfl rfl (by decide +kernel) ⟨Nat.le_of_ble_eq_true rfl, Nat.le_of_ble_eq_true rfl⟩) (pS hS hAlo hlo hP hK (va_Dlo hD hAlo) hZ [] (by decide) rfl) rfl rfl hl.1 rfl (lv_room (Nat.le_of_ble_eq_true rfl)) dX8_findRound_184 ⟨Nat.le_of_ble_eq_true rfl, Nat.le_of_ble_eq_true rfl⟩) hS hA hP (fun r_183 H locs hw_183 hP hS => ?_)
              try dsimp only at hw_183
              subst hw_183
              refine lv_iload hx hb dX8_findRound_187 (lv_at hl 1 rfl) ?_
              refine va_iast hx hb hK hP hD hS 5 1 rfl rfl (vp_in_nI (by omega) (by decide)) dX8_findRound_189 (fun H locs hP hD hS => ?_)
              replace hP : va_P D classes [((a 0), .inr (8, (fX8 a (nI tx) fp (nI t0) wd (nI we) nu na (nI rd) ts (nI ru) (nI rw) (nI ca) df db sd))), (aI k (a 1) 3 (nF dn)), (aI k (a 4) 27 (sg se tm gs)), (aI k (a 2) 72 ffrees), (aI k (a 3) 72 fprices), (aI k (a 18) 768 (upd fo_161 (Int32.toNatClampNeg (nI (192 * rn + 8 * q_158 + g_161))) x_181)), (aI k (a 19) 768 fw_161), (aI k (a 20) 5 fstarts), (aI k (a 21) 4 f_157), (aZ k (a 22) 4 f_155), (aI k (a 23) 8 fbegin)] H := hP
              replace hD : va_D A [((a 0), .inr (8, (fX8 a (nI tx) fp (nI t0) wd (nI we) nu na (nI rd) ts (nI ru) (nI rw) (nI ca) df db sd))), (aI k (a 1) 3 (nF dn)), (aI k (a 4) 27 (sg se tm gs)), (aI k (a 2) 72 ffrees), (aI k (a 3) 72 fprices), (aI k (a 18) 768 (upd fo_161 (Int32.toNatClampNeg (nI (192 * rn + 8 * q_158 + g_161))) x_181)), (aI k (a 19) 768 fw_161), (aI k (a 20) 5 fstarts), (aI k (a 21) 4 f_157), (aZ k (a 22) 4 f_155), (aI k (a 23) 8 fbegin)] := hD
              generalize (upd fo_161 (Int32.toNatClampNeg (nI (192 * rn + 8 * q_158 + g_161))) x_181) = f_184 at hP hD
              refine lv_aload_n hx hb dX8_findRound_190 rfl (lv_at hl 7 rfl) ?_
              refine va_get (D := D) (ci := 8) (v := .ref (a 19)) (C := RX8) (T := TX8) (N := 44) hx hb hts inX8 hown hK hP 0 rfl rfl 18 (by decide) (hts _ tw_991) (fun _ h9 => h9) rfl dX8_findRound_191 ?_
              refine lv_iload_n hx hb dX8_findRound_194 rfl (lv_at hl 9 rfl) ?_
              refine lv_iload hx hb dX8_findRound_195 (lv_at hl 3 rfl) ?_
              refine lv_iload hx hb dX8_findRound_197 (lv_at hl 2 rfl) ?_
              refine ro_i (D := D) (va_runS (As := [.int (nI rn), .int (nI q_158), .int (nI g_161)]) (rest := [.ref (a 19)]) ⟨hx, hb, hml, hown, hts⟩ ((m_at l D k st lo rn q_158 g_161) H.size) (va_cwS 3 hts (gS tw_1266 tw_1267 tw_87 tw_1268) rfl rfl rfl (by decide +kernel) ⟨Nat.le_of_ble_eq_true rfl, Nat.le_of_ble_eq_true rfl⟩) (pS hS hAlo hlo hP hK (va_Dlo hD hAlo) hZ [] (by decide) rfl) rfl rfl hl.1 rfl (lv_room (Nat.le_of_ble_eq_true rfl)) dX8_findRound_199 ⟨Nat.le_of_ble_eq_true rfl, Nat.le_of_ble_eq_true rfl⟩) hS hA hP (fun r_185 H locs hw_185 hP hS => ?_)
              try dsimp only at hw_185
              subst hw_185
              refine lv_iload hx hb dX8_findRound_202 (lv_at hl 2 rfl) ?_
              refine lv_iconst (v := 1) hx hb dX8_findRound_204 (by decide) ?_
              refine lv_iand hx hb dX8_findRound_205 ?_
              refine lv_topi (fun x_186 ex_186 => ?_)
              refine lv_iconst (v := 1) hx hb dX8_findRound_206 (by decide) ?_
              refine lv_icmp_ne (tgt := 222) hx hb dX8_findRound_207 (by decide) (fun c_187 => ?_) (fun c_187 => ?_)
              · refine lv_iload hx hb dX8_findRound_222 (lv_at hl 1 rfl) ?_
                refine va_iast hx hb hK hP hD hS 6 1 rfl rfl (vp_in_nI (by omega) (by decide)) dX8_findRound_224 (fun H locs hP hD hS => ?_)
                replace hP : va_P D classes [((a 0), .inr (8, (fX8 a (nI tx) fp (nI t0) wd (nI we) nu na (nI rd) ts (nI ru) (nI rw) (nI ca) df db sd))), (aI k (a 1) 3 (nF dn)), (aI k (a 4) 27 (sg se tm gs)), (aI k (a 2) 72 ffrees), (aI k (a 3) 72 fprices), (aI k (a 18) 768 f_184), (aI k (a 19) 768 (upd fw_161 (Int32.toNatClampNeg (nI (192 * rn + 8 * q_158 + g_161))) x_181)), (aI k (a 20) 5 fstarts), (aI k (a 21) 4 f_157), (aZ k (a 22) 4 f_155), (aI k (a 23) 8 fbegin)] H := hP
                replace hD : va_D A [((a 0), .inr (8, (fX8 a (nI tx) fp (nI t0) wd (nI we) nu na (nI rd) ts (nI ru) (nI rw) (nI ca) df db sd))), (aI k (a 1) 3 (nF dn)), (aI k (a 4) 27 (sg se tm gs)), (aI k (a 2) 72 ffrees), (aI k (a 3) 72 fprices), (aI k (a 18) 768 f_184), (aI k (a 19) 768 (upd fw_161 (Int32.toNatClampNeg (nI (192 * rn + 8 * q_158 + g_161))) x_181)), (aI k (a 20) 5 fstarts), (aI k (a 21) 4 f_157), (aZ k (a 22) 4 f_155), (aI k (a 23) 8 fbegin)] := hD
                generalize (upd fw_161 (Int32.toNatClampNeg (nI (192 * rn + 8 * q_158 + g_161))) x_181) = f_188 at hP hD
                refine lv_iinc (v := (nI (g_161 + 1))) (lv' := [(7, .int (nI (g_161 + 1))), (9, .int r_182), (8, .int x_181), (6, .int (nI q_158)), (5, .int x_153), (4, .int r_1), (3, .int (nI (dn sn))), (0, .ref (a 0)), (1, .int (nI sn)), (2, .int (nI rn))]) hx hb dX8_findRound_225 hl (k := 2) rfl (nI_add g_161 1) (by decide) rfl (fun ls hl => ?_)
                refine lv_goto (tgt := 111) hx hb dX8_findRound_228 (by decide) ?_
                exact ih_161 _ (g_161 + 1, f_184, f_188) _ _ _ (by omega) ⟨rfl, (by omega), hP, hD, hS, (lv_sub hl [0, 3, 4, 5, 6, 7, 8, 9] rfl)⟩
              · refine lv_iload hx hb dX8_findRound_210 (lv_at hl 0 rfl) ?_
                refine lv_iload hx hb dX8_findRound_212 (lv_at hl 1 rfl) ?_
                refine lv_icmp_gt (tgt := 222) hx hb dX8_findRound_214 (by decide) (fun c_189 => ?_) (fun c_189 => ?_)
                · refine lv_iload hx hb dX8_findRound_222 (lv_at hl 1 rfl) ?_
                  refine va_iast hx hb hK hP hD hS 6 1 rfl rfl (vp_in_nI (by omega) (by decide)) dX8_findRound_224 (fun H locs hP hD hS => ?_)
                  replace hP : va_P D classes [((a 0), .inr (8, (fX8 a (nI tx) fp (nI t0) wd (nI we) nu na (nI rd) ts (nI ru) (nI rw) (nI ca) df db sd))), (aI k (a 1) 3 (nF dn)), (aI k (a 4) 27 (sg se tm gs)), (aI k (a 2) 72 ffrees), (aI k (a 3) 72 fprices), (aI k (a 18) 768 f_184), (aI k (a 19) 768 (upd fw_161 (Int32.toNatClampNeg (nI (192 * rn + 8 * q_158 + g_161))) x_181)), (aI k (a 20) 5 fstarts), (aI k (a 21) 4 f_157), (aZ k (a 22) 4 f_155), (aI k (a 23) 8 fbegin)] H := hP
                  replace hD : va_D A [((a 0), .inr (8, (fX8 a (nI tx) fp (nI t0) wd (nI we) nu na (nI rd) ts (nI ru) (nI rw) (nI ca) df db sd))), (aI k (a 1) 3 (nF dn)), (aI k (a 4) 27 (sg se tm gs)), (aI k (a 2) 72 ffrees), (aI k (a 3) 72 fprices), (aI k (a 18) 768 f_184), (aI k (a 19) 768 (upd fw_161 (Int32.toNatClampNeg (nI (192 * rn + 8 * q_158 + g_161))) x_181)), (aI k (a 20) 5 fstarts), (aI k (a 21) 4 f_157), (aZ k (a 22) 4 f_155), (aI k (a 23) 8 fbegin)] := hD
                  generalize (upd fw_161 (Int32.toNatClampNeg (nI (192 * rn + 8 * q_158 + g_161))) x_181) = f_190 at hP hD
                  refine lv_iinc (v := (nI (g_161 + 1))) (lv' := [(7, .int (nI (g_161 + 1))), (9, .int r_182), (8, .int x_181), (6, .int (nI q_158)), (5, .int x_153), (4, .int r_1), (3, .int (nI (dn sn))), (0, .ref (a 0)), (1, .int (nI sn)), (2, .int (nI rn))]) hx hb dX8_findRound_225 hl (k := 2) rfl (nI_add g_161 1) (by decide) rfl (fun ls hl => ?_)
                  refine lv_goto (tgt := 111) hx hb dX8_findRound_228 (by decide) ?_
                  exact ih_161 _ (g_161 + 1, f_184, f_190) _ _ _ (by omega) ⟨rfl, (by omega), hP, hD, hS, (lv_sub hl [0, 3, 4, 5, 6, 7, 8, 9] rfl)⟩
                · refine lv_iload hx hb dX8_findRound_217 (lv_at hl 0 rfl) ?_
                  refine lv_goto (tgt := 224) hx hb dX8_findRound_219 (by decide) ?_
                  refine va_iast hx hb hK hP hD hS 6 1 rfl rfl (vp_in_nI (by omega) (by decide)) dX8_findRound_224 (fun H locs hP hD hS => ?_)
                  replace hP : va_P D classes [((a 0), .inr (8, (fX8 a (nI tx) fp (nI t0) wd (nI we) nu na (nI rd) ts (nI ru) (nI rw) (nI ca) df db sd))), (aI k (a 1) 3 (nF dn)), (aI k (a 4) 27 (sg se tm gs)), (aI k (a 2) 72 ffrees), (aI k (a 3) 72 fprices), (aI k (a 18) 768 f_184), (aI k (a 19) 768 (upd fw_161 (Int32.toNatClampNeg (nI (192 * rn + 8 * q_158 + g_161))) r_182)), (aI k (a 20) 5 fstarts), (aI k (a 21) 4 f_157), (aZ k (a 22) 4 f_155), (aI k (a 23) 8 fbegin)] H := hP
                  replace hD : va_D A [((a 0), .inr (8, (fX8 a (nI tx) fp (nI t0) wd (nI we) nu na (nI rd) ts (nI ru) (nI rw) (nI ca) df db sd))), (aI k (a 1) 3 (nF dn)), (aI k (a 4) 27 (sg se tm gs)), (aI k (a 2) 72 ffrees), (aI k (a 3) 72 fprices), (aI k (a 18) 768 f_184), (aI k (a 19) 768 (upd fw_161 (Int32.toNatClampNeg (nI (192 * rn + 8 * q_158 + g_161))) r_182)), (aI k (a 20) 5 fstarts), (aI k (a 21) 4 f_157), (aZ k (a 22) 4 f_155), (aI k (a 23) 8 fbegin)] := hD
                  generalize (upd fw_161 (Int32.toNatClampNeg (nI (192 * rn + 8 * q_158 + g_161))) r_182) = f_191 at hP hD
                  refine lv_iinc (v := (nI (g_161 + 1))) (lv' := [(7, .int (nI (g_161 + 1))), (9, .int r_182), (8, .int x_181), (6, .int (nI q_158)), (5, .int x_153), (4, .int r_1), (3, .int (nI (dn sn))), (0, .ref (a 0)), (1, .int (nI sn)), (2, .int (nI rn))]) hx hb dX8_findRound_225 hl (k := 2) rfl (nI_add g_161 1) (by decide) rfl (fun ls hl => ?_)
                  refine lv_goto (tgt := 111) hx hb dX8_findRound_228 (by decide) ?_
                  exact ih_161 _ (g_161 + 1, f_184, f_191) _ _ _ (by omega) ⟨rfl, (by omega), hP, hD, hS, (lv_sub hl [0, 3, 4, 5, 6, 7, 8, 9] rfl)⟩
      · refine lv_iload hx hb dX8_findRound_90 (lv_at hl 0 rfl) ?_
        refine lv_goto (tgt := 97) hx hb dX8_findRound_92 (by decide) ?_
        refine va_iast hx hb hK hP hD hS 8 1 rfl rfl (vp_in_nI (by omega) (by decide)) dX8_findRound_97 (fun H locs hP hD hS => ?_)
        replace hP : va_P D classes [((a 0), .inr (8, (fX8 a (nI tx) fp (nI t0) wd (nI we) nu na (nI rd) ts (nI ru) (nI rw) (nI ca) df db sd))), (aI k (a 1) 3 (nF dn)), (aI k (a 4) 27 (sg se tm gs)), (aI k (a 2) 72 ffrees), (aI k (a 3) 72 fprices), (aI k (a 18) 768 fons), (aI k (a 19) 768 fworths), (aI k (a 20) 5 fstarts), (aI k (a 21) 4 (upd fends (Int32.toNatClampNeg (nI rn)) x_153)), (aZ k (a 22) 4 f_155), (aI k (a 23) 8 fbegin)] H := hP
        replace hD : va_D A [((a 0), .inr (8, (fX8 a (nI tx) fp (nI t0) wd (nI we) nu na (nI rd) ts (nI ru) (nI rw) (nI ca) df db sd))), (aI k (a 1) 3 (nF dn)), (aI k (a 4) 27 (sg se tm gs)), (aI k (a 2) 72 ffrees), (aI k (a 3) 72 fprices), (aI k (a 18) 768 fons), (aI k (a 19) 768 fworths), (aI k (a 20) 5 fstarts), (aI k (a 21) 4 (upd fends (Int32.toNatClampNeg (nI rn)) x_153)), (aZ k (a 22) 4 f_155), (aI k (a 23) 8 fbegin)] := hD
        generalize (upd fends (Int32.toNatClampNeg (nI rn)) x_153) = f_192 at hP hD
        refine lv_iload_n hx hb dX8_findRound_98 rfl (lv_at hl 2 rfl) ?_
        refine lv_iconst (v := 1) hx hb dX8_findRound_99 (by decide) ?_
        refine lv_isub hx hb dX8_findRound_100 ?_
        refine lv_ti (y := (nI (dn sn) - 1)) rfl ?_
        refine lv_istore (lv' := [(6, .int (nI (dn sn) - 1)), (5, .int x_153), (4, .int r_1), (3, .int (nI (dn sn))), (0, .ref (a 0)), (1, .int (nI sn)), (2, .int (nI rn))]) hx hb dX8_findRound_101 hl (by decide) rfl (fun ls hl => ?_)
        refine W_loop (σ := Nat × (Nat → Int32) × (Nat → Int32)) (fun (n_ : Nat) (x_ : Nat × (Nat → Int32) × (Nat → Int32)) (H : Heap) (locs : List Loc) (ls : Array Slot) => match x_ with | (q_193, fo_193, fw_193) => n_ = 2 * q_193 ∧ (q_193 ≤ dn sn) ∧ va_P D classes [((a 0), .inr (8, (fX8 a (nI tx) fp (nI t0) wd (nI we) nu na (nI rd) ts (nI ru) (nI rw) (nI ca) df db sd))), (aI k (a 1) 3 (nF dn)), (aI k (a 4) 27 (sg se tm gs)), (aI k (a 2) 72 ffrees), (aI k (a 3) 72 fprices), (aI k (a 18) 768 fo_193), (aI k (a 19) 768 fw_193), (aI k (a 20) 5 fstarts), (aI k (a 21) 4 f_192), (aZ k (a 22) 4 f_155), (aI k (a 23) 8 fbegin)] H ∧ va_D A [((a 0), .inr (8, (fX8 a (nI tx) fp (nI t0) wd (nI we) nu na (nI rd) ts (nI ru) (nI rw) (nI ca) df db sd))), (aI k (a 1) 3 (nF dn)), (aI k (a 4) 27 (sg se tm gs)), (aI k (a 2) 72 ffrees), (aI k (a 3) 72 fprices), (aI k (a 18) 768 fo_193), (aI k (a 19) 768 fw_193), (aI k (a 20) 5 fstarts), (aI k (a 21) 4 f_192), (aZ k (a 22) 4 f_155), (aI k (a 23) 8 fbegin)] ∧ va_S A s.heap H locs ∧ lv_has ls 10 [(6, .int (nI q_193 - 1)), (5, .int x_153), (4, .int r_1), (3, .int (nI (dn sn))), (0, .ref (a 0)), (1, .int (nI sn)), (2, .int (nI rn))]) (fun n_193 x_193 H locs ls hI ih_193 => ?_) _ (dn sn, fons, fworths) ⟨rfl, (by omega), hP, hD, hS, (lv_sub hl [0, 1, 2, 3, 4, 5, 6] rfl)⟩
        obtain ⟨q_193, fo_193, fw_193⟩ := x_193
        obtain ⟨hm_193, hv_193, hP, hD, hS, hl⟩ := hI
        subst hm_193
        rcases q_193 with _ | q_193
        · rw [dn0] at hl
          refine lv_iload hx hb dX8_findRound_103 (lv_at hl 0 rfl) ?_
          refine lv_if_lt (tgt := 237) hx hb dX8_findRound_105 (by decide) (fun _ => ?_) (fun h => absurd (by decide) h)
          refine lv_aload_n hx hb dX8_findRound_237 rfl (lv_at hl 4 rfl) ?_
          refine va_get (D := D) (ci := 8) (v := .ref (a 20)) (C := RX8) (T := TX8) (N := 44) hx hb hts inX8 hown hK hP 0 rfl rfl 19 (by decide) (hts _ tw_992) (fun _ h9 => h9) rfl dX8_findRound_238 ?_
          refine lv_iload_n hx hb dX8_findRound_241 rfl (lv_at hl 6 rfl) ?_
          refine lv_aload_n hx hb dX8_findRound_242 rfl (lv_at hl 4 rfl) ?_
          refine lv_iload_n hx hb dX8_findRound_243 rfl (lv_at hl 5 rfl) ?_
          refine lv_iload_n hx hb dX8_findRound_244 rfl (lv_at hl 6 rfl) ?_
          refine rw_i (D := D) (wr := [(aI k (a 3) 72 fprices), (aI k (a 18) 768 fo_193), (aI k (a 20) 5 fstarts), (aI k (a 21) 4 f_192), (aZ k (a 22) 4 f_155)]) (va_runV (As := [.int (nI sn), .int (nI rn)]) (rest := [.int (nI rn), .ref (a 20)]) ⟨hx, hb, hml, hown, hts⟩ ((m_startOf l D k st lo a tx t0 we rd ru rw ca fp wd nu na ts df db sd dn se tm gs ffrees fw_193 fbegin sn rn hdn hse (by omega) (by omega) (by omega)) H.size) (cwV 2 hts (gV tw_1273 tw_1275 tw_53 tw_87 tw_1276) rfl rfl rfl (by decide +kernel) ⟨Nat.le_of_ble_eq_true rfl, Nat.le_of_ble_eq_true rfl⟩) (pV hS hAlo hlo hP hK (va_Dlo hD hAlo) hZ [0, 1, 2, 3, 6, 10] (by decide) rfl (ci := 8) (q := (RX8, TX8, 44)) (q0 := 0) rfl rfl) rfl rfl hl.1 rfl (lv_room (Nat.le_of_ble_eq_true rfl)) dX8_findRound_245 ⟨Nat.le_of_ble_eq_true rfl, Nat.le_of_ble_eq_true rfl⟩) hS hA hP hD [0, 1, 2, 3, 6, 10] [4, 5, 7, 8, 9] rfl rfl (by decide +kernel) (by decide +kernel) (fun r_194 u H locs hw_194 hP hD hS => ?_)
          obtain ⟨fbegin__194, rfl⟩ : ∃ z, z = u := ⟨_, rfl⟩
          replace hP : va_P D classes [(aI k (a 3) 72 fprices), (aI k (a 18) 768 fo_193), (aI k (a 20) 5 fstarts), (aI k (a 21) 4 f_192), (aZ k (a 22) 4 f_155), ((a 0), .inr (8, (fX8 a (nI tx) fp (nI t0) wd (nI we) nu na (nI rd) ts (nI ru) (nI rw) (nI ca) df db sd))), (aI k (a 1) 3 (nF dn)), (aI k (a 4) 27 (sg se tm gs)), (aI k (a 2) 72 ffrees), (aI k (a 19) 768 fw_193), (aI k (a 23) 8 fbegin__194)] H := hP
          replace hD : va_D A [(aI k (a 3) 72 fprices), (aI k (a 18) 768 fo_193), (aI k (a 20) 5 fstarts), (aI k (a 21) 4 f_192), (aZ k (a 22) 4 f_155), ((a 0), .inr (8, (fX8 a (nI tx) fp (nI t0) wd (nI we) nu na (nI rd) ts (nI ru) (nI rw) (nI ca) df db sd))), (aI k (a 1) 3 (nF dn)), (aI k (a 4) 27 (sg se tm gs)), (aI k (a 2) 72 ffrees), (aI k (a 19) 768 fw_193), (aI k (a 23) 8 fbegin__194)] := hD
          try dsimp only at hw_194
          refine va_iast hx hb hK hP hD hS 2 1 rfl rfl (vp_in_nI (by omega) (by decide)) dX8_findRound_248 (fun H locs hP hD hS => ?_)
          replace hP : va_P D classes [(aI k (a 3) 72 fprices), (aI k (a 18) 768 fo_193), (aI k (a 20) 5 (upd fstarts (Int32.toNatClampNeg (nI rn)) r_194)), (aI k (a 21) 4 f_192), (aZ k (a 22) 4 f_155), ((a 0), .inr (8, (fX8 a (nI tx) fp (nI t0) wd (nI we) nu na (nI rd) ts (nI ru) (nI rw) (nI ca) df db sd))), (aI k (a 1) 3 (nF dn)), (aI k (a 4) 27 (sg se tm gs)), (aI k (a 2) 72 ffrees), (aI k (a 19) 768 fw_193), (aI k (a 23) 8 fbegin__194)] H := hP
          replace hD : va_D A [(aI k (a 3) 72 fprices), (aI k (a 18) 768 fo_193), (aI k (a 20) 5 (upd fstarts (Int32.toNatClampNeg (nI rn)) r_194)), (aI k (a 21) 4 f_192), (aZ k (a 22) 4 f_155), ((a 0), .inr (8, (fX8 a (nI tx) fp (nI t0) wd (nI we) nu na (nI rd) ts (nI ru) (nI rw) (nI ca) df db sd))), (aI k (a 1) 3 (nF dn)), (aI k (a 4) 27 (sg se tm gs)), (aI k (a 2) 72 ffrees), (aI k (a 19) 768 fw_193), (aI k (a 23) 8 fbegin__194)] := hD
          generalize (upd fstarts (Int32.toNatClampNeg (nI rn)) r_194) = f_195 at hP hD
          have hP9 := hP.sub (ws' := [((a 0), .inr (8, (fX8 a (nI tx) fp (nI t0) wd (nI we) nu na (nI rd) ts (nI ru) (nI rw) (nI ca) df db sd))), (aI k (a 1) 3 (nF dn)), (aI k (a 4) 27 (sg se tm gs)), (aI k (a 2) 72 ffrees), (aI k (a 3) 72 fprices), (aI k (a 18) 768 fo_193), (aI k (a 19) 768 fw_193), (aI k (a 20) 5 f_195), (aI k (a 21) 4 f_192), (aZ k (a 22) 4 f_155), (aI k (a 23) 8 fbegin__194)]) [5, 6, 7, 8, 0, 1, 9, 2, 3, 4, 10] rfl
          have hD9 := hD.sub (ws' := [((a 0), .inr (8, (fX8 a (nI tx) fp (nI t0) wd (nI we) nu na (nI rd) ts (nI ru) (nI rw) (nI ca) df db sd))), (aI k (a 1) 3 (nF dn)), (aI k (a 4) 27 (sg se tm gs)), (aI k (a 2) 72 ffrees), (aI k (a 3) 72 fprices), (aI k (a 18) 768 fo_193), (aI k (a 19) 768 fw_193), (aI k (a 20) 5 f_195), (aI k (a 21) 4 f_192), (aZ k (a 22) 4 f_155), (aI k (a 23) 8 fbegin__194)]) [5, 6, 7, 8, 0, 1, 9, 2, 3, 4, 10] (by decide +kernel) rfl
          exact W.vret hx hb hr (fun t ht hW => ⟨⟨(fo_193, fw_193, f_195, f_192, f_155, fbegin__194), rfl, trivial, by rw [ht]; exact hP9, hD9⟩, hS.F ht⟩) hS.2.2 dX8_findRound_249
        · rw [nI_pred] at hl
          refine lv_iload hx hb dX8_findRound_103 (lv_at hl 0 rfl) ?_
          refine lv_if_lt (tgt := 237) hx hb dX8_findRound_105 (by decide) (fun h => absurd h (nI_pos0 (by omega))) (fun _ => ?_)
          refine lv_iconst (v := 0) hx hb dX8_findRound_108 (by decide) ?_
          refine lv_istore (lv' := [(7, .int 0), (6, .int (nI q_193)), (5, .int x_153), (4, .int r_1), (3, .int (nI (dn sn))), (0, .ref (a 0)), (1, .int (nI sn)), (2, .int (nI rn))]) hx hb dX8_findRound_109 hl (by decide) rfl (fun ls hl => ?_)
          refine W_loop (σ := Nat × (Nat → Int32) × (Nat → Int32)) (fun (n_ : Nat) (x_ : Nat × (Nat → Int32) × (Nat → Int32)) (H : Heap) (locs : List Loc) (ls : Array Slot) => match x_ with | (g_196, fo_196, fw_196) => n_ = 8 - g_196 ∧ (g_196 ≤ 8) ∧ va_P D classes [((a 0), .inr (8, (fX8 a (nI tx) fp (nI t0) wd (nI we) nu na (nI rd) ts (nI ru) (nI rw) (nI ca) df db sd))), (aI k (a 1) 3 (nF dn)), (aI k (a 4) 27 (sg se tm gs)), (aI k (a 2) 72 ffrees), (aI k (a 3) 72 fprices), (aI k (a 18) 768 fo_196), (aI k (a 19) 768 fw_196), (aI k (a 20) 5 fstarts), (aI k (a 21) 4 f_192), (aZ k (a 22) 4 f_155), (aI k (a 23) 8 fbegin)] H ∧ va_D A [((a 0), .inr (8, (fX8 a (nI tx) fp (nI t0) wd (nI we) nu na (nI rd) ts (nI ru) (nI rw) (nI ca) df db sd))), (aI k (a 1) 3 (nF dn)), (aI k (a 4) 27 (sg se tm gs)), (aI k (a 2) 72 ffrees), (aI k (a 3) 72 fprices), (aI k (a 18) 768 fo_196), (aI k (a 19) 768 fw_196), (aI k (a 20) 5 fstarts), (aI k (a 21) 4 f_192), (aZ k (a 22) 4 f_155), (aI k (a 23) 8 fbegin)] ∧ va_S A s.heap H locs ∧ lv_has ls 10 [(7, .int (nI g_196)), (6, .int (nI q_193)), (5, .int x_153), (4, .int r_1), (3, .int (nI (dn sn))), (0, .ref (a 0)), (1, .int (nI sn)), (2, .int (nI rn))]) (fun n_196 x_196 H locs ls hI ih_196 => ?_) _ (0, fo_193, fw_193) ⟨rfl, (by omega), hP, hD, hS, (lv_sub hl [0, 1, 2, 3, 4, 5, 6, 7] rfl)⟩
          obtain ⟨g_196, fo_196, fw_196⟩ := x_196
          obtain ⟨hm_196, hv_196, hP, hD, hS, hl⟩ := hI
          subst hm_196
          refine lv_iload hx hb dX8_findRound_111 (lv_at hl 0 rfl) ?_
          refine lv_iconst (v := 1) hx hb dX8_findRound_113 (by decide) ?_
          refine lv_aload_n hx hb dX8_findRound_114 rfl (lv_at hl 5 rfl) ?_
          refine lv_iload_n hx hb dX8_findRound_115 rfl (lv_at hl 6 rfl) ?_
          refine lv_iload hx hb dX8_findRound_116 (lv_at hl 1 rfl) ?_
          refine ro_i (D := D) (va_runV (As := [.int (nI sn), .int (nI q_193)]) (rest := [.int 1, .int (nI g_196)]) ⟨hx, hb, hml, hown, hts⟩ ((m_seen l D k st lo a tx t0 we rd ru rw ca fp wd nu na ts df db sd dn se tm gs sn q_193 hdn hse (by omega) (by omega)) H.size) (cwV 2 hts (gV tw_1246 tw_1248 tw_48 tw_87 tw_1249) rfl rfl rfl (by decide +kernel) ⟨Nat.le_of_ble_eq_true rfl, Nat.le_of_ble_eq_true rfl⟩) (pV hS hAlo hlo hP hK (va_Dlo hD hAlo) hZ [0, 1, 2] (by decide) rfl (ci := 8) (q := (RX8, TX8, 44)) (q0 := 0) rfl rfl) rfl rfl hl.1 rfl (lv_room (Nat.le_of_ble_eq_true rfl)) dX8_findRound_118 ⟨Nat.le_of_ble_eq_true rfl, Nat.le_of_ble_eq_true rfl⟩) hS hA hP (fun r_197 H locs hw_197 hP hS => ?_)
          try dsimp only at hw_197
          obtain ⟨sv_198, esv_198⟩ : ∃ z : Nat, z = (if dn sn - q_193 < se sn + 1 then dn sn - q_193 else se sn + 1) := ⟨_, rfl⟩
          rw [← esv_198] at hw_197
          subst hw_197
          have hsv_198 : sv_198 ≤ 3 ∧ sv_198 ≤ dn sn - q_193 ∧ (0 < dn sn - q_193 → 1 ≤ sv_198) := by
            have hse9 := hse sn
            split at esv_198 <;> omega
          obtain ⟨pw_199, epw_199⟩ : ∃ z : Nat, z = 2 ^ sv_198 := ⟨_, rfl⟩
          have hpw_199 : 1 ≤ pw_199 ∧ pw_199 ≤ 8 := by rw [epw_199]; exact pw8 (by omega)
          refine lv_ishl hx hb dX8_findRound_121 ?_
          refine lv_ti (y := (nI pw_199)) (by rw [epw_199]; exact shl1 sv_198 (by omega)) ?_
          refine lv_icmp_ge (tgt := 231) hx hb dX8_findRound_122 (by decide) (fun c_200 => ?_) (fun c_200 => ?_)
          · have c_200 := (nI_leI (a := pw_199) (b := g_196) (by omega) (by omega)).mp c_200
            refine lv_iinc (v := (nI q_193 - 1)) (lv' := [(6, .int (nI q_193 - 1)), (7, .int (nI g_196)), (5, .int x_153), (4, .int r_1), (3, .int (nI (dn sn))), (0, .ref (a 0)), (1, .int (nI sn)), (2, .int (nI rn))]) hx hb dX8_findRound_231 hl (k := 1) rfl (dn1 _) (by decide) rfl (fun ls hl => ?_)
            refine lv_goto (tgt := 103) hx hb dX8_findRound_234 (by decide) ?_
            exact ih_193 _ (q_193, fo_196, fw_196) _ _ _ (by omega) ⟨rfl, (by omega), hP, hD, hS, (lv_sub hl [0, 2, 3, 4, 5, 6, 7] rfl)⟩
          · have c_200 : ¬ (pw_199 ≤ g_196) := fun h => c_200 ((nI_leI (a := pw_199) (b := g_196) (by omega) (by omega)).mpr h)
            refine lv_aload_n hx hb dX8_findRound_125 rfl (lv_at hl 5 rfl) ?_
            refine lv_iload_n hx hb dX8_findRound_126 rfl (lv_at hl 6 rfl) ?_
            refine lv_iconst (v := 2) hx hb dX8_findRound_127 (by decide) ?_
            refine ro_i (D := D) (va_runV (As := [.int (nI sn), .int 2]) (rest := []) ⟨hx, hb, hml, hown, hts⟩ ((m_of l D k st lo a tx t0 we rd ru rw ca fp wd nu na ts df db sd se tm gs sn 2 (by omega) (by omega)) H.size) (cwV 2 hts (gV tw_1194 tw_1196 tw_39 tw_87 tw_1197) rfl rfl rfl (by decide +kernel) ⟨Nat.le_of_ble_eq_true rfl, Nat.le_of_ble_eq_true rfl⟩) (pV hS hAlo hlo hP hK (va_Dlo hD hAlo) hZ [0, 2] (by decide) rfl (ci := 8) (q := (RX8, TX8, 44)) (q0 := 0) rfl rfl) rfl rfl hl.1 rfl (lv_room (Nat.le_of_ble_eq_true rfl)) dX8_findRound_128 ⟨Nat.le_of_ble_eq_true rfl, Nat.le_of_ble_eq_true rfl⟩) hS hA hP (fun r_201 H locs hw_201 hP hS => ?_)
            try dsimp only at hw_201
            refine lv_sipush (v := 1000) hx hb dX8_findRound_131 (by decide) ?_
            refine lv_imul hx hb dX8_findRound_134 ?_
            refine lv_topi (fun x_202 ex_202 => ?_)
            refine lv_iload hx hb dX8_findRound_135 (lv_at hl 1 rfl) ?_
            refine lv_iload_n hx hb dX8_findRound_137 rfl (lv_at hl 4 rfl) ?_
            refine lv_iconst (v := 1) hx hb dX8_findRound_138 (by decide) ?_
            refine lv_isub hx hb dX8_findRound_139 ?_
            refine lv_ti (y := (nI ((dn sn) - 1))) (pk_sub (a := (dn sn)) (b := 1) (by omega)) ?_
            refine lv_icmp_ne (tgt := 152) hx hb dX8_findRound_140 (by decide) (fun c_203 => ?_) (fun c_203 => ?_)
            · have c_203 : ¬ (q_193 = ((dn sn) - 1)) := fun h => c_203 ((nI_eq (a := q_193) (b := ((dn sn) - 1)) (by omega) (by omega)).mpr h)
              refine lv_aload_n hx hb dX8_findRound_152 rfl (lv_at hl 5 rfl) ?_
              refine lv_iload_n hx hb dX8_findRound_153 rfl (lv_at hl 6 rfl) ?_
              refine lv_iload_n hx hb dX8_findRound_154 rfl (lv_at hl 7 rfl) ?_
              refine lv_iload hx hb dX8_findRound_155 (lv_at hl 1 rfl) ?_
              refine lv_iload hx hb dX8_findRound_157 (lv_at hl 0 rfl) ?_
              refine ro_i (D := D) (va_runV (As := [.int (nI sn), .int (nI rn), .int (nI q_193), .int (nI g_196)]) (rest := [.int x_202]) ⟨hx, hb, hml, hown, hts⟩ ((m_on l D k st lo a tx t0 we rd ru rw ca fp wd nu na ts df db sd dn se tm gs ffrees fw_196 sn rn q_193 g_196 hdn hse (by omega) (by omega) (by omega) (by omega)) H.size) (cwV 4 hts (gV tw_1262 tw_1264 tw_52 tw_87 tw_1265) rfl rfl rfl (by decide +kernel) ⟨Nat.le_of_ble_eq_true rfl, Nat.le_of_ble_eq_true rfl⟩) (pV hS hAlo hlo hP hK (va_Dlo hD hAlo) hZ [0, 1, 2, 3, 6] (by decide) rfl (ci := 8) (q := (RX8, TX8, 44)) (q0 := 0) rfl rfl) rfl rfl hl.1 rfl (lv_room (Nat.le_of_ble_eq_true rfl)) dX8_findRound_159 ⟨Nat.le_of_ble_eq_true rfl, Nat.le_of_ble_eq_true rfl⟩) hS hA hP (fun r_204 H locs hw_204 hP hS => ?_)
              try dsimp only at hw_204
              refine lv_iadd hx hb dX8_findRound_162 ?_
              refine lv_topi (fun x_205 ex_205 => ?_)
              refine lv_istore (lv' := [(8, .int x_205), (7, .int (nI g_196)), (6, .int (nI q_193)), (5, .int x_153), (4, .int r_1), (3, .int (nI (dn sn))), (0, .ref (a 0)), (1, .int (nI sn)), (2, .int (nI rn))]) hx hb dX8_findRound_163 hl (by decide) rfl (fun ls hl => ?_)
              refine lv_aload_n hx hb dX8_findRound_165 rfl (lv_at hl 6 rfl) ?_
              refine lv_iload_n hx hb dX8_findRound_166 rfl (lv_at hl 7 rfl) ?_
              refine lv_iload_n hx hb dX8_findRound_167 rfl (lv_at hl 8 rfl) ?_
              refine lv_iload hx hb dX8_findRound_168 (lv_at hl 2 rfl) ?_
              refine ro_i (D := D) (va_runV (As := [.int (nI sn), .int (nI rn), .int (nI q_193)]) (rest := []) ⟨hx, hb, hml, hown, hts⟩ ((m_takingOf l D k st lo a tx t0 we rd ru rw ca fp wd nu na ts df db sd dn se tm gs fprices sn q_193 (nI rn) (by omega) (by omega)) H.size) (cwV 3 hts (gV tw_1222 tw_1224 tw_43 tw_87 tw_1225) rfl rfl rfl (by decide +kernel) ⟨Nat.le_of_ble_eq_true rfl, Nat.le_of_ble_eq_true rfl⟩) (pV hS hAlo hlo hP hK (va_Dlo hD hAlo) hZ [0, 1, 2, 4] (by decide) rfl (ci := 8) (q := (RX8, TX8, 44)) (q0 := 0) rfl rfl) rfl rfl hl.1 rfl (lv_room (Nat.le_of_ble_eq_true rfl)) dX8_findRound_170 ⟨Nat.le_of_ble_eq_true rfl, Nat.le_of_ble_eq_true rfl⟩) hS hA hP (fun r_206 H locs hw_206 hP hS => ?_)
              try dsimp only at hw_206
              refine lv_istore (lv' := [(9, .int r_206), (8, .int x_205), (7, .int (nI g_196)), (6, .int (nI q_193)), (5, .int x_153), (4, .int r_1), (3, .int (nI (dn sn))), (0, .ref (a 0)), (1, .int (nI sn)), (2, .int (nI rn))]) hx hb dX8_findRound_173 hl (by decide) rfl (fun ls hl => ?_)
              refine lv_aload_n hx hb dX8_findRound_175 rfl (lv_at hl 7 rfl) ?_
              refine va_get (D := D) (ci := 8) (v := .ref (a 18)) (C := RX8) (T := TX8) (N := 44) hx hb hts inX8 hown hK hP 0 rfl rfl 17 (by decide) (hts _ tw_990) (fun _ h9 => h9) rfl dX8_findRound_176 ?_
              refine lv_iload_n hx hb dX8_findRound_179 rfl (lv_at hl 9 rfl) ?_
              refine lv_iload hx hb dX8_findRound_180 (lv_at hl 3 rfl) ?_
              refine lv_iload hx hb dX8_findRound_182 (lv_at hl 2 rfl) ?_
              refine ro_i (D := D) (va_runS (As := [.int (nI rn), .int (nI q_193), .int (nI g_196)]) (rest := [.ref (a 18)]) ⟨hx, hb, hml, hown, hts⟩ ((m_at l D k st lo rn q_193 g_196) H.size) (va_cwS 3 hts (gS tw_1266 tw_1267 tw_87 tw_1268) rfl rfl rfl (by decide +kernel) ⟨Nat.le_of_ble_eq_true rfl, Nat.le_of_ble_eq_true rfl⟩) (pS hS hAlo hlo hP hK (va_Dlo hD hAlo) hZ [] (by decide) rfl) rfl rfl hl.1 rfl (lv_room (Nat.le_of_ble_eq_true rfl)) dX8_findRound_184 ⟨Nat.le_of_ble_eq_true rfl, Nat.le_of_ble_eq_true rfl⟩) hS hA hP (fun r_207 H locs hw_207 hP hS => ?_)
              try dsimp only at hw_207
              subst hw_207
              refine lv_iload hx hb dX8_findRound_187 (lv_at hl 1 rfl) ?_
              refine va_iast hx hb hK hP hD hS 5 1 rfl rfl (vp_in_nI (by omega) (by decide)) dX8_findRound_189 (fun H locs hP hD hS => ?_)
              replace hP : va_P D classes [((a 0), .inr (8, (fX8 a (nI tx) fp (nI t0) wd (nI we) nu na (nI rd) ts (nI ru) (nI rw) (nI ca) df db sd))), (aI k (a 1) 3 (nF dn)), (aI k (a 4) 27 (sg se tm gs)), (aI k (a 2) 72 ffrees), (aI k (a 3) 72 fprices), (aI k (a 18) 768 (upd fo_196 (Int32.toNatClampNeg (nI (192 * rn + 8 * q_193 + g_196))) x_205)), (aI k (a 19) 768 fw_196), (aI k (a 20) 5 fstarts), (aI k (a 21) 4 f_192), (aZ k (a 22) 4 f_155), (aI k (a 23) 8 fbegin)] H := hP
              replace hD : va_D A [((a 0), .inr (8, (fX8 a (nI tx) fp (nI t0) wd (nI we) nu na (nI rd) ts (nI ru) (nI rw) (nI ca) df db sd))), (aI k (a 1) 3 (nF dn)), (aI k (a 4) 27 (sg se tm gs)), (aI k (a 2) 72 ffrees), (aI k (a 3) 72 fprices), (aI k (a 18) 768 (upd fo_196 (Int32.toNatClampNeg (nI (192 * rn + 8 * q_193 + g_196))) x_205)), (aI k (a 19) 768 fw_196), (aI k (a 20) 5 fstarts), (aI k (a 21) 4 f_192), (aZ k (a 22) 4 f_155), (aI k (a 23) 8 fbegin)] := hD
              generalize (upd fo_196 (Int32.toNatClampNeg (nI (192 * rn + 8 * q_193 + g_196))) x_205) = f_208 at hP hD
              refine lv_aload_n hx hb dX8_findRound_190 rfl (lv_at hl 7 rfl) ?_
              refine va_get (D := D) (ci := 8) (v := .ref (a 19)) (C := RX8) (T := TX8) (N := 44) hx hb hts inX8 hown hK hP 0 rfl rfl 18 (by decide) (hts _ tw_991) (fun _ h9 => h9) rfl dX8_findRound_191 ?_
              refine lv_iload_n hx hb dX8_findRound_194 rfl (lv_at hl 9 rfl) ?_
              refine lv_iload hx hb dX8_findRound_195 (lv_at hl 3 rfl) ?_
              refine lv_iload hx hb dX8_findRound_197 (lv_at hl 2 rfl) ?_
              refine ro_i (D := D) (va_runS (As := [.int (nI rn), .int (nI q_193), .int (nI g_196)]) (rest := [.ref (a 19)]) ⟨hx, hb, hml, hown, hts⟩ ((m_at l D k st lo rn q_193 g_196) H.size) (va_cwS 3 hts (gS tw_1266 tw_1267 tw_87 tw_1268) rfl rfl rfl (by decide +kernel) ⟨Nat.le_of_ble_eq_true rfl, Nat.le_of_ble_eq_true rfl⟩) (pS hS hAlo hlo hP hK (va_Dlo hD hAlo) hZ [] (by decide) rfl) rfl rfl hl.1 rfl (lv_room (Nat.le_of_ble_eq_true rfl)) dX8_findRound_199 ⟨Nat.le_of_ble_eq_true rfl, Nat.le_of_ble_eq_true rfl⟩) hS hA hP (fun r_209 H locs hw_209 hP hS => ?_)
              try dsimp only at hw_209
              subst hw_209
              refine lv_iload hx hb dX8_findRound_202 (lv_at hl 2 rfl) ?_
              refine lv_iconst (v := 1) hx hb dX8_findRound_204 (by decide) ?_
              refine lv_iand hx hb dX8_findRound_205 ?_
              refine lv_topi (fun x_210 ex_210 => ?_)
              refine lv_iconst (v := 1) hx hb dX8_findRound_206 (by decide) ?_
              refine lv_icmp_ne (tgt := 222) hx hb dX8_findRound_207 (by decide) (fun c_211 => ?_) (fun c_211 => ?_)
              · refine lv_iload hx hb dX8_findRound_222 (lv_at hl 1 rfl) ?_
                refine va_iast hx hb hK hP hD hS 6 1 rfl rfl (vp_in_nI (by omega) (by decide)) dX8_findRound_224 (fun H locs hP hD hS => ?_)
                replace hP : va_P D classes [((a 0), .inr (8, (fX8 a (nI tx) fp (nI t0) wd (nI we) nu na (nI rd) ts (nI ru) (nI rw) (nI ca) df db sd))), (aI k (a 1) 3 (nF dn)), (aI k (a 4) 27 (sg se tm gs)), (aI k (a 2) 72 ffrees), (aI k (a 3) 72 fprices), (aI k (a 18) 768 f_208), (aI k (a 19) 768 (upd fw_196 (Int32.toNatClampNeg (nI (192 * rn + 8 * q_193 + g_196))) x_205)), (aI k (a 20) 5 fstarts), (aI k (a 21) 4 f_192), (aZ k (a 22) 4 f_155), (aI k (a 23) 8 fbegin)] H := hP
                replace hD : va_D A [((a 0), .inr (8, (fX8 a (nI tx) fp (nI t0) wd (nI we) nu na (nI rd) ts (nI ru) (nI rw) (nI ca) df db sd))), (aI k (a 1) 3 (nF dn)), (aI k (a 4) 27 (sg se tm gs)), (aI k (a 2) 72 ffrees), (aI k (a 3) 72 fprices), (aI k (a 18) 768 f_208), (aI k (a 19) 768 (upd fw_196 (Int32.toNatClampNeg (nI (192 * rn + 8 * q_193 + g_196))) x_205)), (aI k (a 20) 5 fstarts), (aI k (a 21) 4 f_192), (aZ k (a 22) 4 f_155), (aI k (a 23) 8 fbegin)] := hD
                generalize (upd fw_196 (Int32.toNatClampNeg (nI (192 * rn + 8 * q_193 + g_196))) x_205) = f_212 at hP hD
                refine lv_iinc (v := (nI (g_196 + 1))) (lv' := [(7, .int (nI (g_196 + 1))), (9, .int r_206), (8, .int x_205), (6, .int (nI q_193)), (5, .int x_153), (4, .int r_1), (3, .int (nI (dn sn))), (0, .ref (a 0)), (1, .int (nI sn)), (2, .int (nI rn))]) hx hb dX8_findRound_225 hl (k := 2) rfl (nI_add g_196 1) (by decide) rfl (fun ls hl => ?_)
                refine lv_goto (tgt := 111) hx hb dX8_findRound_228 (by decide) ?_
                exact ih_196 _ (g_196 + 1, f_208, f_212) _ _ _ (by omega) ⟨rfl, (by omega), hP, hD, hS, (lv_sub hl [0, 3, 4, 5, 6, 7, 8, 9] rfl)⟩
              · refine lv_iload hx hb dX8_findRound_210 (lv_at hl 0 rfl) ?_
                refine lv_iload hx hb dX8_findRound_212 (lv_at hl 1 rfl) ?_
                refine lv_icmp_gt (tgt := 222) hx hb dX8_findRound_214 (by decide) (fun c_213 => ?_) (fun c_213 => ?_)
                · refine lv_iload hx hb dX8_findRound_222 (lv_at hl 1 rfl) ?_
                  refine va_iast hx hb hK hP hD hS 6 1 rfl rfl (vp_in_nI (by omega) (by decide)) dX8_findRound_224 (fun H locs hP hD hS => ?_)
                  replace hP : va_P D classes [((a 0), .inr (8, (fX8 a (nI tx) fp (nI t0) wd (nI we) nu na (nI rd) ts (nI ru) (nI rw) (nI ca) df db sd))), (aI k (a 1) 3 (nF dn)), (aI k (a 4) 27 (sg se tm gs)), (aI k (a 2) 72 ffrees), (aI k (a 3) 72 fprices), (aI k (a 18) 768 f_208), (aI k (a 19) 768 (upd fw_196 (Int32.toNatClampNeg (nI (192 * rn + 8 * q_193 + g_196))) x_205)), (aI k (a 20) 5 fstarts), (aI k (a 21) 4 f_192), (aZ k (a 22) 4 f_155), (aI k (a 23) 8 fbegin)] H := hP
                  replace hD : va_D A [((a 0), .inr (8, (fX8 a (nI tx) fp (nI t0) wd (nI we) nu na (nI rd) ts (nI ru) (nI rw) (nI ca) df db sd))), (aI k (a 1) 3 (nF dn)), (aI k (a 4) 27 (sg se tm gs)), (aI k (a 2) 72 ffrees), (aI k (a 3) 72 fprices), (aI k (a 18) 768 f_208), (aI k (a 19) 768 (upd fw_196 (Int32.toNatClampNeg (nI (192 * rn + 8 * q_193 + g_196))) x_205)), (aI k (a 20) 5 fstarts), (aI k (a 21) 4 f_192), (aZ k (a 22) 4 f_155), (aI k (a 23) 8 fbegin)] := hD
                  generalize (upd fw_196 (Int32.toNatClampNeg (nI (192 * rn + 8 * q_193 + g_196))) x_205) = f_214 at hP hD
                  refine lv_iinc (v := (nI (g_196 + 1))) (lv' := [(7, .int (nI (g_196 + 1))), (9, .int r_206), (8, .int x_205), (6, .int (nI q_193)), (5, .int x_153), (4, .int r_1), (3, .int (nI (dn sn))), (0, .ref (a 0)), (1, .int (nI sn)), (2, .int (nI rn))]) hx hb dX8_findRound_225 hl (k := 2) rfl (nI_add g_196 1) (by decide) rfl (fun ls hl => ?_)
                  refine lv_goto (tgt := 111) hx hb dX8_findRound_228 (by decide) ?_
                  exact ih_196 _ (g_196 + 1, f_208, f_214) _ _ _ (by omega) ⟨rfl, (by omega), hP, hD, hS, (lv_sub hl [0, 3, 4, 5, 6, 7, 8, 9] rfl)⟩
                · refine lv_iload hx hb dX8_findRound_217 (lv_at hl 0 rfl) ?_
                  refine lv_goto (tgt := 224) hx hb dX8_findRound_219 (by decide) ?_
                  refine va_iast hx hb hK hP hD hS 6 1 rfl rfl (vp_in_nI (by omega) (by decide)) dX8_findRound_224 (fun H locs hP hD hS => ?_)
                  replace hP : va_P D classes [((a 0), .inr (8, (fX8 a (nI tx) fp (nI t0) wd (nI we) nu na (nI rd) ts (nI ru) (nI rw) (nI ca) df db sd))), (aI k (a 1) 3 (nF dn)), (aI k (a 4) 27 (sg se tm gs)), (aI k (a 2) 72 ffrees), (aI k (a 3) 72 fprices), (aI k (a 18) 768 f_208), (aI k (a 19) 768 (upd fw_196 (Int32.toNatClampNeg (nI (192 * rn + 8 * q_193 + g_196))) r_206)), (aI k (a 20) 5 fstarts), (aI k (a 21) 4 f_192), (aZ k (a 22) 4 f_155), (aI k (a 23) 8 fbegin)] H := hP
                  replace hD : va_D A [((a 0), .inr (8, (fX8 a (nI tx) fp (nI t0) wd (nI we) nu na (nI rd) ts (nI ru) (nI rw) (nI ca) df db sd))), (aI k (a 1) 3 (nF dn)), (aI k (a 4) 27 (sg se tm gs)), (aI k (a 2) 72 ffrees), (aI k (a 3) 72 fprices), (aI k (a 18) 768 f_208), (aI k (a 19) 768 (upd fw_196 (Int32.toNatClampNeg (nI (192 * rn + 8 * q_193 + g_196))) r_206)), (aI k (a 20) 5 fstarts), (aI k (a 21) 4 f_192), (aZ k (a 22) 4 f_155), (aI k (a 23) 8 fbegin)] := hD
                  generalize (upd fw_196 (Int32.toNatClampNeg (nI (192 * rn + 8 * q_193 + g_196))) r_206) = f_215 at hP hD
                  refine lv_iinc (v := (nI (g_196 + 1))) (lv' := [(7, .int (nI (g_196 + 1))), (9, .int r_206), (8, .int x_205), (6, .int (nI q_193)), (5, .int x_153), (4, .int r_1), (3, .int (nI (dn sn))), (0, .ref (a 0)), (1, .int (nI sn)), (2, .int (nI rn))]) hx hb dX8_findRound_225 hl (k := 2) rfl (nI_add g_196 1) (by decide) rfl (fun ls hl => ?_)
                  refine lv_goto (tgt := 111) hx hb dX8_findRound_228 (by decide) ?_
                  exact ih_196 _ (g_196 + 1, f_208, f_215) _ _ _ (by omega) ⟨rfl, (by omega), hP, hD, hS, (lv_sub hl [0, 3, 4, 5, 6, 7, 8, 9] rfl)⟩
            · have c_203 := (nI_eq (a := q_193) (b := ((dn sn) - 1)) (by omega) (by omega)).mp c_203
              refine lv_aload_n hx hb dX8_findRound_143 rfl (lv_at hl 5 rfl) ?_
              refine va_get (D := D) (ci := 8) (v := .ref (a 21)) (C := RX8) (T := TX8) (N := 44) hx hb hts inX8 hown hK hP 0 rfl rfl 20 (by decide) (hts _ tw_993) (fun _ h9 => h9) rfl dX8_findRound_144 ?_
              refine lv_iload_n hx hb dX8_findRound_147 rfl (lv_at hl 7 rfl) ?_
              refine va_iald hx hb hK hP 8 1 rfl rfl (vp_in_nI (by omega) (by decide)) dX8_findRound_148 ?_
              refine lv_ti (y := (f_192 rn)) (by rw [nI_clamp (by omega)]) ?_
              refine lv_goto (tgt := 162) hx hb dX8_findRound_149 (by decide) ?_
              refine lv_iadd hx hb dX8_findRound_162 ?_
              refine lv_topi (fun x_216 ex_216 => ?_)
              refine lv_istore (lv' := [(8, .int x_216), (7, .int (nI g_196)), (6, .int (nI q_193)), (5, .int x_153), (4, .int r_1), (3, .int (nI (dn sn))), (0, .ref (a 0)), (1, .int (nI sn)), (2, .int (nI rn))]) hx hb dX8_findRound_163 hl (by decide) rfl (fun ls hl => ?_)
              refine lv_aload_n hx hb dX8_findRound_165 rfl (lv_at hl 6 rfl) ?_
              refine lv_iload_n hx hb dX8_findRound_166 rfl (lv_at hl 7 rfl) ?_
              refine lv_iload_n hx hb dX8_findRound_167 rfl (lv_at hl 8 rfl) ?_
              refine lv_iload hx hb dX8_findRound_168 (lv_at hl 2 rfl) ?_
              refine ro_i (D := D) (va_runV (As := [.int (nI sn), .int (nI rn), .int (nI q_193)]) (rest := []) ⟨hx, hb, hml, hown, hts⟩ ((m_takingOf l D k st lo a tx t0 we rd ru rw ca fp wd nu na ts df db sd dn se tm gs fprices sn q_193 (nI rn) (by omega) (by omega)) H.size) (cwV 3 hts (gV tw_1222 tw_1224 tw_43 tw_87 tw_1225) rfl rfl rfl (by decide +kernel) ⟨Nat.le_of_ble_eq_true rfl, Nat.le_of_ble_eq_true rfl⟩) (pV hS hAlo hlo hP hK (va_Dlo hD hAlo) hZ [0, 1, 2, 4] (by decide) rfl (ci := 8) (q := (RX8, TX8, 44)) (q0 := 0) rfl rfl) rfl rfl hl.1 rfl (lv_room (Nat.le_of_ble_eq_true rfl)) dX8_findRound_170 ⟨Nat.le_of_ble_eq_true rfl, Nat.le_of_ble_eq_true rfl⟩) hS hA hP (fun r_217 H locs hw_217 hP hS => ?_)
              try dsimp only at hw_217
              refine lv_istore (lv' := [(9, .int r_217), (8, .int x_216), (7, .int (nI g_196)), (6, .int (nI q_193)), (5, .int x_153), (4, .int r_1), (3, .int (nI (dn sn))), (0, .ref (a 0)), (1, .int (nI sn)), (2, .int (nI rn))]) hx hb dX8_findRound_173 hl (by decide) rfl (fun ls hl => ?_)
              refine lv_aload_n hx hb dX8_findRound_175 rfl (lv_at hl 7 rfl) ?_
              refine va_get (D := D) (ci := 8) (v := .ref (a 18)) (C := RX8) (T := TX8) (N := 44) hx hb hts inX8 hown hK hP 0 rfl rfl 17 (by decide) (hts _ tw_990) (fun _ h9 => h9) rfl dX8_findRound_176 ?_
              refine lv_iload_n hx hb dX8_findRound_179 rfl (lv_at hl 9 rfl) ?_
              refine lv_iload hx hb dX8_findRound_180 (lv_at hl 3 rfl) ?_
              refine lv_iload hx hb dX8_findRound_182 (lv_at hl 2 rfl) ?_
              refine ro_i (D := D) (va_runS (As := [.int (nI rn), .int (nI q_193), .int (nI g_196)]) (rest := [.ref (a 18)]) ⟨hx, hb, hml, hown, hts⟩ ((m_at l D k st lo rn q_193 g_196) H.size) (va_cwS 3 hts (gS tw_1266 tw_1267 tw_87 tw_1268) rfl rfl rfl (by decide +kernel) ⟨Nat.le_of_ble_eq_true rfl, Nat.le_of_ble_eq_true rfl⟩) (pS hS hAlo hlo hP hK (va_Dlo hD hAlo) hZ [] (by decide) rfl) rfl rfl hl.1 rfl (lv_room (Nat.le_of_ble_eq_true rfl)) dX8_findRound_184 ⟨Nat.le_of_ble_eq_true rfl, Nat.le_of_ble_eq_true rfl⟩) hS hA hP (fun r_218 H locs hw_218 hP hS => ?_)
              try dsimp only at hw_218
              subst hw_218
              refine lv_iload hx hb dX8_findRound_187 (lv_at hl 1 rfl) ?_
              refine va_iast hx hb hK hP hD hS 5 1 rfl rfl (vp_in_nI (by omega) (by decide)) dX8_findRound_189 (fun H locs hP hD hS => ?_)
              replace hP : va_P D classes [((a 0), .inr (8, (fX8 a (nI tx) fp (nI t0) wd (nI we) nu na (nI rd) ts (nI ru) (nI rw) (nI ca) df db sd))), (aI k (a 1) 3 (nF dn)), (aI k (a 4) 27 (sg se tm gs)), (aI k (a 2) 72 ffrees), (aI k (a 3) 72 fprices), (aI k (a 18) 768 (upd fo_196 (Int32.toNatClampNeg (nI (192 * rn + 8 * q_193 + g_196))) x_216)), (aI k (a 19) 768 fw_196), (aI k (a 20) 5 fstarts), (aI k (a 21) 4 f_192), (aZ k (a 22) 4 f_155), (aI k (a 23) 8 fbegin)] H := hP
              replace hD : va_D A [((a 0), .inr (8, (fX8 a (nI tx) fp (nI t0) wd (nI we) nu na (nI rd) ts (nI ru) (nI rw) (nI ca) df db sd))), (aI k (a 1) 3 (nF dn)), (aI k (a 4) 27 (sg se tm gs)), (aI k (a 2) 72 ffrees), (aI k (a 3) 72 fprices), (aI k (a 18) 768 (upd fo_196 (Int32.toNatClampNeg (nI (192 * rn + 8 * q_193 + g_196))) x_216)), (aI k (a 19) 768 fw_196), (aI k (a 20) 5 fstarts), (aI k (a 21) 4 f_192), (aZ k (a 22) 4 f_155), (aI k (a 23) 8 fbegin)] := hD
              generalize (upd fo_196 (Int32.toNatClampNeg (nI (192 * rn + 8 * q_193 + g_196))) x_216) = f_219 at hP hD
              refine lv_aload_n hx hb dX8_findRound_190 rfl (lv_at hl 7 rfl) ?_
              refine va_get (D := D) (ci := 8) (v := .ref (a 19)) (C := RX8) (T := TX8) (N := 44) hx hb hts inX8 hown hK hP 0 rfl rfl 18 (by decide) (hts _ tw_991) (fun _ h9 => h9) rfl dX8_findRound_191 ?_
              refine lv_iload_n hx hb dX8_findRound_194 rfl (lv_at hl 9 rfl) ?_
              refine lv_iload hx hb dX8_findRound_195 (lv_at hl 3 rfl) ?_
              refine lv_iload hx hb dX8_findRound_197 (lv_at hl 2 rfl) ?_
              refine ro_i (D := D) (va_runS (As := [.int (nI rn), .int (nI q_193), .int (nI g_196)]) (rest := [.ref (a 19)]) ⟨hx, hb, hml, hown, hts⟩ ((m_at l D k st lo rn q_193 g_196) H.size) (va_cwS 3 hts (gS tw_1266 tw_1267 tw_87 tw_1268) rfl rfl rfl (by decide +kernel) ⟨Nat.le_of_ble_eq_true rfl, Nat.le_of_ble_eq_true rfl⟩) (pS hS hAlo hlo hP hK (va_Dlo hD hAlo) hZ [] (by decide) rfl) rfl rfl hl.1 rfl (lv_room (Nat.le_of_ble_eq_true rfl)) dX8_findRound_199 ⟨Nat.le_of_ble_eq_true rfl, Nat.le_of_ble_eq_true rfl⟩) hS hA hP (fun r_220 H locs hw_220 hP hS => ?_)
              try dsimp only at hw_220
              subst hw_220
              refine lv_iload hx hb dX8_findRound_202 (lv_at hl 2 rfl) ?_
              refine lv_iconst (v := 1) hx hb dX8_findRound_204 (by decide) ?_
              refine lv_iand hx hb dX8_findRound_205 ?_
              refine lv_topi (fun x_221 ex_221 => ?_)
              refine lv_iconst (v := 1) hx hb dX8_findRound_206 (by decide) ?_
              refine lv_icmp_ne (tgt := 222) hx hb dX8_findRound_207 (by decide) (fun c_222 => ?_) (fun c_222 => ?_)
              · refine lv_iload hx hb dX8_findRound_222 (lv_at hl 1 rfl) ?_
                refine va_iast hx hb hK hP hD hS 6 1 rfl rfl (vp_in_nI (by omega) (by decide)) dX8_findRound_224 (fun H locs hP hD hS => ?_)
                replace hP : va_P D classes [((a 0), .inr (8, (fX8 a (nI tx) fp (nI t0) wd (nI we) nu na (nI rd) ts (nI ru) (nI rw) (nI ca) df db sd))), (aI k (a 1) 3 (nF dn)), (aI k (a 4) 27 (sg se tm gs)), (aI k (a 2) 72 ffrees), (aI k (a 3) 72 fprices), (aI k (a 18) 768 f_219), (aI k (a 19) 768 (upd fw_196 (Int32.toNatClampNeg (nI (192 * rn + 8 * q_193 + g_196))) x_216)), (aI k (a 20) 5 fstarts), (aI k (a 21) 4 f_192), (aZ k (a 22) 4 f_155), (aI k (a 23) 8 fbegin)] H := hP
                replace hD : va_D A [((a 0), .inr (8, (fX8 a (nI tx) fp (nI t0) wd (nI we) nu na (nI rd) ts (nI ru) (nI rw) (nI ca) df db sd))), (aI k (a 1) 3 (nF dn)), (aI k (a 4) 27 (sg se tm gs)), (aI k (a 2) 72 ffrees), (aI k (a 3) 72 fprices), (aI k (a 18) 768 f_219), (aI k (a 19) 768 (upd fw_196 (Int32.toNatClampNeg (nI (192 * rn + 8 * q_193 + g_196))) x_216)), (aI k (a 20) 5 fstarts), (aI k (a 21) 4 f_192), (aZ k (a 22) 4 f_155), (aI k (a 23) 8 fbegin)] := hD
                generalize (upd fw_196 (Int32.toNatClampNeg (nI (192 * rn + 8 * q_193 + g_196))) x_216) = f_223 at hP hD
                refine lv_iinc (v := (nI (g_196 + 1))) (lv' := [(7, .int (nI (g_196 + 1))), (9, .int r_217), (8, .int x_216), (6, .int (nI q_193)), (5, .int x_153), (4, .int r_1), (3, .int (nI (dn sn))), (0, .ref (a 0)), (1, .int (nI sn)), (2, .int (nI rn))]) hx hb dX8_findRound_225 hl (k := 2) rfl (nI_add g_196 1) (by decide) rfl (fun ls hl => ?_)
                refine lv_goto (tgt := 111) hx hb dX8_findRound_228 (by decide) ?_
                exact ih_196 _ (g_196 + 1, f_219, f_223) _ _ _ (by omega) ⟨rfl, (by omega), hP, hD, hS, (lv_sub hl [0, 3, 4, 5, 6, 7, 8, 9] rfl)⟩
              · refine lv_iload hx hb dX8_findRound_210 (lv_at hl 0 rfl) ?_
                refine lv_iload hx hb dX8_findRound_212 (lv_at hl 1 rfl) ?_
                refine lv_icmp_gt (tgt := 222) hx hb dX8_findRound_214 (by decide) (fun c_224 => ?_) (fun c_224 => ?_)
                · refine lv_iload hx hb dX8_findRound_222 (lv_at hl 1 rfl) ?_
                  refine va_iast hx hb hK hP hD hS 6 1 rfl rfl (vp_in_nI (by omega) (by decide)) dX8_findRound_224 (fun H locs hP hD hS => ?_)
                  replace hP : va_P D classes [((a 0), .inr (8, (fX8 a (nI tx) fp (nI t0) wd (nI we) nu na (nI rd) ts (nI ru) (nI rw) (nI ca) df db sd))), (aI k (a 1) 3 (nF dn)), (aI k (a 4) 27 (sg se tm gs)), (aI k (a 2) 72 ffrees), (aI k (a 3) 72 fprices), (aI k (a 18) 768 f_219), (aI k (a 19) 768 (upd fw_196 (Int32.toNatClampNeg (nI (192 * rn + 8 * q_193 + g_196))) x_216)), (aI k (a 20) 5 fstarts), (aI k (a 21) 4 f_192), (aZ k (a 22) 4 f_155), (aI k (a 23) 8 fbegin)] H := hP
                  replace hD : va_D A [((a 0), .inr (8, (fX8 a (nI tx) fp (nI t0) wd (nI we) nu na (nI rd) ts (nI ru) (nI rw) (nI ca) df db sd))), (aI k (a 1) 3 (nF dn)), (aI k (a 4) 27 (sg se tm gs)), (aI k (a 2) 72 ffrees), (aI k (a 3) 72 fprices), (aI k (a 18) 768 f_219), (aI k (a 19) 768 (upd fw_196 (Int32.toNatClampNeg (nI (192 * rn + 8 * q_193 + g_196))) x_216)), (aI k (a 20) 5 fstarts), (aI k (a 21) 4 f_192), (aZ k (a 22) 4 f_155), (aI k (a 23) 8 fbegin)] := hD
                  generalize (upd fw_196 (Int32.toNatClampNeg (nI (192 * rn + 8 * q_193 + g_196))) x_216) = f_225 at hP hD
                  refine lv_iinc (v := (nI (g_196 + 1))) (lv' := [(7, .int (nI (g_196 + 1))), (9, .int r_217), (8, .int x_216), (6, .int (nI q_193)), (5, .int x_153), (4, .int r_1), (3, .int (nI (dn sn))), (0, .ref (a 0)), (1, .int (nI sn)), (2, .int (nI rn))]) hx hb dX8_findRound_225 hl (k := 2) rfl (nI_add g_196 1) (by decide) rfl (fun ls hl => ?_)
                  refine lv_goto (tgt := 111) hx hb dX8_findRound_228 (by decide) ?_
                  exact ih_196 _ (g_196 + 1, f_219, f_225) _ _ _ (by omega) ⟨rfl, (by omega), hP, hD, hS, (lv_sub hl [0, 3, 4, 5, 6, 7, 8, 9] rfl)⟩
                · refine lv_iload hx hb dX8_findRound_217 (lv_at hl 0 rfl) ?_
                  refine lv_goto (tgt := 224) hx hb dX8_findRound_219 (by decide) ?_
                  refine va_iast hx hb hK hP hD hS 6 1 rfl rfl (vp_in_nI (by omega) (by decide)) dX8_findRound_224 (fun H locs hP hD hS => ?_)
                  replace hP : va_P D classes [((a 0), .inr (8, (fX8 a (nI tx) fp (nI t0) wd (nI we) nu na (nI rd) ts (nI ru) (nI rw) (nI ca) df db sd))), (aI k (a 1) 3 (nF dn)), (aI k (a 4) 27 (sg se tm gs)), (aI k (a 2) 72 ffrees), (aI k (a 3) 72 fprices), (aI k (a 18) 768 f_219), (aI k (a 19) 768 (upd fw_196 (Int32.toNatClampNeg (nI (192 * rn + 8 * q_193 + g_196))) r_217)), (aI k (a 20) 5 fstarts), (aI k (a 21) 4 f_192), (aZ k (a 22) 4 f_155), (aI k (a 23) 8 fbegin)] H := hP
                  replace hD : va_D A [((a 0), .inr (8, (fX8 a (nI tx) fp (nI t0) wd (nI we) nu na (nI rd) ts (nI ru) (nI rw) (nI ca) df db sd))), (aI k (a 1) 3 (nF dn)), (aI k (a 4) 27 (sg se tm gs)), (aI k (a 2) 72 ffrees), (aI k (a 3) 72 fprices), (aI k (a 18) 768 f_219), (aI k (a 19) 768 (upd fw_196 (Int32.toNatClampNeg (nI (192 * rn + 8 * q_193 + g_196))) r_217)), (aI k (a 20) 5 fstarts), (aI k (a 21) 4 f_192), (aZ k (a 22) 4 f_155), (aI k (a 23) 8 fbegin)] := hD
                  generalize (upd fw_196 (Int32.toNatClampNeg (nI (192 * rn + 8 * q_193 + g_196))) r_217) = f_226 at hP hD
                  refine lv_iinc (v := (nI (g_196 + 1))) (lv' := [(7, .int (nI (g_196 + 1))), (9, .int r_217), (8, .int x_216), (6, .int (nI q_193)), (5, .int x_153), (4, .int r_1), (3, .int (nI (dn sn))), (0, .ref (a 0)), (1, .int (nI sn)), (2, .int (nI rn))]) hx hb dX8_findRound_225 hl (k := 2) rfl (nI_add g_196 1) (by decide) rfl (fun ls hl => ?_)
                  refine lv_goto (tgt := 111) hx hb dX8_findRound_228 (by decide) ?_
                  exact ih_196 _ (g_196 + 1, f_219, f_226) _ _ _ (by omega) ⟨rfl, (by omega), hP, hD, hS, (lv_sub hl [0, 3, 4, 5, 6, 7, 8, 9] rfl)⟩
    · refine lv_iconst (v := 1) hx hb dX8_findRound_72 (by decide) ?_
      refine lv_goto (tgt := 77) hx hb dX8_findRound_73 (by decide) ?_
      refine va_zast hx hb hK hP hD hS 9 2 rfl rfl (vp_in_nI (by omega) (by decide)) dX8_findRound_77 (fun H locs hP hD hS => ?_)
      replace hP : va_P D classes [((a 0), .inr (8, (fX8 a (nI tx) fp (nI t0) wd (nI we) nu na (nI rd) ts (nI ru) (nI rw) (nI ca) df db sd))), (aI k (a 1) 3 (nF dn)), (aI k (a 4) 27 (sg se tm gs)), (aI k (a 2) 72 ffrees), (aI k (a 3) 72 fprices), (aI k (a 18) 768 fons), (aI k (a 19) 768 fworths), (aI k (a 20) 5 fstarts), (aI k (a 21) 4 fends), (aZ k (a 22) 4 (upd fgoesRound (Int32.toNatClampNeg (nI rn)) (vp_nar .boolean 1))), (aI k (a 23) 8 fbegin)] H := hP
      replace hD : va_D A [((a 0), .inr (8, (fX8 a (nI tx) fp (nI t0) wd (nI we) nu na (nI rd) ts (nI ru) (nI rw) (nI ca) df db sd))), (aI k (a 1) 3 (nF dn)), (aI k (a 4) 27 (sg se tm gs)), (aI k (a 2) 72 ffrees), (aI k (a 3) 72 fprices), (aI k (a 18) 768 fons), (aI k (a 19) 768 fworths), (aI k (a 20) 5 fstarts), (aI k (a 21) 4 fends), (aZ k (a 22) 4 (upd fgoesRound (Int32.toNatClampNeg (nI rn)) (vp_nar .boolean 1))), (aI k (a 23) 8 fbegin)] := hD
      generalize (upd fgoesRound (Int32.toNatClampNeg (nI rn)) (vp_nar .boolean 1)) = f_227 at hP hD
      refine lv_aload_n hx hb dX8_findRound_78 rfl (lv_at hl 3 rfl) ?_
      refine va_get (D := D) (ci := 8) (v := .ref (a 21)) (C := RX8) (T := TX8) (N := 44) hx hb hts inX8 hown hK hP 0 rfl rfl 20 (by decide) (hts _ tw_993) (fun _ h9 => h9) rfl dX8_findRound_79 ?_
      refine lv_iload_n hx hb dX8_findRound_82 rfl (lv_at hl 5 rfl) ?_
      refine lv_iload hx hb dX8_findRound_83 (lv_at hl 0 rfl) ?_
      refine lv_iload hx hb dX8_findRound_85 (lv_at hl 1 rfl) ?_
      refine lv_icmp_ge (tgt := 95) hx hb dX8_findRound_87 (by decide) (fun c_228 => ?_) (fun c_228 => ?_)
      · refine lv_iload hx hb dX8_findRound_95 (lv_at hl 1 rfl) ?_
        refine va_iast hx hb hK hP hD hS 8 1 rfl rfl (vp_in_nI (by omega) (by decide)) dX8_findRound_97 (fun H locs hP hD hS => ?_)
        replace hP : va_P D classes [((a 0), .inr (8, (fX8 a (nI tx) fp (nI t0) wd (nI we) nu na (nI rd) ts (nI ru) (nI rw) (nI ca) df db sd))), (aI k (a 1) 3 (nF dn)), (aI k (a 4) 27 (sg se tm gs)), (aI k (a 2) 72 ffrees), (aI k (a 3) 72 fprices), (aI k (a 18) 768 fons), (aI k (a 19) 768 fworths), (aI k (a 20) 5 fstarts), (aI k (a 21) 4 (upd fends (Int32.toNatClampNeg (nI rn)) r_1)), (aZ k (a 22) 4 f_227), (aI k (a 23) 8 fbegin)] H := hP
        replace hD : va_D A [((a 0), .inr (8, (fX8 a (nI tx) fp (nI t0) wd (nI we) nu na (nI rd) ts (nI ru) (nI rw) (nI ca) df db sd))), (aI k (a 1) 3 (nF dn)), (aI k (a 4) 27 (sg se tm gs)), (aI k (a 2) 72 ffrees), (aI k (a 3) 72 fprices), (aI k (a 18) 768 fons), (aI k (a 19) 768 fworths), (aI k (a 20) 5 fstarts), (aI k (a 21) 4 (upd fends (Int32.toNatClampNeg (nI rn)) r_1)), (aZ k (a 22) 4 f_227), (aI k (a 23) 8 fbegin)] := hD
        generalize (upd fends (Int32.toNatClampNeg (nI rn)) r_1) = f_229 at hP hD
        refine lv_iload_n hx hb dX8_findRound_98 rfl (lv_at hl 2 rfl) ?_
        refine lv_iconst (v := 1) hx hb dX8_findRound_99 (by decide) ?_
        refine lv_isub hx hb dX8_findRound_100 ?_
        refine lv_ti (y := (nI (dn sn) - 1)) rfl ?_
        refine lv_istore (lv' := [(6, .int (nI (dn sn) - 1)), (5, .int x_153), (4, .int r_1), (3, .int (nI (dn sn))), (0, .ref (a 0)), (1, .int (nI sn)), (2, .int (nI rn))]) hx hb dX8_findRound_101 hl (by decide) rfl (fun ls hl => ?_)
        refine W_loop (σ := Nat × (Nat → Int32) × (Nat → Int32)) (fun (n_ : Nat) (x_ : Nat × (Nat → Int32) × (Nat → Int32)) (H : Heap) (locs : List Loc) (ls : Array Slot) => match x_ with | (q_230, fo_230, fw_230) => n_ = 2 * q_230 ∧ (q_230 ≤ dn sn) ∧ va_P D classes [((a 0), .inr (8, (fX8 a (nI tx) fp (nI t0) wd (nI we) nu na (nI rd) ts (nI ru) (nI rw) (nI ca) df db sd))), (aI k (a 1) 3 (nF dn)), (aI k (a 4) 27 (sg se tm gs)), (aI k (a 2) 72 ffrees), (aI k (a 3) 72 fprices), (aI k (a 18) 768 fo_230), (aI k (a 19) 768 fw_230), (aI k (a 20) 5 fstarts), (aI k (a 21) 4 f_229), (aZ k (a 22) 4 f_227), (aI k (a 23) 8 fbegin)] H ∧ va_D A [((a 0), .inr (8, (fX8 a (nI tx) fp (nI t0) wd (nI we) nu na (nI rd) ts (nI ru) (nI rw) (nI ca) df db sd))), (aI k (a 1) 3 (nF dn)), (aI k (a 4) 27 (sg se tm gs)), (aI k (a 2) 72 ffrees), (aI k (a 3) 72 fprices), (aI k (a 18) 768 fo_230), (aI k (a 19) 768 fw_230), (aI k (a 20) 5 fstarts), (aI k (a 21) 4 f_229), (aZ k (a 22) 4 f_227), (aI k (a 23) 8 fbegin)] ∧ va_S A s.heap H locs ∧ lv_has ls 10 [(6, .int (nI q_230 - 1)), (5, .int x_153), (4, .int r_1), (3, .int (nI (dn sn))), (0, .ref (a 0)), (1, .int (nI sn)), (2, .int (nI rn))]) (fun n_230 x_230 H locs ls hI ih_230 => ?_) _ (dn sn, fons, fworths) ⟨rfl, (by omega), hP, hD, hS, (lv_sub hl [0, 1, 2, 3, 4, 5, 6] rfl)⟩
        obtain ⟨q_230, fo_230, fw_230⟩ := x_230
        obtain ⟨hm_230, hv_230, hP, hD, hS, hl⟩ := hI
        subst hm_230
        rcases q_230 with _ | q_230
        · rw [dn0] at hl
          refine lv_iload hx hb dX8_findRound_103 (lv_at hl 0 rfl) ?_
          refine lv_if_lt (tgt := 237) hx hb dX8_findRound_105 (by decide) (fun _ => ?_) (fun h => absurd (by decide) h)
          refine lv_aload_n hx hb dX8_findRound_237 rfl (lv_at hl 4 rfl) ?_
          refine va_get (D := D) (ci := 8) (v := .ref (a 20)) (C := RX8) (T := TX8) (N := 44) hx hb hts inX8 hown hK hP 0 rfl rfl 19 (by decide) (hts _ tw_992) (fun _ h9 => h9) rfl dX8_findRound_238 ?_
          refine lv_iload_n hx hb dX8_findRound_241 rfl (lv_at hl 6 rfl) ?_
          refine lv_aload_n hx hb dX8_findRound_242 rfl (lv_at hl 4 rfl) ?_
          refine lv_iload_n hx hb dX8_findRound_243 rfl (lv_at hl 5 rfl) ?_
          refine lv_iload_n hx hb dX8_findRound_244 rfl (lv_at hl 6 rfl) ?_
          refine rw_i (D := D) (wr := [(aI k (a 3) 72 fprices), (aI k (a 18) 768 fo_230), (aI k (a 20) 5 fstarts), (aI k (a 21) 4 f_229), (aZ k (a 22) 4 f_227)]) (va_runV (As := [.int (nI sn), .int (nI rn)]) (rest := [.int (nI rn), .ref (a 20)]) ⟨hx, hb, hml, hown, hts⟩ ((m_startOf l D k st lo a tx t0 we rd ru rw ca fp wd nu na ts df db sd dn se tm gs ffrees fw_230 fbegin sn rn hdn hse (by omega) (by omega) (by omega)) H.size) (cwV 2 hts (gV tw_1273 tw_1275 tw_53 tw_87 tw_1276) rfl rfl rfl (by decide +kernel) ⟨Nat.le_of_ble_eq_true rfl, Nat.le_of_ble_eq_true rfl⟩) (pV hS hAlo hlo hP hK (va_Dlo hD hAlo) hZ [0, 1, 2, 3, 6, 10] (by decide) rfl (ci := 8) (q := (RX8, TX8, 44)) (q0 := 0) rfl rfl) rfl rfl hl.1 rfl (lv_room (Nat.le_of_ble_eq_true rfl)) dX8_findRound_245 ⟨Nat.le_of_ble_eq_true rfl, Nat.le_of_ble_eq_true rfl⟩) hS hA hP hD [0, 1, 2, 3, 6, 10] [4, 5, 7, 8, 9] rfl rfl (by decide +kernel) (by decide +kernel) (fun r_231 u H locs hw_231 hP hD hS => ?_)
          obtain ⟨fbegin__231, rfl⟩ : ∃ z, z = u := ⟨_, rfl⟩
          replace hP : va_P D classes [(aI k (a 3) 72 fprices), (aI k (a 18) 768 fo_230), (aI k (a 20) 5 fstarts), (aI k (a 21) 4 f_229), (aZ k (a 22) 4 f_227), ((a 0), .inr (8, (fX8 a (nI tx) fp (nI t0) wd (nI we) nu na (nI rd) ts (nI ru) (nI rw) (nI ca) df db sd))), (aI k (a 1) 3 (nF dn)), (aI k (a 4) 27 (sg se tm gs)), (aI k (a 2) 72 ffrees), (aI k (a 19) 768 fw_230), (aI k (a 23) 8 fbegin__231)] H := hP
          replace hD : va_D A [(aI k (a 3) 72 fprices), (aI k (a 18) 768 fo_230), (aI k (a 20) 5 fstarts), (aI k (a 21) 4 f_229), (aZ k (a 22) 4 f_227), ((a 0), .inr (8, (fX8 a (nI tx) fp (nI t0) wd (nI we) nu na (nI rd) ts (nI ru) (nI rw) (nI ca) df db sd))), (aI k (a 1) 3 (nF dn)), (aI k (a 4) 27 (sg se tm gs)), (aI k (a 2) 72 ffrees), (aI k (a 19) 768 fw_230), (aI k (a 23) 8 fbegin__231)] := hD
          try dsimp only at hw_231
          refine va_iast hx hb hK hP hD hS 2 1 rfl rfl (vp_in_nI (by omega) (by decide)) dX8_findRound_248 (fun H locs hP hD hS => ?_)
          replace hP : va_P D classes [(aI k (a 3) 72 fprices), (aI k (a 18) 768 fo_230), (aI k (a 20) 5 (upd fstarts (Int32.toNatClampNeg (nI rn)) r_231)), (aI k (a 21) 4 f_229), (aZ k (a 22) 4 f_227), ((a 0), .inr (8, (fX8 a (nI tx) fp (nI t0) wd (nI we) nu na (nI rd) ts (nI ru) (nI rw) (nI ca) df db sd))), (aI k (a 1) 3 (nF dn)), (aI k (a 4) 27 (sg se tm gs)), (aI k (a 2) 72 ffrees), (aI k (a 19) 768 fw_230), (aI k (a 23) 8 fbegin__231)] H := hP
          replace hD : va_D A [(aI k (a 3) 72 fprices), (aI k (a 18) 768 fo_230), (aI k (a 20) 5 (upd fstarts (Int32.toNatClampNeg (nI rn)) r_231)), (aI k (a 21) 4 f_229), (aZ k (a 22) 4 f_227), ((a 0), .inr (8, (fX8 a (nI tx) fp (nI t0) wd (nI we) nu na (nI rd) ts (nI ru) (nI rw) (nI ca) df db sd))), (aI k (a 1) 3 (nF dn)), (aI k (a 4) 27 (sg se tm gs)), (aI k (a 2) 72 ffrees), (aI k (a 19) 768 fw_230), (aI k (a 23) 8 fbegin__231)] := hD
          generalize (upd fstarts (Int32.toNatClampNeg (nI rn)) r_231) = f_232 at hP hD
          have hP9 := hP.sub (ws' := [((a 0), .inr (8, (fX8 a (nI tx) fp (nI t0) wd (nI we) nu na (nI rd) ts (nI ru) (nI rw) (nI ca) df db sd))), (aI k (a 1) 3 (nF dn)), (aI k (a 4) 27 (sg se tm gs)), (aI k (a 2) 72 ffrees), (aI k (a 3) 72 fprices), (aI k (a 18) 768 fo_230), (aI k (a 19) 768 fw_230), (aI k (a 20) 5 f_232), (aI k (a 21) 4 f_229), (aZ k (a 22) 4 f_227), (aI k (a 23) 8 fbegin__231)]) [5, 6, 7, 8, 0, 1, 9, 2, 3, 4, 10] rfl
          have hD9 := hD.sub (ws' := [((a 0), .inr (8, (fX8 a (nI tx) fp (nI t0) wd (nI we) nu na (nI rd) ts (nI ru) (nI rw) (nI ca) df db sd))), (aI k (a 1) 3 (nF dn)), (aI k (a 4) 27 (sg se tm gs)), (aI k (a 2) 72 ffrees), (aI k (a 3) 72 fprices), (aI k (a 18) 768 fo_230), (aI k (a 19) 768 fw_230), (aI k (a 20) 5 f_232), (aI k (a 21) 4 f_229), (aZ k (a 22) 4 f_227), (aI k (a 23) 8 fbegin__231)]) [5, 6, 7, 8, 0, 1, 9, 2, 3, 4, 10] (by decide +kernel) rfl
          exact W.vret hx hb hr (fun t ht hW => ⟨⟨(fo_230, fw_230, f_232, f_229, f_227, fbegin__231), rfl, trivial, by rw [ht]; exact hP9, hD9⟩, hS.F ht⟩) hS.2.2 dX8_findRound_249
        · rw [nI_pred] at hl
          refine lv_iload hx hb dX8_findRound_103 (lv_at hl 0 rfl) ?_
          refine lv_if_lt (tgt := 237) hx hb dX8_findRound_105 (by decide) (fun h => absurd h (nI_pos0 (by omega))) (fun _ => ?_)
          refine lv_iconst (v := 0) hx hb dX8_findRound_108 (by decide) ?_
          refine lv_istore (lv' := [(7, .int 0), (6, .int (nI q_230)), (5, .int x_153), (4, .int r_1), (3, .int (nI (dn sn))), (0, .ref (a 0)), (1, .int (nI sn)), (2, .int (nI rn))]) hx hb dX8_findRound_109 hl (by decide) rfl (fun ls hl => ?_)
          refine W_loop (σ := Nat × (Nat → Int32) × (Nat → Int32)) (fun (n_ : Nat) (x_ : Nat × (Nat → Int32) × (Nat → Int32)) (H : Heap) (locs : List Loc) (ls : Array Slot) => match x_ with | (g_233, fo_233, fw_233) => n_ = 8 - g_233 ∧ (g_233 ≤ 8) ∧ va_P D classes [((a 0), .inr (8, (fX8 a (nI tx) fp (nI t0) wd (nI we) nu na (nI rd) ts (nI ru) (nI rw) (nI ca) df db sd))), (aI k (a 1) 3 (nF dn)), (aI k (a 4) 27 (sg se tm gs)), (aI k (a 2) 72 ffrees), (aI k (a 3) 72 fprices), (aI k (a 18) 768 fo_233), (aI k (a 19) 768 fw_233), (aI k (a 20) 5 fstarts), (aI k (a 21) 4 f_229), (aZ k (a 22) 4 f_227), (aI k (a 23) 8 fbegin)] H ∧ va_D A [((a 0), .inr (8, (fX8 a (nI tx) fp (nI t0) wd (nI we) nu na (nI rd) ts (nI ru) (nI rw) (nI ca) df db sd))), (aI k (a 1) 3 (nF dn)), (aI k (a 4) 27 (sg se tm gs)), (aI k (a 2) 72 ffrees), (aI k (a 3) 72 fprices), (aI k (a 18) 768 fo_233), (aI k (a 19) 768 fw_233), (aI k (a 20) 5 fstarts), (aI k (a 21) 4 f_229), (aZ k (a 22) 4 f_227), (aI k (a 23) 8 fbegin)] ∧ va_S A s.heap H locs ∧ lv_has ls 10 [(7, .int (nI g_233)), (6, .int (nI q_230)), (5, .int x_153), (4, .int r_1), (3, .int (nI (dn sn))), (0, .ref (a 0)), (1, .int (nI sn)), (2, .int (nI rn))]) (fun n_233 x_233 H locs ls hI ih_233 => ?_) _ (0, fo_230, fw_230) ⟨rfl, (by omega), hP, hD, hS, (lv_sub hl [0, 1, 2, 3, 4, 5, 6, 7] rfl)⟩
          obtain ⟨g_233, fo_233, fw_233⟩ := x_233
          obtain ⟨hm_233, hv_233, hP, hD, hS, hl⟩ := hI
          subst hm_233
          refine lv_iload hx hb dX8_findRound_111 (lv_at hl 0 rfl) ?_
          refine lv_iconst (v := 1) hx hb dX8_findRound_113 (by decide) ?_
          refine lv_aload_n hx hb dX8_findRound_114 rfl (lv_at hl 5 rfl) ?_
          refine lv_iload_n hx hb dX8_findRound_115 rfl (lv_at hl 6 rfl) ?_
          refine lv_iload hx hb dX8_findRound_116 (lv_at hl 1 rfl) ?_
          refine ro_i (D := D) (va_runV (As := [.int (nI sn), .int (nI q_230)]) (rest := [.int 1, .int (nI g_233)]) ⟨hx, hb, hml, hown, hts⟩ ((m_seen l D k st lo a tx t0 we rd ru rw ca fp wd nu na ts df db sd dn se tm gs sn q_230 hdn hse (by omega) (by omega)) H.size) (cwV 2 hts (gV tw_1246 tw_1248 tw_48 tw_87 tw_1249) rfl rfl rfl (by decide +kernel) ⟨Nat.le_of_ble_eq_true rfl, Nat.le_of_ble_eq_true rfl⟩) (pV hS hAlo hlo hP hK (va_Dlo hD hAlo) hZ [0, 1, 2] (by decide) rfl (ci := 8) (q := (RX8, TX8, 44)) (q0 := 0) rfl rfl) rfl rfl hl.1 rfl (lv_room (Nat.le_of_ble_eq_true rfl)) dX8_findRound_118 ⟨Nat.le_of_ble_eq_true rfl, Nat.le_of_ble_eq_true rfl⟩) hS hA hP (fun r_234 H locs hw_234 hP hS => ?_)
          try dsimp only at hw_234
          obtain ⟨sv_235, esv_235⟩ : ∃ z : Nat, z = (if dn sn - q_230 < se sn + 1 then dn sn - q_230 else se sn + 1) := ⟨_, rfl⟩
          rw [← esv_235] at hw_234
          subst hw_234
          have hsv_235 : sv_235 ≤ 3 ∧ sv_235 ≤ dn sn - q_230 ∧ (0 < dn sn - q_230 → 1 ≤ sv_235) := by
            have hse9 := hse sn
            split at esv_235 <;> omega
          obtain ⟨pw_236, epw_236⟩ : ∃ z : Nat, z = 2 ^ sv_235 := ⟨_, rfl⟩
          have hpw_236 : 1 ≤ pw_236 ∧ pw_236 ≤ 8 := by rw [epw_236]; exact pw8 (by omega)
          refine lv_ishl hx hb dX8_findRound_121 ?_
          refine lv_ti (y := (nI pw_236)) (by rw [epw_236]; exact shl1 sv_235 (by omega)) ?_
          refine lv_icmp_ge (tgt := 231) hx hb dX8_findRound_122 (by decide) (fun c_237 => ?_) (fun c_237 => ?_)
          · have c_237 := (nI_leI (a := pw_236) (b := g_233) (by omega) (by omega)).mp c_237
            refine lv_iinc (v := (nI q_230 - 1)) (lv' := [(6, .int (nI q_230 - 1)), (7, .int (nI g_233)), (5, .int x_153), (4, .int r_1), (3, .int (nI (dn sn))), (0, .ref (a 0)), (1, .int (nI sn)), (2, .int (nI rn))]) hx hb dX8_findRound_231 hl (k := 1) rfl (dn1 _) (by decide) rfl (fun ls hl => ?_)
            refine lv_goto (tgt := 103) hx hb dX8_findRound_234 (by decide) ?_
            exact ih_230 _ (q_230, fo_233, fw_233) _ _ _ (by omega) ⟨rfl, (by omega), hP, hD, hS, (lv_sub hl [0, 2, 3, 4, 5, 6, 7] rfl)⟩
          · have c_237 : ¬ (pw_236 ≤ g_233) := fun h => c_237 ((nI_leI (a := pw_236) (b := g_233) (by omega) (by omega)).mpr h)
            refine lv_aload_n hx hb dX8_findRound_125 rfl (lv_at hl 5 rfl) ?_
            refine lv_iload_n hx hb dX8_findRound_126 rfl (lv_at hl 6 rfl) ?_
            refine lv_iconst (v := 2) hx hb dX8_findRound_127 (by decide) ?_
            refine ro_i (D := D) (va_runV (As := [.int (nI sn), .int 2]) (rest := []) ⟨hx, hb, hml, hown, hts⟩ ((m_of l D k st lo a tx t0 we rd ru rw ca fp wd nu na ts df db sd se tm gs sn 2 (by omega) (by omega)) H.size) (cwV 2 hts (gV tw_1194 tw_1196 tw_39 tw_87 tw_1197) rfl rfl rfl (by decide +kernel) ⟨Nat.le_of_ble_eq_true rfl, Nat.le_of_ble_eq_true rfl⟩) (pV hS hAlo hlo hP hK (va_Dlo hD hAlo) hZ [0, 2] (by decide) rfl (ci := 8) (q := (RX8, TX8, 44)) (q0 := 0) rfl rfl) rfl rfl hl.1 rfl (lv_room (Nat.le_of_ble_eq_true rfl)) dX8_findRound_128 ⟨Nat.le_of_ble_eq_true rfl, Nat.le_of_ble_eq_true rfl⟩) hS hA hP (fun r_238 H locs hw_238 hP hS => ?_)
            try dsimp only at hw_238
            refine lv_sipush (v := 1000) hx hb dX8_findRound_131 (by decide) ?_
            refine lv_imul hx hb dX8_findRound_134 ?_
            refine lv_topi (fun x_239 ex_239 => ?_)
            refine lv_iload hx hb dX8_findRound_135 (lv_at hl 1 rfl) ?_
            refine lv_iload_n hx hb dX8_findRound_137 rfl (lv_at hl 4 rfl) ?_
            refine lv_iconst (v := 1) hx hb dX8_findRound_138 (by decide) ?_
            refine lv_isub hx hb dX8_findRound_139 ?_
            refine lv_ti (y := (nI ((dn sn) - 1))) (pk_sub (a := (dn sn)) (b := 1) (by omega)) ?_
            refine lv_icmp_ne (tgt := 152) hx hb dX8_findRound_140 (by decide) (fun c_240 => ?_) (fun c_240 => ?_)
            · have c_240 : ¬ (q_230 = ((dn sn) - 1)) := fun h => c_240 ((nI_eq (a := q_230) (b := ((dn sn) - 1)) (by omega) (by omega)).mpr h)
              refine lv_aload_n hx hb dX8_findRound_152 rfl (lv_at hl 5 rfl) ?_
              refine lv_iload_n hx hb dX8_findRound_153 rfl (lv_at hl 6 rfl) ?_
              refine lv_iload_n hx hb dX8_findRound_154 rfl (lv_at hl 7 rfl) ?_
              refine lv_iload hx hb dX8_findRound_155 (lv_at hl 1 rfl) ?_
              refine lv_iload hx hb dX8_findRound_157 (lv_at hl 0 rfl) ?_
              refine ro_i (D := D) (va_runV (As := [.int (nI sn), .int (nI rn), .int (nI q_230), .int (nI g_233)]) (rest := [.int x_239]) ⟨hx, hb, hml, hown, hts⟩ ((m_on l D k st lo a tx t0 we rd ru rw ca fp wd nu na ts df db sd dn se tm gs ffrees fw_233 sn rn q_230 g_233 hdn hse (by omega) (by omega) (by omega) (by omega)) H.size) (cwV 4 hts (gV tw_1262 tw_1264 tw_52 tw_87 tw_1265) rfl rfl rfl (by decide +kernel) ⟨Nat.le_of_ble_eq_true rfl, Nat.le_of_ble_eq_true rfl⟩) (pV hS hAlo hlo hP hK (va_Dlo hD hAlo) hZ [0, 1, 2, 3, 6] (by decide) rfl (ci := 8) (q := (RX8, TX8, 44)) (q0 := 0) rfl rfl) rfl rfl hl.1 rfl (lv_room (Nat.le_of_ble_eq_true rfl)) dX8_findRound_159 ⟨Nat.le_of_ble_eq_true rfl, Nat.le_of_ble_eq_true rfl⟩) hS hA hP (fun r_241 H locs hw_241 hP hS => ?_)
              try dsimp only at hw_241
              refine lv_iadd hx hb dX8_findRound_162 ?_
              refine lv_topi (fun x_242 ex_242 => ?_)
              refine lv_istore (lv' := [(8, .int x_242), (7, .int (nI g_233)), (6, .int (nI q_230)), (5, .int x_153), (4, .int r_1), (3, .int (nI (dn sn))), (0, .ref (a 0)), (1, .int (nI sn)), (2, .int (nI rn))]) hx hb dX8_findRound_163 hl (by decide) rfl (fun ls hl => ?_)
              refine lv_aload_n hx hb dX8_findRound_165 rfl (lv_at hl 6 rfl) ?_
              refine lv_iload_n hx hb dX8_findRound_166 rfl (lv_at hl 7 rfl) ?_
              refine lv_iload_n hx hb dX8_findRound_167 rfl (lv_at hl 8 rfl) ?_
              refine lv_iload hx hb dX8_findRound_168 (lv_at hl 2 rfl) ?_
              refine ro_i (D := D) (va_runV (As := [.int (nI sn), .int (nI rn), .int (nI q_230)]) (rest := []) ⟨hx, hb, hml, hown, hts⟩ ((m_takingOf l D k st lo a tx t0 we rd ru rw ca fp wd nu na ts df db sd dn se tm gs fprices sn q_230 (nI rn) (by omega) (by omega)) H.size) (cwV 3 hts (gV tw_1222 tw_1224 tw_43 tw_87 tw_1225) rfl rfl rfl (by decide +kernel) ⟨Nat.le_of_ble_eq_true rfl, Nat.le_of_ble_eq_true rfl⟩) (pV hS hAlo hlo hP hK (va_Dlo hD hAlo) hZ [0, 1, 2, 4] (by decide) rfl (ci := 8) (q := (RX8, TX8, 44)) (q0 := 0) rfl rfl) rfl rfl hl.1 rfl (lv_room (Nat.le_of_ble_eq_true rfl)) dX8_findRound_170 ⟨Nat.le_of_ble_eq_true rfl, Nat.le_of_ble_eq_true rfl⟩) hS hA hP (fun r_243 H locs hw_243 hP hS => ?_)
              try dsimp only at hw_243
              refine lv_istore (lv' := [(9, .int r_243), (8, .int x_242), (7, .int (nI g_233)), (6, .int (nI q_230)), (5, .int x_153), (4, .int r_1), (3, .int (nI (dn sn))), (0, .ref (a 0)), (1, .int (nI sn)), (2, .int (nI rn))]) hx hb dX8_findRound_173 hl (by decide) rfl (fun ls hl => ?_)
              refine lv_aload_n hx hb dX8_findRound_175 rfl (lv_at hl 7 rfl) ?_
              refine va_get (D := D) (ci := 8) (v := .ref (a 18)) (C := RX8) (T := TX8) (N := 44) hx hb hts inX8 hown hK hP 0 rfl rfl 17 (by decide) (hts _ tw_990) (fun _ h9 => h9) rfl dX8_findRound_176 ?_
              refine lv_iload_n hx hb dX8_findRound_179 rfl (lv_at hl 9 rfl) ?_
              refine lv_iload hx hb dX8_findRound_180 (lv_at hl 3 rfl) ?_
              refine lv_iload hx hb dX8_findRound_182 (lv_at hl 2 rfl) ?_
              refine ro_i (D := D) (va_runS (As := [.int (nI rn), .int (nI q_230), .int (nI g_233)]) (rest := [.ref (a 18)]) ⟨hx, hb, hml, hown, hts⟩ ((m_at l D k st lo rn q_230 g_233) H.size) (va_cwS 3 hts (gS tw_1266 tw_1267 tw_87 tw_1268) rfl rfl rfl (by decide +kernel) ⟨Nat.le_of_ble_eq_true rfl, Nat.le_of_ble_eq_true rfl⟩) (pS hS hAlo hlo hP hK (va_Dlo hD hAlo) hZ [] (by decide) rfl) rfl rfl hl.1 rfl (lv_room (Nat.le_of_ble_eq_true rfl)) dX8_findRound_184 ⟨Nat.le_of_ble_eq_true rfl, Nat.le_of_ble_eq_true rfl⟩) hS hA hP (fun r_244 H locs hw_244 hP hS => ?_)
              try dsimp only at hw_244
              subst hw_244
              refine lv_iload hx hb dX8_findRound_187 (lv_at hl 1 rfl) ?_
              refine va_iast hx hb hK hP hD hS 5 1 rfl rfl (vp_in_nI (by omega) (by decide)) dX8_findRound_189 (fun H locs hP hD hS => ?_)
              replace hP : va_P D classes [((a 0), .inr (8, (fX8 a (nI tx) fp (nI t0) wd (nI we) nu na (nI rd) ts (nI ru) (nI rw) (nI ca) df db sd))), (aI k (a 1) 3 (nF dn)), (aI k (a 4) 27 (sg se tm gs)), (aI k (a 2) 72 ffrees), (aI k (a 3) 72 fprices), (aI k (a 18) 768 (upd fo_233 (Int32.toNatClampNeg (nI (192 * rn + 8 * q_230 + g_233))) x_242)), (aI k (a 19) 768 fw_233), (aI k (a 20) 5 fstarts), (aI k (a 21) 4 f_229), (aZ k (a 22) 4 f_227), (aI k (a 23) 8 fbegin)] H := hP
              replace hD : va_D A [((a 0), .inr (8, (fX8 a (nI tx) fp (nI t0) wd (nI we) nu na (nI rd) ts (nI ru) (nI rw) (nI ca) df db sd))), (aI k (a 1) 3 (nF dn)), (aI k (a 4) 27 (sg se tm gs)), (aI k (a 2) 72 ffrees), (aI k (a 3) 72 fprices), (aI k (a 18) 768 (upd fo_233 (Int32.toNatClampNeg (nI (192 * rn + 8 * q_230 + g_233))) x_242)), (aI k (a 19) 768 fw_233), (aI k (a 20) 5 fstarts), (aI k (a 21) 4 f_229), (aZ k (a 22) 4 f_227), (aI k (a 23) 8 fbegin)] := hD
              generalize (upd fo_233 (Int32.toNatClampNeg (nI (192 * rn + 8 * q_230 + g_233))) x_242) = f_245 at hP hD
              refine lv_aload_n hx hb dX8_findRound_190 rfl (lv_at hl 7 rfl) ?_
              refine va_get (D := D) (ci := 8) (v := .ref (a 19)) (C := RX8) (T := TX8) (N := 44) hx hb hts inX8 hown hK hP 0 rfl rfl 18 (by decide) (hts _ tw_991) (fun _ h9 => h9) rfl dX8_findRound_191 ?_
              refine lv_iload_n hx hb dX8_findRound_194 rfl (lv_at hl 9 rfl) ?_
              refine lv_iload hx hb dX8_findRound_195 (lv_at hl 3 rfl) ?_
              refine lv_iload hx hb dX8_findRound_197 (lv_at hl 2 rfl) ?_
              refine ro_i (D := D) (va_runS (As := [.int (nI rn), .int (nI q_230), .int (nI g_233)]) (rest := [.ref (a 19)]) ⟨hx, hb, hml, hown, hts⟩ ((m_at l D k st lo rn q_230 g_233) H.size) (va_cwS 3 hts (gS tw_1266 tw_1267 tw_87 tw_1268) rfl rfl rfl (by decide +kernel) ⟨Nat.le_of_ble_eq_true rfl, Nat.le_of_ble_eq_true rfl⟩) (pS hS hAlo hlo hP hK (va_Dlo hD hAlo) hZ [] (by decide) rfl) rfl rfl hl.1 rfl (lv_room (Nat.le_of_ble_eq_true rfl)) dX8_findRound_199 ⟨Nat.le_of_ble_eq_true rfl, Nat.le_of_ble_eq_true rfl⟩) hS hA hP (fun r_246 H locs hw_246 hP hS => ?_)
              try dsimp only at hw_246
              subst hw_246
              refine lv_iload hx hb dX8_findRound_202 (lv_at hl 2 rfl) ?_
              refine lv_iconst (v := 1) hx hb dX8_findRound_204 (by decide) ?_
              refine lv_iand hx hb dX8_findRound_205 ?_
              refine lv_topi (fun x_247 ex_247 => ?_)
              refine lv_iconst (v := 1) hx hb dX8_findRound_206 (by decide) ?_
              refine lv_icmp_ne (tgt := 222) hx hb dX8_findRound_207 (by decide) (fun c_248 => ?_) (fun c_248 => ?_)
              · refine lv_iload hx hb dX8_findRound_222 (lv_at hl 1 rfl) ?_
                refine va_iast hx hb hK hP hD hS 6 1 rfl rfl (vp_in_nI (by omega) (by decide)) dX8_findRound_224 (fun H locs hP hD hS => ?_)
                replace hP : va_P D classes [((a 0), .inr (8, (fX8 a (nI tx) fp (nI t0) wd (nI we) nu na (nI rd) ts (nI ru) (nI rw) (nI ca) df db sd))), (aI k (a 1) 3 (nF dn)), (aI k (a 4) 27 (sg se tm gs)), (aI k (a 2) 72 ffrees), (aI k (a 3) 72 fprices), (aI k (a 18) 768 f_245), (aI k (a 19) 768 (upd fw_233 (Int32.toNatClampNeg (nI (192 * rn + 8 * q_230 + g_233))) x_242)), (aI k (a 20) 5 fstarts), (aI k (a 21) 4 f_229), (aZ k (a 22) 4 f_227), (aI k (a 23) 8 fbegin)] H := hP
                replace hD : va_D A [((a 0), .inr (8, (fX8 a (nI tx) fp (nI t0) wd (nI we) nu na (nI rd) ts (nI ru) (nI rw) (nI ca) df db sd))), (aI k (a 1) 3 (nF dn)), (aI k (a 4) 27 (sg se tm gs)), (aI k (a 2) 72 ffrees), (aI k (a 3) 72 fprices), (aI k (a 18) 768 f_245), (aI k (a 19) 768 (upd fw_233 (Int32.toNatClampNeg (nI (192 * rn + 8 * q_230 + g_233))) x_242)), (aI k (a 20) 5 fstarts), (aI k (a 21) 4 f_229), (aZ k (a 22) 4 f_227), (aI k (a 23) 8 fbegin)] := hD
                generalize (upd fw_233 (Int32.toNatClampNeg (nI (192 * rn + 8 * q_230 + g_233))) x_242) = f_249 at hP hD
                refine lv_iinc (v := (nI (g_233 + 1))) (lv' := [(7, .int (nI (g_233 + 1))), (9, .int r_243), (8, .int x_242), (6, .int (nI q_230)), (5, .int x_153), (4, .int r_1), (3, .int (nI (dn sn))), (0, .ref (a 0)), (1, .int (nI sn)), (2, .int (nI rn))]) hx hb dX8_findRound_225 hl (k := 2) rfl (nI_add g_233 1) (by decide) rfl (fun ls hl => ?_)
                refine lv_goto (tgt := 111) hx hb dX8_findRound_228 (by decide) ?_
                exact ih_233 _ (g_233 + 1, f_245, f_249) _ _ _ (by omega) ⟨rfl, (by omega), hP, hD, hS, (lv_sub hl [0, 3, 4, 5, 6, 7, 8, 9] rfl)⟩
              · refine lv_iload hx hb dX8_findRound_210 (lv_at hl 0 rfl) ?_
                refine lv_iload hx hb dX8_findRound_212 (lv_at hl 1 rfl) ?_
                refine lv_icmp_gt (tgt := 222) hx hb dX8_findRound_214 (by decide) (fun c_250 => ?_) (fun c_250 => ?_)
                · refine lv_iload hx hb dX8_findRound_222 (lv_at hl 1 rfl) ?_
                  refine va_iast hx hb hK hP hD hS 6 1 rfl rfl (vp_in_nI (by omega) (by decide)) dX8_findRound_224 (fun H locs hP hD hS => ?_)
                  replace hP : va_P D classes [((a 0), .inr (8, (fX8 a (nI tx) fp (nI t0) wd (nI we) nu na (nI rd) ts (nI ru) (nI rw) (nI ca) df db sd))), (aI k (a 1) 3 (nF dn)), (aI k (a 4) 27 (sg se tm gs)), (aI k (a 2) 72 ffrees), (aI k (a 3) 72 fprices), (aI k (a 18) 768 f_245), (aI k (a 19) 768 (upd fw_233 (Int32.toNatClampNeg (nI (192 * rn + 8 * q_230 + g_233))) x_242)), (aI k (a 20) 5 fstarts), (aI k (a 21) 4 f_229), (aZ k (a 22) 4 f_227), (aI k (a 23) 8 fbegin)] H := hP
                  replace hD : va_D A [((a 0), .inr (8, (fX8 a (nI tx) fp (nI t0) wd (nI we) nu na (nI rd) ts (nI ru) (nI rw) (nI ca) df db sd))), (aI k (a 1) 3 (nF dn)), (aI k (a 4) 27 (sg se tm gs)), (aI k (a 2) 72 ffrees), (aI k (a 3) 72 fprices), (aI k (a 18) 768 f_245), (aI k (a 19) 768 (upd fw_233 (Int32.toNatClampNeg (nI (192 * rn + 8 * q_230 + g_233))) x_242)), (aI k (a 20) 5 fstarts), (aI k (a 21) 4 f_229), (aZ k (a 22) 4 f_227), (aI k (a 23) 8 fbegin)] := hD
                  generalize (upd fw_233 (Int32.toNatClampNeg (nI (192 * rn + 8 * q_230 + g_233))) x_242) = f_251 at hP hD
                  refine lv_iinc (v := (nI (g_233 + 1))) (lv' := [(7, .int (nI (g_233 + 1))), (9, .int r_243), (8, .int x_242), (6, .int (nI q_230)), (5, .int x_153), (4, .int r_1), (3, .int (nI (dn sn))), (0, .ref (a 0)), (1, .int (nI sn)), (2, .int (nI rn))]) hx hb dX8_findRound_225 hl (k := 2) rfl (nI_add g_233 1) (by decide) rfl (fun ls hl => ?_)
                  refine lv_goto (tgt := 111) hx hb dX8_findRound_228 (by decide) ?_
                  exact ih_233 _ (g_233 + 1, f_245, f_251) _ _ _ (by omega) ⟨rfl, (by omega), hP, hD, hS, (lv_sub hl [0, 3, 4, 5, 6, 7, 8, 9] rfl)⟩
                · refine lv_iload hx hb dX8_findRound_217 (lv_at hl 0 rfl) ?_
                  refine lv_goto (tgt := 224) hx hb dX8_findRound_219 (by decide) ?_
                  refine va_iast hx hb hK hP hD hS 6 1 rfl rfl (vp_in_nI (by omega) (by decide)) dX8_findRound_224 (fun H locs hP hD hS => ?_)
                  replace hP : va_P D classes [((a 0), .inr (8, (fX8 a (nI tx) fp (nI t0) wd (nI we) nu na (nI rd) ts (nI ru) (nI rw) (nI ca) df db sd))), (aI k (a 1) 3 (nF dn)), (aI k (a 4) 27 (sg se tm gs)), (aI k (a 2) 72 ffrees), (aI k (a 3) 72 fprices), (aI k (a 18) 768 f_245), (aI k (a 19) 768 (upd fw_233 (Int32.toNatClampNeg (nI (192 * rn + 8 * q_230 + g_233))) r_243)), (aI k (a 20) 5 fstarts), (aI k (a 21) 4 f_229), (aZ k (a 22) 4 f_227), (aI k (a 23) 8 fbegin)] H := hP
                  replace hD : va_D A [((a 0), .inr (8, (fX8 a (nI tx) fp (nI t0) wd (nI we) nu na (nI rd) ts (nI ru) (nI rw) (nI ca) df db sd))), (aI k (a 1) 3 (nF dn)), (aI k (a 4) 27 (sg se tm gs)), (aI k (a 2) 72 ffrees), (aI k (a 3) 72 fprices), (aI k (a 18) 768 f_245), (aI k (a 19) 768 (upd fw_233 (Int32.toNatClampNeg (nI (192 * rn + 8 * q_230 + g_233))) r_243)), (aI k (a 20) 5 fstarts), (aI k (a 21) 4 f_229), (aZ k (a 22) 4 f_227), (aI k (a 23) 8 fbegin)] := hD
                  generalize (upd fw_233 (Int32.toNatClampNeg (nI (192 * rn + 8 * q_230 + g_233))) r_243) = f_252 at hP hD
                  refine lv_iinc (v := (nI (g_233 + 1))) (lv' := [(7, .int (nI (g_233 + 1))), (9, .int r_243), (8, .int x_242), (6, .int (nI q_230)), (5, .int x_153), (4, .int r_1), (3, .int (nI (dn sn))), (0, .ref (a 0)), (1, .int (nI sn)), (2, .int (nI rn))]) hx hb dX8_findRound_225 hl (k := 2) rfl (nI_add g_233 1) (by decide) rfl (fun ls hl => ?_)
                  refine lv_goto (tgt := 111) hx hb dX8_findRound_228 (by decide) ?_
                  exact ih_233 _ (g_233 + 1, f_245, f_252) _ _ _ (by omega) ⟨rfl, (by omega), hP, hD, hS, (lv_sub hl [0, 3, 4, 5, 6, 7, 8, 9] rfl)⟩
            · have c_240 := (nI_eq (a := q_230) (b := ((dn sn) - 1)) (by omega) (by omega)).mp c_240
              refine lv_aload_n hx hb dX8_findRound_143 rfl (lv_at hl 5 rfl) ?_
              refine va_get (D := D) (ci := 8) (v := .ref (a 21)) (C := RX8) (T := TX8) (N := 44) hx hb hts inX8 hown hK hP 0 rfl rfl 20 (by decide) (hts _ tw_993) (fun _ h9 => h9) rfl dX8_findRound_144 ?_
              refine lv_iload_n hx hb dX8_findRound_147 rfl (lv_at hl 7 rfl) ?_
              refine va_iald hx hb hK hP 8 1 rfl rfl (vp_in_nI (by omega) (by decide)) dX8_findRound_148 ?_
              refine lv_ti (y := (f_229 rn)) (by rw [nI_clamp (by omega)]) ?_
              refine lv_goto (tgt := 162) hx hb dX8_findRound_149 (by decide) ?_
              refine lv_iadd hx hb dX8_findRound_162 ?_
              refine lv_topi (fun x_253 ex_253 => ?_)
              refine lv_istore (lv' := [(8, .int x_253), (7, .int (nI g_233)), (6, .int (nI q_230)), (5, .int x_153), (4, .int r_1), (3, .int (nI (dn sn))), (0, .ref (a 0)), (1, .int (nI sn)), (2, .int (nI rn))]) hx hb dX8_findRound_163 hl (by decide) rfl (fun ls hl => ?_)
              refine lv_aload_n hx hb dX8_findRound_165 rfl (lv_at hl 6 rfl) ?_
              refine lv_iload_n hx hb dX8_findRound_166 rfl (lv_at hl 7 rfl) ?_
              refine lv_iload_n hx hb dX8_findRound_167 rfl (lv_at hl 8 rfl) ?_
              refine lv_iload hx hb dX8_findRound_168 (lv_at hl 2 rfl) ?_
              refine ro_i (D := D) (va_runV (As := [.int (nI sn), .int (nI rn), .int (nI q_230)]) (rest := []) ⟨hx, hb, hml, hown, hts⟩ ((m_takingOf l D k st lo a tx t0 we rd ru rw ca fp wd nu na ts df db sd dn se tm gs fprices sn q_230 (nI rn) (by omega) (by omega)) H.size) (cwV 3 hts (gV tw_1222 tw_1224 tw_43 tw_87 tw_1225) rfl rfl rfl (by decide +kernel) ⟨Nat.le_of_ble_eq_true rfl, Nat.le_of_ble_eq_true rfl⟩) (pV hS hAlo hlo hP hK (va_Dlo hD hAlo) hZ [0, 1, 2, 4] (by decide) rfl (ci := 8) (q := (RX8, TX8, 44)) (q0 := 0) rfl rfl) rfl rfl hl.1 rfl (lv_room (Nat.le_of_ble_eq_true rfl)) dX8_findRound_170 ⟨Nat.le_of_ble_eq_true rfl, Nat.le_of_ble_eq_true rfl⟩) hS hA hP (fun r_254 H locs hw_254 hP hS => ?_)
              try dsimp only at hw_254
              refine lv_istore (lv' := [(9, .int r_254), (8, .int x_253), (7, .int (nI g_233)), (6, .int (nI q_230)), (5, .int x_153), (4, .int r_1), (3, .int (nI (dn sn))), (0, .ref (a 0)), (1, .int (nI sn)), (2, .int (nI rn))]) hx hb dX8_findRound_173 hl (by decide) rfl (fun ls hl => ?_)
              refine lv_aload_n hx hb dX8_findRound_175 rfl (lv_at hl 7 rfl) ?_
              refine va_get (D := D) (ci := 8) (v := .ref (a 18)) (C := RX8) (T := TX8) (N := 44) hx hb hts inX8 hown hK hP 0 rfl rfl 17 (by decide) (hts _ tw_990) (fun _ h9 => h9) rfl dX8_findRound_176 ?_
              refine lv_iload_n hx hb dX8_findRound_179 rfl (lv_at hl 9 rfl) ?_
              refine lv_iload hx hb dX8_findRound_180 (lv_at hl 3 rfl) ?_
              refine lv_iload hx hb dX8_findRound_182 (lv_at hl 2 rfl) ?_
              refine ro_i (D := D) (va_runS (As := [.int (nI rn), .int (nI q_230), .int (nI g_233)]) (rest := [.ref (a 18)]) ⟨hx, hb, hml, hown, hts⟩ ((m_at l D k st lo rn q_230 g_233) H.size) (va_cwS 3 hts (gS tw_1266 tw_1267 tw_87 tw_1268) rfl rfl rfl (by decide +kernel) ⟨Nat.le_of_ble_eq_true rfl, Nat.le_of_ble_eq_true rfl⟩) (pS hS hAlo hlo hP hK (va_Dlo hD hAlo) hZ [] (by decide) rfl) rfl rfl hl.1 rfl (lv_room (Nat.le_of_ble_eq_true rfl)) dX8_findRound_184 ⟨Nat.le_of_ble_eq_true rfl, Nat.le_of_ble_eq_true rfl⟩) hS hA hP (fun r_255 H locs hw_255 hP hS => ?_)
              try dsimp only at hw_255
              subst hw_255
              refine lv_iload hx hb dX8_findRound_187 (lv_at hl 1 rfl) ?_
              refine va_iast hx hb hK hP hD hS 5 1 rfl rfl (vp_in_nI (by omega) (by decide)) dX8_findRound_189 (fun H locs hP hD hS => ?_)
              replace hP : va_P D classes [((a 0), .inr (8, (fX8 a (nI tx) fp (nI t0) wd (nI we) nu na (nI rd) ts (nI ru) (nI rw) (nI ca) df db sd))), (aI k (a 1) 3 (nF dn)), (aI k (a 4) 27 (sg se tm gs)), (aI k (a 2) 72 ffrees), (aI k (a 3) 72 fprices), (aI k (a 18) 768 (upd fo_233 (Int32.toNatClampNeg (nI (192 * rn + 8 * q_230 + g_233))) x_253)), (aI k (a 19) 768 fw_233), (aI k (a 20) 5 fstarts), (aI k (a 21) 4 f_229), (aZ k (a 22) 4 f_227), (aI k (a 23) 8 fbegin)] H := hP
              replace hD : va_D A [((a 0), .inr (8, (fX8 a (nI tx) fp (nI t0) wd (nI we) nu na (nI rd) ts (nI ru) (nI rw) (nI ca) df db sd))), (aI k (a 1) 3 (nF dn)), (aI k (a 4) 27 (sg se tm gs)), (aI k (a 2) 72 ffrees), (aI k (a 3) 72 fprices), (aI k (a 18) 768 (upd fo_233 (Int32.toNatClampNeg (nI (192 * rn + 8 * q_230 + g_233))) x_253)), (aI k (a 19) 768 fw_233), (aI k (a 20) 5 fstarts), (aI k (a 21) 4 f_229), (aZ k (a 22) 4 f_227), (aI k (a 23) 8 fbegin)] := hD
              generalize (upd fo_233 (Int32.toNatClampNeg (nI (192 * rn + 8 * q_230 + g_233))) x_253) = f_256 at hP hD
              refine lv_aload_n hx hb dX8_findRound_190 rfl (lv_at hl 7 rfl) ?_
              refine va_get (D := D) (ci := 8) (v := .ref (a 19)) (C := RX8) (T := TX8) (N := 44) hx hb hts inX8 hown hK hP 0 rfl rfl 18 (by decide) (hts _ tw_991) (fun _ h9 => h9) rfl dX8_findRound_191 ?_
              refine lv_iload_n hx hb dX8_findRound_194 rfl (lv_at hl 9 rfl) ?_
              refine lv_iload hx hb dX8_findRound_195 (lv_at hl 3 rfl) ?_
              refine lv_iload hx hb dX8_findRound_197 (lv_at hl 2 rfl) ?_
              refine ro_i (D := D) (va_runS (As := [.int (nI rn), .int (nI q_230), .int (nI g_233)]) (rest := [.ref (a 19)]) ⟨hx, hb, hml, hown, hts⟩ ((m_at l D k st lo rn q_230 g_233) H.size) (va_cwS 3 hts (gS tw_1266 tw_1267 tw_87 tw_1268) rfl rfl rfl (by decide +kernel) ⟨Nat.le_of_ble_eq_true rfl, Nat.le_of_ble_eq_true rfl⟩) (pS hS hAlo hlo hP hK (va_Dlo hD hAlo) hZ [] (by decide) rfl) rfl rfl hl.1 rfl (lv_room (Nat.le_of_ble_eq_true rfl)) dX8_findRound_199 ⟨Nat.le_of_ble_eq_true rfl, Nat.le_of_ble_eq_true rfl⟩) hS hA hP (fun r_257 H locs hw_257 hP hS => ?_)
              try dsimp only at hw_257
              subst hw_257
              refine lv_iload hx hb dX8_findRound_202 (lv_at hl 2 rfl) ?_
              refine lv_iconst (v := 1) hx hb dX8_findRound_204 (by decide) ?_
              refine lv_iand hx hb dX8_findRound_205 ?_
              refine lv_topi (fun x_258 ex_258 => ?_)
              refine lv_iconst (v := 1) hx hb dX8_findRound_206 (by decide) ?_
              refine lv_icmp_ne (tgt := 222) hx hb dX8_findRound_207 (by decide) (fun c_259 => ?_) (fun c_259 => ?_)
              · refine lv_iload hx hb dX8_findRound_222 (lv_at hl 1 rfl) ?_
                refine va_iast hx hb hK hP hD hS 6 1 rfl rfl (vp_in_nI (by omega) (by decide)) dX8_findRound_224 (fun H locs hP hD hS => ?_)
                replace hP : va_P D classes [((a 0), .inr (8, (fX8 a (nI tx) fp (nI t0) wd (nI we) nu na (nI rd) ts (nI ru) (nI rw) (nI ca) df db sd))), (aI k (a 1) 3 (nF dn)), (aI k (a 4) 27 (sg se tm gs)), (aI k (a 2) 72 ffrees), (aI k (a 3) 72 fprices), (aI k (a 18) 768 f_256), (aI k (a 19) 768 (upd fw_233 (Int32.toNatClampNeg (nI (192 * rn + 8 * q_230 + g_233))) x_253)), (aI k (a 20) 5 fstarts), (aI k (a 21) 4 f_229), (aZ k (a 22) 4 f_227), (aI k (a 23) 8 fbegin)] H := hP
                replace hD : va_D A [((a 0), .inr (8, (fX8 a (nI tx) fp (nI t0) wd (nI we) nu na (nI rd) ts (nI ru) (nI rw) (nI ca) df db sd))), (aI k (a 1) 3 (nF dn)), (aI k (a 4) 27 (sg se tm gs)), (aI k (a 2) 72 ffrees), (aI k (a 3) 72 fprices), (aI k (a 18) 768 f_256), (aI k (a 19) 768 (upd fw_233 (Int32.toNatClampNeg (nI (192 * rn + 8 * q_230 + g_233))) x_253)), (aI k (a 20) 5 fstarts), (aI k (a 21) 4 f_229), (aZ k (a 22) 4 f_227), (aI k (a 23) 8 fbegin)] := hD
                generalize (upd fw_233 (Int32.toNatClampNeg (nI (192 * rn + 8 * q_230 + g_233))) x_253) = f_260 at hP hD
                refine lv_iinc (v := (nI (g_233 + 1))) (lv' := [(7, .int (nI (g_233 + 1))), (9, .int r_254), (8, .int x_253), (6, .int (nI q_230)), (5, .int x_153), (4, .int r_1), (3, .int (nI (dn sn))), (0, .ref (a 0)), (1, .int (nI sn)), (2, .int (nI rn))]) hx hb dX8_findRound_225 hl (k := 2) rfl (nI_add g_233 1) (by decide) rfl (fun ls hl => ?_)
                refine lv_goto (tgt := 111) hx hb dX8_findRound_228 (by decide) ?_
                exact ih_233 _ (g_233 + 1, f_256, f_260) _ _ _ (by omega) ⟨rfl, (by omega), hP, hD, hS, (lv_sub hl [0, 3, 4, 5, 6, 7, 8, 9] rfl)⟩
              · refine lv_iload hx hb dX8_findRound_210 (lv_at hl 0 rfl) ?_
                refine lv_iload hx hb dX8_findRound_212 (lv_at hl 1 rfl) ?_
                refine lv_icmp_gt (tgt := 222) hx hb dX8_findRound_214 (by decide) (fun c_261 => ?_) (fun c_261 => ?_)
                · refine lv_iload hx hb dX8_findRound_222 (lv_at hl 1 rfl) ?_
                  refine va_iast hx hb hK hP hD hS 6 1 rfl rfl (vp_in_nI (by omega) (by decide)) dX8_findRound_224 (fun H locs hP hD hS => ?_)
                  replace hP : va_P D classes [((a 0), .inr (8, (fX8 a (nI tx) fp (nI t0) wd (nI we) nu na (nI rd) ts (nI ru) (nI rw) (nI ca) df db sd))), (aI k (a 1) 3 (nF dn)), (aI k (a 4) 27 (sg se tm gs)), (aI k (a 2) 72 ffrees), (aI k (a 3) 72 fprices), (aI k (a 18) 768 f_256), (aI k (a 19) 768 (upd fw_233 (Int32.toNatClampNeg (nI (192 * rn + 8 * q_230 + g_233))) x_253)), (aI k (a 20) 5 fstarts), (aI k (a 21) 4 f_229), (aZ k (a 22) 4 f_227), (aI k (a 23) 8 fbegin)] H := hP
                  replace hD : va_D A [((a 0), .inr (8, (fX8 a (nI tx) fp (nI t0) wd (nI we) nu na (nI rd) ts (nI ru) (nI rw) (nI ca) df db sd))), (aI k (a 1) 3 (nF dn)), (aI k (a 4) 27 (sg se tm gs)), (aI k (a 2) 72 ffrees), (aI k (a 3) 72 fprices), (aI k (a 18) 768 f_256), (aI k (a 19) 768 (upd fw_233 (Int32.toNatClampNeg (nI (192 * rn + 8 * q_230 + g_233))) x_253)), (aI k (a 20) 5 fstarts), (aI k (a 21) 4 f_229), (aZ k (a 22) 4 f_227), (aI k (a 23) 8 fbegin)] := hD
                  generalize (upd fw_233 (Int32.toNatClampNeg (nI (192 * rn + 8 * q_230 + g_233))) x_253) = f_262 at hP hD
                  refine lv_iinc (v := (nI (g_233 + 1))) (lv' := [(7, .int (nI (g_233 + 1))), (9, .int r_254), (8, .int x_253), (6, .int (nI q_230)), (5, .int x_153), (4, .int r_1), (3, .int (nI (dn sn))), (0, .ref (a 0)), (1, .int (nI sn)), (2, .int (nI rn))]) hx hb dX8_findRound_225 hl (k := 2) rfl (nI_add g_233 1) (by decide) rfl (fun ls hl => ?_)
                  refine lv_goto (tgt := 111) hx hb dX8_findRound_228 (by decide) ?_
                  exact ih_233 _ (g_233 + 1, f_256, f_262) _ _ _ (by omega) ⟨rfl, (by omega), hP, hD, hS, (lv_sub hl [0, 3, 4, 5, 6, 7, 8, 9] rfl)⟩
                · refine lv_iload hx hb dX8_findRound_217 (lv_at hl 0 rfl) ?_
                  refine lv_goto (tgt := 224) hx hb dX8_findRound_219 (by decide) ?_
                  refine va_iast hx hb hK hP hD hS 6 1 rfl rfl (vp_in_nI (by omega) (by decide)) dX8_findRound_224 (fun H locs hP hD hS => ?_)
                  replace hP : va_P D classes [((a 0), .inr (8, (fX8 a (nI tx) fp (nI t0) wd (nI we) nu na (nI rd) ts (nI ru) (nI rw) (nI ca) df db sd))), (aI k (a 1) 3 (nF dn)), (aI k (a 4) 27 (sg se tm gs)), (aI k (a 2) 72 ffrees), (aI k (a 3) 72 fprices), (aI k (a 18) 768 f_256), (aI k (a 19) 768 (upd fw_233 (Int32.toNatClampNeg (nI (192 * rn + 8 * q_230 + g_233))) r_254)), (aI k (a 20) 5 fstarts), (aI k (a 21) 4 f_229), (aZ k (a 22) 4 f_227), (aI k (a 23) 8 fbegin)] H := hP
                  replace hD : va_D A [((a 0), .inr (8, (fX8 a (nI tx) fp (nI t0) wd (nI we) nu na (nI rd) ts (nI ru) (nI rw) (nI ca) df db sd))), (aI k (a 1) 3 (nF dn)), (aI k (a 4) 27 (sg se tm gs)), (aI k (a 2) 72 ffrees), (aI k (a 3) 72 fprices), (aI k (a 18) 768 f_256), (aI k (a 19) 768 (upd fw_233 (Int32.toNatClampNeg (nI (192 * rn + 8 * q_230 + g_233))) r_254)), (aI k (a 20) 5 fstarts), (aI k (a 21) 4 f_229), (aZ k (a 22) 4 f_227), (aI k (a 23) 8 fbegin)] := hD
                  generalize (upd fw_233 (Int32.toNatClampNeg (nI (192 * rn + 8 * q_230 + g_233))) r_254) = f_263 at hP hD
                  refine lv_iinc (v := (nI (g_233 + 1))) (lv' := [(7, .int (nI (g_233 + 1))), (9, .int r_254), (8, .int x_253), (6, .int (nI q_230)), (5, .int x_153), (4, .int r_1), (3, .int (nI (dn sn))), (0, .ref (a 0)), (1, .int (nI sn)), (2, .int (nI rn))]) hx hb dX8_findRound_225 hl (k := 2) rfl (nI_add g_233 1) (by decide) rfl (fun ls hl => ?_)
                  refine lv_goto (tgt := 111) hx hb dX8_findRound_228 (by decide) ?_
                  exact ih_233 _ (g_233 + 1, f_256, f_263) _ _ _ (by omega) ⟨rfl, (by omega), hP, hD, hS, (lv_sub hl [0, 3, 4, 5, 6, 7, 8, 9] rfl)⟩
      · refine lv_iload hx hb dX8_findRound_90 (lv_at hl 0 rfl) ?_
        refine lv_goto (tgt := 97) hx hb dX8_findRound_92 (by decide) ?_
        refine va_iast hx hb hK hP hD hS 8 1 rfl rfl (vp_in_nI (by omega) (by decide)) dX8_findRound_97 (fun H locs hP hD hS => ?_)
        replace hP : va_P D classes [((a 0), .inr (8, (fX8 a (nI tx) fp (nI t0) wd (nI we) nu na (nI rd) ts (nI ru) (nI rw) (nI ca) df db sd))), (aI k (a 1) 3 (nF dn)), (aI k (a 4) 27 (sg se tm gs)), (aI k (a 2) 72 ffrees), (aI k (a 3) 72 fprices), (aI k (a 18) 768 fons), (aI k (a 19) 768 fworths), (aI k (a 20) 5 fstarts), (aI k (a 21) 4 (upd fends (Int32.toNatClampNeg (nI rn)) x_153)), (aZ k (a 22) 4 f_227), (aI k (a 23) 8 fbegin)] H := hP
        replace hD : va_D A [((a 0), .inr (8, (fX8 a (nI tx) fp (nI t0) wd (nI we) nu na (nI rd) ts (nI ru) (nI rw) (nI ca) df db sd))), (aI k (a 1) 3 (nF dn)), (aI k (a 4) 27 (sg se tm gs)), (aI k (a 2) 72 ffrees), (aI k (a 3) 72 fprices), (aI k (a 18) 768 fons), (aI k (a 19) 768 fworths), (aI k (a 20) 5 fstarts), (aI k (a 21) 4 (upd fends (Int32.toNatClampNeg (nI rn)) x_153)), (aZ k (a 22) 4 f_227), (aI k (a 23) 8 fbegin)] := hD
        generalize (upd fends (Int32.toNatClampNeg (nI rn)) x_153) = f_264 at hP hD
        refine lv_iload_n hx hb dX8_findRound_98 rfl (lv_at hl 2 rfl) ?_
        refine lv_iconst (v := 1) hx hb dX8_findRound_99 (by decide) ?_
        refine lv_isub hx hb dX8_findRound_100 ?_
        refine lv_ti (y := (nI (dn sn) - 1)) rfl ?_
        refine lv_istore (lv' := [(6, .int (nI (dn sn) - 1)), (5, .int x_153), (4, .int r_1), (3, .int (nI (dn sn))), (0, .ref (a 0)), (1, .int (nI sn)), (2, .int (nI rn))]) hx hb dX8_findRound_101 hl (by decide) rfl (fun ls hl => ?_)
        refine W_loop (σ := Nat × (Nat → Int32) × (Nat → Int32)) (fun (n_ : Nat) (x_ : Nat × (Nat → Int32) × (Nat → Int32)) (H : Heap) (locs : List Loc) (ls : Array Slot) => match x_ with | (q_265, fo_265, fw_265) => n_ = 2 * q_265 ∧ (q_265 ≤ dn sn) ∧ va_P D classes [((a 0), .inr (8, (fX8 a (nI tx) fp (nI t0) wd (nI we) nu na (nI rd) ts (nI ru) (nI rw) (nI ca) df db sd))), (aI k (a 1) 3 (nF dn)), (aI k (a 4) 27 (sg se tm gs)), (aI k (a 2) 72 ffrees), (aI k (a 3) 72 fprices), (aI k (a 18) 768 fo_265), (aI k (a 19) 768 fw_265), (aI k (a 20) 5 fstarts), (aI k (a 21) 4 f_264), (aZ k (a 22) 4 f_227), (aI k (a 23) 8 fbegin)] H ∧ va_D A [((a 0), .inr (8, (fX8 a (nI tx) fp (nI t0) wd (nI we) nu na (nI rd) ts (nI ru) (nI rw) (nI ca) df db sd))), (aI k (a 1) 3 (nF dn)), (aI k (a 4) 27 (sg se tm gs)), (aI k (a 2) 72 ffrees), (aI k (a 3) 72 fprices), (aI k (a 18) 768 fo_265), (aI k (a 19) 768 fw_265), (aI k (a 20) 5 fstarts), (aI k (a 21) 4 f_264), (aZ k (a 22) 4 f_227), (aI k (a 23) 8 fbegin)] ∧ va_S A s.heap H locs ∧ lv_has ls 10 [(6, .int (nI q_265 - 1)), (5, .int x_153), (4, .int r_1), (3, .int (nI (dn sn))), (0, .ref (a 0)), (1, .int (nI sn)), (2, .int (nI rn))]) (fun n_265 x_265 H locs ls hI ih_265 => ?_) _ (dn sn, fons, fworths) ⟨rfl, (by omega), hP, hD, hS, (lv_sub hl [0, 1, 2, 3, 4, 5, 6] rfl)⟩
        obtain ⟨q_265, fo_265, fw_265⟩ := x_265
        obtain ⟨hm_265, hv_265, hP, hD, hS, hl⟩ := hI
        subst hm_265
        rcases q_265 with _ | q_265
        · rw [dn0] at hl
          refine lv_iload hx hb dX8_findRound_103 (lv_at hl 0 rfl) ?_
          refine lv_if_lt (tgt := 237) hx hb dX8_findRound_105 (by decide) (fun _ => ?_) (fun h => absurd (by decide) h)
          refine lv_aload_n hx hb dX8_findRound_237 rfl (lv_at hl 4 rfl) ?_
          refine va_get (D := D) (ci := 8) (v := .ref (a 20)) (C := RX8) (T := TX8) (N := 44) hx hb hts inX8 hown hK hP 0 rfl rfl 19 (by decide) (hts _ tw_992) (fun _ h9 => h9) rfl dX8_findRound_238 ?_
          refine lv_iload_n hx hb dX8_findRound_241 rfl (lv_at hl 6 rfl) ?_
          refine lv_aload_n hx hb dX8_findRound_242 rfl (lv_at hl 4 rfl) ?_
          refine lv_iload_n hx hb dX8_findRound_243 rfl (lv_at hl 5 rfl) ?_
          refine lv_iload_n hx hb dX8_findRound_244 rfl (lv_at hl 6 rfl) ?_
          refine rw_i (D := D) (wr := [(aI k (a 3) 72 fprices), (aI k (a 18) 768 fo_265), (aI k (a 20) 5 fstarts), (aI k (a 21) 4 f_264), (aZ k (a 22) 4 f_227)]) (va_runV (As := [.int (nI sn), .int (nI rn)]) (rest := [.int (nI rn), .ref (a 20)]) ⟨hx, hb, hml, hown, hts⟩ ((m_startOf l D k st lo a tx t0 we rd ru rw ca fp wd nu na ts df db sd dn se tm gs ffrees fw_265 fbegin sn rn hdn hse (by omega) (by omega) (by omega)) H.size) (cwV 2 hts (gV tw_1273 tw_1275 tw_53 tw_87 tw_1276) rfl rfl rfl (by decide +kernel) ⟨Nat.le_of_ble_eq_true rfl, Nat.le_of_ble_eq_true rfl⟩) (pV hS hAlo hlo hP hK (va_Dlo hD hAlo) hZ [0, 1, 2, 3, 6, 10] (by decide) rfl (ci := 8) (q := (RX8, TX8, 44)) (q0 := 0) rfl rfl) rfl rfl hl.1 rfl (lv_room (Nat.le_of_ble_eq_true rfl)) dX8_findRound_245 ⟨Nat.le_of_ble_eq_true rfl, Nat.le_of_ble_eq_true rfl⟩) hS hA hP hD [0, 1, 2, 3, 6, 10] [4, 5, 7, 8, 9] rfl rfl (by decide +kernel) (by decide +kernel) (fun r_266 u H locs hw_266 hP hD hS => ?_)
          obtain ⟨fbegin__266, rfl⟩ : ∃ z, z = u := ⟨_, rfl⟩
          replace hP : va_P D classes [(aI k (a 3) 72 fprices), (aI k (a 18) 768 fo_265), (aI k (a 20) 5 fstarts), (aI k (a 21) 4 f_264), (aZ k (a 22) 4 f_227), ((a 0), .inr (8, (fX8 a (nI tx) fp (nI t0) wd (nI we) nu na (nI rd) ts (nI ru) (nI rw) (nI ca) df db sd))), (aI k (a 1) 3 (nF dn)), (aI k (a 4) 27 (sg se tm gs)), (aI k (a 2) 72 ffrees), (aI k (a 19) 768 fw_265), (aI k (a 23) 8 fbegin__266)] H := hP
          replace hD : va_D A [(aI k (a 3) 72 fprices), (aI k (a 18) 768 fo_265), (aI k (a 20) 5 fstarts), (aI k (a 21) 4 f_264), (aZ k (a 22) 4 f_227), ((a 0), .inr (8, (fX8 a (nI tx) fp (nI t0) wd (nI we) nu na (nI rd) ts (nI ru) (nI rw) (nI ca) df db sd))), (aI k (a 1) 3 (nF dn)), (aI k (a 4) 27 (sg se tm gs)), (aI k (a 2) 72 ffrees), (aI k (a 19) 768 fw_265), (aI k (a 23) 8 fbegin__266)] := hD
          try dsimp only at hw_266
          refine va_iast hx hb hK hP hD hS 2 1 rfl rfl (vp_in_nI (by omega) (by decide)) dX8_findRound_248 (fun H locs hP hD hS => ?_)
          replace hP : va_P D classes [(aI k (a 3) 72 fprices), (aI k (a 18) 768 fo_265), (aI k (a 20) 5 (upd fstarts (Int32.toNatClampNeg (nI rn)) r_266)), (aI k (a 21) 4 f_264), (aZ k (a 22) 4 f_227), ((a 0), .inr (8, (fX8 a (nI tx) fp (nI t0) wd (nI we) nu na (nI rd) ts (nI ru) (nI rw) (nI ca) df db sd))), (aI k (a 1) 3 (nF dn)), (aI k (a 4) 27 (sg se tm gs)), (aI k (a 2) 72 ffrees), (aI k (a 19) 768 fw_265), (aI k (a 23) 8 fbegin__266)] H := hP
          replace hD : va_D A [(aI k (a 3) 72 fprices), (aI k (a 18) 768 fo_265), (aI k (a 20) 5 (upd fstarts (Int32.toNatClampNeg (nI rn)) r_266)), (aI k (a 21) 4 f_264), (aZ k (a 22) 4 f_227), ((a 0), .inr (8, (fX8 a (nI tx) fp (nI t0) wd (nI we) nu na (nI rd) ts (nI ru) (nI rw) (nI ca) df db sd))), (aI k (a 1) 3 (nF dn)), (aI k (a 4) 27 (sg se tm gs)), (aI k (a 2) 72 ffrees), (aI k (a 19) 768 fw_265), (aI k (a 23) 8 fbegin__266)] := hD
          generalize (upd fstarts (Int32.toNatClampNeg (nI rn)) r_266) = f_267 at hP hD
          have hP9 := hP.sub (ws' := [((a 0), .inr (8, (fX8 a (nI tx) fp (nI t0) wd (nI we) nu na (nI rd) ts (nI ru) (nI rw) (nI ca) df db sd))), (aI k (a 1) 3 (nF dn)), (aI k (a 4) 27 (sg se tm gs)), (aI k (a 2) 72 ffrees), (aI k (a 3) 72 fprices), (aI k (a 18) 768 fo_265), (aI k (a 19) 768 fw_265), (aI k (a 20) 5 f_267), (aI k (a 21) 4 f_264), (aZ k (a 22) 4 f_227), (aI k (a 23) 8 fbegin__266)]) [5, 6, 7, 8, 0, 1, 9, 2, 3, 4, 10] rfl
          have hD9 := hD.sub (ws' := [((a 0), .inr (8, (fX8 a (nI tx) fp (nI t0) wd (nI we) nu na (nI rd) ts (nI ru) (nI rw) (nI ca) df db sd))), (aI k (a 1) 3 (nF dn)), (aI k (a 4) 27 (sg se tm gs)), (aI k (a 2) 72 ffrees), (aI k (a 3) 72 fprices), (aI k (a 18) 768 fo_265), (aI k (a 19) 768 fw_265), (aI k (a 20) 5 f_267), (aI k (a 21) 4 f_264), (aZ k (a 22) 4 f_227), (aI k (a 23) 8 fbegin__266)]) [5, 6, 7, 8, 0, 1, 9, 2, 3, 4, 10] (by decide +kernel) rfl
          exact W.vret hx hb hr (fun t ht hW => ⟨⟨(fo_265, fw_265, f_267, f_264, f_227, fbegin__266), rfl, trivial, by rw [ht]; exact hP9, hD9⟩, hS.F ht⟩) hS.2.2 dX8_findRound_249
        · rw [nI_pred] at hl
          refine lv_iload hx hb dX8_findRound_103 (lv_at hl 0 rfl) ?_
          refine lv_if_lt (tgt := 237) hx hb dX8_findRound_105 (by decide) (fun h => absurd h (nI_pos0 (by omega))) (fun _ => ?_)
          refine lv_iconst (v := 0) hx hb dX8_findRound_108 (by decide) ?_
          refine lv_istore (lv' := [(7, .int 0), (6, .int (nI q_265)), (5, .int x_153), (4, .int r_1), (3, .int (nI (dn sn))), (0, .ref (a 0)), (1, .int (nI sn)), (2, .int (nI rn))]) hx hb dX8_findRound_109 hl (by decide) rfl (fun ls hl => ?_)
          refine W_loop (σ := Nat × (Nat → Int32) × (Nat → Int32)) (fun (n_ : Nat) (x_ : Nat × (Nat → Int32) × (Nat → Int32)) (H : Heap) (locs : List Loc) (ls : Array Slot) => match x_ with | (g_268, fo_268, fw_268) => n_ = 8 - g_268 ∧ (g_268 ≤ 8) ∧ va_P D classes [((a 0), .inr (8, (fX8 a (nI tx) fp (nI t0) wd (nI we) nu na (nI rd) ts (nI ru) (nI rw) (nI ca) df db sd))), (aI k (a 1) 3 (nF dn)), (aI k (a 4) 27 (sg se tm gs)), (aI k (a 2) 72 ffrees), (aI k (a 3) 72 fprices), (aI k (a 18) 768 fo_268), (aI k (a 19) 768 fw_268), (aI k (a 20) 5 fstarts), (aI k (a 21) 4 f_264), (aZ k (a 22) 4 f_227), (aI k (a 23) 8 fbegin)] H ∧ va_D A [((a 0), .inr (8, (fX8 a (nI tx) fp (nI t0) wd (nI we) nu na (nI rd) ts (nI ru) (nI rw) (nI ca) df db sd))), (aI k (a 1) 3 (nF dn)), (aI k (a 4) 27 (sg se tm gs)), (aI k (a 2) 72 ffrees), (aI k (a 3) 72 fprices), (aI k (a 18) 768 fo_268), (aI k (a 19) 768 fw_268), (aI k (a 20) 5 fstarts), (aI k (a 21) 4 f_264), (aZ k (a 22) 4 f_227), (aI k (a 23) 8 fbegin)] ∧ va_S A s.heap H locs ∧ lv_has ls 10 [(7, .int (nI g_268)), (6, .int (nI q_265)), (5, .int x_153), (4, .int r_1), (3, .int (nI (dn sn))), (0, .ref (a 0)), (1, .int (nI sn)), (2, .int (nI rn))]) (fun n_268 x_268 H locs ls hI ih_268 => ?_) _ (0, fo_265, fw_265) ⟨rfl, (by omega), hP, hD, hS, (lv_sub hl [0, 1, 2, 3, 4, 5, 6, 7] rfl)⟩
          obtain ⟨g_268, fo_268, fw_268⟩ := x_268
          obtain ⟨hm_268, hv_268, hP, hD, hS, hl⟩ := hI
          subst hm_268
          refine lv_iload hx hb dX8_findRound_111 (lv_at hl 0 rfl) ?_
          refine lv_iconst (v := 1) hx hb dX8_findRound_113 (by decide) ?_
          refine lv_aload_n hx hb dX8_findRound_114 rfl (lv_at hl 5 rfl) ?_
          refine lv_iload_n hx hb dX8_findRound_115 rfl (lv_at hl 6 rfl) ?_
          refine lv_iload hx hb dX8_findRound_116 (lv_at hl 1 rfl) ?_
          refine ro_i (D := D) (va_runV (As := [.int (nI sn), .int (nI q_265)]) (rest := [.int 1, .int (nI g_268)]) ⟨hx, hb, hml, hown, hts⟩ ((m_seen l D k st lo a tx t0 we rd ru rw ca fp wd nu na ts df db sd dn se tm gs sn q_265 hdn hse (by omega) (by omega)) H.size) (cwV 2 hts (gV tw_1246 tw_1248 tw_48 tw_87 tw_1249) rfl rfl rfl (by decide +kernel) ⟨Nat.le_of_ble_eq_true rfl, Nat.le_of_ble_eq_true rfl⟩) (pV hS hAlo hlo hP hK (va_Dlo hD hAlo) hZ [0, 1, 2] (by decide) rfl (ci := 8) (q := (RX8, TX8, 44)) (q0 := 0) rfl rfl) rfl rfl hl.1 rfl (lv_room (Nat.le_of_ble_eq_true rfl)) dX8_findRound_118 ⟨Nat.le_of_ble_eq_true rfl, Nat.le_of_ble_eq_true rfl⟩) hS hA hP (fun r_269 H locs hw_269 hP hS => ?_)
          try dsimp only at hw_269
          obtain ⟨sv_270, esv_270⟩ : ∃ z : Nat, z = (if dn sn - q_265 < se sn + 1 then dn sn - q_265 else se sn + 1) := ⟨_, rfl⟩
          rw [← esv_270] at hw_269
          subst hw_269
          have hsv_270 : sv_270 ≤ 3 ∧ sv_270 ≤ dn sn - q_265 ∧ (0 < dn sn - q_265 → 1 ≤ sv_270) := by
            have hse9 := hse sn
            split at esv_270 <;> omega
          obtain ⟨pw_271, epw_271⟩ : ∃ z : Nat, z = 2 ^ sv_270 := ⟨_, rfl⟩
          have hpw_271 : 1 ≤ pw_271 ∧ pw_271 ≤ 8 := by rw [epw_271]; exact pw8 (by omega)
          refine lv_ishl hx hb dX8_findRound_121 ?_
          refine lv_ti (y := (nI pw_271)) (by rw [epw_271]; exact shl1 sv_270 (by omega)) ?_
          refine lv_icmp_ge (tgt := 231) hx hb dX8_findRound_122 (by decide) (fun c_272 => ?_) (fun c_272 => ?_)
          · have c_272 := (nI_leI (a := pw_271) (b := g_268) (by omega) (by omega)).mp c_272
            refine lv_iinc (v := (nI q_265 - 1)) (lv' := [(6, .int (nI q_265 - 1)), (7, .int (nI g_268)), (5, .int x_153), (4, .int r_1), (3, .int (nI (dn sn))), (0, .ref (a 0)), (1, .int (nI sn)), (2, .int (nI rn))]) hx hb dX8_findRound_231 hl (k := 1) rfl (dn1 _) (by decide) rfl (fun ls hl => ?_)
            refine lv_goto (tgt := 103) hx hb dX8_findRound_234 (by decide) ?_
            exact ih_265 _ (q_265, fo_268, fw_268) _ _ _ (by omega) ⟨rfl, (by omega), hP, hD, hS, (lv_sub hl [0, 2, 3, 4, 5, 6, 7] rfl)⟩
          · have c_272 : ¬ (pw_271 ≤ g_268) := fun h => c_272 ((nI_leI (a := pw_271) (b := g_268) (by omega) (by omega)).mpr h)
            refine lv_aload_n hx hb dX8_findRound_125 rfl (lv_at hl 5 rfl) ?_
            refine lv_iload_n hx hb dX8_findRound_126 rfl (lv_at hl 6 rfl) ?_
            refine lv_iconst (v := 2) hx hb dX8_findRound_127 (by decide) ?_
            refine ro_i (D := D) (va_runV (As := [.int (nI sn), .int 2]) (rest := []) ⟨hx, hb, hml, hown, hts⟩ ((m_of l D k st lo a tx t0 we rd ru rw ca fp wd nu na ts df db sd se tm gs sn 2 (by omega) (by omega)) H.size) (cwV 2 hts (gV tw_1194 tw_1196 tw_39 tw_87 tw_1197) rfl rfl rfl (by decide +kernel) ⟨Nat.le_of_ble_eq_true rfl, Nat.le_of_ble_eq_true rfl⟩) (pV hS hAlo hlo hP hK (va_Dlo hD hAlo) hZ [0, 2] (by decide) rfl (ci := 8) (q := (RX8, TX8, 44)) (q0 := 0) rfl rfl) rfl rfl hl.1 rfl (lv_room (Nat.le_of_ble_eq_true rfl)) dX8_findRound_128 ⟨Nat.le_of_ble_eq_true rfl, Nat.le_of_ble_eq_true rfl⟩) hS hA hP (fun r_273 H locs hw_273 hP hS => ?_)
            try dsimp only at hw_273
            refine lv_sipush (v := 1000) hx hb dX8_findRound_131 (by decide) ?_
            refine lv_imul hx hb dX8_findRound_134 ?_
            refine lv_topi (fun x_274 ex_274 => ?_)
            refine lv_iload hx hb dX8_findRound_135 (lv_at hl 1 rfl) ?_
            refine lv_iload_n hx hb dX8_findRound_137 rfl (lv_at hl 4 rfl) ?_
            refine lv_iconst (v := 1) hx hb dX8_findRound_138 (by decide) ?_
            refine lv_isub hx hb dX8_findRound_139 ?_
            refine lv_ti (y := (nI ((dn sn) - 1))) (pk_sub (a := (dn sn)) (b := 1) (by omega)) ?_
            refine lv_icmp_ne (tgt := 152) hx hb dX8_findRound_140 (by decide) (fun c_275 => ?_) (fun c_275 => ?_)
            · have c_275 : ¬ (q_265 = ((dn sn) - 1)) := fun h => c_275 ((nI_eq (a := q_265) (b := ((dn sn) - 1)) (by omega) (by omega)).mpr h)
              refine lv_aload_n hx hb dX8_findRound_152 rfl (lv_at hl 5 rfl) ?_
              refine lv_iload_n hx hb dX8_findRound_153 rfl (lv_at hl 6 rfl) ?_
              refine lv_iload_n hx hb dX8_findRound_154 rfl (lv_at hl 7 rfl) ?_
              refine lv_iload hx hb dX8_findRound_155 (lv_at hl 1 rfl) ?_
              refine lv_iload hx hb dX8_findRound_157 (lv_at hl 0 rfl) ?_
              refine ro_i (D := D) (va_runV (As := [.int (nI sn), .int (nI rn), .int (nI q_265), .int (nI g_268)]) (rest := [.int x_274]) ⟨hx, hb, hml, hown, hts⟩ ((m_on l D k st lo a tx t0 we rd ru rw ca fp wd nu na ts df db sd dn se tm gs ffrees fw_268 sn rn q_265 g_268 hdn hse (by omega) (by omega) (by omega) (by omega)) H.size) (cwV 4 hts (gV tw_1262 tw_1264 tw_52 tw_87 tw_1265) rfl rfl rfl (by decide +kernel) ⟨Nat.le_of_ble_eq_true rfl, Nat.le_of_ble_eq_true rfl⟩) (pV hS hAlo hlo hP hK (va_Dlo hD hAlo) hZ [0, 1, 2, 3, 6] (by decide) rfl (ci := 8) (q := (RX8, TX8, 44)) (q0 := 0) rfl rfl) rfl rfl hl.1 rfl (lv_room (Nat.le_of_ble_eq_true rfl)) dX8_findRound_159 ⟨Nat.le_of_ble_eq_true rfl, Nat.le_of_ble_eq_true rfl⟩) hS hA hP (fun r_276 H locs hw_276 hP hS => ?_)
              try dsimp only at hw_276
              refine lv_iadd hx hb dX8_findRound_162 ?_
              refine lv_topi (fun x_277 ex_277 => ?_)
              refine lv_istore (lv' := [(8, .int x_277), (7, .int (nI g_268)), (6, .int (nI q_265)), (5, .int x_153), (4, .int r_1), (3, .int (nI (dn sn))), (0, .ref (a 0)), (1, .int (nI sn)), (2, .int (nI rn))]) hx hb dX8_findRound_163 hl (by decide) rfl (fun ls hl => ?_)
              refine lv_aload_n hx hb dX8_findRound_165 rfl (lv_at hl 6 rfl) ?_
              refine lv_iload_n hx hb dX8_findRound_166 rfl (lv_at hl 7 rfl) ?_
              refine lv_iload_n hx hb dX8_findRound_167 rfl (lv_at hl 8 rfl) ?_
              refine lv_iload hx hb dX8_findRound_168 (lv_at hl 2 rfl) ?_
              refine ro_i (D := D) (va_runV (As := [.int (nI sn), .int (nI rn), .int (nI q_265)]) (rest := []) ⟨hx, hb, hml, hown, hts⟩ ((m_takingOf l D k st lo a tx t0 we rd ru rw ca fp wd nu na ts df db sd dn se tm gs fprices sn q_265 (nI rn) (by omega) (by omega)) H.size) (cwV 3 hts (gV tw_1222 tw_1224 tw_43 tw_87 tw_1225) rfl rfl rfl (by decide +kernel) ⟨Nat.le_of_ble_eq_true rfl, Nat.le_of_ble_eq_true rfl⟩) (pV hS hAlo hlo hP hK (va_Dlo hD hAlo) hZ [0, 1, 2, 4] (by decide) rfl (ci := 8) (q := (RX8, TX8, 44)) (q0 := 0) rfl rfl) rfl rfl hl.1 rfl (lv_room (Nat.le_of_ble_eq_true rfl)) dX8_findRound_170 ⟨Nat.le_of_ble_eq_true rfl, Nat.le_of_ble_eq_true rfl⟩) hS hA hP (fun r_278 H locs hw_278 hP hS => ?_)
              try dsimp only at hw_278
              refine lv_istore (lv' := [(9, .int r_278), (8, .int x_277), (7, .int (nI g_268)), (6, .int (nI q_265)), (5, .int x_153), (4, .int r_1), (3, .int (nI (dn sn))), (0, .ref (a 0)), (1, .int (nI sn)), (2, .int (nI rn))]) hx hb dX8_findRound_173 hl (by decide) rfl (fun ls hl => ?_)
              refine lv_aload_n hx hb dX8_findRound_175 rfl (lv_at hl 7 rfl) ?_
              refine va_get (D := D) (ci := 8) (v := .ref (a 18)) (C := RX8) (T := TX8) (N := 44) hx hb hts inX8 hown hK hP 0 rfl rfl 17 (by decide) (hts _ tw_990) (fun _ h9 => h9) rfl dX8_findRound_176 ?_
              refine lv_iload_n hx hb dX8_findRound_179 rfl (lv_at hl 9 rfl) ?_
              refine lv_iload hx hb dX8_findRound_180 (lv_at hl 3 rfl) ?_
              refine lv_iload hx hb dX8_findRound_182 (lv_at hl 2 rfl) ?_
              refine ro_i (D := D) (va_runS (As := [.int (nI rn), .int (nI q_265), .int (nI g_268)]) (rest := [.ref (a 18)]) ⟨hx, hb, hml, hown, hts⟩ ((m_at l D k st lo rn q_265 g_268) H.size) (va_cwS 3 hts (gS tw_1266 tw_1267 tw_87 tw_1268) rfl rfl rfl (by decide +kernel) ⟨Nat.le_of_ble_eq_true rfl, Nat.le_of_ble_eq_true rfl⟩) (pS hS hAlo hlo hP hK (va_Dlo hD hAlo) hZ [] (by decide) rfl) rfl rfl hl.1 rfl (lv_room (Nat.le_of_ble_eq_true rfl)) dX8_findRound_184 ⟨Nat.le_of_ble_eq_true rfl, Nat.le_of_ble_eq_true rfl⟩) hS hA hP (fun r_279 H locs hw_279 hP hS => ?_)
              try dsimp only at hw_279
              subst hw_279
              refine lv_iload hx hb dX8_findRound_187 (lv_at hl 1 rfl) ?_
              refine va_iast hx hb hK hP hD hS 5 1 rfl rfl (vp_in_nI (by omega) (by decide)) dX8_findRound_189 (fun H locs hP hD hS => ?_)
              replace hP : va_P D classes [((a 0), .inr (8, (fX8 a (nI tx) fp (nI t0) wd (nI we) nu na (nI rd) ts (nI ru) (nI rw) (nI ca) df db sd))), (aI k (a 1) 3 (nF dn)), (aI k (a 4) 27 (sg se tm gs)), (aI k (a 2) 72 ffrees), (aI k (a 3) 72 fprices), (aI k (a 18) 768 (upd fo_268 (Int32.toNatClampNeg (nI (192 * rn + 8 * q_265 + g_268))) x_277)), (aI k (a 19) 768 fw_268), (aI k (a 20) 5 fstarts), (aI k (a 21) 4 f_264), (aZ k (a 22) 4 f_227), (aI k (a 23) 8 fbegin)] H := hP
              replace hD : va_D A [((a 0), .inr (8, (fX8 a (nI tx) fp (nI t0) wd (nI we) nu na (nI rd) ts (nI ru) (nI rw) (nI ca) df db sd))), (aI k (a 1) 3 (nF dn)), (aI k (a 4) 27 (sg se tm gs)), (aI k (a 2) 72 ffrees), (aI k (a 3) 72 fprices), (aI k (a 18) 768 (upd fo_268 (Int32.toNatClampNeg (nI (192 * rn + 8 * q_265 + g_268))) x_277)), (aI k (a 19) 768 fw_268), (aI k (a 20) 5 fstarts), (aI k (a 21) 4 f_264), (aZ k (a 22) 4 f_227), (aI k (a 23) 8 fbegin)] := hD
              generalize (upd fo_268 (Int32.toNatClampNeg (nI (192 * rn + 8 * q_265 + g_268))) x_277) = f_280 at hP hD
              refine lv_aload_n hx hb dX8_findRound_190 rfl (lv_at hl 7 rfl) ?_
              refine va_get (D := D) (ci := 8) (v := .ref (a 19)) (C := RX8) (T := TX8) (N := 44) hx hb hts inX8 hown hK hP 0 rfl rfl 18 (by decide) (hts _ tw_991) (fun _ h9 => h9) rfl dX8_findRound_191 ?_
              refine lv_iload_n hx hb dX8_findRound_194 rfl (lv_at hl 9 rfl) ?_
              refine lv_iload hx hb dX8_findRound_195 (lv_at hl 3 rfl) ?_
              refine lv_iload hx hb dX8_findRound_197 (lv_at hl 2 rfl) ?_
              refine ro_i (D := D) (va_runS (As := [.int (nI rn), .int (nI q_265), .int (nI g_268)]) (rest := [.ref (a 19)]) ⟨hx, hb, hml, hown, hts⟩ ((m_at l D k st lo rn q_265 g_268) H.size) (va_cwS 3 hts (gS tw_1266 tw_1267 tw_87 tw_1268) rfl rfl rfl (by decide +kernel) ⟨Nat.le_of_ble_eq_true rfl, Nat.le_of_ble_eq_true rfl⟩) (pS hS hAlo hlo hP hK (va_Dlo hD hAlo) hZ [] (by decide) rfl) rfl rfl hl.1 rfl (lv_room (Nat.le_of_ble_eq_true rfl)) dX8_findRound_199 ⟨Nat.le_of_ble_eq_true rfl, Nat.le_of_ble_eq_true rfl⟩) hS hA hP (fun r_281 H locs hw_281 hP hS => ?_)
              try dsimp only at hw_281
              subst hw_281
              refine lv_iload hx hb dX8_findRound_202 (lv_at hl 2 rfl) ?_
              refine lv_iconst (v := 1) hx hb dX8_findRound_204 (by decide) ?_
              refine lv_iand hx hb dX8_findRound_205 ?_
              refine lv_topi (fun x_282 ex_282 => ?_)
              refine lv_iconst (v := 1) hx hb dX8_findRound_206 (by decide) ?_
              refine lv_icmp_ne (tgt := 222) hx hb dX8_findRound_207 (by decide) (fun c_283 => ?_) (fun c_283 => ?_)
              · refine lv_iload hx hb dX8_findRound_222 (lv_at hl 1 rfl) ?_
                refine va_iast hx hb hK hP hD hS 6 1 rfl rfl (vp_in_nI (by omega) (by decide)) dX8_findRound_224 (fun H locs hP hD hS => ?_)
                replace hP : va_P D classes [((a 0), .inr (8, (fX8 a (nI tx) fp (nI t0) wd (nI we) nu na (nI rd) ts (nI ru) (nI rw) (nI ca) df db sd))), (aI k (a 1) 3 (nF dn)), (aI k (a 4) 27 (sg se tm gs)), (aI k (a 2) 72 ffrees), (aI k (a 3) 72 fprices), (aI k (a 18) 768 f_280), (aI k (a 19) 768 (upd fw_268 (Int32.toNatClampNeg (nI (192 * rn + 8 * q_265 + g_268))) x_277)), (aI k (a 20) 5 fstarts), (aI k (a 21) 4 f_264), (aZ k (a 22) 4 f_227), (aI k (a 23) 8 fbegin)] H := hP
                replace hD : va_D A [((a 0), .inr (8, (fX8 a (nI tx) fp (nI t0) wd (nI we) nu na (nI rd) ts (nI ru) (nI rw) (nI ca) df db sd))), (aI k (a 1) 3 (nF dn)), (aI k (a 4) 27 (sg se tm gs)), (aI k (a 2) 72 ffrees), (aI k (a 3) 72 fprices), (aI k (a 18) 768 f_280), (aI k (a 19) 768 (upd fw_268 (Int32.toNatClampNeg (nI (192 * rn + 8 * q_265 + g_268))) x_277)), (aI k (a 20) 5 fstarts), (aI k (a 21) 4 f_264), (aZ k (a 22) 4 f_227), (aI k (a 23) 8 fbegin)] := hD
                generalize (upd fw_268 (Int32.toNatClampNeg (nI (192 * rn + 8 * q_265 + g_268))) x_277) = f_284 at hP hD
                refine lv_iinc (v := (nI (g_268 + 1))) (lv' := [(7, .int (nI (g_268 + 1))), (9, .int r_278), (8, .int x_277), (6, .int (nI q_265)), (5, .int x_153), (4, .int r_1), (3, .int (nI (dn sn))), (0, .ref (a 0)), (1, .int (nI sn)), (2, .int (nI rn))]) hx hb dX8_findRound_225 hl (k := 2) rfl (nI_add g_268 1) (by decide) rfl (fun ls hl => ?_)
                refine lv_goto (tgt := 111) hx hb dX8_findRound_228 (by decide) ?_
                exact ih_268 _ (g_268 + 1, f_280, f_284) _ _ _ (by omega) ⟨rfl, (by omega), hP, hD, hS, (lv_sub hl [0, 3, 4, 5, 6, 7, 8, 9] rfl)⟩
              · refine lv_iload hx hb dX8_findRound_210 (lv_at hl 0 rfl) ?_
                refine lv_iload hx hb dX8_findRound_212 (lv_at hl 1 rfl) ?_
                refine lv_icmp_gt (tgt := 222) hx hb dX8_findRound_214 (by decide) (fun c_285 => ?_) (fun c_285 => ?_)
                · refine lv_iload hx hb dX8_findRound_222 (lv_at hl 1 rfl) ?_
                  refine va_iast hx hb hK hP hD hS 6 1 rfl rfl (vp_in_nI (by omega) (by decide)) dX8_findRound_224 (fun H locs hP hD hS => ?_)
                  replace hP : va_P D classes [((a 0), .inr (8, (fX8 a (nI tx) fp (nI t0) wd (nI we) nu na (nI rd) ts (nI ru) (nI rw) (nI ca) df db sd))), (aI k (a 1) 3 (nF dn)), (aI k (a 4) 27 (sg se tm gs)), (aI k (a 2) 72 ffrees), (aI k (a 3) 72 fprices), (aI k (a 18) 768 f_280), (aI k (a 19) 768 (upd fw_268 (Int32.toNatClampNeg (nI (192 * rn + 8 * q_265 + g_268))) x_277)), (aI k (a 20) 5 fstarts), (aI k (a 21) 4 f_264), (aZ k (a 22) 4 f_227), (aI k (a 23) 8 fbegin)] H := hP
                  replace hD : va_D A [((a 0), .inr (8, (fX8 a (nI tx) fp (nI t0) wd (nI we) nu na (nI rd) ts (nI ru) (nI rw) (nI ca) df db sd))), (aI k (a 1) 3 (nF dn)), (aI k (a 4) 27 (sg se tm gs)), (aI k (a 2) 72 ffrees), (aI k (a 3) 72 fprices), (aI k (a 18) 768 f_280), (aI k (a 19) 768 (upd fw_268 (Int32.toNatClampNeg (nI (192 * rn + 8 * q_265 + g_268))) x_277)), (aI k (a 20) 5 fstarts), (aI k (a 21) 4 f_264), (aZ k (a 22) 4 f_227), (aI k (a 23) 8 fbegin)] := hD
                  generalize (upd fw_268 (Int32.toNatClampNeg (nI (192 * rn + 8 * q_265 + g_268))) x_277) = f_286 at hP hD
                  refine lv_iinc (v := (nI (g_268 + 1))) (lv' := [(7, .int (nI (g_268 + 1))), (9, .int r_278), (8, .int x_277), (6, .int (nI q_265)), (5, .int x_153), (4, .int r_1), (3, .int (nI (dn sn))), (0, .ref (a 0)), (1, .int (nI sn)), (2, .int (nI rn))]) hx hb dX8_findRound_225 hl (k := 2) rfl (nI_add g_268 1) (by decide) rfl (fun ls hl => ?_)
                  refine lv_goto (tgt := 111) hx hb dX8_findRound_228 (by decide) ?_
                  exact ih_268 _ (g_268 + 1, f_280, f_286) _ _ _ (by omega) ⟨rfl, (by omega), hP, hD, hS, (lv_sub hl [0, 3, 4, 5, 6, 7, 8, 9] rfl)⟩
                · refine lv_iload hx hb dX8_findRound_217 (lv_at hl 0 rfl) ?_
                  refine lv_goto (tgt := 224) hx hb dX8_findRound_219 (by decide) ?_
                  refine va_iast hx hb hK hP hD hS 6 1 rfl rfl (vp_in_nI (by omega) (by decide)) dX8_findRound_224 (fun H locs hP hD hS => ?_)
                  replace hP : va_P D classes [((a 0), .inr (8, (fX8 a (nI tx) fp (nI t0) wd (nI we) nu na (nI rd) ts (nI ru) (nI rw) (nI ca) df db sd))), (aI k (a 1) 3 (nF dn)), (aI k (a 4) 27 (sg se tm gs)), (aI k (a 2) 72 ffrees), (aI k (a 3) 72 fprices), (aI k (a 18) 768 f_280), (aI k (a 19) 768 (upd fw_268 (Int32.toNatClampNeg (nI (192 * rn + 8 * q_265 + g_268))) r_278)), (aI k (a 20) 5 fstarts), (aI k (a 21) 4 f_264), (aZ k (a 22) 4 f_227), (aI k (a 23) 8 fbegin)] H := hP
                  replace hD : va_D A [((a 0), .inr (8, (fX8 a (nI tx) fp (nI t0) wd (nI we) nu na (nI rd) ts (nI ru) (nI rw) (nI ca) df db sd))), (aI k (a 1) 3 (nF dn)), (aI k (a 4) 27 (sg se tm gs)), (aI k (a 2) 72 ffrees), (aI k (a 3) 72 fprices), (aI k (a 18) 768 f_280), (aI k (a 19) 768 (upd fw_268 (Int32.toNatClampNeg (nI (192 * rn + 8 * q_265 + g_268))) r_278)), (aI k (a 20) 5 fstarts), (aI k (a 21) 4 f_264), (aZ k (a 22) 4 f_227), (aI k (a 23) 8 fbegin)] := hD
                  generalize (upd fw_268 (Int32.toNatClampNeg (nI (192 * rn + 8 * q_265 + g_268))) r_278) = f_287 at hP hD
                  refine lv_iinc (v := (nI (g_268 + 1))) (lv' := [(7, .int (nI (g_268 + 1))), (9, .int r_278), (8, .int x_277), (6, .int (nI q_265)), (5, .int x_153), (4, .int r_1), (3, .int (nI (dn sn))), (0, .ref (a 0)), (1, .int (nI sn)), (2, .int (nI rn))]) hx hb dX8_findRound_225 hl (k := 2) rfl (nI_add g_268 1) (by decide) rfl (fun ls hl => ?_)
                  refine lv_goto (tgt := 111) hx hb dX8_findRound_228 (by decide) ?_
                  exact ih_268 _ (g_268 + 1, f_280, f_287) _ _ _ (by omega) ⟨rfl, (by omega), hP, hD, hS, (lv_sub hl [0, 3, 4, 5, 6, 7, 8, 9] rfl)⟩
            · have c_275 := (nI_eq (a := q_265) (b := ((dn sn) - 1)) (by omega) (by omega)).mp c_275
              refine lv_aload_n hx hb dX8_findRound_143 rfl (lv_at hl 5 rfl) ?_
              refine va_get (D := D) (ci := 8) (v := .ref (a 21)) (C := RX8) (T := TX8) (N := 44) hx hb hts inX8 hown hK hP 0 rfl rfl 20 (by decide) (hts _ tw_993) (fun _ h9 => h9) rfl dX8_findRound_144 ?_
              refine lv_iload_n hx hb dX8_findRound_147 rfl (lv_at hl 7 rfl) ?_
              refine va_iald hx hb hK hP 8 1 rfl rfl (vp_in_nI (by omega) (by decide)) dX8_findRound_148 ?_
              refine lv_ti (y := (f_264 rn)) (by rw [nI_clamp (by omega)]) ?_
              refine lv_goto (tgt := 162) hx hb dX8_findRound_149 (by decide) ?_
              refine lv_iadd hx hb dX8_findRound_162 ?_
              refine lv_topi (fun x_288 ex_288 => ?_)
              refine lv_istore (lv' := [(8, .int x_288), (7, .int (nI g_268)), (6, .int (nI q_265)), (5, .int x_153), (4, .int r_1), (3, .int (nI (dn sn))), (0, .ref (a 0)), (1, .int (nI sn)), (2, .int (nI rn))]) hx hb dX8_findRound_163 hl (by decide) rfl (fun ls hl => ?_)
              refine lv_aload_n hx hb dX8_findRound_165 rfl (lv_at hl 6 rfl) ?_
              refine lv_iload_n hx hb dX8_findRound_166 rfl (lv_at hl 7 rfl) ?_
              refine lv_iload_n hx hb dX8_findRound_167 rfl (lv_at hl 8 rfl) ?_
              refine lv_iload hx hb dX8_findRound_168 (lv_at hl 2 rfl) ?_
              refine ro_i (D := D) (va_runV (As := [.int (nI sn), .int (nI rn), .int (nI q_265)]) (rest := []) ⟨hx, hb, hml, hown, hts⟩ ((m_takingOf l D k st lo a tx t0 we rd ru rw ca fp wd nu na ts df db sd dn se tm gs fprices sn q_265 (nI rn) (by omega) (by omega)) H.size) (cwV 3 hts (gV tw_1222 tw_1224 tw_43 tw_87 tw_1225) rfl rfl rfl (by decide +kernel) ⟨Nat.le_of_ble_eq_true rfl, Nat.le_of_ble_eq_true rfl⟩) (pV hS hAlo hlo hP hK (va_Dlo hD hAlo) hZ [0, 1, 2, 4] (by decide) rfl (ci := 8) (q := (RX8, TX8, 44)) (q0 := 0) rfl rfl) rfl rfl hl.1 rfl (lv_room (Nat.le_of_ble_eq_true rfl)) dX8_findRound_170 ⟨Nat.le_of_ble_eq_true rfl, Nat.le_of_ble_eq_true rfl⟩) hS hA hP (fun r_289 H locs hw_289 hP hS => ?_)
              try dsimp only at hw_289
              refine lv_istore (lv' := [(9, .int r_289), (8, .int x_288), (7, .int (nI g_268)), (6, .int (nI q_265)), (5, .int x_153), (4, .int r_1), (3, .int (nI (dn sn))), (0, .ref (a 0)), (1, .int (nI sn)), (2, .int (nI rn))]) hx hb dX8_findRound_173 hl (by decide) rfl (fun ls hl => ?_)
              refine lv_aload_n hx hb dX8_findRound_175 rfl (lv_at hl 7 rfl) ?_
              refine va_get (D := D) (ci := 8) (v := .ref (a 18)) (C := RX8) (T := TX8) (N := 44) hx hb hts inX8 hown hK hP 0 rfl rfl 17 (by decide) (hts _ tw_990) (fun _ h9 => h9) rfl dX8_findRound_176 ?_
              refine lv_iload_n hx hb dX8_findRound_179 rfl (lv_at hl 9 rfl) ?_
              refine lv_iload hx hb dX8_findRound_180 (lv_at hl 3 rfl) ?_
              refine lv_iload hx hb dX8_findRound_182 (lv_at hl 2 rfl) ?_
              refine ro_i (D := D) (va_runS (As := [.int (nI rn), .int (nI q_265), .int (nI g_268)]) (rest := [.ref (a 18)]) ⟨hx, hb, hml, hown, hts⟩ ((m_at l D k st lo rn q_265 g_268) H.size) (va_cwS 3 hts (gS tw_1266 tw_1267 tw_87 tw_1268) rfl rfl rfl (by decide +kernel) ⟨Nat.le_of_ble_eq_true rfl, Nat.le_of_ble_eq_true rfl⟩) (pS hS hAlo hlo hP hK (va_Dlo hD hAlo) hZ [] (by decide) rfl) rfl rfl hl.1 rfl (lv_room (Nat.le_of_ble_eq_true rfl)) dX8_findRound_184 ⟨Nat.le_of_ble_eq_true rfl, Nat.le_of_ble_eq_true rfl⟩) hS hA hP (fun r_290 H locs hw_290 hP hS => ?_)
              try dsimp only at hw_290
              subst hw_290
              refine lv_iload hx hb dX8_findRound_187 (lv_at hl 1 rfl) ?_
              refine va_iast hx hb hK hP hD hS 5 1 rfl rfl (vp_in_nI (by omega) (by decide)) dX8_findRound_189 (fun H locs hP hD hS => ?_)
              replace hP : va_P D classes [((a 0), .inr (8, (fX8 a (nI tx) fp (nI t0) wd (nI we) nu na (nI rd) ts (nI ru) (nI rw) (nI ca) df db sd))), (aI k (a 1) 3 (nF dn)), (aI k (a 4) 27 (sg se tm gs)), (aI k (a 2) 72 ffrees), (aI k (a 3) 72 fprices), (aI k (a 18) 768 (upd fo_268 (Int32.toNatClampNeg (nI (192 * rn + 8 * q_265 + g_268))) x_288)), (aI k (a 19) 768 fw_268), (aI k (a 20) 5 fstarts), (aI k (a 21) 4 f_264), (aZ k (a 22) 4 f_227), (aI k (a 23) 8 fbegin)] H := hP
              replace hD : va_D A [((a 0), .inr (8, (fX8 a (nI tx) fp (nI t0) wd (nI we) nu na (nI rd) ts (nI ru) (nI rw) (nI ca) df db sd))), (aI k (a 1) 3 (nF dn)), (aI k (a 4) 27 (sg se tm gs)), (aI k (a 2) 72 ffrees), (aI k (a 3) 72 fprices), (aI k (a 18) 768 (upd fo_268 (Int32.toNatClampNeg (nI (192 * rn + 8 * q_265 + g_268))) x_288)), (aI k (a 19) 768 fw_268), (aI k (a 20) 5 fstarts), (aI k (a 21) 4 f_264), (aZ k (a 22) 4 f_227), (aI k (a 23) 8 fbegin)] := hD
              generalize (upd fo_268 (Int32.toNatClampNeg (nI (192 * rn + 8 * q_265 + g_268))) x_288) = f_291 at hP hD
              refine lv_aload_n hx hb dX8_findRound_190 rfl (lv_at hl 7 rfl) ?_
              refine va_get (D := D) (ci := 8) (v := .ref (a 19)) (C := RX8) (T := TX8) (N := 44) hx hb hts inX8 hown hK hP 0 rfl rfl 18 (by decide) (hts _ tw_991) (fun _ h9 => h9) rfl dX8_findRound_191 ?_
              refine lv_iload_n hx hb dX8_findRound_194 rfl (lv_at hl 9 rfl) ?_
              refine lv_iload hx hb dX8_findRound_195 (lv_at hl 3 rfl) ?_
              refine lv_iload hx hb dX8_findRound_197 (lv_at hl 2 rfl) ?_
              refine ro_i (D := D) (va_runS (As := [.int (nI rn), .int (nI q_265), .int (nI g_268)]) (rest := [.ref (a 19)]) ⟨hx, hb, hml, hown, hts⟩ ((m_at l D k st lo rn q_265 g_268) H.size) (va_cwS 3 hts (gS tw_1266 tw_1267 tw_87 tw_1268) rfl rfl rfl (by decide +kernel) ⟨Nat.le_of_ble_eq_true rfl, Nat.le_of_ble_eq_true rfl⟩) (pS hS hAlo hlo hP hK (va_Dlo hD hAlo) hZ [] (by decide) rfl) rfl rfl hl.1 rfl (lv_room (Nat.le_of_ble_eq_true rfl)) dX8_findRound_199 ⟨Nat.le_of_ble_eq_true rfl, Nat.le_of_ble_eq_true rfl⟩) hS hA hP (fun r_292 H locs hw_292 hP hS => ?_)
              try dsimp only at hw_292
              subst hw_292
              refine lv_iload hx hb dX8_findRound_202 (lv_at hl 2 rfl) ?_
              refine lv_iconst (v := 1) hx hb dX8_findRound_204 (by decide) ?_
              refine lv_iand hx hb dX8_findRound_205 ?_
              refine lv_topi (fun x_293 ex_293 => ?_)
              refine lv_iconst (v := 1) hx hb dX8_findRound_206 (by decide) ?_
              refine lv_icmp_ne (tgt := 222) hx hb dX8_findRound_207 (by decide) (fun c_294 => ?_) (fun c_294 => ?_)
              · refine lv_iload hx hb dX8_findRound_222 (lv_at hl 1 rfl) ?_
                refine va_iast hx hb hK hP hD hS 6 1 rfl rfl (vp_in_nI (by omega) (by decide)) dX8_findRound_224 (fun H locs hP hD hS => ?_)
                replace hP : va_P D classes [((a 0), .inr (8, (fX8 a (nI tx) fp (nI t0) wd (nI we) nu na (nI rd) ts (nI ru) (nI rw) (nI ca) df db sd))), (aI k (a 1) 3 (nF dn)), (aI k (a 4) 27 (sg se tm gs)), (aI k (a 2) 72 ffrees), (aI k (a 3) 72 fprices), (aI k (a 18) 768 f_291), (aI k (a 19) 768 (upd fw_268 (Int32.toNatClampNeg (nI (192 * rn + 8 * q_265 + g_268))) x_288)), (aI k (a 20) 5 fstarts), (aI k (a 21) 4 f_264), (aZ k (a 22) 4 f_227), (aI k (a 23) 8 fbegin)] H := hP
                replace hD : va_D A [((a 0), .inr (8, (fX8 a (nI tx) fp (nI t0) wd (nI we) nu na (nI rd) ts (nI ru) (nI rw) (nI ca) df db sd))), (aI k (a 1) 3 (nF dn)), (aI k (a 4) 27 (sg se tm gs)), (aI k (a 2) 72 ffrees), (aI k (a 3) 72 fprices), (aI k (a 18) 768 f_291), (aI k (a 19) 768 (upd fw_268 (Int32.toNatClampNeg (nI (192 * rn + 8 * q_265 + g_268))) x_288)), (aI k (a 20) 5 fstarts), (aI k (a 21) 4 f_264), (aZ k (a 22) 4 f_227), (aI k (a 23) 8 fbegin)] := hD
                generalize (upd fw_268 (Int32.toNatClampNeg (nI (192 * rn + 8 * q_265 + g_268))) x_288) = f_295 at hP hD
                refine lv_iinc (v := (nI (g_268 + 1))) (lv' := [(7, .int (nI (g_268 + 1))), (9, .int r_289), (8, .int x_288), (6, .int (nI q_265)), (5, .int x_153), (4, .int r_1), (3, .int (nI (dn sn))), (0, .ref (a 0)), (1, .int (nI sn)), (2, .int (nI rn))]) hx hb dX8_findRound_225 hl (k := 2) rfl (nI_add g_268 1) (by decide) rfl (fun ls hl => ?_)
                refine lv_goto (tgt := 111) hx hb dX8_findRound_228 (by decide) ?_
                exact ih_268 _ (g_268 + 1, f_291, f_295) _ _ _ (by omega) ⟨rfl, (by omega), hP, hD, hS, (lv_sub hl [0, 3, 4, 5, 6, 7, 8, 9] rfl)⟩
              · refine lv_iload hx hb dX8_findRound_210 (lv_at hl 0 rfl) ?_
                refine lv_iload hx hb dX8_findRound_212 (lv_at hl 1 rfl) ?_
                refine lv_icmp_gt (tgt := 222) hx hb dX8_findRound_214 (by decide) (fun c_296 => ?_) (fun c_296 => ?_)
                · refine lv_iload hx hb dX8_findRound_222 (lv_at hl 1 rfl) ?_
                  refine va_iast hx hb hK hP hD hS 6 1 rfl rfl (vp_in_nI (by omega) (by decide)) dX8_findRound_224 (fun H locs hP hD hS => ?_)
                  replace hP : va_P D classes [((a 0), .inr (8, (fX8 a (nI tx) fp (nI t0) wd (nI we) nu na (nI rd) ts (nI ru) (nI rw) (nI ca) df db sd))), (aI k (a 1) 3 (nF dn)), (aI k (a 4) 27 (sg se tm gs)), (aI k (a 2) 72 ffrees), (aI k (a 3) 72 fprices), (aI k (a 18) 768 f_291), (aI k (a 19) 768 (upd fw_268 (Int32.toNatClampNeg (nI (192 * rn + 8 * q_265 + g_268))) x_288)), (aI k (a 20) 5 fstarts), (aI k (a 21) 4 f_264), (aZ k (a 22) 4 f_227), (aI k (a 23) 8 fbegin)] H := hP
                  replace hD : va_D A [((a 0), .inr (8, (fX8 a (nI tx) fp (nI t0) wd (nI we) nu na (nI rd) ts (nI ru) (nI rw) (nI ca) df db sd))), (aI k (a 1) 3 (nF dn)), (aI k (a 4) 27 (sg se tm gs)), (aI k (a 2) 72 ffrees), (aI k (a 3) 72 fprices), (aI k (a 18) 768 f_291), (aI k (a 19) 768 (upd fw_268 (Int32.toNatClampNeg (nI (192 * rn + 8 * q_265 + g_268))) x_288)), (aI k (a 20) 5 fstarts), (aI k (a 21) 4 f_264), (aZ k (a 22) 4 f_227), (aI k (a 23) 8 fbegin)] := hD
                  generalize (upd fw_268 (Int32.toNatClampNeg (nI (192 * rn + 8 * q_265 + g_268))) x_288) = f_297 at hP hD
                  refine lv_iinc (v := (nI (g_268 + 1))) (lv' := [(7, .int (nI (g_268 + 1))), (9, .int r_289), (8, .int x_288), (6, .int (nI q_265)), (5, .int x_153), (4, .int r_1), (3, .int (nI (dn sn))), (0, .ref (a 0)), (1, .int (nI sn)), (2, .int (nI rn))]) hx hb dX8_findRound_225 hl (k := 2) rfl (nI_add g_268 1) (by decide) rfl (fun ls hl => ?_)
                  refine lv_goto (tgt := 111) hx hb dX8_findRound_228 (by decide) ?_
                  exact ih_268 _ (g_268 + 1, f_291, f_297) _ _ _ (by omega) ⟨rfl, (by omega), hP, hD, hS, (lv_sub hl [0, 3, 4, 5, 6, 7, 8, 9] rfl)⟩
                · refine lv_iload hx hb dX8_findRound_217 (lv_at hl 0 rfl) ?_
                  refine lv_goto (tgt := 224) hx hb dX8_findRound_219 (by decide) ?_
                  refine va_iast hx hb hK hP hD hS 6 1 rfl rfl (vp_in_nI (by omega) (by decide)) dX8_findRound_224 (fun H locs hP hD hS => ?_)
                  replace hP : va_P D classes [((a 0), .inr (8, (fX8 a (nI tx) fp (nI t0) wd (nI we) nu na (nI rd) ts (nI ru) (nI rw) (nI ca) df db sd))), (aI k (a 1) 3 (nF dn)), (aI k (a 4) 27 (sg se tm gs)), (aI k (a 2) 72 ffrees), (aI k (a 3) 72 fprices), (aI k (a 18) 768 f_291), (aI k (a 19) 768 (upd fw_268 (Int32.toNatClampNeg (nI (192 * rn + 8 * q_265 + g_268))) r_289)), (aI k (a 20) 5 fstarts), (aI k (a 21) 4 f_264), (aZ k (a 22) 4 f_227), (aI k (a 23) 8 fbegin)] H := hP
                  replace hD : va_D A [((a 0), .inr (8, (fX8 a (nI tx) fp (nI t0) wd (nI we) nu na (nI rd) ts (nI ru) (nI rw) (nI ca) df db sd))), (aI k (a 1) 3 (nF dn)), (aI k (a 4) 27 (sg se tm gs)), (aI k (a 2) 72 ffrees), (aI k (a 3) 72 fprices), (aI k (a 18) 768 f_291), (aI k (a 19) 768 (upd fw_268 (Int32.toNatClampNeg (nI (192 * rn + 8 * q_265 + g_268))) r_289)), (aI k (a 20) 5 fstarts), (aI k (a 21) 4 f_264), (aZ k (a 22) 4 f_227), (aI k (a 23) 8 fbegin)] := hD
                  generalize (upd fw_268 (Int32.toNatClampNeg (nI (192 * rn + 8 * q_265 + g_268))) r_289) = f_298 at hP hD
                  refine lv_iinc (v := (nI (g_268 + 1))) (lv' := [(7, .int (nI (g_268 + 1))), (9, .int r_289), (8, .int x_288), (6, .int (nI q_265)), (5, .int x_153), (4, .int r_1), (3, .int (nI (dn sn))), (0, .ref (a 0)), (1, .int (nI sn)), (2, .int (nI rn))]) hx hb dX8_findRound_225 hl (k := 2) rfl (nI_add g_268 1) (by decide) rfl (fun ls hl => ?_)
                  refine lv_goto (tgt := 111) hx hb dX8_findRound_228 (by decide) ?_
                  exact ih_268 _ (g_268 + 1, f_291, f_298) _ _ _ (by omega) ⟨rfl, (by omega), hP, hD, hS, (lv_sub hl [0, 3, 4, 5, 6, 7, 8, 9] rfl)⟩

