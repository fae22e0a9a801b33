theorem dX6_needNumber_0 : decode cX6_needNumber 0 = .ok (.aload_n 0, 1) := by decide +kernel
theorem dX6_needNumber_1 : decode cX6_needNumber 1 = .ok (.invokevirtual 52, 3) := by decide +kernel
theorem dX6_needNumber_4 : decode cX6_needNumber 4 = .ok (.ifCond .eq 5, 3) := by decide +kernel
theorem dX6_needNumber_7 : decode cX6_needNumber 7 = .ok (.iload_n 1, 1) := by decide +kernel
theorem dX6_needNumber_8 : decode cX6_needNumber 8 = .ok (.ireturn, 1) := by decide +kernel
theorem dX6_needNumber_9 : decode cX6_needNumber 9 = .ok (.aload_n 0, 1) := by decide +kernel
theorem dX6_needNumber_10 : decode cX6_needNumber 10 = .ok (.invokevirtual 35, 3) := by decide +kernel
theorem dX6_needNumber_13 : decode cX6_needNumber 13 = .ok (.aload_n 0, 1) := by decide +kernel
theorem dX6_needNumber_14 : decode cX6_needNumber 14 = .ok (.aload_n 0, 1) := by decide +kernel
theorem dX6_needNumber_15 : decode cX6_needNumber 15 = .ok (.getfield 19, 3) := by decide +kernel
theorem dX6_needNumber_18 : decode cX6_needNumber 18 = .ok (.putfield 22, 3) := by decide +kernel
theorem dX6_needNumber_21 : decode cX6_needNumber 21 = .ok (.iload_n 1, 1) := by decide +kernel
theorem dX6_needNumber_22 : decode cX6_needNumber 22 = .ok (.ifCond .ge 20, 3) := by decide +kernel
theorem dX6_needNumber_25 : decode cX6_needNumber 25 = .ok (.aload_n 0, 1) := by decide +kernel
theorem dX6_needNumber_26 : decode cX6_needNumber 26 = .ok (.aload_n 0, 1) := by decide +kernel
theorem dX6_needNumber_27 : decode cX6_needNumber 27 = .ok (.getfield 19, 3) := by decide +kernel
theorem dX6_needNumber_30 : decode cX6_needNumber 30 = .ok (.invokevirtual 31, 3) := by decide +kernel
theorem dX6_needNumber_33 : decode cX6_needNumber 33 = .ok (.bipush 45, 2) := by decide +kernel
theorem dX6_needNumber_35 : decode cX6_needNumber 35 = .ok (.if_icmp .ne 7, 3) := by decide +kernel
theorem dX6_needNumber_38 : decode cX6_needNumber 38 = .ok (.iconst 1, 1) := by decide +kernel
theorem dX6_needNumber_39 : decode cX6_needNumber 39 = .ok (.goto 4, 3) := by decide +kernel
theorem dX6_needNumber_42 : decode cX6_needNumber 42 = .ok (.iconst 0, 1) := by decide +kernel
theorem dX6_needNumber_43 : decode cX6_needNumber 43 = .ok (.istore_n 3, 1) := by decide +kernel
theorem dX6_needNumber_44 : decode cX6_needNumber 44 = .ok (.iload_n 3, 1) := by decide +kernel
theorem dX6_needNumber_45 : decode cX6_needNumber 45 = .ok (.ifCond .eq 13, 3) := by decide +kernel
theorem dX6_needNumber_48 : decode cX6_needNumber 48 = .ok (.aload_n 0, 1) := by decide +kernel
theorem dX6_needNumber_49 : decode cX6_needNumber 49 = .ok (.dup, 1) := by decide +kernel
theorem dX6_needNumber_50 : decode cX6_needNumber 50 = .ok (.getfield 19, 3) := by decide +kernel
theorem dX6_needNumber_53 : decode cX6_needNumber 53 = .ok (.iconst 1, 1) := by decide +kernel
theorem dX6_needNumber_54 : decode cX6_needNumber 54 = .ok (.iadd, 1) := by decide +kernel
theorem dX6_needNumber_55 : decode cX6_needNumber 55 = .ok (.putfield 19, 3) := by decide +kernel
theorem dX6_needNumber_58 : decode cX6_needNumber 58 = .ok (.aload_n 0, 1) := by decide +kernel
theorem dX6_needNumber_59 : decode cX6_needNumber 59 = .ok (.getfield 19, 3) := by decide +kernel
theorem dX6_needNumber_62 : decode cX6_needNumber 62 = .ok (.istore 4, 2) := by decide +kernel
theorem dX6_needNumber_64 : decode cX6_needNumber 64 = .ok (.iconst 0, 1) := by decide +kernel
theorem dX6_needNumber_65 : decode cX6_needNumber 65 = .ok (.istore 5, 2) := by decide +kernel
theorem dX6_needNumber_67 : decode cX6_needNumber 67 = .ok (.aload_n 0, 1) := by decide +kernel
theorem dX6_needNumber_68 : decode cX6_needNumber 68 = .ok (.getfield 19, 3) := by decide +kernel
theorem dX6_needNumber_71 : decode cX6_needNumber 71 = .ok (.aload_n 0, 1) := by decide +kernel
theorem dX6_needNumber_72 : decode cX6_needNumber 72 = .ok (.getfield 15, 3) := by decide +kernel
theorem dX6_needNumber_75 : decode cX6_needNumber 75 = .ok (.if_icmp .ge 57, 3) := by decide +kernel
theorem dX6_needNumber_78 : decode cX6_needNumber 78 = .ok (.aload_n 0, 1) := by decide +kernel
theorem dX6_needNumber_79 : decode cX6_needNumber 79 = .ok (.aload_n 0, 1) := by decide +kernel
theorem dX6_needNumber_80 : decode cX6_needNumber 80 = .ok (.getfield 19, 3) := by decide +kernel
theorem dX6_needNumber_83 : decode cX6_needNumber 83 = .ok (.invokevirtual 64, 3) := by decide +kernel
theorem dX6_needNumber_86 : decode cX6_needNumber 86 = .ok (.ifCond .eq 46, 3) := by decide +kernel
theorem dX6_needNumber_89 : decode cX6_needNumber 89 = .ok (.aload_n 0, 1) := by decide +kernel
theorem dX6_needNumber_90 : decode cX6_needNumber 90 = .ok (.getfield 19, 3) := by decide +kernel
theorem dX6_needNumber_93 : decode cX6_needNumber 93 = .ok (.iload 4, 2) := by decide +kernel
theorem dX6_needNumber_95 : decode cX6_needNumber 95 = .ok (.isub, 1) := by decide +kernel
theorem dX6_needNumber_96 : decode cX6_needNumber 96 = .ok (.iconst 3, 1) := by decide +kernel
theorem dX6_needNumber_97 : decode cX6_needNumber 97 = .ok (.if_icmp .ge 22, 3) := by decide +kernel
theorem dX6_needNumber_100 : decode cX6_needNumber 100 = .ok (.iload 5, 2) := by decide +kernel
theorem dX6_needNumber_102 : decode cX6_needNumber 102 = .ok (.bipush 10, 2) := by decide +kernel
theorem dX6_needNumber_104 : decode cX6_needNumber 104 = .ok (.imul, 1) := by decide +kernel
theorem dX6_needNumber_105 : decode cX6_needNumber 105 = .ok (.aload_n 0, 1) := by decide +kernel
theorem dX6_needNumber_106 : decode cX6_needNumber 106 = .ok (.aload_n 0, 1) := by decide +kernel
theorem dX6_needNumber_107 : decode cX6_needNumber 107 = .ok (.getfield 19, 3) := by decide +kernel
theorem dX6_needNumber_110 : decode cX6_needNumber 110 = .ok (.invokevirtual 31, 3) := by decide +kernel
theorem dX6_needNumber_113 : decode cX6_needNumber 113 = .ok (.iadd, 1) := by decide +kernel
theorem dX6_needNumber_114 : decode cX6_needNumber 114 = .ok (.bipush 48, 2) := by decide +kernel
theorem dX6_needNumber_116 : decode cX6_needNumber 116 = .ok (.isub, 1) := by decide +kernel
theorem dX6_needNumber_117 : decode cX6_needNumber 117 = .ok (.istore 5, 2) := by decide +kernel
theorem dX6_needNumber_119 : decode cX6_needNumber 119 = .ok (.aload_n 0, 1) := by decide +kernel
theorem dX6_needNumber_120 : decode cX6_needNumber 120 = .ok (.dup, 1) := by decide +kernel
theorem dX6_needNumber_121 : decode cX6_needNumber 121 = .ok (.getfield 19, 3) := by decide +kernel
theorem dX6_needNumber_124 : decode cX6_needNumber 124 = .ok (.iconst 1, 1) := by decide +kernel
theorem dX6_needNumber_125 : decode cX6_needNumber 125 = .ok (.iadd, 1) := by decide +kernel
theorem dX6_needNumber_126 : decode cX6_needNumber 126 = .ok (.putfield 19, 3) := by decide +kernel
theorem dX6_needNumber_129 : decode cX6_needNumber 129 = .ok (.goto (-62), 3) := by decide +kernel
theorem dX6_needNumber_132 : decode cX6_needNumber 132 = .ok (.iload_n 3, 1) := by decide +kernel
theorem dX6_needNumber_133 : decode cX6_needNumber 133 = .ok (.ifCond .eq 8, 3) := by decide +kernel
theorem dX6_needNumber_136 : decode cX6_needNumber 136 = .ok (.iload 5, 2) := by decide +kernel
theorem dX6_needNumber_138 : decode cX6_needNumber 138 = .ok (.ineg, 1) := by decide +kernel
theorem dX6_needNumber_139 : decode cX6_needNumber 139 = .ok (.istore 5, 2) := by decide +kernel
theorem dX6_needNumber_141 : decode cX6_needNumber 141 = .ok (.aload_n 0, 1) := by decide +kernel
theorem dX6_needNumber_142 : decode cX6_needNumber 142 = .ok (.getfield 19, 3) := by decide +kernel
theorem dX6_needNumber_145 : decode cX6_needNumber 145 = .ok (.iload 4, 2) := by decide +kernel
theorem dX6_needNumber_147 : decode cX6_needNumber 147 = .ok (.if_icmp .ne 15, 3) := by decide +kernel
theorem dX6_needNumber_150 : decode cX6_needNumber 150 = .ok (.aload_n 0, 1) := by decide +kernel
theorem dX6_needNumber_151 : decode cX6_needNumber 151 = .ok (.iconst 1, 1) := by decide +kernel
theorem dX6_needNumber_152 : decode cX6_needNumber 152 = .ok (.aload_n 0, 1) := by decide +kernel
theorem dX6_needNumber_153 : decode cX6_needNumber 153 = .ok (.getfield 19, 3) := by decide +kernel
theorem dX6_needNumber_156 : decode cX6_needNumber 156 = .ok (.invokevirtual 60, 3) := by decide +kernel
theorem dX6_needNumber_159 : decode cX6_needNumber 159 = .ok (.goto 35, 3) := by decide +kernel
theorem dX6_needNumber_162 : decode cX6_needNumber 162 = .ok (.aload_n 0, 1) := by decide +kernel
theorem dX6_needNumber_163 : decode cX6_needNumber 163 = .ok (.getfield 19, 3) := by decide +kernel
theorem dX6_needNumber_166 : decode cX6_needNumber 166 = .ok (.iload 4, 2) := by decide +kernel
theorem dX6_needNumber_168 : decode cX6_needNumber 168 = .ok (.isub, 1) := by decide +kernel
theorem dX6_needNumber_169 : decode cX6_needNumber 169 = .ok (.iconst 3, 1) := by decide +kernel
theorem dX6_needNumber_170 : decode cX6_needNumber 170 = .ok (.if_icmp .gt 15, 3) := by decide +kernel
theorem dX6_needNumber_173 : decode cX6_needNumber 173 = .ok (.iload 5, 2) := by decide +kernel
theorem dX6_needNumber_175 : decode cX6_needNumber 175 = .ok (.iload_n 1, 1) := by decide +kernel
theorem dX6_needNumber_176 : decode cX6_needNumber 176 = .ok (.if_icmp .lt 9, 3) := by decide +kernel
theorem dX6_needNumber_179 : decode cX6_needNumber 179 = .ok (.iload 5, 2) := by decide +kernel
theorem dX6_needNumber_181 : decode cX6_needNumber 181 = .ok (.iload_n 2, 1) := by decide +kernel
theorem dX6_needNumber_182 : decode cX6_needNumber 182 = .ok (.if_icmp .le 12, 3) := by decide +kernel
theorem dX6_needNumber_185 : decode cX6_needNumber 185 = .ok (.aload_n 0, 1) := by decide +kernel
theorem dX6_needNumber_186 : decode cX6_needNumber 186 = .ok (.iconst 2, 1) := by decide +kernel
theorem dX6_needNumber_187 : decode cX6_needNumber 187 = .ok (.aload_n 0, 1) := by decide +kernel
theorem dX6_needNumber_188 : decode cX6_needNumber 188 = .ok (.getfield 22, 3) := by decide +kernel
theorem dX6_needNumber_191 : decode cX6_needNumber 191 = .ok (.invokevirtual 60, 3) := by decide +kernel
theorem dX6_needNumber_194 : decode cX6_needNumber 194 = .ok (.aload_n 0, 1) := by decide +kernel
theorem dX6_needNumber_195 : decode cX6_needNumber 195 = .ok (.invokevirtual 52, 3) := by decide +kernel
theorem dX6_needNumber_198 : decode cX6_needNumber 198 = .ok (.ifCond .eq 7, 3) := by decide +kernel
theorem dX6_needNumber_201 : decode cX6_needNumber 201 = .ok (.iload_n 1, 1) := by decide +kernel
theorem dX6_needNumber_202 : decode cX6_needNumber 202 = .ok (.goto 5, 3) := by decide +kernel
theorem dX6_needNumber_205 : decode cX6_needNumber 205 = .ok (.iload 5, 2) := by decide +kernel
theorem dX6_needNumber_207 : decode cX6_needNumber 207 = .ok (.ireturn, 1) := by decide +kernel
set_option maxHeartbeats 4000000 in
set_option maxRecDepth 100000 in
theorem x_needNumber (l : Launch) (D : va_G) (k : Nat → ClassId) (st : Nat → Nat) (lo : Nat) (x0 : Nat) (x1 : Nat) (tz : Nat) (ta : Nat) (na : Int32) (fn : Int32) (fb : Int32) (fx : Nat → Int32) (p0 : Int32) (p1 : Int32) (ht : ta ≤ tz) (hz : tz ≤ 240) (hle : p0 ≤ p1) : CWi l D k st lo yX6_needNumber cX6_needNumber 6 (some .int) ({ frames := 2, cells := 0, slots := 0, locals := 43 }) 0 0 [.ref x0, .int p0, .int p1] [(x0, .inr (6, (fX6 x1 (nI tz) (nI ta) na fn fb))), (aB k x1 240 fx)] (fun (r : Int32) (u : Nat × Int32 × Int32 × Int32) => match u with | (ta_, na_, fn_, fb_) => ta ≤ ta_ ∧ ta_ ≤ tz ∧ inB r p0 p1 ∧ (fn = 0 ∨ ¬ fn_ = 0)) (fun (u : Nat × Int32 × Int32 × Int32) => match u with | (ta_, na_, fn_, fb_) => [(x0, .inr (6, (fX6 x1 (nI tz) (nI ta_) na_ fn_ fb_))), (aB k x1 240 fx)]) := by
  intro sz
  refine Met.ofW (cc := cX6_needNumber) (maxL := 6) (ret := (some .int)) (by decide) rfl ?_
  intro p e s m args below meth c s₁ B hml hv
  obtain ⟨rfl, hsz, hlo, hP, hK, hDL, hZ⟩ := hv
  have hx := B.exec
  have hb := B.bytes
  have hr := B.returns
  have hts := WS_ts B.pre
  have hown : s.vm.findClass RX6 = some m.cls := findClass_of_methodNamed B.named
  have hlocks := B.notSynchronized
  subst hsz
  have hD := hDL.self (sz := s.heap.size)
  have hAlo := A_lo hDL hlo
  generalize hAe : va_A [(x0, .inr (6, (fX6 x1 (nI tz) (nI ta) na fn fb))), (aB k x1 240 fx)] s.heap.size = A at hD hAlo ⊢
  have hA : ∀ q : Nat, s.heap.size ≤ q → A q := fun q h => by rw [← hAe]; exact Or.inr h
  have hS : va_S A s.heap s.heap [] := va_S.rf
  have hl := lv_entry ([.ref x0, .int p0, .int p1]) (n := 6) (Nat.le_of_ble_eq_true rfl)
  rw [lg_entry_eq]
  generalize (lg_sl ([.ref x0, .int p0, .int p1]) ++ List.replicate (6 - (lg_sl ([.ref x0, .int p0, .int p1])).length) Slot.unset).toArray = ls at hl ⊢
  have hl : lv_has ls 6 [(0, .ref x0), (1, .int p0), (2, .int p1)] := hl
  refine lv_aload_n hx hb dX6_needNumber_0 rfl (lv_at hl 0 rfl) ?_
  refine ro_i (D := D) (va_runV (As := []) (rest := []) ⟨hx, hb, hml, hown, hts⟩ ((x_failed l D k st lo x0 x1 tz ta na fn fb) s.heap.size) (cwV 0 hts (gV tw_471 tw_368 tw_369 tw_80 tw_370) rfl rfl rfl (by decide +kernel) ⟨Nat.le_of_ble_eq_true rfl, Nat.le_of_ble_eq_true rfl⟩) (pV hS hAlo hlo hP hK (va_Dlo hD hAlo) hZ [0] (by decide) rfl (ci := 6) (q := (RX6, TX6, 6)) (q0 := 0) rfl rfl) rfl rfl hl.1 rfl (lv_room (Nat.le_of_ble_eq_true rfl)) dX6_needNumber_1 ⟨Nat.le_of_ble_eq_true rfl, Nat.le_of_ble_eq_true rfl⟩) hS hA hP (fun r_1 H locs hw_1 hP hS => ?_)
  try dsimp only at hw_1
  rcases hw_1 with ⟨rfl, hw_1⟩ | ⟨rfl, rfl⟩
  · refine lv_if_eq (tgt := 9) hx hb dX6_needNumber_4 (by decide) (fun h => absurd h (by decide)) (fun _ => ?_)
    refine lv_iload_n hx hb dX6_needNumber_7 rfl (lv_at hl 1 rfl) ?_
    have hP9 := hP.sub (ws' := [(x0, .inr (6, (fX6 x1 (nI tz) (nI ta) na fn fb))), (aB k x1 240 fx)]) [0, 1] rfl
    have hD9 := hD.sub (ws' := [(x0, .inr (6, (fX6 x1 (nI tz) (nI ta) na fn fb))), (aB k x1 240 fx)]) [0, 1] (by decide) rfl
    exact W.iret (v := p0) hx hb hr (fun t ht hW => ⟨⟨p0, (ta, na, fn, fb), rfl, ⟨by omega, by omega, ⟨Int32.le_refl _, hle⟩, (Decidable.em _)⟩, by rw [ht]; exact hP9, hD9⟩, hS.F ht⟩) hS.2.2 dX6_needNumber_8
  · refine lv_if_eq (tgt := 9) hx hb dX6_needNumber_4 (by decide) (fun _ => ?_) (fun h => absurd (by decide) h)
    refine lv_aload_n hx hb dX6_needNumber_9 rfl (lv_at hl 0 rfl) ?_
    refine rw_v (D := D) (wr := []) (va_runV (As := []) (rest := []) ⟨hx, hb, hml, hown, hts⟩ ((x_skip l D k st lo x0 x1 tz ta na 0 fb fx (by omega) (by omega)) H.size) (cwV 0 hts (gV tw_375 tw_376 tw_377 tw_80 tw_378) rfl rfl rfl (by decide +kernel) ⟨Nat.le_of_ble_eq_true rfl, Nat.le_of_ble_eq_true rfl⟩) (pV hS hAlo hlo hP hK (va_Dlo hD hAlo) hZ [0, 1] (by decide) rfl (ci := 6) (q := (RX6, TX6, 6)) (q0 := 0) rfl rfl) rfl rfl hl.1 rfl (lv_room (Nat.le_of_ble_eq_true rfl)) dX6_needNumber_10 ⟨Nat.le_of_ble_eq_true rfl, Nat.le_of_ble_eq_true rfl⟩) hS hA hP hD [0, 1] [] rfl rfl (by decide) (by decide) (fun u H locs hw_2 hP hD hS => ?_)
    obtain ⟨ta__2, rfl⟩ : ∃ z, z = u := ⟨_, rfl⟩
    replace hP : va_P D classes [(x0, .inr (6, (fX6 x1 (nI tz) (nI ta__2) na 0 fb))), (aB k x1 240 fx)] H := hP
    replace hD : va_D A [(x0, .inr (6, (fX6 x1 (nI tz) (nI ta__2) na 0 fb))), (aB k x1 240 fx)] := hD
    try dsimp only at hw_2
    refine lv_aload_n hx hb dX6_needNumber_13 rfl (lv_at hl 0 rfl) ?_
    refine lv_aload_n hx hb dX6_needNumber_14 rfl (lv_at hl 0 rfl) ?_
    refine va_get (D := D) (ci := 6) (v := .int (nI ta__2)) (C := RX6) (T := TX6) (N := 6) hx hb hts inX6 hown hK hP 0 rfl rfl 2 (by decide) (hts _ tw_113) (fun _ h9 => h9) rfl dX6_needNumber_15 ?_
    refine va_put (D := D) (ci := 6) (v := .int (nI ta__2)) (ty := .int) (C := RX6) (T := TX6) (N := 6) hx hb hts inX6 tyX6 tyX6_ok nmX6 hown hK hP hD hS 0 rfl rfl 3 (by decide) (hts _ tw_116) (fun _ h9 => h9) rfl (by decide +kernel) rfl rfl (Nat.le_of_ble_eq_true rfl) dX6_needNumber_18 (fun H locs hP hD hS => ?_)
    replace hP : va_P D classes [(x0, .inr (6, (fX6 x1 (nI tz) (nI ta__2) (nI ta__2) 0 fb))), (aB k x1 240 fx)] H := hP
    replace hD : va_D A [(x0, .inr (6, (fX6 x1 (nI tz) (nI ta__2) (nI ta__2) 0 fb))), (aB k x1 240 fx)] := hD
    refine lv_iload_n hx hb dX6_needNumber_21 rfl (lv_at hl 1 rfl) ?_
    refine lv_if_ge (tgt := 42) hx hb dX6_needNumber_22 (by decide) (fun c_3 => ?_) (fun c_3 => ?_)
    · refine lv_iconst (v := 0) hx hb dX6_needNumber_42 (by decide) ?_
      refine lv_istore_n (lv' := [(3, .int 0), (0, .ref x0), (1, .int p0), (2, .int p1)]) hx hb dX6_needNumber_43 rfl hl (by decide) rfl (fun ls hl => ?_)
      refine lv_iload_n hx hb dX6_needNumber_44 rfl (lv_at hl 0 rfl) ?_
      refine lv_if_eq (tgt := 58) hx hb dX6_needNumber_45 (by decide) (fun _ => ?_) (fun h => absurd (by decide) h)
      refine lv_aload_n hx hb dX6_needNumber_58 rfl (lv_at hl 1 rfl) ?_
      refine va_get (D := D) (ci := 6) (v := .int (nI ta__2)) (C := RX6) (T := TX6) (N := 6) hx hb hts inX6 hown hK hP 0 rfl rfl 2 (by decide) (hts _ tw_113) (fun _ h9 => h9) rfl dX6_needNumber_59 ?_
      refine lv_istore (lv' := [(4, .int (nI ta__2)), (3, .int 0), (0, .ref x0), (1, .int p0), (2, .int p1)]) hx hb dX6_needNumber_62 hl (by decide) rfl (fun ls hl => ?_)
      refine lv_iconst (v := 0) hx hb dX6_needNumber_64 (by decide) ?_
      refine lv_istore (lv' := [(5, .int 0), (4, .int (nI ta__2)), (3, .int 0), (0, .ref x0), (1, .int p0), (2, .int p1)]) hx hb dX6_needNumber_65 hl (by decide) rfl (fun ls hl => ?_)
      refine W_loop (σ := Nat × Int32) (fun (n_ : Nat) (x_ : Nat × Int32) (H : Heap) (locs : List Loc) (ls : Array Slot) => match x_ with | (t2_4, va_4) => n_ = tz - t2_4 ∧ (ta__2 ≤ t2_4 ∧ t2_4 ≤ tz) ∧ va_P D classes [(x0, .inr (6, (fX6 x1 (nI tz) (nI t2_4) (nI ta__2) 0 fb))), (aB k x1 240 fx)] H ∧ va_D A [(x0, .inr (6, (fX6 x1 (nI tz) (nI t2_4) (nI ta__2) 0 fb))), (aB k x1 240 fx)] ∧ va_S A s.heap H locs ∧ lv_has ls 6 [(5, .int va_4), (4, .int (nI ta__2)), (3, .int 0), (0, .ref x0), (1, .int p0), (2, .int p1)]) (fun n_4 x_4 H locs ls hI ih_4 => ?_) _ (ta__2, 0) ⟨rfl, ⟨by omega, by omega⟩, hP, hD, hS, (lv_sub hl [0, 1, 2, 3, 4, 5] rfl)⟩
      obtain ⟨t2_4, va_4⟩ := x_4
      obtain ⟨hm_4, hv_4, hP, hD, hS, hl⟩ := hI
      subst hm_4
      refine lv_aload_n hx hb dX6_needNumber_67 rfl (lv_at hl 3 rfl) ?_
      refine va_get (D := D) (ci := 6) (v := .int (nI t2_4)) (C := RX6) (T := TX6) (N := 6) hx hb hts inX6 hown hK hP 0 rfl rfl 2 (by decide) (hts _ tw_113) (fun _ h9 => h9) rfl dX6_needNumber_68 ?_
      refine lv_aload_n hx hb dX6_needNumber_71 rfl (lv_at hl 3 rfl) ?_
      refine va_get (D := D) (ci := 6) (v := .int (nI tz)) (C := RX6) (T := TX6) (N := 6) hx hb hts inX6 hown hK hP 0 rfl rfl 1 (by decide) (hts _ tw_110) (fun _ h9 => h9) rfl dX6_needNumber_72 ?_
      refine lv_icmp_ge (tgt := 132) hx hb dX6_needNumber_75 (by decide) (fun c_5 => ?_) (fun c_5 => ?_)
      · have c_5 := (nI_leI (a := tz) (b := t2_4) (by omega) (by omega)).mp c_5
        refine lv_iload_n hx hb dX6_needNumber_132 rfl (lv_at hl 2 rfl) ?_
        refine lv_if_eq (tgt := 141) hx hb dX6_needNumber_133 (by decide) (fun _ => ?_) (fun h => absurd (by decide) h)
        refine lv_aload_n hx hb dX6_needNumber_141 rfl (lv_at hl 3 rfl) ?_
        refine va_get (D := D) (ci := 6) (v := .int (nI t2_4)) (C := RX6) (T := TX6) (N := 6) hx hb hts inX6 hown hK hP 0 rfl rfl 2 (by decide) (hts _ tw_113) (fun _ h9 => h9) rfl dX6_needNumber_142 ?_
        refine lv_iload hx hb dX6_needNumber_145 (lv_at hl 1 rfl) ?_
        refine lv_icmp_ne (tgt := 162) hx hb dX6_needNumber_147 (by decide) (fun c_6 => ?_) (fun c_6 => ?_)
        · have c_6 : ¬ (t2_4 = ta__2) := fun h => c_6 ((nI_eq (a := t2_4) (b := ta__2) (by omega) (by omega)).mpr h)
          refine lv_aload_n hx hb dX6_needNumber_162 rfl (lv_at hl 3 rfl) ?_
          refine va_get (D := D) (ci := 6) (v := .int (nI t2_4)) (C := RX6) (T := TX6) (N := 6) hx hb hts inX6 hown hK hP 0 rfl rfl 2 (by decide) (hts _ tw_113) (fun _ h9 => h9) rfl dX6_needNumber_163 ?_
          refine lv_iload hx hb dX6_needNumber_166 (lv_at hl 1 rfl) ?_
          refine lv_isub hx hb dX6_needNumber_168 ?_
          refine lv_ti (y := (nI (t2_4 - ta__2))) (pk_sub (a := t2_4) (b := ta__2) (by omega)) ?_
          refine lv_iconst (v := 3) hx hb dX6_needNumber_169 (by decide) ?_
          refine lv_icmp_gt (tgt := 185) hx hb dX6_needNumber_170 (by decide) (fun c_7 => ?_) (fun c_7 => ?_)
          · have c_7 := (nI_ltI (a := 3) (b := (t2_4 - ta__2)) (by omega) (by omega)).mp c_7
            refine lv_aload_n hx hb dX6_needNumber_185 rfl (lv_at hl 3 rfl) ?_
            refine lv_iconst (v := 2) hx hb dX6_needNumber_186 (by decide) ?_
            refine lv_aload_n hx hb dX6_needNumber_187 rfl (lv_at hl 3 rfl) ?_
            refine va_get (D := D) (ci := 6) (v := .int (nI ta__2)) (C := RX6) (T := TX6) (N := 6) hx hb hts inX6 hown hK hP 0 rfl rfl 3 (by decide) (hts _ tw_116) (fun _ h9 => h9) rfl dX6_needNumber_188 ?_
            refine rw_v (D := D) (wr := [(aB k x1 240 fx)]) (va_runV (As := [.int 2, .int (nI ta__2)]) (rest := []) ⟨hx, hb, hml, hown, hts⟩ ((x_fail l D k st lo x0 x1 tz t2_4 (nI ta__2) 0 fb 2 (nI ta__2) (by decide)) H.size) (cwV 2 hts (gV tw_476 tw_456 tw_457 tw_80 tw_458) rfl rfl rfl (by decide +kernel) ⟨Nat.le_of_ble_eq_true rfl, Nat.le_of_ble_eq_true rfl⟩) (pV hS hAlo hlo hP hK (va_Dlo hD hAlo) hZ [0] (by decide) rfl (ci := 6) (q := (RX6, TX6, 6)) (q0 := 0) rfl rfl) rfl rfl hl.1 rfl (lv_room (Nat.le_of_ble_eq_true rfl)) dX6_needNumber_191 ⟨Nat.le_of_ble_eq_true rfl, Nat.le_of_ble_eq_true rfl⟩) hS hA hP hD [0] [1] rfl rfl (by decide) (by decide) (fun u H locs hw_8 hP hD hS => ?_)
            obtain ⟨fn__8, fb__8⟩ := u
            replace hP : va_P D classes [(aB k x1 240 fx), (x0, .inr (6, (fX6 x1 (nI tz) (nI t2_4) (nI ta__2) fn__8 fb__8)))] H := hP
            replace hD : va_D A [(aB k x1 240 fx), (x0, .inr (6, (fX6 x1 (nI tz) (nI t2_4) (nI ta__2) fn__8 fb__8)))] := hD
            try dsimp only at hw_8
            refine lv_aload_n hx hb dX6_needNumber_194 rfl (lv_at hl 3 rfl) ?_
            refine ro_i (D := D) (va_runV (As := []) (rest := []) ⟨hx, hb, hml, hown, hts⟩ ((x_failed l D k st lo x0 x1 tz t2_4 (nI ta__2) fn__8 fb__8) H.size) (cwV 0 hts (gV tw_471 tw_368 tw_369 tw_80 tw_370) rfl rfl rfl (by decide +kernel) ⟨Nat.le_of_ble_eq_true rfl, Nat.le_of_ble_eq_true rfl⟩) (pV hS hAlo hlo hP hK (va_Dlo hD hAlo) hZ [1] (by decide) rfl (ci := 6) (q := (RX6, TX6, 6)) (q0 := 0) rfl rfl) rfl rfl hl.1 rfl (lv_room (Nat.le_of_ble_eq_true rfl)) dX6_needNumber_195 ⟨Nat.le_of_ble_eq_true rfl, Nat.le_of_ble_eq_true rfl⟩) hS hA hP (fun r_9 H locs hw_9 hP hS => ?_)
            try dsimp only at hw_9
            obtain rfl : r_9 = 1 := by rcases hw_9 with ⟨h, h2⟩ | ⟨h, h2⟩ <;> first | exact h | exact absurd h2 hw_8
            refine lv_if_eq (tgt := 205) hx hb dX6_needNumber_198 (by decide) (fun h => absurd h (by decide)) (fun _ => ?_)
            refine lv_iload_n hx hb dX6_needNumber_201 rfl (lv_at hl 4 rfl) ?_
            refine lv_goto (tgt := 207) hx hb dX6_needNumber_202 (by decide) ?_
            have hP9 := hP.sub (ws' := [(x0, .inr (6, (fX6 x1 (nI tz) (nI t2_4) (nI ta__2) fn__8 fb__8))), (aB k x1 240 fx)]) [1, 0] rfl
            have hD9 := hD.sub (ws' := [(x0, .inr (6, (fX6 x1 (nI tz) (nI t2_4) (nI ta__2) fn__8 fb__8))), (aB k x1 240 fx)]) [1, 0] (by decide) rfl
            exact W.iret (v := p0) hx hb hr (fun t ht hW => ⟨⟨p0, (t2_4, (nI ta__2), fn__8, fb__8), rfl, ⟨by omega, by omega, ⟨Int32.le_refl _, hle⟩, .inl rfl⟩, by rw [ht]; exact hP9, hD9⟩, hS.F ht⟩) hS.2.2 dX6_needNumber_207
          · have c_7 : ¬ (3 < (t2_4 - ta__2)) := fun h => c_7 ((nI_ltI (a := 3) (b := (t2_4 - ta__2)) (by omega) (by omega)).mpr h)
            refine lv_iload hx hb dX6_needNumber_173 (lv_at hl 0 rfl) ?_
            refine lv_iload_n hx hb dX6_needNumber_175 rfl (lv_at hl 4 rfl) ?_
            refine lv_icmp_lt (tgt := 185) hx hb dX6_needNumber_176 (by decide) (fun c_10 => ?_) (fun c_10 => ?_)
            · refine lv_aload_n hx hb dX6_needNumber_185 rfl (lv_at hl 3 rfl) ?_
              refine lv_iconst (v := 2) hx hb dX6_needNumber_186 (by decide) ?_
              refine lv_aload_n hx hb dX6_needNumber_187 rfl (lv_at hl 3 rfl) ?_
              refine va_get (D := D) (ci := 6) (v := .int (nI ta__2)) (C := RX6) (T := TX6) (N := 6) hx hb hts inX6 hown hK hP 0 rfl rfl 3 (by decide) (hts _ tw_116) (fun _ h9 => h9) rfl dX6_needNumber_188 ?_
              refine rw_v (D := D) (wr := [(aB k x1 240 fx)]) (va_runV (As := [.int 2, .int (nI ta__2)]) (rest := []) ⟨hx, hb, hml, hown, hts⟩ ((x_fail l D k st lo x0 x1 tz t2_4 (nI ta__2) 0 fb 2 (nI ta__2) (by decide)) H.size) (cwV 2 hts (gV tw_476 tw_456 tw_457 tw_80 tw_458) rfl rfl rfl (by decide +kernel) ⟨Nat.le_of_ble_eq_true rfl, Nat.le_of_ble_eq_true rfl⟩) (pV hS hAlo hlo hP hK (va_Dlo hD hAlo) hZ [0] (by decide) rfl (ci := 6) (q := (RX6, TX6, 6)) (q0 := 0) rfl rfl) rfl rfl hl.1 rfl (lv_room (Nat.le_of_ble_eq_true rfl)) dX6_needNumber_191 ⟨Nat.le_of_ble_eq_true rfl, Nat.le_of_ble_eq_true rfl⟩) hS hA hP hD [0] [1] rfl rfl (by decide) (by decide) (fun u H locs hw_11 hP hD hS => ?_)
              obtain ⟨fn__11, fb__11⟩ := u
              replace hP : va_P D classes [(aB k x1 240 fx), (x0, .inr (6, (fX6 x1 (nI tz) (nI t2_4) (nI ta__2) fn__11 fb__11)))] H := hP
              replace hD : va_D A [(aB k x1 240 fx), (x0, .inr (6, (fX6 x1 (nI tz) (nI t2_4) (nI ta__2) fn__11 fb__11)))] := hD
              try dsimp only at hw_11
              refine lv_aload_n hx hb dX6_needNumber_194 rfl (lv_at hl 3 rfl) ?_
              refine ro_i (D := D) (va_runV (As := []) (rest := []) ⟨hx, hb, hml, hown, hts⟩ ((x_failed l D k st lo x0 x1 tz t2_4 (nI ta__2) fn__11 fb__11) H.size) (cwV 0 hts (gV tw_471 tw_368 tw_369 tw_80 tw_370) rfl rfl rfl (by decide +kernel) ⟨Nat.le_of_ble_eq_true rfl, Nat.le_of_ble_eq_true rfl⟩) (pV hS hAlo hlo hP hK (va_Dlo hD hAlo) hZ [1] (by decide) rfl (ci := 6) (q := (RX6, TX6, 6)) (q0 := 0) rfl rfl) rfl rfl hl.1 rfl (lv_room (Nat.le_of_ble_eq_true rfl)) dX6_needNumber_195 ⟨Nat.le_of_ble_eq_true rfl, Nat.le_of_ble_eq_true rfl⟩) hS hA hP (fun r_12 H locs hw_12 hP hS => ?_)
              try dsimp only at hw_12
              obtain rfl : r_12 = 1 := by rcases hw_12 with ⟨h, h2⟩ | ⟨h, h2⟩ <;> first | exact h | exact absurd h2 hw_11
              refine lv_if_eq (tgt := 205) hx hb dX6_needNumber_198 (by decide) (fun h => absurd h (by decide)) (fun _ => ?_)
              refine lv_iload_n hx hb dX6_needNumber_201 rfl (lv_at hl 4 rfl) ?_
              refine lv_goto (tgt := 207) hx hb dX6_needNumber_202 (by decide) ?_
              have hP9 := hP.sub (ws' := [(x0, .inr (6, (fX6 x1 (nI tz) (nI t2_4) (nI ta__2) fn__11 fb__11))), (aB k x1 240 fx)]) [1, 0] rfl
              have hD9 := hD.sub (ws' := [(x0, .inr (6, (fX6 x1 (nI tz) (nI t2_4) (nI ta__2) fn__11 fb__11))), (aB k x1 240 fx)]) [1, 0] (by decide) rfl
              exact W.iret (v := p0) hx hb hr (fun t ht hW => ⟨⟨p0, (t2_4, (nI ta__2), fn__11, fb__11), rfl, ⟨by omega, by omega, ⟨Int32.le_refl _, hle⟩, .inl rfl⟩, by rw [ht]; exact hP9, hD9⟩, hS.F ht⟩) hS.2.2 dX6_needNumber_207
            · refine lv_iload hx hb dX6_needNumber_179 (lv_at hl 0 rfl) ?_
              refine lv_iload_n hx hb dX6_needNumber_181 rfl (lv_at hl 5 rfl) ?_
              refine lv_icmp_le (tgt := 194) hx hb dX6_needNumber_182 (by decide) (fun c_13 => ?_) (fun c_13 => ?_)
              · refine lv_aload_n hx hb dX6_needNumber_194 rfl (lv_at hl 3 rfl) ?_
                refine ro_i (D := D) (va_runV (As := []) (rest := []) ⟨hx, hb, hml, hown, hts⟩ ((x_failed l D k st lo x0 x1 tz t2_4 (nI ta__2) 0 fb) H.size) (cwV 0 hts (gV tw_471 tw_368 tw_369 tw_80 tw_370) rfl rfl rfl (by decide +kernel) ⟨Nat.le_of_ble_eq_true rfl, Nat.le_of_ble_eq_true rfl⟩) (pV hS hAlo hlo hP hK (va_Dlo hD hAlo) hZ [0] (by decide) rfl (ci := 6) (q := (RX6, TX6, 6)) (q0 := 0) rfl rfl) rfl rfl hl.1 rfl (lv_room (Nat.le_of_ble_eq_true rfl)) dX6_needNumber_195 ⟨Nat.le_of_ble_eq_true rfl, Nat.le_of_ble_eq_true rfl⟩) hS hA hP (fun r_14 H locs hw_14 hP hS => ?_)
                try dsimp only at hw_14
                obtain rfl : r_14 = 0 := by rcases hw_14 with ⟨h, h2⟩ | ⟨h, h2⟩ <;> first | exact h | exact absurd rfl h2 | exact absurd h2 (by decide)
                refine lv_if_eq (tgt := 205) hx hb dX6_needNumber_198 (by decide) (fun _ => ?_) (fun h => absurd (by decide) h)
                refine lv_iload hx hb dX6_needNumber_205 (lv_at hl 0 rfl) ?_
                have hP9 := hP.sub (ws' := [(x0, .inr (6, (fX6 x1 (nI tz) (nI t2_4) (nI ta__2) 0 fb))), (aB k x1 240 fx)]) [0, 1] rfl
                have hD9 := hD.sub (ws' := [(x0, .inr (6, (fX6 x1 (nI tz) (nI t2_4) (nI ta__2) 0 fb))), (aB k x1 240 fx)]) [0, 1] (by decide) rfl
                exact W.iret (v := va_4) hx hb hr (fun t ht hW => ⟨⟨va_4, (t2_4, (nI ta__2), 0, fb), rfl, ⟨by omega, by omega, ⟨Int32.not_lt.mp c_10, c_13⟩, .inl rfl⟩, by rw [ht]; exact hP9, hD9⟩, hS.F ht⟩) hS.2.2 dX6_needNumber_207
              · refine lv_aload_n hx hb dX6_needNumber_185 rfl (lv_at hl 3 rfl) ?_
                refine lv_iconst (v := 2) hx hb dX6_needNumber_186 (by decide) ?_
                refine lv_aload_n hx hb dX6_needNumber_187 rfl (lv_at hl 3 rfl) ?_
                refine va_get (D := D) (ci := 6) (v := .int (nI ta__2)) (C := RX6) (T := TX6) (N := 6) hx hb hts inX6 hown hK hP 0 rfl rfl 3 (by decide) (hts _ tw_116) (fun _ h9 => h9) rfl dX6_needNumber_188 ?_
                refine rw_v (D := D) (wr := [(aB k x1 240 fx)]) (va_runV (As := [.int 2, .int (nI ta__2)]) (rest := []) ⟨hx, hb, hml, hown, hts⟩ ((x_fail l D k st lo x0 x1 tz t2_4 (nI ta__2) 0 fb 2 (nI ta__2) (by decide)) H.size) (cwV 2 hts (gV tw_476 tw_456 tw_457 tw_80 tw_458) rfl rfl rfl (by decide +kernel) ⟨Nat.le_of_ble_eq_true rfl, Nat.le_of_ble_eq_true rfl⟩) (pV hS hAlo hlo hP hK (va_Dlo hD hAlo) hZ [0] (by decide) rfl (ci := 6) (q := (RX6, TX6, 6)) (q0 := 0) rfl rfl) rfl rfl hl.1 rfl (lv_room (Nat.le_of_ble_eq_true rfl)) dX6_needNumber_191 ⟨Nat.le_of_ble_eq_true rfl, Nat.le_of_ble_eq_true rfl⟩) hS hA hP hD [0] [1] rfl rfl (by decide) (by decide) (fun u H locs hw_15 hP hD hS => ?_)
                obtain ⟨fn__15, fb__15⟩ := u
                replace hP : va_P D classes [(aB k x1 240 fx), (x0, .inr (6, (fX6 x1 (nI tz) (nI t2_4) (nI ta__2) fn__15 fb__15)))] H := hP
                replace hD : va_D A [(aB k x1 240 fx), (x0, .inr (6, (fX6 x1 (nI tz) (nI t2_4) (nI ta__2) fn__15 fb__15)))] := hD
                try dsimp only at hw_15
                refine lv_aload_n hx hb dX6_needNumber_194 rfl (lv_at hl 3 rfl) ?_
                refine ro_i (D := D) (va_runV (As := []) (rest := []) ⟨hx, hb, hml, hown, hts⟩ ((x_failed l D k st lo x0 x1 tz t2_4 (nI ta__2) fn__15 fb__15) H.size) (cwV 0 hts (gV tw_471 tw_368 tw_369 tw_80 tw_370) rfl rfl rfl (by decide +kernel) ⟨Nat.le_of_ble_eq_true rfl, Nat.le_of_ble_eq_true rfl⟩) (pV hS hAlo hlo hP hK (va_Dlo hD hAlo) hZ [1] (by decide) rfl (ci := 6) (q := (RX6, TX6, 6)) (q0 := 0) rfl rfl) rfl rfl hl.1 rfl (lv_room (Nat.le_of_ble_eq_true rfl)) dX6_needNumber_195 ⟨Nat.le_of_ble_eq_true rfl, Nat.le_of_ble_eq_true rfl⟩) hS hA hP (fun r_16 H locs hw_16 hP hS => ?_)
                try dsimp only at hw_16
                obtain rfl : r_16 = 1 := by rcases hw_16 with ⟨h, h2⟩ | ⟨h, h2⟩ <;> first | exact h | exact absurd h2 hw_15
                refine lv_if_eq (tgt := 205) hx hb dX6_needNumber_198 (by decide) (fun h => absurd h (by decide)) (fun _ => ?_)
                refine lv_iload_n hx hb dX6_needNumber_201 rfl (lv_at hl 4 rfl) ?_
                refine lv_goto (tgt := 207) hx hb dX6_needNumber_202 (by decide) ?_
                have hP9 := hP.sub (ws' := [(x0, .inr (6, (fX6 x1 (nI tz) (nI t2_4) (nI ta__2) fn__15 fb__15))), (aB k x1 240 fx)]) [1, 0] rfl
                have hD9 := hD.sub (ws' := [(x0, .inr (6, (fX6 x1 (nI tz) (nI t2_4) (nI ta__2) fn__15 fb__15))), (aB k x1 240 fx)]) [1, 0] (by decide) rfl
                exact W.iret (v := p0) hx hb hr (fun t ht hW => ⟨⟨p0, (t2_4, (nI ta__2), fn__15, fb__15), rfl, ⟨by omega, by omega, ⟨Int32.le_refl _, hle⟩, .inl rfl⟩, by rw [ht]; exact hP9, hD9⟩, hS.F ht⟩) hS.2.2 dX6_needNumber_207
        · have c_6 := (nI_eq (a := t2_4) (b := ta__2) (by omega) (by omega)).mp c_6
          refine lv_aload_n hx hb dX6_needNumber_150 rfl (lv_at hl 3 rfl) ?_
          refine lv_iconst (v := 1) hx hb dX6_needNumber_151 (by decide) ?_
          refine lv_aload_n hx hb dX6_needNumber_152 rfl (lv_at hl 3 rfl) ?_
          refine va_get (D := D) (ci := 6) (v := .int (nI t2_4)) (C := RX6) (T := TX6) (N := 6) hx hb hts inX6 hown hK hP 0 rfl rfl 2 (by decide) (hts _ tw_113) (fun _ h9 => h9) rfl dX6_needNumber_153 ?_
          refine rw_v (D := D) (wr := [(aB k x1 240 fx)]) (va_runV (As := [.int 1, .int (nI t2_4)]) (rest := []) ⟨hx, hb, hml, hown, hts⟩ ((x_fail l D k st lo x0 x1 tz t2_4 (nI ta__2) 0 fb 1 (nI t2_4) (by decide)) H.size) (cwV 2 hts (gV tw_476 tw_456 tw_457 tw_80 tw_458) rfl rfl rfl (by decide +kernel) ⟨Nat.le_of_ble_eq_true rfl, Nat.le_of_ble_eq_true rfl⟩) (pV hS hAlo hlo hP hK (va_Dlo hD hAlo) hZ [0] (by decide) rfl (ci := 6) (q := (RX6, TX6, 6)) (q0 := 0) rfl rfl) rfl rfl hl.1 rfl (lv_room (Nat.le_of_ble_eq_true rfl)) dX6_needNumber_156 ⟨Nat.le_of_ble_eq_true rfl, Nat.le_of_ble_eq_true rfl⟩) hS hA hP hD [0] [1] rfl rfl (by decide) (by decide) (fun u H locs hw_17 hP hD hS => ?_)
          obtain ⟨fn__17, fb__17⟩ := u
          replace hP : va_P D classes [(aB k x1 240 fx), (x0, .inr (6, (fX6 x1 (nI tz) (nI t2_4) (nI ta__2) fn__17 fb__17)))] H := hP
          replace hD : va_D A [(aB k x1 240 fx), (x0, .inr (6, (fX6 x1 (nI tz) (nI t2_4) (nI ta__2) fn__17 fb__17)))] := hD
          try dsimp only at hw_17
          refine lv_goto (tgt := 194) hx hb dX6_needNumber_159 (by decide) ?_
          refine lv_aload_n hx hb dX6_needNumber_194 rfl (lv_at hl 3 rfl) ?_
          refine ro_i (D := D) (va_runV (As := []) (rest := []) ⟨hx, hb, hml, hown, hts⟩ ((x_failed l D k st lo x0 x1 tz t2_4 (nI ta__2) fn__17 fb__17) H.size) (cwV 0 hts (gV tw_471 tw_368 tw_369 tw_80 tw_370) rfl rfl rfl (by decide +kernel) ⟨Nat.le_of_ble_eq_true rfl, Nat.le_of_ble_eq_true rfl⟩) (pV hS hAlo hlo hP hK (va_Dlo hD hAlo) hZ [1] (by decide) rfl (ci := 6) (q := (RX6, TX6, 6)) (q0 := 0) rfl rfl) rfl rfl hl.1 rfl (lv_room (Nat.le_of_ble_eq_true rfl)) dX6_needNumber_195 ⟨Nat.le_of_ble_eq_true rfl, Nat.le_of_ble_eq_true rfl⟩) hS hA hP (fun r_18 H locs hw_18 hP hS => ?_)
          try dsimp only at hw_18
          obtain rfl : r_18 = 1 := by rcases hw_18 with ⟨h, h2⟩ | ⟨h, h2⟩ <;> first | exact h | exact absurd h2 hw_17
          refine lv_if_eq (tgt := 205) hx hb dX6_needNumber_198 (by decide) (fun h => absurd h (by decide)) (fun _ => ?_)
          refine lv_iload_n hx hb dX6_needNumber_201 rfl (lv_at hl 4 rfl) ?_
          refine lv_goto (tgt := 207) hx hb dX6_needNumber_202 (by decide) ?_
          have hP9 := hP.sub (ws' := [(x0, .inr (6, (fX6 x1 (nI tz) (nI t2_4) (nI ta__2) fn__17 fb__17))), (aB k x1 240 fx)]) [1, 0] rfl
          have hD9 := hD.sub (ws' := [(x0, .inr (6, (fX6 x1 (nI tz) (nI t2_4) (nI ta__2) fn__17 fb__17))), (aB k x1 240 fx)]) [1, 0] (by decide) rfl
          exact W.iret (v := p0) hx hb hr (fun t ht hW => ⟨⟨p0, (t2_4, (nI ta__2), fn__17, fb__17), rfl, ⟨by omega, by omega, ⟨Int32.le_refl _, hle⟩, .inl rfl⟩, by rw [ht]; exact hP9, hD9⟩, hS.F ht⟩) hS.2.2 dX6_needNumber_207
      · have c_5 : ¬ (tz ≤ t2_4) := fun h => c_5 ((nI_leI (a := tz) (b := t2_4) (by omega) (by omega)).mpr h)
        refine lv_aload_n hx hb dX6_needNumber_78 rfl (lv_at hl 3 rfl) ?_
        refine lv_aload_n hx hb dX6_needNumber_79 rfl (lv_at hl 3 rfl) ?_
        refine va_get (D := D) (ci := 6) (v := .int (nI t2_4)) (C := RX6) (T := TX6) (N := 6) hx hb hts inX6 hown hK hP 0 rfl rfl 2 (by decide) (hts _ tw_113) (fun _ h9 => h9) rfl dX6_needNumber_80 ?_
        refine ro_i (D := D) (va_runV (As := [.int (nI t2_4)]) (rest := []) ⟨hx, hb, hml, hown, hts⟩ ((x_isFigureAt l D k st lo x0 x1 tz t2_4 (nI ta__2) 0 fb fx t2_4 (by omega) (by omega)) H.size) (cwV 1 hts (gV tw_472 tw_473 tw_474 tw_80 tw_475) rfl rfl rfl (by decide +kernel) ⟨Nat.le_of_ble_eq_true rfl, Nat.le_of_ble_eq_true rfl⟩) (pV hS hAlo hlo hP hK (va_Dlo hD hAlo) hZ [0, 1] (by decide) rfl (ci := 6) (q := (RX6, TX6, 6)) (q0 := 0) rfl rfl) rfl rfl hl.1 rfl (lv_room (Nat.le_of_ble_eq_true rfl)) dX6_needNumber_83 ⟨Nat.le_of_ble_eq_true rfl, Nat.le_of_ble_eq_true rfl⟩) hS hA hP (fun r_19 H locs hw_19 hP hS => ?_)
        try dsimp only at hw_19
        refine lv_if_eq (tgt := 132) hx hb dX6_needNumber_86 (by decide) (fun c_20 => ?_) (fun c_20 => ?_)
        · refine lv_iload_n hx hb dX6_needNumber_132 rfl (lv_at hl 2 rfl) ?_
          refine lv_if_eq (tgt := 141) hx hb dX6_needNumber_133 (by decide) (fun _ => ?_) (fun h => absurd (by decide) h)
          refine lv_aload_n hx hb dX6_needNumber_141 rfl (lv_at hl 3 rfl) ?_
          refine va_get (D := D) (ci := 6) (v := .int (nI t2_4)) (C := RX6) (T := TX6) (N := 6) hx hb hts inX6 hown hK hP 0 rfl rfl 2 (by decide) (hts _ tw_113) (fun _ h9 => h9) rfl dX6_needNumber_142 ?_
          refine lv_iload hx hb dX6_needNumber_145 (lv_at hl 1 rfl) ?_
          refine lv_icmp_ne (tgt := 162) hx hb dX6_needNumber_147 (by decide) (fun c_21 => ?_) (fun c_21 => ?_)
          · have c_21 : ¬ (t2_4 = ta__2) := fun h => c_21 ((nI_eq (a := t2_4) (b := ta__2) (by omega) (by omega)).mpr h)
            refine lv_aload_n hx hb dX6_needNumber_162 rfl (lv_at hl 3 rfl) ?_
            refine va_get (D := D) (ci := 6) (v := .int (nI t2_4)) (C := RX6) (T := TX6) (N := 6) hx hb hts inX6 hown hK hP 0 rfl rfl 2 (by decide) (hts _ tw_113) (fun _ h9 => h9) rfl dX6_needNumber_163 ?_
            refine lv_iload hx hb dX6_needNumber_166 (lv_at hl 1 rfl) ?_
            refine lv_isub hx hb dX6_needNumber_168 ?_
            refine lv_ti (y := (nI (t2_4 - ta__2))) (pk_sub (a := t2_4) (b := ta__2) (by omega)) ?_
            refine lv_iconst (v := 3) hx hb dX6_needNumber_169 (by decide) ?_
            refine lv_icmp_gt (tgt := 185) hx hb dX6_needNumber_170 (by decide) (fun c_22 => ?_) (fun c_22 => ?_)
            · have c_22 := (nI_ltI (a := 3) (b := (t2_4 - ta__2)) (by omega) (by omega)).mp c_22
              refine lv_aload_n hx hb dX6_needNumber_185 rfl (lv_at hl 3 rfl) ?_
              refine lv_iconst (v := 2) hx hb dX6_needNumber_186 (by decide) ?_
              refine lv_aload_n hx hb dX6_needNumber_187 rfl (lv_at hl 3 rfl) ?_
              refine va_get (D := D) (ci := 6) (v := .int (nI ta__2)) (C := RX6) (T := TX6) (N := 6) hx hb hts inX6 hown hK hP 0 rfl rfl 3 (by decide) (hts _ tw_116) (fun _ h9 => h9) rfl dX6_needNumber_188 ?_
              refine rw_v (D := D) (wr := [(aB k x1 240 fx)]) (va_runV (As := [.int 2, .int (nI ta__2)]) (rest := []) ⟨hx, hb, hml, hown, hts⟩ ((x_fail l D k st lo x0 x1 tz t2_4 (nI ta__2) 0 fb 2 (nI ta__2) (by decide)) H.size) (cwV 2 hts (gV tw_476 tw_456 tw_457 tw_80 tw_458) rfl rfl rfl (by decide +kernel) ⟨Nat.le_of_ble_eq_true rfl, Nat.le_of_ble_eq_true rfl⟩) (pV hS hAlo hlo hP hK (va_Dlo hD hAlo) hZ [0] (by decide) rfl (ci := 6) (q := (RX6, TX6, 6)) (q0 := 0) rfl rfl) rfl rfl hl.1 rfl (lv_room (Nat.le_of_ble_eq_true rfl)) dX6_needNumber_191 ⟨Nat.le_of_ble_eq_true rfl, Nat.le_of_ble_eq_true rfl⟩) hS hA hP hD [0] [1] rfl rfl (by decide) (by decide) (fun u H locs hw_23 hP hD hS => ?_)
              obtain ⟨fn__23, fb__23⟩ := u
              replace hP : va_P D classes [(aB k x1 240 fx), (x0, .inr (6, (fX6 x1 (nI tz) (nI t2_4) (nI ta__2) fn__23 fb__23)))] H := hP
              replace hD : va_D A [(aB k x1 240 fx), (x0, .inr (6, (fX6 x1 (nI tz) (nI t2_4) (nI ta__2) fn__23 fb__23)))] := hD
              try dsimp only at hw_23
              refine lv_aload_n hx hb dX6_needNumber_194 rfl (lv_at hl 3 rfl) ?_
              refine ro_i (D := D) (va_runV (As := []) (rest := []) ⟨hx, hb, hml, hown, hts⟩ ((x_failed l D k st lo x0 x1 tz t2_4 (nI ta__2) fn__23 fb__23) H.size) (cwV 0 hts (gV tw_471 tw_368 tw_369 tw_80 tw_370) rfl rfl rfl (by decide +kernel) ⟨Nat.le_of_ble_eq_true rfl, Nat.le_of_ble_eq_true rfl⟩) (pV hS hAlo hlo hP hK (va_Dlo hD hAlo) hZ [1] (by decide) rfl (ci := 6) (q := (RX6, TX6, 6)) (q0 := 0) rfl rfl) rfl rfl hl.1 rfl (lv_room (Nat.le_of_ble_eq_true rfl)) dX6_needNumber_195 ⟨Nat.le_of_ble_eq_true rfl, Nat.le_of_ble_eq_true rfl⟩) hS hA hP (fun r_24 H locs hw_24 hP hS => ?_)
              try dsimp only at hw_24
              obtain rfl : r_24 = 1 := by rcases hw_24 with ⟨h, h2⟩ | ⟨h, h2⟩ <;> first | exact h | exact absurd h2 hw_23
              refine lv_if_eq (tgt := 205) hx hb dX6_needNumber_198 (by decide) (fun h => absurd h (by decide)) (fun _ => ?_)
              refine lv_iload_n hx hb dX6_needNumber_201 rfl (lv_at hl 4 rfl) ?_
              refine lv_goto (tgt := 207) hx hb dX6_needNumber_202 (by decide) ?_
              have hP9 := hP.sub (ws' := [(x0, .inr (6, (fX6 x1 (nI tz) (nI t2_4) (nI ta__2) fn__23 fb__23))), (aB k x1 240 fx)]) [1, 0] rfl
              have hD9 := hD.sub (ws' := [(x0, .inr (6, (fX6 x1 (nI tz) (nI t2_4) (nI ta__2) fn__23 fb__23))), (aB k x1 240 fx)]) [1, 0] (by decide) rfl
              exact W.iret (v := p0) hx hb hr (fun t ht hW => ⟨⟨p0, (t2_4, (nI ta__2), fn__23, fb__23), rfl, ⟨by omega, by omega, ⟨Int32.le_refl _, hle⟩, .inl rfl⟩, by rw [ht]; exact hP9, hD9⟩, hS.F ht⟩) hS.2.2 dX6_needNumber_207
            · have c_22 : ¬ (3 < (t2_4 - ta__2)) := fun h => c_22 ((nI_ltI (a := 3) (b := (t2_4 - ta__2)) (by omega) (by omega)).mpr h)
              refine lv_iload hx hb dX6_needNumber_173 (lv_at hl 0 rfl) ?_
              refine lv_iload_n hx hb dX6_needNumber_175 rfl (lv_at hl 4 rfl) ?_
              refine lv_icmp_lt (tgt := 185) hx hb dX6_needNumber_176 (by decide) (fun c_25 => ?_) (fun c_25 => ?_)
              · refine lv_aload_n hx hb dX6_needNumber_185 rfl (lv_at hl 3 rfl) ?_
                refine lv_iconst (v := 2) hx hb dX6_needNumber_186 (by decide) ?_
                refine lv_aload_n hx hb dX6_needNumber_187 rfl (lv_at hl 3 rfl) ?_
                refine va_get (D := D) (ci := 6) (v := .int (nI ta__2)) (C := RX6) (T := TX6) (N := 6) hx hb hts inX6 hown hK hP 0 rfl rfl 3 (by decide) (hts _ tw_116) (fun _ h9 => h9) rfl dX6_needNumber_188 ?_
                refine rw_v (D := D) (wr := [(aB k x1 240 fx)]) (va_runV (As := [.int 2, .int (nI ta__2)]) (rest := []) ⟨hx, hb, hml, hown, hts⟩ ((x_fail l D k st lo x0 x1 tz t2_4 (nI ta__2) 0 fb 2 (nI ta__2) (by decide)) H.size) (cwV 2 hts (gV tw_476 tw_456 tw_457 tw_80 tw_458) rfl rfl rfl (by decide +kernel) ⟨Nat.le_of_ble_eq_true rfl, Nat.le_of_ble_eq_true rfl⟩) (pV hS hAlo hlo hP hK (va_Dlo hD hAlo) hZ [0] (by decide) rfl (ci := 6) (q := (RX6, TX6, 6)) (q0 := 0) rfl rfl) rfl rfl hl.1 rfl (lv_room (Nat.le_of_ble_eq_true rfl)) dX6_needNumber_191 ⟨Nat.le_of_ble_eq_true rfl, Nat.le_of_ble_eq_true rfl⟩) hS hA hP hD [0] [1] rfl rfl (by decide) (by decide) (fun u H locs hw_26 hP hD hS => ?_)
                obtain ⟨fn__26, fb__26⟩ := u
                replace hP : va_P D classes [(aB k x1 240 fx), (x0, .inr (6, (fX6 x1 (nI tz) (nI t2_4) (nI ta__2) fn__26 fb__26)))] H := hP
                replace hD : va_D A [(aB k x1 240 fx), (x0, .inr (6, (fX6 x1 (nI tz) (nI t2_4) (nI ta__2) fn__26 fb__26)))] := hD
                try dsimp only at hw_26
                refine lv_aload_n hx hb dX6_needNumber_194 rfl (lv_at hl 3 rfl) ?_
                refine ro_i (D := D) (va_runV (As := []) (rest := []) ⟨hx, hb, hml, hown, hts⟩ ((x_failed l D k st lo x0 x1 tz t2_4 (nI ta__2) fn__26 fb__26) H.size) (cwV 0 hts (gV tw_471 tw_368 tw_369 tw_80 tw_370) rfl rfl rfl (by decide +kernel) ⟨Nat.le_of_ble_eq_true rfl, Nat.le_of_ble_eq_true rfl⟩) (pV hS hAlo hlo hP hK (va_Dlo hD hAlo) hZ [1] (by decide) rfl (ci := 6) (q := (RX6, TX6, 6)) (q0 := 0) rfl rfl) rfl rfl hl.1 rfl (lv_room (Nat.le_of_ble_eq_true rfl)) dX6_needNumber_195 ⟨Nat.le_of_ble_eq_true rfl, Nat.le_of_ble_eq_true rfl⟩) hS hA hP (fun r_27 H locs hw_27 hP hS => ?_)
                try dsimp only at hw_27
                obtain rfl : r_27 = 1 := by rcases hw_27 with ⟨h, h2⟩ | ⟨h, h2⟩ <;> first | exact h | exact absurd h2 hw_26
                refine lv_if_eq (tgt := 205) hx hb dX6_needNumber_198 (by decide) (fun h => absurd h (by decide)) (fun _ => ?_)
                refine lv_iload_n hx hb dX6_needNumber_201 rfl (lv_at hl 4 rfl) ?_
                refine lv_goto (tgt := 207) hx hb dX6_needNumber_202 (by decide) ?_
                have hP9 := hP.sub (ws' := [(x0, .inr (6, (fX6 x1 (nI tz) (nI t2_4) (nI ta__2) fn__26 fb__26))), (aB k x1 240 fx)]) [1, 0] rfl
                have hD9 := hD.sub (ws' := [(x0, .inr (6, (fX6 x1 (nI tz) (nI t2_4) (nI ta__2) fn__26 fb__26))), (aB k x1 240 fx)]) [1, 0] (by decide) rfl
                exact W.iret (v := p0) hx hb hr (fun t ht hW => ⟨⟨p0, (t2_4, (nI ta__2), fn__26, fb__26), rfl, ⟨by omega, by omega, ⟨Int32.le_refl _, hle⟩, .inl rfl⟩, by rw [ht]; exact hP9, hD9⟩, hS.F ht⟩) hS.2.2 dX6_needNumber_207
              · refine lv_iload hx hb dX6_needNumber_179 (lv_at hl 0 rfl) ?_
                refine lv_iload_n hx hb dX6_needNumber_181 rfl (lv_at hl 5 rfl) ?_
                refine lv_icmp_le (tgt := 194) hx hb dX6_needNumber_182 (by decide) (fun c_28 => ?_) (fun c_28 => ?_)
                · refine lv_aload_n hx hb dX6_needNumber_194 rfl (lv_at hl 3 rfl) ?_
                  refine ro_i (D := D) (va_runV (As := []) (rest := []) ⟨hx, hb, hml, hown, hts⟩ ((x_failed l D k st lo x0 x1 tz t2_4 (nI ta__2) 0 fb) H.size) (cwV 0 hts (gV tw_471 tw_368 tw_369 tw_80 tw_370) rfl rfl rfl (by decide +kernel) ⟨Nat.le_of_ble_eq_true rfl, Nat.le_of_ble_eq_true rfl⟩) (pV hS hAlo hlo hP hK (va_Dlo hD hAlo) hZ [0] (by decide) rfl (ci := 6) (q := (RX6, TX6, 6)) (q0 := 0) rfl rfl) rfl rfl hl.1 rfl (lv_room (Nat.le_of_ble_eq_true rfl)) dX6_needNumber_195 ⟨Nat.le_of_ble_eq_true rfl, Nat.le_of_ble_eq_true rfl⟩) hS hA hP (fun r_29 H locs hw_29 hP hS => ?_)
                  try dsimp only at hw_29
                  obtain rfl : r_29 = 0 := by rcases hw_29 with ⟨h, h2⟩ | ⟨h, h2⟩ <;> first | exact h | exact absurd rfl h2 | exact absurd h2 (by decide)
                  refine lv_if_eq (tgt := 205) hx hb dX6_needNumber_198 (by decide) (fun _ => ?_) (fun h => absurd (by decide) h)
                  refine lv_iload hx hb dX6_needNumber_205 (lv_at hl 0 rfl) ?_
                  have hP9 := hP.sub (ws' := [(x0, .inr (6, (fX6 x1 (nI tz) (nI t2_4) (nI ta__2) 0 fb))), (aB k x1 240 fx)]) [0, 1] rfl
                  have hD9 := hD.sub (ws' := [(x0, .inr (6, (fX6 x1 (nI tz) (nI t2_4) (nI ta__2) 0 fb))), (aB k x1 240 fx)]) [0, 1] (by decide) rfl
                  exact W.iret (v := va_4) hx hb hr (fun t ht hW => ⟨⟨va_4, (t2_4, (nI ta__2), 0, fb), rfl, ⟨by omega, by omega, ⟨Int32.not_lt.mp c_25, c_28⟩, .inl rfl⟩, by rw [ht]; exact hP9, hD9⟩, hS.F ht⟩) hS.2.2 dX6_needNumber_207
                · refine lv_aload_n hx hb dX6_needNumber_185 rfl (lv_at hl 3 rfl) ?_
                  refine lv_iconst (v := 2) hx hb dX6_needNumber_186 (by decide) ?_
                  refine lv_aload_n hx hb dX6_needNumber_187 rfl (lv_at hl 3 rfl) ?_
                  refine va_get (D := D) (ci := 6) (v := .int (nI ta__2)) (C := RX6) (T := TX6) (N := 6) hx hb hts inX6 hown hK hP 0 rfl rfl 3 (by decide) (hts _ tw_116) (fun _ h9 => h9) rfl dX6_needNumber_188 ?_
                  refine rw_v (D := D) (wr := [(aB k x1 240 fx)]) (va_runV (As := [.int 2, .int (nI ta__2)]) (rest := []) ⟨hx, hb, hml, hown, hts⟩ ((x_fail l D k st lo x0 x1 tz t2_4 (nI ta__2) 0 fb 2 (nI ta__2) (by decide)) H.size) (cwV 2 hts (gV tw_476 tw_456 tw_457 tw_80 tw_458) rfl rfl rfl (by decide +kernel) ⟨Nat.le_of_ble_eq_true rfl, Nat.le_of_ble_eq_true rfl⟩) (pV hS hAlo hlo hP hK (va_Dlo hD hAlo) hZ [0] (by decide) rfl (ci := 6) (q := (RX6, TX6, 6)) (q0 := 0) rfl rfl) rfl rfl hl.1 rfl (lv_room (Nat.le_of_ble_eq_true rfl)) dX6_needNumber_191 ⟨Nat.le_of_ble_eq_true rfl, Nat.le_of_ble_eq_true rfl⟩) hS hA hP hD [0] [1] rfl rfl (by decide) (by decide) (fun u H locs hw_30 hP hD hS => ?_)
                  obtain ⟨fn__30, fb__30⟩ := u
                  replace hP : va_P D classes [(aB k x1 240 fx), (x0, .inr (6, (fX6 x1 (nI tz) (nI t2_4) (nI ta__2) fn__30 fb__30)))] H := hP
                  replace hD : va_D A [(aB k x1 240 fx), (x0, .inr (6, (fX6 x1 (nI tz) (nI t2_4) (nI ta__2) fn__30 fb__30)))] := hD
                  try dsimp only at hw_30
                  refine lv_aload_n hx hb dX6_needNumber_194 rfl (lv_at hl 3 rfl) ?_
                  refine ro_i (D := D) (va_runV (As := []) (rest := []) ⟨hx, hb, hml, hown, hts⟩ ((x_failed l D k st lo x0 x1 tz t2_4 (nI ta__2) fn__30 fb__30) H.size) (cwV 0 hts (gV tw_471 tw_368 tw_369 tw_80 tw_370) rfl rfl rfl (by decide +kernel) ⟨Nat.le_of_ble_eq_true rfl, Nat.le_of_ble_eq_true rfl⟩) (pV hS hAlo hlo hP hK (va_Dlo hD hAlo) hZ [1] (by decide) rfl (ci := 6) (q := (RX6, TX6, 6)) (q0 := 0) rfl rfl) rfl rfl hl.1 rfl (lv_room (Nat.le_of_ble_eq_true rfl)) dX6_needNumber_195 ⟨Nat.le_of_ble_eq_true rfl, Nat.le_of_ble_eq_true rfl⟩) hS hA hP (fun r_31 H locs hw_31 hP hS => ?_)
                  try dsimp only at hw_31
                  obtain rfl : r_31 = 1 := by rcases hw_31 with ⟨h, h2⟩ | ⟨h, h2⟩ <;> first | exact h | exact absurd h2 hw_30
                  refine lv_if_eq (tgt := 205) hx hb dX6_needNumber_198 (by decide) (fun h => absurd h (by decide)) (fun _ => ?_)
                  refine lv_iload_n hx hb dX6_needNumber_201 rfl (lv_at hl 4 rfl) ?_
                  refine lv_goto (tgt := 207) hx hb dX6_needNumber_202 (by decide) ?_
                  have hP9 := hP.sub (ws' := [(x0, .inr (6, (fX6 x1 (nI tz) (nI t2_4) (nI ta__2) fn__30 fb__30))), (aB k x1 240 fx)]) [1, 0] rfl
                  have hD9 := hD.sub (ws' := [(x0, .inr (6, (fX6 x1 (nI tz) (nI t2_4) (nI ta__2) fn__30 fb__30))), (aB k x1 240 fx)]) [1, 0] (by decide) rfl
                  exact W.iret (v := p0) hx hb hr (fun t ht hW => ⟨⟨p0, (t2_4, (nI ta__2), fn__30, fb__30), rfl, ⟨by omega, by omega, ⟨Int32.le_refl _, hle⟩, .inl rfl⟩, by rw [ht]; exact hP9, hD9⟩, hS.F ht⟩) hS.2.2 dX6_needNumber_207
          · have c_21 := (nI_eq (a := t2_4) (b := ta__2) (by omega) (by omega)).mp c_21
            refine lv_aload_n hx hb dX6_needNumber_150 rfl (lv_at hl 3 rfl) ?_
            refine lv_iconst (v := 1) hx hb dX6_needNumber_151 (by decide) ?_
            refine lv_aload_n hx hb dX6_needNumber_152 rfl (lv_at hl 3 rfl) ?_
            refine va_get (D := D) (ci := 6) (v := .int (nI t2_4)) (C := RX6) (T := TX6) (N := 6) hx hb hts inX6 hown hK hP 0 rfl rfl 2 (by decide) (hts _ tw_113) (fun _ h9 => h9) rfl dX6_needNumber_153 ?_
            refine rw_v (D := D) (wr := [(aB k x1 240 fx)]) (va_runV (As := [.int 1, .int (nI t2_4)]) (rest := []) ⟨hx, hb, hml, hown, hts⟩ ((x_fail l D k st lo x0 x1 tz t2_4 (nI ta__2) 0 fb 1 (nI t2_4) (by decide)) H.size) (cwV 2 hts (gV tw_476 tw_456 tw_457 tw_80 tw_458) rfl rfl rfl (by decide +kernel) ⟨Nat.le_of_ble_eq_true rfl, Nat.le_of_ble_eq_true rfl⟩) (pV hS hAlo hlo hP hK (va_Dlo hD hAlo) hZ [0] (by decide) rfl (ci := 6) (q := (RX6, TX6, 6)) (q0 := 0) rfl rfl) rfl rfl hl.1 rfl (lv_room (Nat.le_of_ble_eq_true rfl)) dX6_needNumber_156 ⟨Nat.le_of_ble_eq_true rfl, Nat.le_of_ble_eq_true rfl⟩) hS hA hP hD [0] [1] rfl rfl (by decide) (by decide) (fun u H locs hw_32 hP hD hS => ?_)
            obtain ⟨fn__32, fb__32⟩ := u
            replace hP : va_P D classes [(aB k x1 240 fx), (x0, .inr (6, (fX6 x1 (nI tz) (nI t2_4) (nI ta__2) fn__32 fb__32)))] H := hP
            replace hD : va_D A [(aB k x1 240 fx), (x0, .inr (6, (fX6 x1 (nI tz) (nI t2_4) (nI ta__2) fn__32 fb__32)))] := hD
            try dsimp only at hw_32
            refine lv_goto (tgt := 194) hx hb dX6_needNumber_159 (by decide) ?_
            refine lv_aload_n hx hb dX6_needNumber_194 rfl (lv_at hl 3 rfl) ?_
            refine ro_i (D := D) (va_runV (As := []) (rest := []) ⟨hx, hb, hml, hown, hts⟩ ((x_failed l D k st lo x0 x1 tz t2_4 (nI ta__2) fn__32 fb__32) H.size) (cwV 0 hts (gV tw_471 tw_368 tw_369 tw_80 tw_370) rfl rfl rfl (by decide +kernel) ⟨Nat.le_of_ble_eq_true rfl, Nat.le_of_ble_eq_true rfl⟩) (pV hS hAlo hlo hP hK (va_Dlo hD hAlo) hZ [1] (by decide) rfl (ci := 6) (q := (RX6, TX6, 6)) (q0 := 0) rfl rfl) rfl rfl hl.1 rfl (lv_room (Nat.le_of_ble_eq_true rfl)) dX6_needNumber_195 ⟨Nat.le_of_ble_eq_true rfl, Nat.le_of_ble_eq_true rfl⟩) hS hA hP (fun r_33 H locs hw_33 hP hS => ?_)
            try dsimp only at hw_33
            obtain rfl : r_33 = 1 := by rcases hw_33 with ⟨h, h2⟩ | ⟨h, h2⟩ <;> first | exact h | exact absurd h2 hw_32
            refine lv_if_eq (tgt := 205) hx hb dX6_needNumber_198 (by decide) (fun h => absurd h (by decide)) (fun _ => ?_)
            refine lv_iload_n hx hb dX6_needNumber_201 rfl (lv_at hl 4 rfl) ?_
            refine lv_goto (tgt := 207) hx hb dX6_needNumber_202 (by decide) ?_
            have hP9 := hP.sub (ws' := [(x0, .inr (6, (fX6 x1 (nI tz) (nI t2_4) (nI ta__2) fn__32 fb__32))), (aB k x1 240 fx)]) [1, 0] rfl
            have hD9 := hD.sub (ws' := [(x0, .inr (6, (fX6 x1 (nI tz) (nI t2_4) (nI ta__2) fn__32 fb__32))), (aB k x1 240 fx)]) [1, 0] (by decide) rfl
            exact W.iret (v := p0) hx hb hr (fun t ht hW => ⟨⟨p0, (t2_4, (nI ta__2), fn__32, fb__32), rfl, ⟨by omega, by omega, ⟨Int32.le_refl _, hle⟩, .inl rfl⟩, by rw [ht]; exact hP9, hD9⟩, hS.F ht⟩) hS.2.2 dX6_needNumber_207
        · refine lv_aload_n hx hb dX6_needNumber_89 rfl (lv_at hl 3 rfl) ?_
          refine va_get (D := D) (ci := 6) (v := .int (nI t2_4)) (C := RX6) (T := TX6) (N := 6) hx hb hts inX6 hown hK hP 0 rfl rfl 2 (by decide) (hts _ tw_113) (fun _ h9 => h9) rfl dX6_needNumber_90 ?_
          refine lv_iload hx hb dX6_needNumber_93 (lv_at hl 1 rfl) ?_
          refine lv_isub hx hb dX6_needNumber_95 ?_
          refine lv_ti (y := (nI (t2_4 - ta__2))) (pk_sub (a := t2_4) (b := ta__2) (by omega)) ?_
          refine lv_iconst (v := 3) hx hb dX6_needNumber_96 (by decide) ?_
          refine lv_icmp_ge (tgt := 119) hx hb dX6_needNumber_97 (by decide) (fun c_34 => ?_) (fun c_34 => ?_)
          · have c_34 := (nI_leI (a := 3) (b := (t2_4 - ta__2)) (by omega) (by omega)).mp c_34
            refine lv_aload_n hx hb dX6_needNumber_119 rfl (lv_at hl 3 rfl) ?_
            refine lv_dup hx hb dX6_needNumber_120 rfl ?_
            refine va_get (D := D) (ci := 6) (v := .int (nI t2_4)) (C := RX6) (T := TX6) (N := 6) hx hb hts inX6 hown hK hP 0 rfl rfl 2 (by decide) (hts _ tw_113) (fun _ h9 => h9) rfl dX6_needNumber_121 ?_
            refine lv_iconst (v := 1) hx hb dX6_needNumber_124 (by decide) ?_
            refine lv_iadd hx hb dX6_needNumber_125 ?_
            refine lv_ti (y := (nI (t2_4 + 1))) (nI_add t2_4 1) ?_
            refine va_put (D := D) (ci := 6) (v := .int (nI (t2_4 + 1))) (ty := .int) (C := RX6) (T := TX6) (N := 6) hx hb hts inX6 tyX6 tyX6_ok nmX6 hown hK hP hD hS 0 rfl rfl 2 (by decide) (hts _ tw_113) (fun _ h9 => h9) rfl (by decide +kernel) rfl rfl (Nat.le_of_ble_eq_true rfl) dX6_needNumber_126 (fun H locs hP hD hS => ?_)
            replace hP : va_P D classes [(x0, .inr (6, (fX6 x1 (nI tz) (nI (t2_4 + 1)) (nI ta__2) 0 fb))), (aB k x1 240 fx)] H := hP
            replace hD : va_D A [(x0, .inr (6, (fX6 x1 (nI tz) (nI (t2_4 + 1)) (nI ta__2) 0 fb))), (aB k x1 240 fx)] := hD
            refine lv_goto (tgt := 67) hx hb dX6_needNumber_129 (by decide) ?_
            exact ih_4 _ (t2_4 + 1, va_4) _ _ _ (by omega) ⟨rfl, ⟨by omega, by omega⟩, hP, hD, hS, (lv_sub hl [0, 1, 2, 3, 4, 5] rfl)⟩
          · have c_34 : ¬ (3 ≤ (t2_4 - ta__2)) := fun h => c_34 ((nI_leI (a := 3) (b := (t2_4 - ta__2)) (by omega) (by omega)).mpr h)
            refine lv_iload hx hb dX6_needNumber_100 (lv_at hl 0 rfl) ?_
            refine lv_bipush (v := 10) hx hb dX6_needNumber_102 (by decide) ?_
            refine lv_imul hx hb dX6_needNumber_104 ?_
            refine lv_topi (fun x_35 ex_35 => ?_)
            refine lv_aload_n hx hb dX6_needNumber_105 rfl (lv_at hl 3 rfl) ?_
            refine lv_aload_n hx hb dX6_needNumber_106 rfl (lv_at hl 3 rfl) ?_
            refine va_get (D := D) (ci := 6) (v := .int (nI t2_4)) (C := RX6) (T := TX6) (N := 6) hx hb hts inX6 hown hK hP 0 rfl rfl 2 (by decide) (hts _ tw_113) (fun _ h9 => h9) rfl dX6_needNumber_107 ?_
            refine ro_i (D := D) (va_runV (As := [.int (nI t2_4)]) (rest := [.int x_35]) ⟨hx, hb, hml, hown, hts⟩ ((x_byteAt l D k st lo x0 x1 tz t2_4 (nI ta__2) 0 fb fx t2_4 (by omega) (by omega)) H.size) (cwV 1 hts (gV tw_379 tw_380 tw_381 tw_80 tw_382) rfl rfl rfl (by decide +kernel) ⟨Nat.le_of_ble_eq_true rfl, Nat.le_of_ble_eq_true rfl⟩) (pV hS hAlo hlo hP hK (va_Dlo hD hAlo) hZ [0, 1] (by decide) rfl (ci := 6) (q := (RX6, TX6, 6)) (q0 := 0) rfl rfl) rfl rfl hl.1 rfl (lv_room (Nat.le_of_ble_eq_true rfl)) dX6_needNumber_110 ⟨Nat.le_of_ble_eq_true rfl, Nat.le_of_ble_eq_true rfl⟩) hS hA hP (fun r_36 H locs hw_36 hP hS => ?_)
            try dsimp only at hw_36
            refine lv_iadd hx hb dX6_needNumber_113 ?_
            refine lv_topi (fun x_37 ex_37 => ?_)
            refine lv_bipush (v := 48) hx hb dX6_needNumber_114 (by decide) ?_
            refine lv_isub hx hb dX6_needNumber_116 ?_
            refine lv_topi (fun x_38 ex_38 => ?_)
            refine lv_istore (lv' := [(5, .int x_38), (4, .int (nI ta__2)), (3, .int 0), (0, .ref x0), (1, .int p0), (2, .int p1)]) hx hb dX6_needNumber_117 hl (by decide) rfl (fun ls hl => ?_)
            refine lv_aload_n hx hb dX6_needNumber_119 rfl (lv_at hl 3 rfl) ?_
            refine lv_dup hx hb dX6_needNumber_120 rfl ?_
            refine va_get (D := D) (ci := 6) (v := .int (nI t2_4)) (C := RX6) (T := TX6) (N := 6) hx hb hts inX6 hown hK hP 0 rfl rfl 2 (by decide) (hts _ tw_113) (fun _ h9 => h9) rfl dX6_needNumber_121 ?_
            refine lv_iconst (v := 1) hx hb dX6_needNumber_124 (by decide) ?_
            refine lv_iadd hx hb dX6_needNumber_125 ?_
            refine lv_ti (y := (nI (t2_4 + 1))) (nI_add t2_4 1) ?_
            refine va_put (D := D) (ci := 6) (v := .int (nI (t2_4 + 1))) (ty := .int) (C := RX6) (T := TX6) (N := 6) hx hb hts inX6 tyX6 tyX6_ok nmX6 hown hK hP hD hS 0 rfl rfl 2 (by decide) (hts _ tw_113) (fun _ h9 => h9) rfl (by decide +kernel) rfl rfl (Nat.le_of_ble_eq_true rfl) dX6_needNumber_126 (fun H locs hP hD hS => ?_)
            replace hP : va_P D classes [(x0, .inr (6, (fX6 x1 (nI tz) (nI (t2_4 + 1)) (nI ta__2) 0 fb))), (aB k x1 240 fx)] H := hP
            replace hD : va_D A [(x0, .inr (6, (fX6 x1 (nI tz) (nI (t2_4 + 1)) (nI ta__2) 0 fb))), (aB k x1 240 fx)] := hD
            refine lv_goto (tgt := 67) hx hb dX6_needNumber_129 (by decide) ?_
            exact ih_4 _ (t2_4 + 1, x_38) _ _ _ (by omega) ⟨rfl, ⟨by omega, by omega⟩, hP, hD, hS, (lv_sub hl [0, 1, 2, 3, 4, 5] rfl)⟩
    · refine lv_aload_n hx hb dX6_needNumber_25 rfl (lv_at hl 0 rfl) ?_
      refine lv_aload_n hx hb dX6_needNumber_26 rfl (lv_at hl 0 rfl) ?_
      refine va_get (D := D) (ci := 6) (v := .int (nI ta__2)) (C := RX6) (T := TX6) (N := 6) hx hb hts inX6 hown hK hP 0 rfl rfl 2 (by decide) (hts _ tw_113) (fun _ h9 => h9) rfl dX6_needNumber_27 ?_
      refine ro_i (D := D) (va_runV (As := [.int (nI ta__2)]) (rest := []) ⟨hx, hb, hml, hown, hts⟩ ((x_byteAt l D k st lo x0 x1 tz ta__2 (nI ta__2) 0 fb fx ta__2 (by omega) (by omega)) H.size) (cwV 1 hts (gV tw_379 tw_380 tw_381 tw_80 tw_382) rfl rfl rfl (by decide +kernel) ⟨Nat.le_of_ble_eq_true rfl, Nat.le_of_ble_eq_true rfl⟩) (pV hS hAlo hlo hP hK (va_Dlo hD hAlo) hZ [0, 1] (by decide) rfl (ci := 6) (q := (RX6, TX6, 6)) (q0 := 0) rfl rfl) rfl rfl hl.1 rfl (lv_room (Nat.le_of_ble_eq_true rfl)) dX6_needNumber_30 ⟨Nat.le_of_ble_eq_true rfl, Nat.le_of_ble_eq_true rfl⟩) hS hA hP (fun r_39 H locs hw_39 hP hS => ?_)
      try dsimp only at hw_39
      refine lv_bipush (v := 45) hx hb dX6_needNumber_33 (by decide) ?_
      refine lv_icmp_ne (tgt := 42) hx hb dX6_needNumber_35 (by decide) (fun c_40 => ?_) (fun c_40 => ?_)
      · refine lv_iconst (v := 0) hx hb dX6_needNumber_42 (by decide) ?_
        refine lv_istore_n (lv' := [(3, .int 0), (0, .ref x0), (1, .int p0), (2, .int p1)]) hx hb dX6_needNumber_43 rfl hl (by decide) rfl (fun ls hl => ?_)
        refine lv_iload_n hx hb dX6_needNumber_44 rfl (lv_at hl 0 rfl) ?_
        refine lv_if_eq (tgt := 58) hx hb dX6_needNumber_45 (by decide) (fun _ => ?_) (fun h => absurd (by decide) h)
        refine lv_aload_n hx hb dX6_needNumber_58 rfl (lv_at hl 1 rfl) ?_
        refine va_get (D := D) (ci := 6) (v := .int (nI ta__2)) (C := RX6) (T := TX6) (N := 6) hx hb hts inX6 hown hK hP 0 rfl rfl 2 (by decide) (hts _ tw_113) (fun _ h9 => h9) rfl dX6_needNumber_59 ?_
        refine lv_istore (lv' := [(4, .int (nI ta__2)), (3, .int 0), (0, .ref x0), (1, .int p0), (2, .int p1)]) hx hb dX6_needNumber_62 hl (by decide) rfl (fun ls hl => ?_)
        refine lv_iconst (v := 0) hx hb dX6_needNumber_64 (by decide) ?_
        refine lv_istore (lv' := [(5, .int 0), (4, .int (nI ta__2)), (3, .int 0), (0, .ref x0), (1, .int p0), (2, .int p1)]) hx hb dX6_needNumber_65 hl (by decide) rfl (fun ls hl => ?_)
        refine W_loop (σ := Nat × Int32) (fun (n_ : Nat) (x_ : Nat × Int32) (H : Heap) (locs : List Loc) (ls : Array Slot) => match x_ with | (t2_41, va_41) => n_ = tz - t2_41 ∧ (ta__2 ≤ t2_41 ∧ t2_41 ≤ tz) ∧ va_P D classes [(x0, .inr (6, (fX6 x1 (nI tz) (nI t2_41) (nI ta__2) 0 fb))), (aB k x1 240 fx)] H ∧ va_D A [(x0, .inr (6, (fX6 x1 (nI tz) (nI t2_41) (nI ta__2) 0 fb))), (aB k x1 240 fx)] ∧ va_S A s.heap H locs ∧ lv_has ls 6 [(5, .int va_41), (4, .int (nI ta__2)), (3, .int 0), (0, .ref x0), (1, .int p0), (2, .int p1)]) (fun n_41 x_41 H locs ls hI ih_41 => ?_) _ (ta__2, 0) ⟨rfl, ⟨by omega, by omega⟩, hP, hD, hS, (lv_sub hl [0, 1, 2, 3, 4, 5] rfl)⟩
        obtain ⟨t2_41, va_41⟩ := x_41
        obtain ⟨hm_41, hv_41, hP, hD, hS, hl⟩ := hI
        subst hm_41
        refine lv_aload_n hx hb dX6_needNumber_67 rfl (lv_at hl 3 rfl) ?_
        refine va_get (D := D) (ci := 6) (v := .int (nI t2_41)) (C := RX6) (T := TX6) (N := 6) hx hb hts inX6 hown hK hP 0 rfl rfl 2 (by decide) (hts _ tw_113) (fun _ h9 => h9) rfl dX6_needNumber_68 ?_
        refine lv_aload_n hx hb dX6_needNumber_71 rfl (lv_at hl 3 rfl) ?_
        refine va_get (D := D) (ci := 6) (v := .int (nI tz)) (C := RX6) (T := TX6) (N := 6) hx hb hts inX6 hown hK hP 0 rfl rfl 1 (by decide) (hts _ tw_110) (fun _ h9 => h9) rfl dX6_needNumber_72 ?_
        refine lv_icmp_ge (tgt := 132) hx hb dX6_needNumber_75 (by decide) (fun c_42 => ?_) (fun c_42 => ?_)
        · have c_42 := (nI_leI (a := tz) (b := t2_41) (by omega) (by omega)).mp c_42
          refine lv_iload_n hx hb dX6_needNumber_132 rfl (lv_at hl 2 rfl) ?_
          refine lv_if_eq (tgt := 141) hx hb dX6_needNumber_133 (by decide) (fun _ => ?_) (fun h => absurd (by decide) h)
          refine lv_aload_n hx hb dX6_needNumber_141 rfl (lv_at hl 3 rfl) ?_
          refine va_get (D := D) (ci := 6) (v := .int (nI t2_41)) (C := RX6) (T := TX6) (N := 6) hx hb hts inX6 hown hK hP 0 rfl rfl 2 (by decide) (hts _ tw_113) (fun _ h9 => h9) rfl dX6_needNumber_142 ?_
          refine lv_iload hx hb dX6_needNumber_145 (lv_at hl 1 rfl) ?_
          refine lv_icmp_ne (tgt := 162) hx hb dX6_needNumber_147 (by decide) (fun c_43 => ?_) (fun c_43 => ?_)
          · have c_43 : ¬ (t2_41 = ta__2) := fun h => c_43 ((nI_eq (a := t2_41) (b := ta__2) (by omega) (by omega)).mpr h)
            refine lv_aload_n hx hb dX6_needNumber_162 rfl (lv_at hl 3 rfl) ?_
            refine va_get (D := D) (ci := 6) (v := .int (nI t2_41)) (C := RX6) (T := TX6) (N := 6) hx hb hts inX6 hown hK hP 0 rfl rfl 2 (by decide) (hts _ tw_113) (fun _ h9 => h9) rfl dX6_needNumber_163 ?_
            refine lv_iload hx hb dX6_needNumber_166 (lv_at hl 1 rfl) ?_
            refine lv_isub hx hb dX6_needNumber_168 ?_
            refine lv_ti (y := (nI (t2_41 - ta__2))) (pk_sub (a := t2_41) (b := ta__2) (by omega)) ?_
            refine lv_iconst (v := 3) hx hb dX6_needNumber_169 (by decide) ?_
            refine lv_icmp_gt (tgt := 185) hx hb dX6_needNumber_170 (by decide) (fun c_44 => ?_) (fun c_44 => ?_)
            · have c_44 := (nI_ltI (a := 3) (b := (t2_41 - ta__2)) (by omega) (by omega)).mp c_44
              refine lv_aload_n hx hb dX6_needNumber_185 rfl (lv_at hl 3 rfl) ?_
              refine lv_iconst (v := 2) hx hb dX6_needNumber_186 (by decide) ?_
              refine lv_aload_n hx hb dX6_needNumber_187 rfl (lv_at hl 3 rfl) ?_
              refine va_get (D := D) (ci := 6) (v := .int (nI ta__2)) (C := RX6) (T := TX6) (N := 6) hx hb hts inX6 hown hK hP 0 rfl rfl 3 (by decide) (hts _ tw_116) (fun _ h9 => h9) rfl dX6_needNumber_188 ?_
              refine rw_v (D := D) (wr := [(aB k x1 240 fx)]) (va_runV (As := [.int 2, .int (nI ta__2)]) (rest := []) ⟨hx, hb, hml, hown, hts⟩ ((x_fail l D k st lo x0 x1 tz t2_41 (nI ta__2) 0 fb 2 (nI ta__2) (by decide)) H.size) (cwV 2 hts (gV tw_476 tw_456 tw_457 tw_80 tw_458) rfl rfl rfl (by decide +kernel) ⟨Nat.le_of_ble_eq_true rfl, Nat.le_of_ble_eq_true rfl⟩) (pV hS hAlo hlo hP hK (va_Dlo hD hAlo) hZ [0] (by decide) rfl (ci := 6) (q := (RX6, TX6, 6)) (q0 := 0) rfl rfl) rfl rfl hl.1 rfl (lv_room (Nat.le_of_ble_eq_true rfl)) dX6_needNumber_191 ⟨Nat.le_of_ble_eq_true rfl, Nat.le_of_ble_eq_true rfl⟩) hS hA hP hD [0] [1] rfl rfl (by decide) (by decide) (fun u H locs hw_45 hP hD hS => ?_)
              obtain ⟨fn__45, fb__45⟩ := u
              replace hP : va_P D classes [(aB k x1 240 fx), (x0, .inr (6, (fX6 x1 (nI tz) (nI t2_41) (nI ta__2) fn__45 fb__45)))] H := hP
              replace hD : va_D A [(aB k x1 240 fx), (x0, .inr (6, (fX6 x1 (nI tz) (nI t2_41) (nI ta__2) fn__45 fb__45)))] := hD
              try dsimp only at hw_45
              refine lv_aload_n hx hb dX6_needNumber_194 rfl (lv_at hl 3 rfl) ?_
              refine ro_i (D := D) (va_runV (As := []) (rest := []) ⟨hx, hb, hml, hown, hts⟩ ((x_failed l D k st lo x0 x1 tz t2_41 (nI ta__2) fn__45 fb__45) H.size) (cwV 0 hts (gV tw_471 tw_368 tw_369 tw_80 tw_370) rfl rfl rfl (by decide +kernel) ⟨Nat.le_of_ble_eq_true rfl, Nat.le_of_ble_eq_true rfl⟩) (pV hS hAlo hlo hP hK (va_Dlo hD hAlo) hZ [1] (by decide) rfl (ci := 6) (q := (RX6, TX6, 6)) (q0 := 0) rfl rfl) rfl rfl hl.1 rfl (lv_room (Nat.le_of_ble_eq_true rfl)) dX6_needNumber_195 ⟨Nat.le_of_ble_eq_true rfl, Nat.le_of_ble_eq_true rfl⟩) hS hA hP (fun r_46 H locs hw_46 hP hS => ?_)
              try dsimp only at hw_46
              obtain rfl : r_46 = 1 := by rcases hw_46 with ⟨h, h2⟩ | ⟨h, h2⟩ <;> first | exact h | exact absurd h2 hw_45
              refine lv_if_eq (tgt := 205) hx hb dX6_needNumber_198 (by decide) (fun h => absurd h (by decide)) (fun _ => ?_)
              refine lv_iload_n hx hb dX6_needNumber_201 rfl (lv_at hl 4 rfl) ?_
              refine lv_goto (tgt := 207) hx hb dX6_needNumber_202 (by decide) ?_
              have hP9 := hP.sub (ws' := [(x0, .inr (6, (fX6 x1 (nI tz) (nI t2_41) (nI ta__2) fn__45 fb__45))), (aB k x1 240 fx)]) [1, 0] rfl
              have hD9 := hD.sub (ws' := [(x0, .inr (6, (fX6 x1 (nI tz) (nI t2_41) (nI ta__2) fn__45 fb__45))), (aB k x1 240 fx)]) [1, 0] (by decide) rfl
              exact W.iret (v := p0) hx hb hr (fun t ht hW => ⟨⟨p0, (t2_41, (nI ta__2), fn__45, fb__45), rfl, ⟨by omega, by omega, ⟨Int32.le_refl _, hle⟩, .inl rfl⟩, by rw [ht]; exact hP9, hD9⟩, hS.F ht⟩) hS.2.2 dX6_needNumber_207
            · have c_44 : ¬ (3 < (t2_41 - ta__2)) := fun h => c_44 ((nI_ltI (a := 3) (b := (t2_41 - ta__2)) (by omega) (by omega)).mpr h)
              refine lv_iload hx hb dX6_needNumber_173 (lv_at hl 0 rfl) ?_
              refine lv_iload_n hx hb dX6_needNumber_175 rfl (lv_at hl 4 rfl) ?_
              refine lv_icmp_lt (tgt := 185) hx hb dX6_needNumber_176 (by decide) (fun c_47 => ?_) (fun c_47 => ?_)
              · refine lv_aload_n hx hb dX6_needNumber_185 rfl (lv_at hl 3 rfl) ?_
                refine lv_iconst (v := 2) hx hb dX6_needNumber_186 (by decide) ?_
                refine lv_aload_n hx hb dX6_needNumber_187 rfl (lv_at hl 3 rfl) ?_
                refine va_get (D := D) (ci := 6) (v := .int (nI ta__2)) (C := RX6) (T := TX6) (N := 6) hx hb hts inX6 hown hK hP 0 rfl rfl 3 (by decide) (hts _ tw_116) (fun _ h9 => h9) rfl dX6_needNumber_188 ?_
                refine rw_v (D := D) (wr := [(aB k x1 240 fx)]) (va_runV (As := [.int 2, .int (nI ta__2)]) (rest := []) ⟨hx, hb, hml, hown, hts⟩ ((x_fail l D k st lo x0 x1 tz t2_41 (nI ta__2) 0 fb 2 (nI ta__2) (by decide)) H.size) (cwV 2 hts (gV tw_476 tw_456 tw_457 tw_80 tw_458) rfl rfl rfl (by decide +kernel) ⟨Nat.le_of_ble_eq_true rfl, Nat.le_of_ble_eq_true rfl⟩) (pV hS hAlo hlo hP hK (va_Dlo hD hAlo) hZ [0] (by decide) rfl (ci := 6) (q := (RX6, TX6, 6)) (q0 := 0) rfl rfl) rfl rfl hl.1 rfl (lv_room (Nat.le_of_ble_eq_true rfl)) dX6_needNumber_191 ⟨Nat.le_of_ble_eq_true rfl, Nat.le_of_ble_eq_true rfl⟩) hS hA hP hD [0] [1] rfl rfl (by decide) (by decide) (fun u H locs hw_48 hP hD hS => ?_)
                obtain ⟨fn__48, fb__48⟩ := u
                replace hP : va_P D classes [(aB k x1 240 fx), (x0, .inr (6, (fX6 x1 (nI tz) (nI t2_41) (nI ta__2) fn__48 fb__48)))] H := hP
                replace hD : va_D A [(aB k x1 240 fx), (x0, .inr (6, (fX6 x1 (nI tz) (nI t2_41) (nI ta__2) fn__48 fb__48)))] := hD
                try dsimp only at hw_48
                refine lv_aload_n hx hb dX6_needNumber_194 rfl (lv_at hl 3 rfl) ?_
                refine ro_i (D := D) (va_runV (As := []) (rest := []) ⟨hx, hb, hml, hown, hts⟩ ((x_failed l D k st lo x0 x1 tz t2_41 (nI ta__2) fn__48 fb__48) H.size) (cwV 0 hts (gV tw_471 tw_368 tw_369 tw_80 tw_370) rfl rfl rfl (by decide +kernel) ⟨Nat.le_of_ble_eq_true rfl, Nat.le_of_ble_eq_true rfl⟩) (pV hS hAlo hlo hP hK (va_Dlo hD hAlo) hZ [1] (by decide) rfl (ci := 6) (q := (RX6, TX6, 6)) (q0 := 0) rfl rfl) rfl rfl hl.1 rfl (lv_room (Nat.le_of_ble_eq_true rfl)) dX6_needNumber_195 ⟨Nat.le_of_ble_eq_true rfl, Nat.le_of_ble_eq_true rfl⟩) hS hA hP (fun r_49 H locs hw_49 hP hS => ?_)
                try dsimp only at hw_49
                obtain rfl : r_49 = 1 := by rcases hw_49 with ⟨h, h2⟩ | ⟨h, h2⟩ <;> first | exact h | exact absurd h2 hw_48
                refine lv_if_eq (tgt := 205) hx hb dX6_needNumber_198 (by decide) (fun h => absurd h (by decide)) (fun _ => ?_)
                refine lv_iload_n hx hb dX6_needNumber_201 rfl (lv_at hl 4 rfl) ?_
                refine lv_goto (tgt := 207) hx hb dX6_needNumber_202 (by decide) ?_
                have hP9 := hP.sub (ws' := [(x0, .inr (6, (fX6 x1 (nI tz) (nI t2_41) (nI ta__2) fn__48 fb__48))), (aB k x1 240 fx)]) [1, 0] rfl
                have hD9 := hD.sub (ws' := [(x0, .inr (6, (fX6 x1 (nI tz) (nI t2_41) (nI ta__2) fn__48 fb__48))), (aB k x1 240 fx)]) [1, 0] (by decide) rfl
                exact W.iret (v := p0) hx hb hr (fun t ht hW => ⟨⟨p0, (t2_41, (nI ta__2), fn__48, fb__48), rfl, ⟨by omega, by omega, ⟨Int32.le_refl _, hle⟩, .inl rfl⟩, by rw [ht]; exact hP9, hD9⟩, hS.F ht⟩) hS.2.2 dX6_needNumber_207
              · refine lv_iload hx hb dX6_needNumber_179 (lv_at hl 0 rfl) ?_
                refine lv_iload_n hx hb dX6_needNumber_181 rfl (lv_at hl 5 rfl) ?_
                refine lv_icmp_le (tgt := 194) hx hb dX6_needNumber_182 (by decide) (fun c_50 => ?_) (fun c_50 => ?_)
                · refine lv_aload_n hx hb dX6_needNumber_194 rfl (lv_at hl 3 rfl) ?_
                  refine ro_i (D := D) (va_runV (As := []) (rest := []) ⟨hx, hb, hml, hown, hts⟩ ((x_failed l D k st lo x0 x1 tz t2_41 (nI ta__2) 0 fb) H.size) (cwV 0 hts (gV tw_471 tw_368 tw_369 tw_80 tw_370) rfl rfl rfl (by decide +kernel) ⟨Nat.le_of_ble_eq_true rfl, Nat.le_of_ble_eq_true rfl⟩) (pV hS hAlo hlo hP hK (va_Dlo hD hAlo) hZ [0] (by decide) rfl (ci := 6) (q := (RX6, TX6, 6)) (q0 := 0) rfl rfl) rfl rfl hl.1 rfl (lv_room (Nat.le_of_ble_eq_true rfl)) dX6_needNumber_195 ⟨Nat.le_of_ble_eq_true rfl, Nat.le_of_ble_eq_true rfl⟩) hS hA hP (fun r_51 H locs hw_51 hP hS => ?_)
                  try dsimp only at hw_51
                  obtain rfl : r_51 = 0 := by rcases hw_51 with ⟨h, h2⟩ | ⟨h, h2⟩ <;> first | exact h | exact absurd rfl h2 | exact absurd h2 (by decide)
                  refine lv_if_eq (tgt := 205) hx hb dX6_needNumber_198 (by decide) (fun _ => ?_) (fun h => absurd (by decide) h)
                  refine lv_iload hx hb dX6_needNumber_205 (lv_at hl 0 rfl) ?_
                  have hP9 := hP.sub (ws' := [(x0, .inr (6, (fX6 x1 (nI tz) (nI t2_41) (nI ta__2) 0 fb))), (aB k x1 240 fx)]) [0, 1] rfl
                  have hD9 := hD.sub (ws' := [(x0, .inr (6, (fX6 x1 (nI tz) (nI t2_41) (nI ta__2) 0 fb))), (aB k x1 240 fx)]) [0, 1] (by decide) rfl
                  exact W.iret (v := va_41) hx hb hr (fun t ht hW => ⟨⟨va_41, (t2_41, (nI ta__2), 0, fb), rfl, ⟨by omega, by omega, ⟨Int32.not_lt.mp c_47, c_50⟩, .inl rfl⟩, by rw [ht]; exact hP9, hD9⟩, hS.F ht⟩) hS.2.2 dX6_needNumber_207
                · refine lv_aload_n hx hb dX6_needNumber_185 rfl (lv_at hl 3 rfl) ?_
                  refine lv_iconst (v := 2) hx hb dX6_needNumber_186 (by decide) ?_
                  refine lv_aload_n hx hb dX6_needNumber_187 rfl (lv_at hl 3 rfl) ?_
                  refine va_get (D := D) (ci := 6) (v := .int (nI ta__2)) (C := RX6) (T := TX6) (N := 6) hx hb hts inX6 hown hK hP 0 rfl rfl 3 (by decide) (hts _ tw_116) (fun _ h9 => h9) rfl dX6_needNumber_188 ?_
                  refine rw_v (D := D) (wr := [(aB k x1 240 fx)]) (va_runV (As := [.int 2, .int (nI ta__2)]) (rest := []) ⟨hx, hb, hml, hown, hts⟩ ((x_fail l D k st lo x0 x1 tz t2_41 (nI ta__2) 0 fb 2 (nI ta__2) (by decide)) H.size) (cwV 2 hts (gV tw_476 tw_456 tw_457 tw_80 tw_458) rfl rfl rfl (by decide +kernel) ⟨Nat.le_of_ble_eq_true rfl, Nat.le_of_ble_eq_true rfl⟩) (pV hS hAlo hlo hP hK (va_Dlo hD hAlo) hZ [0] (by decide) rfl (ci := 6) (q := (RX6, TX6, 6)) (q0 := 0) rfl rfl) rfl rfl hl.1 rfl (lv_room (Nat.le_of_ble_eq_true rfl)) dX6_needNumber_191 ⟨Nat.le_of_ble_eq_true rfl, Nat.le_of_ble_eq_true rfl⟩) hS hA hP hD [0] [1] rfl rfl (by decide) (by decide) (fun u H locs hw_52 hP hD hS => ?_)
                  obtain ⟨fn__52, fb__52⟩ := u
                  replace hP : va_P D classes [(aB k x1 240 fx), (x0, .inr (6, (fX6 x1 (nI tz) (nI t2_41) (nI ta__2) fn__52 fb__52)))] H := hP
                  replace hD : va_D A [(aB k x1 240 fx), (x0, .inr (6, (fX6 x1 (nI tz) (nI t2_41) (nI ta__2) fn__52 fb__52)))] := hD
                  try dsimp only at hw_52
                  refine lv_aload_n hx hb dX6_needNumber_194 rfl (lv_at hl 3 rfl) ?_
                  refine ro_i (D := D) (va_runV (As := []) (rest := []) ⟨hx, hb, hml, hown, hts⟩ ((x_failed l D k st lo x0 x1 tz t2_41 (nI ta__2) fn__52 fb__52) H.size) (cwV 0 hts (gV tw_471 tw_368 tw_369 tw_80 tw_370) rfl rfl rfl (by decide +kernel) ⟨Nat.le_of_ble_eq_true rfl, Nat.le_of_ble_eq_true rfl⟩) (pV hS hAlo hlo hP hK (va_Dlo hD hAlo) hZ [1] (by decide) rfl (ci := 6) (q := (RX6, TX6, 6)) (q0 := 0) rfl rfl) rfl rfl hl.1 rfl (lv_room (Nat.le_of_ble_eq_true rfl)) dX6_needNumber_195 ⟨Nat.le_of_ble_eq_true rfl, Nat.le_of_ble_eq_true rfl⟩) hS hA hP (fun r_53 H locs hw_53 hP hS => ?_)
                  try dsimp only at hw_53
                  obtain rfl : r_53 = 1 := by rcases hw_53 with ⟨h, h2⟩ | ⟨h, h2⟩ <;> first | exact h | exact absurd h2 hw_52
                  refine lv_if_eq (tgt := 205) hx hb dX6_needNumber_198 (by decide) (fun h => absurd h (by decide)) (fun _ => ?_)
                  refine lv_iload_n hx hb dX6_needNumber_201 rfl (lv_at hl 4 rfl) ?_
                  refine lv_goto (tgt := 207) hx hb dX6_needNumber_202 (by decide) ?_
                  have hP9 := hP.sub (ws' := [(x0, .inr (6, (fX6 x1 (nI tz) (nI t2_41) (nI ta__2) fn__52 fb__52))), (aB k x1 240 fx)]) [1, 0] rfl
                  have hD9 := hD.sub (ws' := [(x0, .inr (6, (fX6 x1 (nI tz) (nI t2_41) (nI ta__2) fn__52 fb__52))), (aB k x1 240 fx)]) [1, 0] (by decide) rfl
                  exact W.iret (v := p0) hx hb hr (fun t ht hW => ⟨⟨p0, (t2_41, (nI ta__2), fn__52, fb__52), rfl, ⟨by omega, by omega, ⟨Int32.le_refl _, hle⟩, .inl rfl⟩, by rw [ht]; exact hP9, hD9⟩, hS.F ht⟩) hS.2.2 dX6_needNumber_207
          · have c_43 := (nI_eq (a := t2_41) (b := ta__2) (by omega) (by omega)).mp c_43
            refine lv_aload_n hx hb dX6_needNumber_150 rfl (lv_at hl 3 rfl) ?_
            refine lv_iconst (v := 1) hx hb dX6_needNumber_151 (by decide) ?_
            refine lv_aload_n hx hb dX6_needNumber_152 rfl (lv_at hl 3 rfl) ?_
            refine va_get (D := D) (ci := 6) (v := .int (nI t2_41)) (C := RX6) (T := TX6) (N := 6) hx hb hts inX6 hown hK hP 0 rfl rfl 2 (by decide) (hts _ tw_113) (fun _ h9 => h9) rfl dX6_needNumber_153 ?_
            refine rw_v (D := D) (wr := [(aB k x1 240 fx)]) (va_runV (As := [.int 1, .int (nI t2_41)]) (rest := []) ⟨hx, hb, hml, hown, hts⟩ ((x_fail l D k st lo x0 x1 tz t2_41 (nI ta__2) 0 fb 1 (nI t2_41) (by decide)) H.size) (cwV 2 hts (gV tw_476 tw_456 tw_457 tw_80 tw_458) rfl rfl rfl (by decide +kernel) ⟨Nat.le_of_ble_eq_true rfl, Nat.le_of_ble_eq_true rfl⟩) (pV hS hAlo hlo hP hK (va_Dlo hD hAlo) hZ [0] (by decide) rfl (ci := 6) (q := (RX6, TX6, 6)) (q0 := 0) rfl rfl) rfl rfl hl.1 rfl (lv_room (Nat.le_of_ble_eq_true rfl)) dX6_needNumber_156 ⟨Nat.le_of_ble_eq_true rfl, Nat.le_of_ble_eq_true rfl⟩) hS hA hP hD [0] [1] rfl rfl (by decide) (by decide) (fun u H locs hw_54 hP hD hS => ?_)
            obtain ⟨fn__54, fb__54⟩ := u
            replace hP : va_P D classes [(aB k x1 240 fx), (x0, .inr (6, (fX6 x1 (nI tz) (nI t2_41) (nI ta__2) fn__54 fb__54)))] H := hP
            replace hD : va_D A [(aB k x1 240 fx), (x0, .inr (6, (fX6 x1 (nI tz) (nI t2_41) (nI ta__2) fn__54 fb__54)))] := hD
            try dsimp only at hw_54
            refine lv_goto (tgt := 194) hx hb dX6_needNumber_159 (by decide) ?_
            refine lv_aload_n hx hb dX6_needNumber_194 rfl (lv_at hl 3 rfl) ?_
            refine ro_i (D := D) (va_runV (As := []) (rest := []) ⟨hx, hb, hml, hown, hts⟩ ((x_failed l D k st lo x0 x1 tz t2_41 (nI ta__2) fn__54 fb__54) H.size) (cwV 0 hts (gV tw_471 tw_368 tw_369 tw_80 tw_370) rfl rfl rfl (by decide +kernel) ⟨Nat.le_of_ble_eq_true rfl, Nat.le_of_ble_eq_true rfl⟩) (pV hS hAlo hlo hP hK (va_Dlo hD hAlo) hZ [1] (by decide) rfl (ci := 6) (q := (RX6, TX6, 6)) (q0 := 0) rfl rfl) rfl rfl hl.1 rfl (lv_room (Nat.le_of_ble_eq_true rfl)) dX6_needNumber_195 ⟨Nat.le_of_ble_eq_true rfl, Nat.le_of_ble_eq_true rfl⟩) hS hA hP (fun r_55 H locs hw_55 hP hS => ?_)
            try dsimp only at hw_55
            obtain rfl : r_55 = 1 := by rcases hw_55 with ⟨h, h2⟩ | ⟨h, h2⟩ <;> first | exact h | exact absurd h2 hw_54
            refine lv_if_eq (tgt := 205) hx hb dX6_needNumber_198 (by decide) (fun h => absurd h (by decide)) (fun _ => ?_)
            refine lv_iload_n hx hb dX6_needNumber_201 rfl (lv_at hl 4 rfl) ?_
            refine lv_goto (tgt := 207) hx hb dX6_needNumber_202 (by decide) ?_
            have hP9 := hP.sub (ws' := [(x0, .inr (6, (fX6 x1 (nI tz) (nI t2_41) (nI ta__2) fn__54 fb__54))), (aB k x1 240 fx)]) [1, 0] rfl
            have hD9 := hD.sub (ws' := [(x0, .inr (6, (fX6 x1 (nI tz) (nI t2_41) (nI ta__2) fn__54 fb__54))), (aB k x1 240 fx)]) [1, 0] (by decide) rfl
            exact W.iret (v := p0) hx hb hr (fun t ht hW => ⟨⟨p0, (t2_41, (nI ta__2), fn__54, fb__54), rfl, ⟨by omega, by omega, ⟨Int32.le_refl _, hle⟩, .inl rfl⟩, by rw [ht]; exact hP9, hD9⟩, hS.F ht⟩) hS.2.2 dX6_needNumber_207
        · have c_42 : ¬ (tz ≤ t2_41) := fun h => c_42 ((nI_leI (a := tz) (b := t2_41) (by omega) (by omega)).mpr h)
          refine lv_aload_n hx hb dX6_needNumber_78 rfl (lv_at hl 3 rfl) ?_
          refine lv_aload_n hx hb dX6_needNumber_79 rfl (lv_at hl 3 rfl) ?_
          refine va_get (D := D) (ci := 6) (v := .int (nI t2_41)) (C := RX6) (T := TX6) (N := 6) hx hb hts inX6 hown hK hP 0 rfl rfl 2 (by decide) (hts _ tw_113) (fun _ h9 => h9) rfl dX6_needNumber_80 ?_
          refine ro_i (D := D) (va_runV (As := [.int (nI t2_41)]) (rest := []) ⟨hx, hb, hml, hown, hts⟩ ((x_isFigureAt l D k st lo x0 x1 tz t2_41 (nI ta__2) 0 fb fx t2_41 (by omega) (by omega)) H.size) (cwV 1 hts (gV tw_472 tw_473 tw_474 tw_80 tw_475) rfl rfl rfl (by decide +kernel) ⟨Nat.le_of_ble_eq_true rfl, Nat.le_of_ble_eq_true rfl⟩) (pV hS hAlo hlo hP hK (va_Dlo hD hAlo) hZ [0, 1] (by decide) rfl (ci := 6) (q := (RX6, TX6, 6)) (q0 := 0) rfl rfl) rfl rfl hl.1 rfl (lv_room (Nat.le_of_ble_eq_true rfl)) dX6_needNumber_83 ⟨Nat.le_of_ble_eq_true rfl, Nat.le_of_ble_eq_true rfl⟩) hS hA hP (fun r_56 H locs hw_56 hP hS => ?_)
          try dsimp only at hw_56
          refine lv_if_eq (tgt := 132) hx hb dX6_needNumber_86 (by decide) (fun c_57 => ?_) (fun c_57 => ?_)
          · refine lv_iload_n hx hb dX6_needNumber_132 rfl (lv_at hl 2 rfl) ?_
            refine lv_if_eq (tgt := 141) hx hb dX6_needNumber_133 (by decide) (fun _ => ?_) (fun h => absurd (by decide) h)
            refine lv_aload_n hx hb dX6_needNumber_141 rfl (lv_at hl 3 rfl) ?_
            refine va_get (D := D) (ci := 6) (v := .int (nI t2_41)) (C := RX6) (T := TX6) (N := 6) hx hb hts inX6 hown hK hP 0 rfl rfl 2 (by decide) (hts _ tw_113) (fun _ h9 => h9) rfl dX6_needNumber_142 ?_
            refine lv_iload hx hb dX6_needNumber_145 (lv_at hl 1 rfl) ?_
            refine lv_icmp_ne (tgt := 162) hx hb dX6_needNumber_147 (by decide) (fun c_58 => ?_) (fun c_58 => ?_)
            · have c_58 : ¬ (t2_41 = ta__2) := fun h => c_58 ((nI_eq (a := t2_41) (b := ta__2) (by omega) (by omega)).mpr h)
              refine lv_aload_n hx hb dX6_needNumber_162 rfl (lv_at hl 3 rfl) ?_
              refine va_get (D := D) (ci := 6) (v := .int (nI t2_41)) (C := RX6) (T := TX6) (N := 6) hx hb hts inX6 hown hK hP 0 rfl rfl 2 (by decide) (hts _ tw_113) (fun _ h9 => h9) rfl dX6_needNumber_163 ?_
              refine lv_iload hx hb dX6_needNumber_166 (lv_at hl 1 rfl) ?_
              refine lv_isub hx hb dX6_needNumber_168 ?_
              refine lv_ti (y := (nI (t2_41 - ta__2))) (pk_sub (a := t2_41) (b := ta__2) (by omega)) ?_
              refine lv_iconst (v := 3) hx hb dX6_needNumber_169 (by decide) ?_
              refine lv_icmp_gt (tgt := 185) hx hb dX6_needNumber_170 (by decide) (fun c_59 => ?_) (fun c_59 => ?_)
              · have c_59 := (nI_ltI (a := 3) (b := (t2_41 - ta__2)) (by omega) (by omega)).mp c_59
                refine lv_aload_n hx hb dX6_needNumber_185 rfl (lv_at hl 3 rfl) ?_
                refine lv_iconst (v := 2) hx hb dX6_needNumber_186 (by decide) ?_
                refine lv_aload_n hx hb dX6_needNumber_187 rfl (lv_at hl 3 rfl) ?_
                refine va_get (D := D) (ci := 6) (v := .int (nI ta__2)) (C := RX6) (T := TX6) (N := 6) hx hb hts inX6 hown hK hP 0 rfl rfl 3 (by decide) (hts _ tw_116) (fun _ h9 => h9) rfl dX6_needNumber_188 ?_
                refine rw_v (D := D) (wr := [(aB k x1 240 fx)]) (va_runV (As := [.int 2, .int (nI ta__2)]) (rest := []) ⟨hx, hb, hml, hown, hts⟩ ((x_fail l D k st lo x0 x1 tz t2_41 (nI ta__2) 0 fb 2 (nI ta__2) (by decide)) H.size) (cwV 2 hts (gV tw_476 tw_456 tw_457 tw_80 tw_458) rfl rfl rfl (by decide +kernel) ⟨Nat.le_of_ble_eq_true rfl, Nat.le_of_ble_eq_true rfl⟩) (pV hS hAlo hlo hP hK (va_Dlo hD hAlo) hZ [0] (by decide) rfl (ci := 6) (q := (RX6, TX6, 6)) (q0 := 0) rfl rfl) rfl rfl hl.1 rfl (lv_room (Nat.le_of_ble_eq_true rfl)) dX6_needNumber_191 ⟨Nat.le_of_ble_eq_true rfl, Nat.le_of_ble_eq_true rfl⟩) hS hA hP hD [0] [1] rfl rfl (by decide) (by decide) (fun u H locs hw_60 hP hD hS => ?_)
                obtain ⟨fn__60, fb__60⟩ := u
                replace hP : va_P D classes [(aB k x1 240 fx), (x0, .inr (6, (fX6 x1 (nI tz) (nI t2_41) (nI ta__2) fn__60 fb__60)))] H := hP
                replace hD : va_D A [(aB k x1 240 fx), (x0, .inr (6, (fX6 x1 (nI tz) (nI t2_41) (nI ta__2) fn__60 fb__60)))] := hD
                try dsimp only at hw_60
                refine lv_aload_n hx hb dX6_needNumber_194 rfl (lv_at hl 3 rfl) ?_
                refine ro_i (D := D) (va_runV (As := []) (rest := []) ⟨hx, hb, hml, hown, hts⟩ ((x_failed l D k st lo x0 x1 tz t2_41 (nI ta__2) fn__60 fb__60) H.size) (cwV 0 hts (gV tw_471 tw_368 tw_369 tw_80 tw_370) rfl rfl rfl (by decide +kernel) ⟨Nat.le_of_ble_eq_true rfl, Nat.le_of_ble_eq_true rfl⟩) (pV hS hAlo hlo hP hK (va_Dlo hD hAlo) hZ [1] (by decide) rfl (ci := 6) (q := (RX6, TX6, 6)) (q0 := 0) rfl rfl) rfl rfl hl.1 rfl (lv_room (Nat.le_of_ble_eq_true rfl)) dX6_needNumber_195 ⟨Nat.le_of_ble_eq_true rfl, Nat.le_of_ble_eq_true rfl⟩) hS hA hP (fun r_61 H locs hw_61 hP hS => ?_)
                try dsimp only at hw_61
                obtain rfl : r_61 = 1 := by rcases hw_61 with ⟨h, h2⟩ | ⟨h, h2⟩ <;> first | exact h | exact absurd h2 hw_60
                refine lv_if_eq (tgt := 205) hx hb dX6_needNumber_198 (by decide) (fun h => absurd h (by decide)) (fun _ => ?_)
                refine lv_iload_n hx hb dX6_needNumber_201 rfl (lv_at hl 4 rfl) ?_
                refine lv_goto (tgt := 207) hx hb dX6_needNumber_202 (by decide) ?_
                have hP9 := hP.sub (ws' := [(x0, .inr (6, (fX6 x1 (nI tz) (nI t2_41) (nI ta__2) fn__60 fb__60))), (aB k x1 240 fx)]) [1, 0] rfl
                have hD9 := hD.sub (ws' := [(x0, .inr (6, (fX6 x1 (nI tz) (nI t2_41) (nI ta__2) fn__60 fb__60))), (aB k x1 240 fx)]) [1, 0] (by decide) rfl
                exact W.iret (v := p0) hx hb hr (fun t ht hW => ⟨⟨p0, (t2_41, (nI ta__2), fn__60, fb__60), rfl, ⟨by omega, by omega, ⟨Int32.le_refl _, hle⟩, .inl rfl⟩, by rw [ht]; exact hP9, hD9⟩, hS.F ht⟩) hS.2.2 dX6_needNumber_207
              · have c_59 : ¬ (3 < (t2_41 - ta__2)) := fun h => c_59 ((nI_ltI (a := 3) (b := (t2_41 - ta__2)) (by omega) (by omega)).mpr h)
                refine lv_iload hx hb dX6_needNumber_173 (lv_at hl 0 rfl) ?_
                refine lv_iload_n hx hb dX6_needNumber_175 rfl (lv_at hl 4 rfl) ?_
                refine lv_icmp_lt (tgt := 185) hx hb dX6_needNumber_176 (by decide) (fun c_62 => ?_) (fun c_62 => ?_)
                · refine lv_aload_n hx hb dX6_needNumber_185 rfl (lv_at hl 3 rfl) ?_
                  refine lv_iconst (v := 2) hx hb dX6_needNumber_186 (by decide) ?_
                  refine lv_aload_n hx hb dX6_needNumber_187 rfl (lv_at hl 3 rfl) ?_
                  refine va_get (D := D) (ci := 6) (v := .int (nI ta__2)) (C := RX6) (T := TX6) (N := 6) hx hb hts inX6 hown hK hP 0 rfl rfl 3 (by decide) (hts _ tw_116) (fun _ h9 => h9) rfl dX6_needNumber_188 ?_
                  refine rw_v (D := D) (wr := [(aB k x1 240 fx)]) (va_runV (As := [.int 2, .int (nI ta__2)]) (rest := []) ⟨hx, hb, hml, hown, hts⟩ ((x_fail l D k st lo x0 x1 tz t2_41 (nI ta__2) 0 fb 2 (nI ta__2) (by decide)) H.size) (cwV 2 hts (gV tw_476 tw_456 tw_457 tw_80 tw_458) rfl rfl rfl (by decide +kernel) ⟨Nat.le_of_ble_eq_true rfl, Nat.le_of_ble_eq_true rfl⟩) (pV hS hAlo hlo hP hK (va_Dlo hD hAlo) hZ [0] (by decide) rfl (ci := 6) (q := (RX6, TX6, 6)) (q0 := 0) rfl rfl) rfl rfl hl.1 rfl (lv_room (Nat.le_of_ble_eq_true rfl)) dX6_needNumber_191 ⟨Nat.le_of_ble_eq_true rfl, Nat.le_of_ble_eq_true rfl⟩) hS hA hP hD [0] [1] rfl rfl (by decide) (by decide) (fun u H locs hw_63 hP hD hS => ?_)
                  obtain ⟨fn__63, fb__63⟩ := u
                  replace hP : va_P D classes [(aB k x1 240 fx), (x0, .inr (6, (fX6 x1 (nI tz) (nI t2_41) (nI ta__2) fn__63 fb__63)))] H := hP
                  replace hD : va_D A [(aB k x1 240 fx), (x0, .inr (6, (fX6 x1 (nI tz) (nI t2_41) (nI ta__2) fn__63 fb__63)))] := hD
                  try dsimp only at hw_63
                  refine lv_aload_n hx hb dX6_needNumber_194 rfl (lv_at hl 3 rfl) ?_
                  refine ro_i (D := D) (va_runV (As := []) (rest := []) ⟨hx, hb, hml, hown, hts⟩ ((x_failed l D k st lo x0 x1 tz t2_41 (nI ta__2) fn__63 fb__63) H.size) (cwV 0 hts (gV tw_471 tw_368 tw_369 tw_80 tw_370) rfl rfl rfl (by decide +kernel) ⟨Nat.le_of_ble_eq_true rfl, Nat.le_of_ble_eq_true rfl⟩) (pV hS hAlo hlo hP hK (va_Dlo hD hAlo) hZ [1] (by decide) rfl (ci := 6) (q := (RX6, TX6, 6)) (q0 := 0) rfl rfl) rfl rfl hl.1 rfl (lv_room (Nat.le_of_ble_eq_true rfl)) dX6_needNumber_195 ⟨Nat.le_of_ble_eq_true rfl, Nat.le_of_ble_eq_true rfl⟩) hS hA hP (fun r_64 H locs hw_64 hP hS => ?_)
                  try dsimp only at hw_64
                  obtain rfl : r_64 = 1 := by rcases hw_64 with ⟨h, h2⟩ | ⟨h, h2⟩ <;> first | exact h | exact absurd h2 hw_63
                  refine lv_if_eq (tgt := 205) hx hb dX6_needNumber_198 (by decide) (fun h => absurd h (by decide)) (fun _ => ?_)
                  refine lv_iload_n hx hb dX6_needNumber_201 rfl (lv_at hl 4 rfl) ?_
                  refine lv_goto (tgt := 207) hx hb dX6_needNumber_202 (by decide) ?_
                  have hP9 := hP.sub (ws' := [(x0, .inr (6, (fX6 x1 (nI tz) (nI t2_41) (nI ta__2) fn__63 fb__63))), (aB k x1 240 fx)]) [1, 0] rfl
                  have hD9 := hD.sub (ws' := [(x0, .inr (6, (fX6 x1 (nI tz) (nI t2_41) (nI ta__2) fn__63 fb__63))), (aB k x1 240 fx)]) [1, 0] (by decide) rfl
                  exact W.iret (v := p0) hx hb hr (fun t ht hW => ⟨⟨p0, (t2_41, (nI ta__2), fn__63, fb__63), rfl, ⟨by omega, by omega, ⟨Int32.le_refl _, hle⟩, .inl rfl⟩, by rw [ht]; exact hP9, hD9⟩, hS.F ht⟩) hS.2.2 dX6_needNumber_207
                · refine lv_iload hx hb dX6_needNumber_179 (lv_at hl 0 rfl) ?_
                  refine lv_iload_n hx hb dX6_needNumber_181 rfl (lv_at hl 5 rfl) ?_
                  refine lv_icmp_le (tgt := 194) hx hb dX6_needNumber_182 (by decide) (fun c_65 => ?_) (fun c_65 => ?_)
                  · refine lv_aload_n hx hb dX6_needNumber_194 rfl (lv_at hl 3 rfl) ?_
                    refine ro_i (D := D) (va_runV (As := []) (rest := []) ⟨hx, hb, hml, hown, hts⟩ ((x_failed l D k st lo x0 x1 tz t2_41 (nI ta__2) 0 fb) H.size) (cwV 0 hts (gV tw_471 tw_368 tw_369 tw_80 tw_370) rfl rfl rfl (by decide +kernel) ⟨Nat.le_of_ble_eq_true rfl, Nat.le_of_ble_eq_true rfl⟩) (pV hS hAlo hlo hP hK (va_Dlo hD hAlo) hZ [0] (by decide) rfl (ci := 6) (q := (RX6, TX6, 6)) (q0 := 0) rfl rfl) rfl rfl hl.1 rfl (lv_room (Nat.le_of_ble_eq_true rfl)) dX6_needNumber_195 ⟨Nat.le_of_ble_eq_true rfl, Nat.le_of_ble_eq_true rfl⟩) hS hA hP (fun r_66 H locs hw_66 hP hS => ?_)
                    try dsimp only at hw_66
                    obtain rfl : r_66 = 0 := by rcases hw_66 with ⟨h, h2⟩ | ⟨h, h2⟩ <;> first | exact h | exact absurd rfl h2 | exact absurd h2 (by decide)
                    refine lv_if_eq (tgt := 205) hx hb dX6_needNumber_198 (by decide) (fun _ => ?_) (fun h => absurd (by decide) h)
                    refine lv_iload hx hb dX6_needNumber_205 (lv_at hl 0 rfl) ?_
                    have hP9 := hP.sub (ws' := [(x0, .inr (6, (fX6 x1 (nI tz) (nI t2_41) (nI ta__2) 0 fb))), (aB k x1 240 fx)]) [0, 1] rfl
                    have hD9 := hD.sub (ws' := [(x0, .inr (6, (fX6 x1 (nI tz) (nI t2_41) (nI ta__2) 0 fb))), (aB k x1 240 fx)]) [0, 1] (by decide) rfl
                    exact W.iret (v := va_41) hx hb hr (fun t ht hW => ⟨⟨va_41, (t2_41, (nI ta__2), 0, fb), rfl, ⟨by omega, by omega, ⟨Int32.not_lt.mp c_62, c_65⟩, .inl rfl⟩, by rw [ht]; exact hP9, hD9⟩, hS.F ht⟩) hS.2.2 dX6_needNumber_207
                  · refine lv_aload_n hx hb dX6_needNumber_185 rfl (lv_at hl 3 rfl) ?_
                    refine lv_iconst (v := 2) hx hb dX6_needNumber_186 (by decide) ?_
                    refine lv_aload_n hx hb dX6_needNumber_187 rfl (lv_at hl 3 rfl) ?_
                    refine va_get (D := D) (ci := 6) (v := .int (nI ta__2)) (C := RX6) (T := TX6) (N := 6) hx hb hts inX6 hown hK hP 0 rfl rfl 3 (by decide) (hts _ tw_116) (fun _ h9 => h9) rfl dX6_needNumber_188 ?_
                    refine rw_v (D := D) (wr := [(aB k x1 240 fx)]) (va_runV (As := [.int 2, .int (nI ta__2)]) (rest := []) ⟨hx, hb, hml, hown, hts⟩ ((x_fail l D k st lo x0 x1 tz t2_41 (nI ta__2) 0 fb 2 (nI ta__2) (by decide)) H.size) (cwV 2 hts (gV tw_476 tw_456 tw_457 tw_80 tw_458) rfl rfl rfl (by decide +kernel) ⟨Nat.le_of_ble_eq_true rfl, Nat.le_of_ble_eq_true rfl⟩) (pV hS hAlo hlo hP hK (va_Dlo hD hAlo) hZ [0] (by decide) rfl (ci := 6) (q := (RX6, TX6, 6)) (q0 := 0) rfl rfl) rfl rfl hl.1 rfl (lv_room (Nat.le_of_ble_eq_true rfl)) dX6_needNumber_191 ⟨Nat.le_of_ble_eq_true rfl, Nat.le_of_ble_eq_true rfl⟩) hS hA hP hD [0] [1] rfl rfl (by decide) (by decide) (fun u H locs hw_67 hP hD hS => ?_)
                    obtain ⟨fn__67, fb__67⟩ := u
                    replace hP : va_P D classes [(aB k x1 240 fx), (x0, .inr (6, (fX6 x1 (nI tz) (nI t2_41) (nI ta__2) fn__67 fb__67)))] H := hP
                    replace hD : va_D A [(aB k x1 240 fx), (x0, .inr (6, (fX6 x1 (nI tz) (nI t2_41) (nI ta__2) fn__67 fb__67)))] := hD
                    try dsimp only at hw_67
                    refine lv_aload_n hx hb dX6_needNumber_194 rfl (lv_at hl 3 rfl) ?_
                    refine ro_i (D := D) (va_runV (As := []) (rest := []) ⟨hx, hb, hml, hown, hts⟩ ((x_failed l D k st lo x0 x1 tz t2_41 (nI ta__2) fn__67 fb__67) H.size) (cwV 0 hts (gV tw_471 tw_368 tw_369 tw_80 tw_370) rfl rfl rfl (by decide +kernel) ⟨Nat.le_of_ble_eq_true rfl, Nat.le_of_ble_eq_true rfl⟩) (pV hS hAlo hlo hP hK (va_Dlo hD hAlo) hZ [1] (by decide) rfl (ci := 6) (q := (RX6, TX6, 6)) (q0 := 0) rfl rfl) rfl rfl hl.1 rfl (lv_room (Nat.le_of_ble_eq_true rfl)) dX6_needNumber_195 ⟨Nat.le_of_ble_eq_true rfl, Nat.le_of_ble_eq_true rfl⟩) hS hA hP (fun r_68 H locs hw_68 hP hS => ?_)
                    try dsimp only at hw_68
                    obtain rfl : r_68 = 1 := by rcases hw_68 with ⟨h, h2⟩ | ⟨h, h2⟩ <;> first | exact h | exact absurd h2 hw_67
                    refine lv_if_eq (tgt := 205) hx hb dX6_needNumber_198 (by decide) (fun h => absurd h (by decide)) (fun _ => ?_)
                    refine lv_iload_n hx hb dX6_needNumber_201 rfl (lv_at hl 4 rfl) ?_
                    refine lv_goto (tgt := 207) hx hb dX6_needNumber_202 (by decide) ?_
                    have hP9 := hP.sub (ws' := [(x0, .inr (6, (fX6 x1 (nI tz) (nI t2_41) (nI ta__2) fn__67 fb__67))), (aB k x1 240 fx)]) [1, 0] rfl
                    have hD9 := hD.sub (ws' := [(x0, .inr (6, (fX6 x1 (nI tz) (nI t2_41) (nI ta__2) fn__67 fb__67))), (aB k x1 240 fx)]) [1, 0] (by decide) rfl
                    exact W.iret (v := p0) hx hb hr (fun t ht hW => ⟨⟨p0, (t2_41, (nI ta__2), fn__67, fb__67), rfl, ⟨by omega, by omega, ⟨Int32.le_refl _, hle⟩, .inl rfl⟩, by rw [ht]; exact hP9, hD9⟩, hS.F ht⟩) hS.2.2 dX6_needNumber_207
            · have c_58 := (nI_eq (a := t2_41) (b := ta__2) (by omega) (by omega)).mp c_58
              refine lv_aload_n hx hb dX6_needNumber_150 rfl (lv_at hl 3 rfl) ?_
              refine lv_iconst (v := 1) hx hb dX6_needNumber_151 (by decide) ?_
              refine lv_aload_n hx hb dX6_needNumber_152 rfl (lv_at hl 3 rfl) ?_
              refine va_get (D := D) (ci := 6) (v := .int (nI t2_41)) (C := RX6) (T := TX6) (N := 6) hx hb hts inX6 hown hK hP 0 rfl rfl 2 (by decide) (hts _ tw_113) (fun _ h9 => h9) rfl dX6_needNumber_153 ?_
              refine rw_v (D := D) (wr := [(aB k x1 240 fx)]) (va_runV (As := [.int 1, .int (nI t2_41)]) (rest := []) ⟨hx, hb, hml, hown, hts⟩ ((x_fail l D k st lo x0 x1 tz t2_41 (nI ta__2) 0 fb 1 (nI t2_41) (by decide)) H.size) (cwV 2 hts (gV tw_476 tw_456 tw_457 tw_80 tw_458) rfl rfl rfl (by decide +kernel) ⟨Nat.le_of_ble_eq_true rfl, Nat.le_of_ble_eq_true rfl⟩) (pV hS hAlo hlo hP hK (va_Dlo hD hAlo) hZ [0] (by decide) rfl (ci := 6) (q := (RX6, TX6, 6)) (q0 := 0) rfl rfl) rfl rfl hl.1 rfl (lv_room (Nat.le_of_ble_eq_true rfl)) dX6_needNumber_156 ⟨Nat.le_of_ble_eq_true rfl, Nat.le_of_ble_eq_true rfl⟩) hS hA hP hD [0] [1] rfl rfl (by decide) (by decide) (fun u H locs hw_69 hP hD hS => ?_)
              obtain ⟨fn__69, fb__69⟩ := u
              replace hP : va_P D classes [(aB k x1 240 fx), (x0, .inr (6, (fX6 x1 (nI tz) (nI t2_41) (nI ta__2) fn__69 fb__69)))] H := hP
              replace hD : va_D A [(aB k x1 240 fx), (x0, .inr (6, (fX6 x1 (nI tz) (nI t2_41) (nI ta__2) fn__69 fb__69)))] := hD
              try dsimp only at hw_69
              refine lv_goto (tgt := 194) hx hb dX6_needNumber_159 (by decide) ?_
              refine lv_aload_n hx hb dX6_needNumber_194 rfl (lv_at hl 3 rfl) ?_
              refine ro_i (D := D) (va_runV (As := []) (rest := []) ⟨hx, hb, hml, hown, hts⟩ ((x_failed l D k st lo x0 x1 tz t2_41 (nI ta__2) fn__69 fb__69) H.size) (cwV 0 hts (gV tw_471 tw_368 tw_369 tw_80 tw_370) rfl rfl rfl (by decide +kernel) ⟨Nat.le_of_ble_eq_true rfl, Nat.le_of_ble_eq_true rfl⟩) (pV hS hAlo hlo hP hK (va_Dlo hD hAlo) hZ [1] (by decide) rfl (ci := 6) (q := (RX6, TX6, 6)) (q0 := 0) rfl rfl) rfl rfl hl.1 rfl (lv_room (Nat.le_of_ble_eq_true rfl)) dX6_needNumber_195 ⟨Nat.le_of_ble_eq_true rfl, Nat.le_of_ble_eq_true rfl⟩) hS hA hP (fun r_70 H locs hw_70 hP hS => ?_)
              try dsimp only at hw_70
              obtain rfl : r_70 = 1 := by rcases hw_70 with ⟨h, h2⟩ | ⟨h, h2⟩ <;> first | exact h | exact absurd h2 hw_69
              refine lv_if_eq (tgt := 205) hx hb dX6_needNumber_198 (by decide) (fun h => absurd h (by decide)) (fun _ => ?_)
              refine lv_iload_n hx hb dX6_needNumber_201 rfl (lv_at hl 4 rfl) ?_
              refine lv_goto (tgt := 207) hx hb dX6_needNumber_202 (by decide) ?_
              have hP9 := hP.sub (ws' := [(x0, .inr (6, (fX6 x1 (nI tz) (nI t2_41) (nI ta__2) fn__69 fb__69))), (aB k x1 240 fx)]) [1, 0] rfl
              have hD9 := hD.sub (ws' := [(x0, .inr (6, (fX6 x1 (nI tz) (nI t2_41) (nI ta__2) fn__69 fb__69))), (aB k x1 240 fx)]) [1, 0] (by decide) rfl
              exact W.iret (v := p0) hx hb hr (fun t ht hW => ⟨⟨p0, (t2_41, (nI ta__2), fn__69, fb__69), rfl, ⟨by omega, by omega, ⟨Int32.le_refl _, hle⟩, .inl rfl⟩, by rw [ht]; exact hP9, hD9⟩, hS.F ht⟩) hS.2.2 dX6_needNumber_207
          · refine lv_aload_n hx hb dX6_needNumber_89 rfl (lv_at hl 3 rfl) ?_
            refine va_get (D := D) (ci := 6) (v := .int (nI t2_41)) (C := RX6) (T := TX6) (N := 6) hx hb hts inX6 hown hK hP 0 rfl rfl 2 (by decide) (hts _ tw_113) (fun _ h9 => h9) rfl dX6_needNumber_90 ?_
            refine lv_iload hx hb dX6_needNumber_93 (lv_at hl 1 rfl) ?_
            refine lv_isub hx hb dX6_needNumber_95 ?_
            refine lv_ti (y := (nI (t2_41 - ta__2))) (pk_sub (a := t2_41) (b := ta__2) (by omega)) ?_
            refine lv_iconst (v := 3) hx hb dX6_needNumber_96 (by decide) ?_
            refine lv_icmp_ge (tgt := 119) hx hb dX6_needNumber_97 (by decide) (fun c_71 => ?_) (fun c_71 => ?_)
            · have c_71 := (nI_leI (a := 3) (b := (t2_41 - ta__2)) (by omega) (by omega)).mp c_71
              refine lv_aload_n hx hb dX6_needNumber_119 rfl (lv_at hl 3 rfl) ?_
              refine lv_dup hx hb dX6_needNumber_120 rfl ?_
              refine va_get (D := D) (ci := 6) (v := .int (nI t2_41)) (C := RX6) (T := TX6) (N := 6) hx hb hts inX6 hown hK hP 0 rfl rfl 2 (by decide) (hts _ tw_113) (fun _ h9 => h9) rfl dX6_needNumber_121 ?_
              refine lv_iconst (v := 1) hx hb dX6_needNumber_124 (by decide) ?_
              refine lv_iadd hx hb dX6_needNumber_125 ?_
              refine lv_ti (y := (nI (t2_41 + 1))) (nI_add t2_41 1) ?_
              refine va_put (D := D) (ci := 6) (v := .int (nI (t2_41 + 1))) (ty := .int) (C := RX6) (T := TX6) (N := 6) hx hb hts inX6 tyX6 tyX6_ok nmX6 hown hK hP hD hS 0 rfl rfl 2 (by decide) (hts _ tw_113) (fun _ h9 => h9) rfl (by decide +kernel) rfl rfl (Nat.le_of_ble_eq_true rfl) dX6_needNumber_126 (fun H locs hP hD hS => ?_)
              replace hP : va_P D classes [(x0, .inr (6, (fX6 x1 (nI tz) (nI (t2_41 + 1)) (nI ta__2) 0 fb))), (aB k x1 240 fx)] H := hP
              replace hD : va_D A [(x0, .inr (6, (fX6 x1 (nI tz) (nI (t2_41 + 1)) (nI ta__2) 0 fb))), (aB k x1 240 fx)] := hD
              refine lv_goto (tgt := 67) hx hb dX6_needNumber_129 (by decide) ?_
              exact ih_41 _ (t2_41 + 1, va_41) _ _ _ (by omega) ⟨rfl, ⟨by omega, by omega⟩, hP, hD, hS, (lv_sub hl [0, 1, 2, 3, 4, 5] rfl)⟩
            · have c_71 : ¬ (3 ≤ (t2_41 - ta__2)) := fun h => c_71 ((nI_leI (a := 3) (b := (t2_41 - ta__2)) (by omega) (by omega)).mpr h)
              refine lv_iload hx hb dX6_needNumber_100 (lv_at hl 0 rfl) ?_
              refine lv_bipush (v := 10) hx hb dX6_needNumber_102 (by decide) ?_
              refine lv_imul hx hb dX6_needNumber_104 ?_
              refine lv_topi (fun x_72 ex_72 => ?_)
              refine lv_aload_n hx hb dX6_needNumber_105 rfl (lv_at hl 3 rfl) ?_
              refine lv_aload_n hx hb dX6_needNumber_106 rfl (lv_at hl 3 rfl) ?_
              refine va_get (D := D) (ci := 6) (v := .int (nI t2_41)) (C := RX6) (T := TX6) (N := 6) hx hb hts inX6 hown hK hP 0 rfl rfl 2 (by decide) (hts _ tw_113) (fun _ h9 => h9) rfl dX6_needNumber_107 ?_
              refine ro_i (D := D) (va_runV (As := [.int (nI t2_41)]) (rest := [.int x_72]) ⟨hx, hb, hml, hown, hts⟩ ((x_byteAt l D k st lo x0 x1 tz t2_41 (nI ta__2) 0 fb fx t2_41 (by omega) (by omega)) H.size) (cwV 1 hts (gV tw_379 tw_380 tw_381 tw_80 tw_382) rfl rfl rfl (by decide +kernel) ⟨Nat.le_of_ble_eq_true rfl, Nat.le_of_ble_eq_true rfl⟩) (pV hS hAlo hlo hP hK (va_Dlo hD hAlo) hZ [0, 1] (by decide) rfl (ci := 6) (q := (RX6, TX6, 6)) (q0 := 0) rfl rfl) rfl rfl hl.1 rfl (lv_room (Nat.le_of_ble_eq_true rfl)) dX6_needNumber_110 ⟨Nat.le_of_ble_eq_true rfl, Nat.le_of_ble_eq_true rfl⟩) hS hA hP (fun r_73 H locs hw_73 hP hS => ?_)
              try dsimp only at hw_73
              refine lv_iadd hx hb dX6_needNumber_113 ?_
              refine lv_topi (fun x_74 ex_74 => ?_)
              refine lv_bipush (v := 48) hx hb dX6_needNumber_114 (by decide) ?_
              refine lv_isub hx hb dX6_needNumber_116 ?_
              refine lv_topi (fun x_75 ex_75 => ?_)
              refine lv_istore (lv' := [(5, .int x_75), (4, .int (nI ta__2)), (3, .int 0), (0, .ref x0), (1, .int p0), (2, .int p1)]) hx hb dX6_needNumber_117 hl (by decide) rfl (fun ls hl => ?_)
              refine lv_aload_n hx hb dX6_needNumber_119 rfl (lv_at hl 3 rfl) ?_
              refine lv_dup hx hb dX6_needNumber_120 rfl ?_
              refine va_get (D := D) (ci := 6) (v := .int (nI t2_41)) (C := RX6) (T := TX6) (N := 6) hx hb hts inX6 hown hK hP 0 rfl rfl 2 (by decide) (hts _ tw_113) (fun _ h9 => h9) rfl dX6_needNumber_121 ?_
              refine lv_iconst (v := 1) hx hb dX6_needNumber_124 (by decide) ?_
              refine lv_iadd hx hb dX6_needNumber_125 ?_
              refine lv_ti (y := (nI (t2_41 + 1))) (nI_add t2_41 1) ?_
              refine va_put (D := D) (ci := 6) (v := .int (nI (t2_41 + 1))) (ty := .int) (C := RX6) (T := TX6) (N := 6) hx hb hts inX6 tyX6 tyX6_ok nmX6 hown hK hP hD hS 0 rfl rfl 2 (by decide) (hts _ tw_113) (fun _ h9 => h9) rfl (by decide +kernel) rfl rfl (Nat.le_of_ble_eq_true rfl) dX6_needNumber_126 (fun H locs hP hD hS => ?_)
              replace hP : va_P D classes [(x0, .inr (6, (fX6 x1 (nI tz) (nI (t2_41 + 1)) (nI ta__2) 0 fb))), (aB k x1 240 fx)] H := hP
              replace hD : va_D A [(x0, .inr (6, (fX6 x1 (nI tz) (nI (t2_41 + 1)) (nI ta__2) 0 fb))), (aB k x1 240 fx)] := hD
              refine lv_goto (tgt := 67) hx hb dX6_needNumber_129 (by decide) ?_
              exact ih_41 _ (t2_41 + 1, x_75) _ _ _ (by omega) ⟨rfl, ⟨by omega, by omega⟩, hP, hD, hS, (lv_sub hl [0, 1, 2, 3, 4, 5] rfl)⟩
      · have hlt_76 := hw_39.resolve_left (fun h => absurd (h.symm.trans c_40) (by decide))
        refine lv_iconst (v := 1) hx hb dX6_needNumber_38 (by decide) ?_
        refine lv_goto (tgt := 43) hx hb dX6_needNumber_39 (by decide) ?_
        refine lv_istore_n (lv' := [(3, .int 1), (0, .ref x0), (1, .int p0), (2, .int p1)]) hx hb dX6_needNumber_43 rfl hl (by decide) rfl (fun ls hl => ?_)
        refine lv_iload_n hx hb dX6_needNumber_44 rfl (lv_at hl 0 rfl) ?_
        refine lv_if_eq (tgt := 58) hx hb dX6_needNumber_45 (by decide) (fun h => absurd h (by decide)) (fun _ => ?_)
        refine lv_aload_n hx hb dX6_needNumber_48 rfl (lv_at hl 1 rfl) ?_
        refine lv_dup hx hb dX6_needNumber_49 rfl ?_
        refine va_get (D := D) (ci := 6) (v := .int (nI ta__2)) (C := RX6) (T := TX6) (N := 6) hx hb hts inX6 hown hK hP 0 rfl rfl 2 (by decide) (hts _ tw_113) (fun _ h9 => h9) rfl dX6_needNumber_50 ?_
        refine lv_iconst (v := 1) hx hb dX6_needNumber_53 (by decide) ?_
        refine lv_iadd hx hb dX6_needNumber_54 ?_
        refine lv_ti (y := (nI (ta__2 + 1))) (nI_add ta__2 1) ?_
        refine va_put (D := D) (ci := 6) (v := .int (nI (ta__2 + 1))) (ty := .int) (C := RX6) (T := TX6) (N := 6) hx hb hts inX6 tyX6 tyX6_ok nmX6 hown hK hP hD hS 0 rfl rfl 2 (by decide) (hts _ tw_113) (fun _ h9 => h9) rfl (by decide +kernel) rfl rfl (Nat.le_of_ble_eq_true rfl) dX6_needNumber_55 (fun H locs hP hD hS => ?_)
        replace hP : va_P D classes [(x0, .inr (6, (fX6 x1 (nI tz) (nI (ta__2 + 1)) (nI ta__2) 0 fb))), (aB k x1 240 fx)] H := hP
        replace hD : va_D A [(x0, .inr (6, (fX6 x1 (nI tz) (nI (ta__2 + 1)) (nI ta__2) 0 fb))), (aB k x1 240 fx)] := hD
        refine lv_aload_n hx hb dX6_needNumber_58 rfl (lv_at hl 1 rfl) ?_
        refine va_get (D := D) (ci := 6) (v := .int (nI (ta__2 + 1))) (C := RX6) (T := TX6) (N := 6) hx hb hts inX6 hown hK hP 0 rfl rfl 2 (by decide) (hts _ tw_113) (fun _ h9 => h9) rfl dX6_needNumber_59 ?_
        refine lv_istore (lv' := [(4, .int (nI (ta__2 + 1))), (3, .int 1), (0, .ref x0), (1, .int p0), (2, .int p1)]) hx hb dX6_needNumber_62 hl (by decide) rfl (fun ls hl => ?_)
        refine lv_iconst (v := 0) hx hb dX6_needNumber_64 (by decide) ?_
        refine lv_istore (lv' := [(5, .int 0), (4, .int (nI (ta__2 + 1))), (3, .int 1), (0, .ref x0), (1, .int p0), (2, .int p1)]) hx hb dX6_needNumber_65 hl (by decide) rfl (fun ls hl => ?_)
        refine W_loop (σ := Nat × Int32) (fun (n_ : Nat) (x_ : Nat × Int32) (H : Heap) (locs : List Loc) (ls : Array Slot) => match x_ with | (t2_77, va_77) => n_ = tz - t2_77 ∧ (ta__2 + 1 ≤ t2_77 ∧ t2_77 ≤ tz) ∧ va_P D classes [(x0, .inr (6, (fX6 x1 (nI tz) (nI t2_77) (nI ta__2) 0 fb))), (aB k x1 240 fx)] H ∧ va_D A [(x0, .inr (6, (fX6 x1 (nI tz) (nI t2_77) (nI ta__2) 0 fb))), (aB k x1 240 fx)] ∧ va_S A s.heap H locs ∧ lv_has ls 6 [(5, .int va_77), (4, .int (nI (ta__2 + 1))), (3, .int 1), (0, .ref x0), (1, .int p0), (2, .int p1)]) (fun n_77 x_77 H locs ls hI ih_77 => ?_) _ (ta__2 + 1, 0) ⟨rfl, ⟨by omega, by omega⟩, hP, hD, hS, (lv_sub hl [0, 1, 2, 3, 4, 5] rfl)⟩
        obtain ⟨t2_77, va_77⟩ := x_77
        obtain ⟨hm_77, hv_77, hP, hD, hS, hl⟩ := hI
        subst hm_77
        refine lv_aload_n hx hb dX6_needNumber_67 rfl (lv_at hl 3 rfl) ?_
        refine va_get (D := D) (ci := 6) (v := .int (nI t2_77)) (C := RX6) (T := TX6) (N := 6) hx hb hts inX6 hown hK hP 0 rfl rfl 2 (by decide) (hts _ tw_113) (fun _ h9 => h9) rfl dX6_needNumber_68 ?_
        refine lv_aload_n hx hb dX6_needNumber_71 rfl (lv_at hl 3 rfl) ?_
        refine va_get (D := D) (ci := 6) (v := .int (nI tz)) (C := RX6) (T := TX6) (N := 6) hx hb hts inX6 hown hK hP 0 rfl rfl 1 (by decide) (hts _ tw_110) (fun _ h9 => h9) rfl dX6_needNumber_72 ?_
        refine lv_icmp_ge (tgt := 132) hx hb dX6_needNumber_75 (by decide) (fun c_78 => ?_) (fun c_78 => ?_)
        · have c_78 := (nI_leI (a := tz) (b := t2_77) (by omega) (by omega)).mp c_78
          refine lv_iload_n hx hb dX6_needNumber_132 rfl (lv_at hl 2 rfl) ?_
          refine lv_if_eq (tgt := 141) hx hb dX6_needNumber_133 (by decide) (fun h => absurd h (by decide)) (fun _ => ?_)
          refine lv_iload hx hb dX6_needNumber_136 (lv_at hl 0 rfl) ?_
          refine lv_ineg hx hb dX6_needNumber_138 ?_
          refine lv_topi (fun x_79 ex_79 => ?_)
          refine lv_istore (lv' := [(5, .int x_79), (4, .int (nI (ta__2 + 1))), (3, .int 1), (0, .ref x0), (1, .int p0), (2, .int p1)]) hx hb dX6_needNumber_139 hl (by decide) rfl (fun ls hl => ?_)
          refine lv_aload_n hx hb dX6_needNumber_141 rfl (lv_at hl 3 rfl) ?_
          refine va_get (D := D) (ci := 6) (v := .int (nI t2_77)) (C := RX6) (T := TX6) (N := 6) hx hb hts inX6 hown hK hP 0 rfl rfl 2 (by decide) (hts _ tw_113) (fun _ h9 => h9) rfl dX6_needNumber_142 ?_
          refine lv_iload hx hb dX6_needNumber_145 (lv_at hl 1 rfl) ?_
          refine lv_icmp_ne (tgt := 162) hx hb dX6_needNumber_147 (by decide) (fun c_80 => ?_) (fun c_80 => ?_)
          · have c_80 : ¬ (t2_77 = (ta__2 + 1)) := fun h => c_80 ((nI_eq (a := t2_77) (b := (ta__2 + 1)) (by omega) (by omega)).mpr h)
            refine lv_aload_n hx hb dX6_needNumber_162 rfl (lv_at hl 3 rfl) ?_
            refine va_get (D := D) (ci := 6) (v := .int (nI t2_77)) (C := RX6) (T := TX6) (N := 6) hx hb hts inX6 hown hK hP 0 rfl rfl 2 (by decide) (hts _ tw_113) (fun _ h9 => h9) rfl dX6_needNumber_163 ?_
            refine lv_iload hx hb dX6_needNumber_166 (lv_at hl 1 rfl) ?_
            refine lv_isub hx hb dX6_needNumber_168 ?_
            refine lv_ti (y := (nI (t2_77 - (ta__2 + 1)))) (pk_sub (a := t2_77) (b := (ta__2 + 1)) (by omega)) ?_
            refine lv_iconst (v := 3) hx hb dX6_needNumber_169 (by decide) ?_
            refine lv_icmp_gt (tgt := 185) hx hb dX6_needNumber_170 (by decide) (fun c_81 => ?_) (fun c_81 => ?_)
            · have c_81 := (nI_ltI (a := 3) (b := (t2_77 - (ta__2 + 1))) (by omega) (by omega)).mp c_81
              refine lv_aload_n hx hb dX6_needNumber_185 rfl (lv_at hl 3 rfl) ?_
              refine lv_iconst (v := 2) hx hb dX6_needNumber_186 (by decide) ?_
              refine lv_aload_n hx hb dX6_needNumber_187 rfl (lv_at hl 3 rfl) ?_
              refine va_get (D := D) (ci := 6) (v := .int (nI ta__2)) (C := RX6) (T := TX6) (N := 6) hx hb hts inX6 hown hK hP 0 rfl rfl 3 (by decide) (hts _ tw_116) (fun _ h9 => h9) rfl dX6_needNumber_188 ?_
              refine rw_v (D := D) (wr := [(aB k x1 240 fx)]) (va_runV (As := [.int 2, .int (nI ta__2)]) (rest := []) ⟨hx, hb, hml, hown, hts⟩ ((x_fail l D k st lo x0 x1 tz t2_77 (nI ta__2) 0 fb 2 (nI ta__2) (by decide)) H.size) (cwV 2 hts (gV tw_476 tw_456 tw_457 tw_80 tw_458) rfl rfl rfl (by decide +kernel) ⟨Nat.le_of_ble_eq_true rfl, Nat.le_of_ble_eq_true rfl⟩) (pV hS hAlo hlo hP hK (va_Dlo hD hAlo) hZ [0] (by decide) rfl (ci := 6) (q := (RX6, TX6, 6)) (q0 := 0) rfl rfl) rfl rfl hl.1 rfl (lv_room (Nat.le_of_ble_eq_true rfl)) dX6_needNumber_191 ⟨Nat.le_of_ble_eq_true rfl, Nat.le_of_ble_eq_true rfl⟩) hS hA hP hD [0] [1] rfl rfl (by decide) (by decide) (fun u H locs hw_82 hP hD hS => ?_)
              obtain ⟨fn__82, fb__82⟩ := u
              replace hP : va_P D classes [(aB k x1 240 fx), (x0, .inr (6, (fX6 x1 (nI tz) (nI t2_77) (nI ta__2) fn__82 fb__82)))] H := hP
              replace hD : va_D A [(aB k x1 240 fx), (x0, .inr (6, (fX6 x1 (nI tz) (nI t2_77) (nI ta__2) fn__82 fb__82)))] := hD
              try dsimp only at hw_82
              refine lv_aload_n hx hb dX6_needNumber_194 rfl (lv_at hl 3 rfl) ?_
              refine ro_i (D := D) (va_runV (As := []) (rest := []) ⟨hx, hb, hml, hown, hts⟩ ((x_failed l D k st lo x0 x1 tz t2_77 (nI ta__2) fn__82 fb__82) H.size) (cwV 0 hts (gV tw_471 tw_368 tw_369 tw_80 tw_370) rfl rfl rfl (by decide +kernel) ⟨Nat.le_of_ble_eq_true rfl, Nat.le_of_ble_eq_true rfl⟩) (pV hS hAlo hlo hP hK (va_Dlo hD hAlo) hZ [1] (by decide) rfl (ci := 6) (q := (RX6, TX6, 6)) (q0 := 0) rfl rfl) rfl rfl hl.1 rfl (lv_room (Nat.le_of_ble_eq_true rfl)) dX6_needNumber_195 ⟨Nat.le_of_ble_eq_true rfl, Nat.le_of_ble_eq_true rfl⟩) hS hA hP (fun r_83 H locs hw_83 hP hS => ?_)
              try dsimp only at hw_83
              obtain rfl : r_83 = 1 := by rcases hw_83 with ⟨h, h2⟩ | ⟨h, h2⟩ <;> first | exact h | exact absurd h2 hw_82
              refine lv_if_eq (tgt := 205) hx hb dX6_needNumber_198 (by decide) (fun h => absurd h (by decide)) (fun _ => ?_)
              refine lv_iload_n hx hb dX6_needNumber_201 rfl (lv_at hl 4 rfl) ?_
              refine lv_goto (tgt := 207) hx hb dX6_needNumber_202 (by decide) ?_
              have hP9 := hP.sub (ws' := [(x0, .inr (6, (fX6 x1 (nI tz) (nI t2_77) (nI ta__2) fn__82 fb__82))), (aB k x1 240 fx)]) [1, 0] rfl
              have hD9 := hD.sub (ws' := [(x0, .inr (6, (fX6 x1 (nI tz) (nI t2_77) (nI ta__2) fn__82 fb__82))), (aB k x1 240 fx)]) [1, 0] (by decide) rfl
              exact W.iret (v := p0) hx hb hr (fun t ht hW => ⟨⟨p0, (t2_77, (nI ta__2), fn__82, fb__82), rfl, ⟨by omega, by omega, ⟨Int32.le_refl _, hle⟩, .inl rfl⟩, by rw [ht]; exact hP9, hD9⟩, hS.F ht⟩) hS.2.2 dX6_needNumber_207
            · have c_81 : ¬ (3 < (t2_77 - (ta__2 + 1))) := fun h => c_81 ((nI_ltI (a := 3) (b := (t2_77 - (ta__2 + 1))) (by omega) (by omega)).mpr h)
              refine lv_iload hx hb dX6_needNumber_173 (lv_at hl 0 rfl) ?_
              refine lv_iload_n hx hb dX6_needNumber_175 rfl (lv_at hl 4 rfl) ?_
              refine lv_icmp_lt (tgt := 185) hx hb dX6_needNumber_176 (by decide) (fun c_84 => ?_) (fun c_84 => ?_)
              · refine lv_aload_n hx hb dX6_needNumber_185 rfl (lv_at hl 3 rfl) ?_
                refine lv_iconst (v := 2) hx hb dX6_needNumber_186 (by decide) ?_
                refine lv_aload_n hx hb dX6_needNumber_187 rfl (lv_at hl 3 rfl) ?_
                refine va_get (D := D) (ci := 6) (v := .int (nI ta__2)) (C := RX6) (T := TX6) (N := 6) hx hb hts inX6 hown hK hP 0 rfl rfl 3 (by decide) (hts _ tw_116) (fun _ h9 => h9) rfl dX6_needNumber_188 ?_
                refine rw_v (D := D) (wr := [(aB k x1 240 fx)]) (va_runV (As := [.int 2, .int (nI ta__2)]) (rest := []) ⟨hx, hb, hml, hown, hts⟩ ((x_fail l D k st lo x0 x1 tz t2_77 (nI ta__2) 0 fb 2 (nI ta__2) (by decide)) H.size) (cwV 2 hts (gV tw_476 tw_456 tw_457 tw_80 tw_458) rfl rfl rfl (by decide +kernel) ⟨Nat.le_of_ble_eq_true rfl, Nat.le_of_ble_eq_true rfl⟩) (pV hS hAlo hlo hP hK (va_Dlo hD hAlo) hZ [0] (by decide) rfl (ci := 6) (q := (RX6, TX6, 6)) (q0 := 0) rfl rfl) rfl rfl hl.1 rfl (lv_room (Nat.le_of_ble_eq_true rfl)) dX6_needNumber_191 ⟨Nat.le_of_ble_eq_true rfl, Nat.le_of_ble_eq_true rfl⟩) hS hA hP hD [0] [1] rfl rfl (by decide) (by decide) (fun u H locs hw_85 hP hD hS => ?_)
                obtain ⟨fn__85, fb__85⟩ := u
                replace hP : va_P D classes [(aB k x1 240 fx), (x0, .inr (6, (fX6 x1 (nI tz) (nI t2_77) (nI ta__2) fn__85 fb__85)))] H := hP
                replace hD : va_D A [(aB k x1 240 fx), (x0, .inr (6, (fX6 x1 (nI tz) (nI t2_77) (nI ta__2) fn__85 fb__85)))] := hD
                try dsimp only at hw_85
                refine lv_aload_n hx hb dX6_needNumber_194 rfl (lv_at hl 3 rfl) ?_
                refine ro_i (D := D) (va_runV (As := []) (rest := []) ⟨hx, hb, hml, hown, hts⟩ ((x_failed l D k st lo x0 x1 tz t2_77 (nI ta__2) fn__85 fb__85) H.size) (cwV 0 hts (gV tw_471 tw_368 tw_369 tw_80 tw_370) rfl rfl rfl (by decide +kernel) ⟨Nat.le_of_ble_eq_true rfl, Nat.le_of_ble_eq_true rfl⟩) (pV hS hAlo hlo hP hK (va_Dlo hD hAlo) hZ [1] (by decide) rfl (ci := 6) (q := (RX6, TX6, 6)) (q0 := 0) rfl rfl) rfl rfl hl.1 rfl (lv_room (Nat.le_of_ble_eq_true rfl)) dX6_needNumber_195 ⟨Nat.le_of_ble_eq_true rfl, Nat.le_of_ble_eq_true rfl⟩) hS hA hP (fun r_86 H locs hw_86 hP hS => ?_)
                try dsimp only at hw_86
                obtain rfl : r_86 = 1 := by rcases hw_86 with ⟨h, h2⟩ | ⟨h, h2⟩ <;> first | exact h | exact absurd h2 hw_85
                refine lv_if_eq (tgt := 205) hx hb dX6_needNumber_198 (by decide) (fun h => absurd h (by decide)) (fun _ => ?_)
                refine lv_iload_n hx hb dX6_needNumber_201 rfl (lv_at hl 4 rfl) ?_
                refine lv_goto (tgt := 207) hx hb dX6_needNumber_202 (by decide) ?_
                have hP9 := hP.sub (ws' := [(x0, .inr (6, (fX6 x1 (nI tz) (nI t2_77) (nI ta__2) fn__85 fb__85))), (aB k x1 240 fx)]) [1, 0] rfl
                have hD9 := hD.sub (ws' := [(x0, .inr (6, (fX6 x1 (nI tz) (nI t2_77) (nI ta__2) fn__85 fb__85))), (aB k x1 240 fx)]) [1, 0] (by decide) rfl
                exact W.iret (v := p0) hx hb hr (fun t ht hW => ⟨⟨p0, (t2_77, (nI ta__2), fn__85, fb__85), rfl, ⟨by omega, by omega, ⟨Int32.le_refl _, hle⟩, .inl rfl⟩, by rw [ht]; exact hP9, hD9⟩, hS.F ht⟩) hS.2.2 dX6_needNumber_207
              · refine lv_iload hx hb dX6_needNumber_179 (lv_at hl 0 rfl) ?_
                refine lv_iload_n hx hb dX6_needNumber_181 rfl (lv_at hl 5 rfl) ?_
                refine lv_icmp_le (tgt := 194) hx hb dX6_needNumber_182 (by decide) (fun c_87 => ?_) (fun c_87 => ?_)
                · refine lv_aload_n hx hb dX6_needNumber_194 rfl (lv_at hl 3 rfl) ?_
                  refine ro_i (D := D) (va_runV (As := []) (rest := []) ⟨hx, hb, hml, hown, hts⟩ ((x_failed l D k st lo x0 x1 tz t2_77 (nI ta__2) 0 fb) H.size) (cwV 0 hts (gV tw_471 tw_368 tw_369 tw_80 tw_370) rfl rfl rfl (by decide +kernel) ⟨Nat.le_of_ble_eq_true rfl, Nat.le_of_ble_eq_true rfl⟩) (pV hS hAlo hlo hP hK (va_Dlo hD hAlo) hZ [0] (by decide) rfl (ci := 6) (q := (RX6, TX6, 6)) (q0 := 0) rfl rfl) rfl rfl hl.1 rfl (lv_room (Nat.le_of_ble_eq_true rfl)) dX6_needNumber_195 ⟨Nat.le_of_ble_eq_true rfl, Nat.le_of_ble_eq_true rfl⟩) hS hA hP (fun r_88 H locs hw_88 hP hS => ?_)
                  try dsimp only at hw_88
                  obtain rfl : r_88 = 0 := by rcases hw_88 with ⟨h, h2⟩ | ⟨h, h2⟩ <;> first | exact h | exact absurd rfl h2 | exact absurd h2 (by decide)
                  refine lv_if_eq (tgt := 205) hx hb dX6_needNumber_198 (by decide) (fun _ => ?_) (fun h => absurd (by decide) h)
                  refine lv_iload hx hb dX6_needNumber_205 (lv_at hl 0 rfl) ?_
                  have hP9 := hP.sub (ws' := [(x0, .inr (6, (fX6 x1 (nI tz) (nI t2_77) (nI ta__2) 0 fb))), (aB k x1 240 fx)]) [0, 1] rfl
                  have hD9 := hD.sub (ws' := [(x0, .inr (6, (fX6 x1 (nI tz) (nI t2_77) (nI ta__2) 0 fb))), (aB k x1 240 fx)]) [0, 1] (by decide) rfl
                  exact W.iret (v := x_79) hx hb hr (fun t ht hW => ⟨⟨x_79, (t2_77, (nI ta__2), 0, fb), rfl, ⟨by omega, by omega, ⟨Int32.not_lt.mp c_84, c_87⟩, .inl rfl⟩, by rw [ht]; exact hP9, hD9⟩, hS.F ht⟩) hS.2.2 dX6_needNumber_207
                · refine lv_aload_n hx hb dX6_needNumber_185 rfl (lv_at hl 3 rfl) ?_
                  refine lv_iconst (v := 2) hx hb dX6_needNumber_186 (by decide) ?_
                  refine lv_aload_n hx hb dX6_needNumber_187 rfl (lv_at hl 3 rfl) ?_
                  refine va_get (D := D) (ci := 6) (v := .int (nI ta__2)) (C := RX6) (T := TX6) (N := 6) hx hb hts inX6 hown hK hP 0 rfl rfl 3 (by decide) (hts _ tw_116) (fun _ h9 => h9) rfl dX6_needNumber_188 ?_
                  refine rw_v (D := D) (wr := [(aB k x1 240 fx)]) (va_runV (As := [.int 2, .int (nI ta__2)]) (rest := []) ⟨hx, hb, hml, hown, hts⟩ ((x_fail l D k st lo x0 x1 tz t2_77 (nI ta__2) 0 fb 2 (nI ta__2) (by decide)) H.size) (cwV 2 hts (gV tw_476 tw_456 tw_457 tw_80 tw_458) rfl rfl rfl (by decide +kernel) ⟨Nat.le_of_ble_eq_true rfl, Nat.le_of_ble_eq_true rfl⟩) (pV hS hAlo hlo hP hK (va_Dlo hD hAlo) hZ [0] (by decide) rfl (ci := 6) (q := (RX6, TX6, 6)) (q0 := 0) rfl rfl) rfl rfl hl.1 rfl (lv_room (Nat.le_of_ble_eq_true rfl)) dX6_needNumber_191 ⟨Nat.le_of_ble_eq_true rfl, Nat.le_of_ble_eq_true rfl⟩) hS hA hP hD [0] [1] rfl rfl (by decide) (by decide) (fun u H locs hw_89 hP hD hS => ?_)
                  obtain ⟨fn__89, fb__89⟩ := u
                  replace hP : va_P D classes [(aB k x1 240 fx), (x0, .inr (6, (fX6 x1 (nI tz) (nI t2_77) (nI ta__2) fn__89 fb__89)))] H := hP
                  replace hD : va_D A [(aB k x1 240 fx), (x0, .inr (6, (fX6 x1 (nI tz) (nI t2_77) (nI ta__2) fn__89 fb__89)))] := hD
                  try dsimp only at hw_89
                  refine lv_aload_n hx hb dX6_needNumber_194 rfl (lv_at hl 3 rfl) ?_
                  refine ro_i (D := D) (va_runV (As := []) (rest := []) ⟨hx, hb, hml, hown, hts⟩ ((x_failed l D k st lo x0 x1 tz t2_77 (nI ta__2) fn__89 fb__89) H.size) (cwV 0 hts (gV tw_471 tw_368 tw_369 tw_80 tw_370) rfl rfl rfl (by decide +kernel) ⟨Nat.le_of_ble_eq_true rfl, Nat.le_of_ble_eq_true rfl⟩) (pV hS hAlo hlo hP hK (va_Dlo hD hAlo) hZ [1] (by decide) rfl (ci := 6) (q := (RX6, TX6, 6)) (q0 := 0) rfl rfl) rfl rfl hl.1 rfl (lv_room (Nat.le_of_ble_eq_true rfl)) dX6_needNumber_195 ⟨Nat.le_of_ble_eq_true rfl, Nat.le_of_ble_eq_true rfl⟩) hS hA hP (fun r_90 H locs hw_90 hP hS => ?_)
                  try dsimp only at hw_90
                  obtain rfl : r_90 = 1 := by rcases hw_90 with ⟨h, h2⟩ | ⟨h, h2⟩ <;> first | exact h | exact absurd h2 hw_89
                  refine lv_if_eq (tgt := 205) hx hb dX6_needNumber_198 (by decide) (fun h => absurd h (by decide)) (fun _ => ?_)
                  refine lv_iload_n hx hb dX6_needNumber_201 rfl (lv_at hl 4 rfl) ?_
                  refine lv_goto (tgt := 207) hx hb dX6_needNumber_202 (by decide) ?_
                  have hP9 := hP.sub (ws' := [(x0, .inr (6, (fX6 x1 (nI tz) (nI t2_77) (nI ta__2) fn__89 fb__89))), (aB k x1 240 fx)]) [1, 0] rfl
                  have hD9 := hD.sub (ws' := [(x0, .inr (6, (fX6 x1 (nI tz) (nI t2_77) (nI ta__2) fn__89 fb__89))), (aB k x1 240 fx)]) [1, 0] (by decide) rfl
                  exact W.iret (v := p0) hx hb hr (fun t ht hW => ⟨⟨p0, (t2_77, (nI ta__2), fn__89, fb__89), rfl, ⟨by omega, by omega, ⟨Int32.le_refl _, hle⟩, .inl rfl⟩, by rw [ht]; exact hP9, hD9⟩, hS.F ht⟩) hS.2.2 dX6_needNumber_207
          · have c_80 := (nI_eq (a := t2_77) (b := (ta__2 + 1)) (by omega) (by omega)).mp c_80
            refine lv_aload_n hx hb dX6_needNumber_150 rfl (lv_at hl 3 rfl) ?_
            refine lv_iconst (v := 1) hx hb dX6_needNumber_151 (by decide) ?_
            refine lv_aload_n hx hb dX6_needNumber_152 rfl (lv_at hl 3 rfl) ?_
            refine va_get (D := D) (ci := 6) (v := .int (nI t2_77)) (C := RX6) (T := TX6) (N := 6) hx hb hts inX6 hown hK hP 0 rfl rfl 2 (by decide) (hts _ tw_113) (fun _ h9 => h9) rfl dX6_needNumber_153 ?_
            refine rw_v (D := D) (wr := [(aB k x1 240 fx)]) (va_runV (As := [.int 1, .int (nI t2_77)]) (rest := []) ⟨hx, hb, hml, hown, hts⟩ ((x_fail l D k st lo x0 x1 tz t2_77 (nI ta__2) 0 fb 1 (nI t2_77) (by decide)) H.size) (cwV 2 hts (gV tw_476 tw_456 tw_457 tw_80 tw_458) rfl rfl rfl (by decide +kernel) ⟨Nat.le_of_ble_eq_true rfl, Nat.le_of_ble_eq_true rfl⟩) (pV hS hAlo hlo hP hK (va_Dlo hD hAlo) hZ [0] (by decide) rfl (ci := 6) (q := (RX6, TX6, 6)) (q0 := 0) rfl rfl) rfl rfl hl.1 rfl (lv_room (Nat.le_of_ble_eq_true rfl)) dX6_needNumber_156 ⟨Nat.le_of_ble_eq_true rfl, Nat.le_of_ble_eq_true rfl⟩) hS hA hP hD [0] [1] rfl rfl (by decide) (by decide) (fun u H locs hw_91 hP hD hS => ?_)
            obtain ⟨fn__91, fb__91⟩ := u
            replace hP : va_P D classes [(aB k x1 240 fx), (x0, .inr (6, (fX6 x1 (nI tz) (nI t2_77) (nI ta__2) fn__91 fb__91)))] H := hP
            replace hD : va_D A [(aB k x1 240 fx), (x0, .inr (6, (fX6 x1 (nI tz) (nI t2_77) (nI ta__2) fn__91 fb__91)))] := hD
            try dsimp only at hw_91
            refine lv_goto (tgt := 194) hx hb dX6_needNumber_159 (by decide) ?_
            refine lv_aload_n hx hb dX6_needNumber_194 rfl (lv_at hl 3 rfl) ?_
            refine ro_i (D := D) (va_runV (As := []) (rest := []) ⟨hx, hb, hml, hown, hts⟩ ((x_failed l D k st lo x0 x1 tz t2_77 (nI ta__2) fn__91 fb__91) H.size) (cwV 0 hts (gV tw_471 tw_368 tw_369 tw_80 tw_370) rfl rfl rfl (by decide +kernel) ⟨Nat.le_of_ble_eq_true rfl, Nat.le_of_ble_eq_true rfl⟩) (pV hS hAlo hlo hP hK (va_Dlo hD hAlo) hZ [1] (by decide) rfl (ci := 6) (q := (RX6, TX6, 6)) (q0 := 0) rfl rfl) rfl rfl hl.1 rfl (lv_room (Nat.le_of_ble_eq_true rfl)) dX6_needNumber_195 ⟨Nat.le_of_ble_eq_true rfl, Nat.le_of_ble_eq_true rfl⟩) hS hA hP (fun r_92 H locs hw_92 hP hS => ?_)
            try dsimp only at hw_92
            obtain rfl : r_92 = 1 := by rcases hw_92 with ⟨h, h2⟩ | ⟨h, h2⟩ <;> first | exact h | exact absurd h2 hw_91
            refine lv_if_eq (tgt := 205) hx hb dX6_needNumber_198 (by decide) (fun h => absurd h (by decide)) (fun _ => ?_)
            refine lv_iload_n hx hb dX6_needNumber_201 rfl (lv_at hl 4 rfl) ?_
            refine lv_goto (tgt := 207) hx hb dX6_needNumber_202 (by decide) ?_
            have hP9 := hP.sub (ws' := [(x0, .inr (6, (fX6 x1 (nI tz) (nI t2_77) (nI ta__2) fn__91 fb__91))), (aB k x1 240 fx)]) [1, 0] rfl
            have hD9 := hD.sub (ws' := [(x0, .inr (6, (fX6 x1 (nI tz) (nI t2_77) (nI ta__2) fn__91 fb__91))), (aB k x1 240 fx)]) [1, 0] (by decide) rfl
            exact W.iret (v := p0) hx hb hr (fun t ht hW => ⟨⟨p0, (t2_77, (nI ta__2), fn__91, fb__91), rfl, ⟨by omega, by omega, ⟨Int32.le_refl _, hle⟩, .inl rfl⟩, by rw [ht]; exact hP9, hD9⟩, hS.F ht⟩) hS.2.2 dX6_needNumber_207
        · have c_78 : ¬ (tz ≤ t2_77) := fun h => c_78 ((nI_leI (a := tz) (b := t2_77) (by omega) (by omega)).mpr h)
          refine lv_aload_n hx hb dX6_needNumber_78 rfl (lv_at hl 3 rfl) ?_
          refine lv_aload_n hx hb dX6_needNumber_79 rfl (lv_at hl 3 rfl) ?_
          refine va_get (D := D) (ci := 6) (v := .int (nI t2_77)) (C := RX6) (T := TX6) (N := 6) hx hb hts inX6 hown hK hP 0 rfl rfl 2 (by decide) (hts _ tw_113) (fun _ h9 => h9) rfl dX6_needNumber_80 ?_
          refine ro_i (D := D) (va_runV (As := [.int (nI t2_77)]) (rest := []) ⟨hx, hb, hml, hown, hts⟩ ((x_isFigureAt l D k st lo x0 x1 tz t2_77 (nI ta__2) 0 fb fx t2_77 (by omega) (by omega)) H.size) (cwV 1 hts (gV tw_472 tw_473 tw_474 tw_80 tw_475) rfl rfl rfl (by decide +kernel) ⟨Nat.le_of_ble_eq_true rfl, Nat.le_of_ble_eq_true rfl⟩) (pV hS hAlo hlo hP hK (va_Dlo hD hAlo) hZ [0, 1] (by decide) rfl (ci := 6) (q := (RX6, TX6, 6)) (q0 := 0) rfl rfl) rfl rfl hl.1 rfl (lv_room (Nat.le_of_ble_eq_true rfl)) dX6_needNumber_83 ⟨Nat.le_of_ble_eq_true rfl, Nat.le_of_ble_eq_true rfl⟩) hS hA hP (fun r_93 H locs hw_93 hP hS => ?_)
          try dsimp only at hw_93
          refine lv_if_eq (tgt := 132) hx hb dX6_needNumber_86 (by decide) (fun c_94 => ?_) (fun c_94 => ?_)
          · refine lv_iload_n hx hb dX6_needNumber_132 rfl (lv_at hl 2 rfl) ?_
            refine lv_if_eq (tgt := 141) hx hb dX6_needNumber_133 (by decide) (fun h => absurd h (by decide)) (fun _ => ?_)
            refine lv_iload hx hb dX6_needNumber_136 (lv_at hl 0 rfl) ?_
            refine lv_ineg hx hb dX6_needNumber_138 ?_
            refine lv_topi (fun x_95 ex_95 => ?_)
            refine lv_istore (lv' := [(5, .int x_95), (4, .int (nI (ta__2 + 1))), (3, .int 1), (0, .ref x0), (1, .int p0), (2, .int p1)]) hx hb dX6_needNumber_139 hl (by decide) rfl (fun ls hl => ?_)
            refine lv_aload_n hx hb dX6_needNumber_141 rfl (lv_at hl 3 rfl) ?_
            refine va_get (D := D) (ci := 6) (v := .int (nI t2_77)) (C := RX6) (T := TX6) (N := 6) hx hb hts inX6 hown hK hP 0 rfl rfl 2 (by decide) (hts _ tw_113) (fun _ h9 => h9) rfl dX6_needNumber_142 ?_
            refine lv_iload hx hb dX6_needNumber_145 (lv_at hl 1 rfl) ?_
            refine lv_icmp_ne (tgt := 162) hx hb dX6_needNumber_147 (by decide) (fun c_96 => ?_) (fun c_96 => ?_)
            · have c_96 : ¬ (t2_77 = (ta__2 + 1)) := fun h => c_96 ((nI_eq (a := t2_77) (b := (ta__2 + 1)) (by omega) (by omega)).mpr h)
              refine lv_aload_n hx hb dX6_needNumber_162 rfl (lv_at hl 3 rfl) ?_
              refine va_get (D := D) (ci := 6) (v := .int (nI t2_77)) (C := RX6) (T := TX6) (N := 6) hx hb hts inX6 hown hK hP 0 rfl rfl 2 (by decide) (hts _ tw_113) (fun _ h9 => h9) rfl dX6_needNumber_163 ?_
              refine lv_iload hx hb dX6_needNumber_166 (lv_at hl 1 rfl) ?_
              refine lv_isub hx hb dX6_needNumber_168 ?_
              refine lv_ti (y := (nI (t2_77 - (ta__2 + 1)))) (pk_sub (a := t2_77) (b := (ta__2 + 1)) (by omega)) ?_
              refine lv_iconst (v := 3) hx hb dX6_needNumber_169 (by decide) ?_
              refine lv_icmp_gt (tgt := 185) hx hb dX6_needNumber_170 (by decide) (fun c_97 => ?_) (fun c_97 => ?_)
              · have c_97 := (nI_ltI (a := 3) (b := (t2_77 - (ta__2 + 1))) (by omega) (by omega)).mp c_97
                refine lv_aload_n hx hb dX6_needNumber_185 rfl (lv_at hl 3 rfl) ?_
                refine lv_iconst (v := 2) hx hb dX6_needNumber_186 (by decide) ?_
                refine lv_aload_n hx hb dX6_needNumber_187 rfl (lv_at hl 3 rfl) ?_
                refine va_get (D := D) (ci := 6) (v := .int (nI ta__2)) (C := RX6) (T := TX6) (N := 6) hx hb hts inX6 hown hK hP 0 rfl rfl 3 (by decide) (hts _ tw_116) (fun _ h9 => h9) rfl dX6_needNumber_188 ?_
                refine rw_v (D := D) (wr := [(aB k x1 240 fx)]) (va_runV (As := [.int 2, .int (nI ta__2)]) (rest := []) ⟨hx, hb, hml, hown, hts⟩ ((x_fail l D k st lo x0 x1 tz t2_77 (nI ta__2) 0 fb 2 (nI ta__2) (by decide)) H.size) (cwV 2 hts (gV tw_476 tw_456 tw_457 tw_80 tw_458) rfl rfl rfl (by decide +kernel) ⟨Nat.le_of_ble_eq_true rfl, Nat.le_of_ble_eq_true rfl⟩) (pV hS hAlo hlo hP hK (va_Dlo hD hAlo) hZ [0] (by decide) rfl (ci := 6) (q := (RX6, TX6, 6)) (q0 := 0) rfl rfl) rfl rfl hl.1 rfl (lv_room (Nat.le_of_ble_eq_true rfl)) dX6_needNumber_191 ⟨Nat.le_of_ble_eq_true rfl, Nat.le_of_ble_eq_true rfl⟩) hS hA hP hD [0] [1] rfl rfl (by decide) (by decide) (fun u H locs hw_98 hP hD hS => ?_)
                obtain ⟨fn__98, fb__98⟩ := u
                replace hP : va_P D classes [(aB k x1 240 fx), (x0, .inr (6, (fX6 x1 (nI tz) (nI t2_77) (nI ta__2) fn__98 fb__98)))] H := hP
                replace hD : va_D A [(aB k x1 240 fx), (x0, .inr (6, (fX6 x1 (nI tz) (nI t2_77) (nI ta__2) fn__98 fb__98)))] := hD
                try dsimp only at hw_98
                refine lv_aload_n hx hb dX6_needNumber_194 rfl (lv_at hl 3 rfl) ?_
                refine ro_i (D := D) (va_runV (As := []) (rest := []) ⟨hx, hb, hml, hown, hts⟩ ((x_failed l D k st lo x0 x1 tz t2_77 (nI ta__2) fn__98 fb__98) H.size) (cwV 0 hts (gV tw_471 tw_368 tw_369 tw_80 tw_370) rfl rfl rfl (by decide +kernel) ⟨Nat.le_of_ble_eq_true rfl, Nat.le_of_ble_eq_true rfl⟩) (pV hS hAlo hlo hP hK (va_Dlo hD hAlo) hZ [1] (by decide) rfl (ci := 6) (q := (RX6, TX6, 6)) (q0 := 0) rfl rfl) rfl rfl hl.1 rfl (lv_room (Nat.le_of_ble_eq_true rfl)) dX6_needNumber_195 ⟨Nat.le_of_ble_eq_true rfl, Nat.le_of_ble_eq_true rfl⟩) hS hA hP (fun r_99 H locs hw_99 hP hS => ?_)
                try dsimp only at hw_99
                obtain rfl : r_99 = 1 := by rcases hw_99 with ⟨h, h2⟩ | ⟨h, h2⟩ <;> first | exact h | exact absurd h2 hw_98
                refine lv_if_eq (tgt := 205) hx hb dX6_needNumber_198 (by decide) (fun h => absurd h (by decide)) (fun _ => ?_)
                refine lv_iload_n hx hb dX6_needNumber_201 rfl (lv_at hl 4 rfl) ?_
                refine lv_goto (tgt := 207) hx hb dX6_needNumber_202 (by decide) ?_
                have hP9 := hP.sub (ws' := [(x0, .inr (6, (fX6 x1 (nI tz) (nI t2_77) (nI ta__2) fn__98 fb__98))), (aB k x1 240 fx)]) [1, 0] rfl
                have hD9 := hD.sub (ws' := [(x0, .inr (6, (fX6 x1 (nI tz) (nI t2_77) (nI ta__2) fn__98 fb__98))), (aB k x1 240 fx)]) [1, 0] (by decide) rfl
                exact W.iret (v := p0) hx hb hr (fun t ht hW => ⟨⟨p0, (t2_77, (nI ta__2), fn__98, fb__98), rfl, ⟨by omega, by omega, ⟨Int32.le_refl _, hle⟩, .inl rfl⟩, by rw [ht]; exact hP9, hD9⟩, hS.F ht⟩) hS.2.2 dX6_needNumber_207
              · have c_97 : ¬ (3 < (t2_77 - (ta__2 + 1))) := fun h => c_97 ((nI_ltI (a := 3) (b := (t2_77 - (ta__2 + 1))) (by omega) (by omega)).mpr h)
                refine lv_iload hx hb dX6_needNumber_173 (lv_at hl 0 rfl) ?_
                refine lv_iload_n hx hb dX6_needNumber_175 rfl (lv_at hl 4 rfl) ?_
                refine lv_icmp_lt (tgt := 185) hx hb dX6_needNumber_176 (by decide) (fun c_100 => ?_) (fun c_100 => ?_)
                · refine lv_aload_n hx hb dX6_needNumber_185 rfl (lv_at hl 3 rfl) ?_
                  refine lv_iconst (v := 2) hx hb dX6_needNumber_186 (by decide) ?_
                  refine lv_aload_n hx hb dX6_needNumber_187 rfl (lv_at hl 3 rfl) ?_
                  refine va_get (D := D) (ci := 6) (v := .int (nI ta__2)) (C := RX6) (T := TX6) (N := 6) hx hb hts inX6 hown hK hP 0 rfl rfl 3 (by decide) (hts _ tw_116) (fun _ h9 => h9) rfl dX6_needNumber_188 ?_
                  refine rw_v (D := D) (wr := [(aB k x1 240 fx)]) (va_runV (As := [.int 2, .int (nI ta__2)]) (rest := []) ⟨hx, hb, hml, hown, hts⟩ ((x_fail l D k st lo x0 x1 tz t2_77 (nI ta__2) 0 fb 2 (nI ta__2) (by decide)) H.size) (cwV 2 hts (gV tw_476 tw_456 tw_457 tw_80 tw_458) rfl rfl rfl (by decide +kernel) ⟨Nat.le_of_ble_eq_true rfl, Nat.le_of_ble_eq_true rfl⟩) (pV hS hAlo hlo hP hK (va_Dlo hD hAlo) hZ [0] (by decide) rfl (ci := 6) (q := (RX6, TX6, 6)) (q0 := 0) rfl rfl) rfl rfl hl.1 rfl (lv_room (Nat.le_of_ble_eq_true rfl)) dX6_needNumber_191 ⟨Nat.le_of_ble_eq_true rfl, Nat.le_of_ble_eq_true rfl⟩) hS hA hP hD [0] [1] rfl rfl (by decide) (by decide) (fun u H locs hw_101 hP hD hS => ?_)
                  obtain ⟨fn__101, fb__101⟩ := u
                  replace hP : va_P D classes [(aB k x1 240 fx), (x0, .inr (6, (fX6 x1 (nI tz) (nI t2_77) (nI ta__2) fn__101 fb__101)))] H := hP
                  replace hD : va_D A [(aB k x1 240 fx), (x0, .inr (6, (fX6 x1 (nI tz) (nI t2_77) (nI ta__2) fn__101 fb__101)))] := hD
                  try dsimp only at hw_101
                  refine lv_aload_n hx hb dX6_needNumber_194 rfl (lv_at hl 3 rfl) ?_
                  refine ro_i (D := D) (va_runV (As := []) (rest := []) ⟨hx, hb, hml, hown, hts⟩ ((x_failed l D k st lo x0 x1 tz t2_77 (nI ta__2) fn__101 fb__101) H.size) (cwV 0 hts (gV tw_471 tw_368 tw_369 tw_80 tw_370) rfl rfl rfl (by decide +kernel) ⟨Nat.le_of_ble_eq_true rfl, Nat.le_of_ble_eq_true rfl⟩) (pV hS hAlo hlo hP hK (va_Dlo hD hAlo) hZ [1] (by decide) rfl (ci := 6) (q := (RX6, TX6, 6)) (q0 := 0) rfl rfl) rfl rfl hl.1 rfl (lv_room (Nat.le_of_ble_eq_true rfl)) dX6_needNumber_195 ⟨Nat.le_of_ble_eq_true rfl, Nat.le_of_ble_eq_true rfl⟩) hS hA hP (fun r_102 H locs hw_102 hP hS => ?_)
                  try dsimp only at hw_102
                  obtain rfl : r_102 = 1 := by rcases hw_102 with ⟨h, h2⟩ | ⟨h, h2⟩ <;> first | exact h | exact absurd h2 hw_101
                  refine lv_if_eq (tgt := 205) hx hb dX6_needNumber_198 (by decide) (fun h => absurd h (by decide)) (fun _ => ?_)
                  refine lv_iload_n hx hb dX6_needNumber_201 rfl (lv_at hl 4 rfl) ?_
                  refine lv_goto (tgt := 207) hx hb dX6_needNumber_202 (by decide) ?_
                  have hP9 := hP.sub (ws' := [(x0, .inr (6, (fX6 x1 (nI tz) (nI t2_77) (nI ta__2) fn__101 fb__101))), (aB k x1 240 fx)]) [1, 0] rfl
                  have hD9 := hD.sub (ws' := [(x0, .inr (6, (fX6 x1 (nI tz) (nI t2_77) (nI ta__2) fn__101 fb__101))), (aB k x1 240 fx)]) [1, 0] (by decide) rfl
                  exact W.iret (v := p0) hx hb hr (fun t ht hW => ⟨⟨p0, (t2_77, (nI ta__2), fn__101, fb__101), rfl, ⟨by omega, by omega, ⟨Int32.le_refl _, hle⟩, .inl rfl⟩, by rw [ht]; exact hP9, hD9⟩, hS.F ht⟩) hS.2.2 dX6_needNumber_207
                · refine lv_iload hx hb dX6_needNumber_179 (lv_at hl 0 rfl) ?_
                  refine lv_iload_n hx hb dX6_needNumber_181 rfl (lv_at hl 5 rfl) ?_
                  refine lv_icmp_le (tgt := 194) hx hb dX6_needNumber_182 (by decide) (fun c_103 => ?_) (fun c_103 => ?_)
                  · refine lv_aload_n hx hb dX6_needNumber_194 rfl (lv_at hl 3 rfl) ?_
                    refine ro_i (D := D) (va_runV (As := []) (rest := []) ⟨hx, hb, hml, hown, hts⟩ ((x_failed l D k st lo x0 x1 tz t2_77 (nI ta__2) 0 fb) H.size) (cwV 0 hts (gV tw_471 tw_368 tw_369 tw_80 tw_370) rfl rfl rfl (by decide +kernel) ⟨Nat.le_of_ble_eq_true rfl, Nat.le_of_ble_eq_true rfl⟩) (pV hS hAlo hlo hP hK (va_Dlo hD hAlo) hZ [0] (by decide) rfl (ci := 6) (q := (RX6, TX6, 6)) (q0 := 0) rfl rfl) rfl rfl hl.1 rfl (lv_room (Nat.le_of_ble_eq_true rfl)) dX6_needNumber_195 ⟨Nat.le_of_ble_eq_true rfl, Nat.le_of_ble_eq_true rfl⟩) hS hA hP (fun r_104 H locs hw_104 hP hS => ?_)
                    try dsimp only at hw_104
                    obtain rfl : r_104 = 0 := by rcases hw_104 with ⟨h, h2⟩ | ⟨h, h2⟩ <;> first | exact h | exact absurd rfl h2 | exact absurd h2 (by decide)
                    refine lv_if_eq (tgt := 205) hx hb dX6_needNumber_198 (by decide) (fun _ => ?_) (fun h => absurd (by decide) h)
                    refine lv_iload hx hb dX6_needNumber_205 (lv_at hl 0 rfl) ?_
                    have hP9 := hP.sub (ws' := [(x0, .inr (6, (fX6 x1 (nI tz) (nI t2_77) (nI ta__2) 0 fb))), (aB k x1 240 fx)]) [0, 1] rfl
                    have hD9 := hD.sub (ws' := [(x0, .inr (6, (fX6 x1 (nI tz) (nI t2_77) (nI ta__2) 0 fb))), (aB k x1 240 fx)]) [0, 1] (by decide) rfl
                    exact W.iret (v := x_95) hx hb hr (fun t ht hW => ⟨⟨x_95, (t2_77, (nI ta__2), 0, fb), rfl, ⟨by omega, by omega, ⟨Int32.not_lt.mp c_100, c_103⟩, .inl rfl⟩, by rw [ht]; exact hP9, hD9⟩, hS.F ht⟩) hS.2.2 dX6_needNumber_207
                  · refine lv_aload_n hx hb dX6_needNumber_185 rfl (lv_at hl 3 rfl) ?_
                    refine lv_iconst (v := 2) hx hb dX6_needNumber_186 (by decide) ?_
                    refine lv_aload_n hx hb dX6_needNumber_187 rfl (lv_at hl 3 rfl) ?_
                    refine va_get (D := D) (ci := 6) (v := .int (nI ta__2)) (C := RX6) (T := TX6) (N := 6) hx hb hts inX6 hown hK hP 0 rfl rfl 3 (by decide) (hts _ tw_116) (fun _ h9 => h9) rfl dX6_needNumber_188 ?_
                    refine rw_v (D := D) (wr := [(aB k x1 240 fx)]) (va_runV (As := [.int 2, .int (nI ta__2)]) (rest := []) ⟨hx, hb, hml, hown, hts⟩ ((x_fail l D k st lo x0 x1 tz t2_77 (nI ta__2) 0 fb 2 (nI ta__2) (by decide)) H.size) (cwV 2 hts (gV tw_476 tw_456 tw_457 tw_80 tw_458) rfl rfl rfl (by decide +kernel) ⟨Nat.le_of_ble_eq_true rfl, Nat.le_of_ble_eq_true rfl⟩) (pV hS hAlo hlo hP hK (va_Dlo hD hAlo) hZ [0] (by decide) rfl (ci := 6) (q := (RX6, TX6, 6)) (q0 := 0) rfl rfl) rfl rfl hl.1 rfl (lv_room (Nat.le_of_ble_eq_true rfl)) dX6_needNumber_191 ⟨Nat.le_of_ble_eq_true rfl, Nat.le_of_ble_eq_true rfl⟩) hS hA hP hD [0] [1] rfl rfl (by decide) (by decide) (fun u H locs hw_105 hP hD hS => ?_)
                    obtain ⟨fn__105, fb__105⟩ := u
                    replace hP : va_P D classes [(aB k x1 240 fx), (x0, .inr (6, (fX6 x1 (nI tz) (nI t2_77) (nI ta__2) fn__105 fb__105)))] H := hP
                    replace hD : va_D A [(aB k x1 240 fx), (x0, .inr (6, (fX6 x1 (nI tz) (nI t2_77) (nI ta__2) fn__105 fb__105)))] := hD
                    try dsimp only at hw_105
                    refine lv_aload_n hx hb dX6_needNumber_194 rfl (lv_at hl 3 rfl) ?_
                    refine ro_i (D := D) (va_runV (As := []) (rest := []) ⟨hx, hb, hml, hown, hts⟩ ((x_failed l D k st lo x0 x1 tz t2_77 (nI ta__2) fn__105 fb__105) H.size) (cwV 0 hts (gV tw_471 tw_368 tw_369 tw_80 tw_370) rfl rfl rfl (by decide +kernel) ⟨Nat.le_of_ble_eq_true rfl, Nat.le_of_ble_eq_true rfl⟩) (pV hS hAlo hlo hP hK (va_Dlo hD hAlo) hZ [1] (by decide) rfl (ci := 6) (q := (RX6, TX6, 6)) (q0 := 0) rfl rfl) rfl rfl hl.1 rfl (lv_room (Nat.le_of_ble_eq_true rfl)) dX6_needNumber_195 ⟨Nat.le_of_ble_eq_true rfl, Nat.le_of_ble_eq_true rfl⟩) hS hA hP (fun r_106 H locs hw_106 hP hS => ?_)
                    try dsimp only at hw_106
                    obtain rfl : r_106 = 1 := by rcases hw_106 with ⟨h, h2⟩ | ⟨h, h2⟩ <;> first | exact h | exact absurd h2 hw_105
                    refine lv_if_eq (tgt := 205) hx hb dX6_needNumber_198 (by decide) (fun h => absurd h (by decide)) (fun _ => ?_)
                    refine lv_iload_n hx hb dX6_needNumber_201 rfl (lv_at hl 4 rfl) ?_
                    refine lv_goto (tgt := 207) hx hb dX6_needNumber_202 (by decide) ?_
                    have hP9 := hP.sub (ws' := [(x0, .inr (6, (fX6 x1 (nI tz) (nI t2_77) (nI ta__2) fn__105 fb__105))), (aB k x1 240 fx)]) [1, 0] rfl
                    have hD9 := hD.sub (ws' := [(x0, .inr (6, (fX6 x1 (nI tz) (nI t2_77) (nI ta__2) fn__105 fb__105))), (aB k x1 240 fx)]) [1, 0] (by decide) rfl
                    exact W.iret (v := p0) hx hb hr (fun t ht hW => ⟨⟨p0, (t2_77, (nI ta__2), fn__105, fb__105), rfl, ⟨by omega, by omega, ⟨Int32.le_refl _, hle⟩, .inl rfl⟩, by rw [ht]; exact hP9, hD9⟩, hS.F ht⟩) hS.2.2 dX6_needNumber_207
            · have c_96 := (nI_eq (a := t2_77) (b := (ta__2 + 1)) (by omega) (by omega)).mp c_96
              refine lv_aload_n hx hb dX6_needNumber_150 rfl (lv_at hl 3 rfl) ?_
              refine lv_iconst (v := 1) hx hb dX6_needNumber_151 (by decide) ?_
              refine lv_aload_n hx hb dX6_needNumber_152 rfl (lv_at hl 3 rfl) ?_
              refine va_get (D := D) (ci := 6) (v := .int (nI t2_77)) (C := RX6) (T := TX6) (N := 6) hx hb hts inX6 hown hK hP 0 rfl rfl 2 (by decide) (hts _ tw_113) (fun _ h9 => h9) rfl dX6_needNumber_153 ?_
              refine rw_v (D := D) (wr := [(aB k x1 240 fx)]) (va_runV (As := [.int 1, .int (nI t2_77)]) (rest := []) ⟨hx, hb, hml, hown, hts⟩ ((x_fail l D k st lo x0 x1 tz t2_77 (nI ta__2) 0 fb 1 (nI t2_77) (by decide)) H.size) (cwV 2 hts (gV tw_476 tw_456 tw_457 tw_80 tw_458) rfl rfl rfl (by decide +kernel) ⟨Nat.le_of_ble_eq_true rfl, Nat.le_of_ble_eq_true rfl⟩) (pV hS hAlo hlo hP hK (va_Dlo hD hAlo) hZ [0] (by decide) rfl (ci := 6) (q := (RX6, TX6, 6)) (q0 := 0) rfl rfl) rfl rfl hl.1 rfl (lv_room (Nat.le_of_ble_eq_true rfl)) dX6_needNumber_156 ⟨Nat.le_of_ble_eq_true rfl, Nat.le_of_ble_eq_true rfl⟩) hS hA hP hD [0] [1] rfl rfl (by decide) (by decide) (fun u H locs hw_107 hP hD hS => ?_)
              obtain ⟨fn__107, fb__107⟩ := u
              replace hP : va_P D classes [(aB k x1 240 fx), (x0, .inr (6, (fX6 x1 (nI tz) (nI t2_77) (nI ta__2) fn__107 fb__107)))] H := hP
              replace hD : va_D A [(aB k x1 240 fx), (x0, .inr (6, (fX6 x1 (nI tz) (nI t2_77) (nI ta__2) fn__107 fb__107)))] := hD
              try dsimp only at hw_107
              refine lv_goto (tgt := 194) hx hb dX6_needNumber_159 (by decide) ?_
              refine lv_aload_n hx hb dX6_needNumber_194 rfl (lv_at hl 3 rfl) ?_
              refine ro_i (D := D) (va_runV (As := []) (rest := []) ⟨hx, hb, hml, hown, hts⟩ ((x_failed l D k st lo x0 x1 tz t2_77 (nI ta__2) fn__107 fb__107) H.size) (cwV 0 hts (gV tw_471 tw_368 tw_369 tw_80 tw_370) rfl rfl rfl (by decide +kernel) ⟨Nat.le_of_ble_eq_true rfl, Nat.le_of_ble_eq_true rfl⟩) (pV hS hAlo hlo hP hK (va_Dlo hD hAlo) hZ [1] (by decide) rfl (ci := 6) (q := (RX6, TX6, 6)) (q0 := 0) rfl rfl) rfl rfl hl.1 rfl (lv_room (Nat.le_of_ble_eq_true rfl)) dX6_needNumber_195 ⟨Nat.le_of_ble_eq_true rfl, Nat.le_of_ble_eq_true rfl⟩) hS hA hP (fun r_108 H locs hw_108 hP hS => ?_)
              try dsimp only at hw_108
              obtain rfl : r_108 = 1 := by rcases hw_108 with ⟨h, h2⟩ | ⟨h, h2⟩ <;> first | exact h | exact absurd h2 hw_107
              refine lv_if_eq (tgt := 205) hx hb dX6_needNumber_198 (by decide) (fun h => absurd h (by decide)) (fun _ => ?_)
              refine lv_iload_n hx hb dX6_needNumber_201 rfl (lv_at hl 4 rfl) ?_
              refine lv_goto (tgt := 207) hx hb dX6_needNumber_202 (by decide) ?_
              have hP9 := hP.sub (ws' := [(x0, .inr (6, (fX6 x1 (nI tz) (nI t2_77) (nI ta__2) fn__107 fb__107))), (aB k x1 240 fx)]) [1, 0] rfl
              have hD9 := hD.sub (ws' := [(x0, .inr (6, (fX6 x1 (nI tz) (nI t2_77) (nI ta__2) fn__107 fb__107))), (aB k x1 240 fx)]) [1, 0] (by decide) rfl
              exact W.iret (v := p0) hx hb hr (fun t ht hW => ⟨⟨p0, (t2_77, (nI ta__2), fn__107, fb__107), rfl, ⟨by omega, by omega, ⟨Int32.le_refl _, hle⟩, .inl rfl⟩, by rw [ht]; exact hP9, hD9⟩, hS.F ht⟩) hS.2.2 dX6_needNumber_207
          · refine lv_aload_n hx hb dX6_needNumber_89 rfl (lv_at hl 3 rfl) ?_
            refine va_get (D := D) (ci := 6) (v := .int (nI t2_77)) (C := RX6) (T := TX6) (N := 6) hx hb hts inX6 hown hK hP 0 rfl rfl 2 (by decide) (hts _ tw_113) (fun _ h9 => h9) rfl dX6_needNumber_90 ?_
            refine lv_iload hx hb dX6_needNumber_93 (lv_at hl 1 rfl) ?_
            refine lv_isub hx hb dX6_needNumber_95 ?_
            refine lv_ti (y := (nI (t2_77 - (ta__2 + 1)))) (pk_sub (a := t2_77) (b := (ta__2 + 1)) (by omega)) ?_
            refine lv_iconst (v := 3) hx hb dX6_needNumber_96 (by decide) ?_
            refine lv_icmp_ge (tgt := 119) hx hb dX6_needNumber_97 (by decide) (fun c_109 => ?_) (fun c_109 => ?_)
            · have c_109 := (nI_leI (a := 3) (b := (t2_77 - (ta__2 + 1))) (by omega) (by omega)).mp c_109
              refine lv_aload_n hx hb dX6_needNumber_119 rfl (lv_at hl 3 rfl) ?_
              refine lv_dup hx hb dX6_needNumber_120 rfl ?_
              refine va_get (D := D) (ci := 6) (v := .int (nI t2_77)) (C := RX6) (T := TX6) (N := 6) hx hb hts inX6 hown hK hP 0 rfl rfl 2 (by decide) (hts _ tw_113) (fun _ h9 => h9) rfl dX6_needNumber_121 ?_
              refine lv_iconst (v := 1) hx hb dX6_needNumber_124 (by decide) ?_
              refine lv_iadd hx hb dX6_needNumber_125 ?_
              refine lv_ti (y := (nI (t2_77 + 1))) (nI_add t2_77 1) ?_
              refine va_put (D := D) (ci := 6) (v := .int (nI (t2_77 + 1))) (ty := .int) (C := RX6) (T := TX6) (N := 6) hx hb hts inX6 tyX6 tyX6_ok nmX6 hown hK hP hD hS 0 rfl rfl 2 (by decide) (hts _ tw_113) (fun _ h9 => h9) rfl (by decide +kernel) rfl rfl (Nat.le_of_ble_eq_true rfl) dX6_needNumber_126 (fun H locs hP hD hS => ?_)
              replace hP : va_P D classes [(x0, .inr (6, (fX6 x1 (nI tz) (nI (t2_77 + 1)) (nI ta__2) 0 fb))), (aB k x1 240 fx)] H := hP
              replace hD : va_D A [(x0, .inr (6, (fX6 x1 (nI tz) (nI (t2_77 + 1)) (nI ta__2) 0 fb))), (aB k x1 240 fx)] := hD
              refine lv_goto (tgt := 67) hx hb dX6_needNumber_129 (by decide) ?_
              exact ih_77 _ (t2_77 + 1, va_77) _ _ _ (by omega) ⟨rfl, ⟨by omega, by omega⟩, hP, hD, hS, (lv_sub hl [0, 1, 2, 3, 4, 5] rfl)⟩
            · have c_109 : ¬ (3 ≤ (t2_77 - (ta__2 + 1))) := fun h => c_109 ((nI_leI (a := 3) (b := (t2_77 - (ta__2 + 1))) (by omega) (by omega)).mpr h)
              refine lv_iload hx hb dX6_needNumber_100 (lv_at hl 0 rfl) ?_
              refine lv_bipush (v := 10) hx hb dX6_needNumber_102 (by decide) ?_
              refine lv_imul hx hb dX6_needNumber_104 ?_
              refine lv_topi (fun x_110 ex_110 => ?_)
              refine lv_aload_n hx hb dX6_needNumber_105 rfl (lv_at hl 3 rfl) ?_
              refine lv_aload_n hx hb dX6_needNumber_106 rfl (lv_at hl 3 rfl) ?_
              refine va_get (D := D) (ci := 6) (v := .int (nI t2_77)) (C := RX6) (T := TX6) (N := 6) hx hb hts inX6 hown hK hP 0 rfl rfl 2 (by decide) (hts _ tw_113) (fun _ h9 => h9) rfl dX6_needNumber_107 ?_
              refine ro_i (D := D) (va_runV (As := [.int (nI t2_77)]) (rest := [.int x_110]) ⟨hx, hb, hml, hown, hts⟩ ((x_byteAt l D k st lo x0 x1 tz t2_77 (nI ta__2) 0 fb fx t2_77 (by omega) (by omega)) H.size) (cwV 1 hts (gV tw_379 tw_380 tw_381 tw_80 tw_382) rfl rfl rfl (by decide +kernel) ⟨Nat.le_of_ble_eq_true rfl, Nat.le_of_ble_eq_true rfl⟩) (pV hS hAlo hlo hP hK (va_Dlo hD hAlo) hZ [0, 1] (by decide) rfl (ci := 6) (q := (RX6, TX6, 6)) (q0 := 0) rfl rfl) rfl rfl hl.1 rfl (lv_room (Nat.le_of_ble_eq_true rfl)) dX6_needNumber_110 ⟨Nat.le_of_ble_eq_true rfl, Nat.le_of_ble_eq_true rfl⟩) hS hA hP (fun r_111 H locs hw_111 hP hS => ?_)
              try dsimp only at hw_111
              refine lv_iadd hx hb dX6_needNumber_113 ?_
              refine lv_topi (fun x_112 ex_112 => ?_)
              refine lv_bipush (v := 48) hx hb dX6_needNumber_114 (by decide) ?_
              refine lv_isub hx hb dX6_needNumber_116 ?_
              refine lv_topi (fun x_113 ex_113 => ?_)
              refine lv_istore (lv' := [(5, .int x_113), (4, .int (nI (ta__2 + 1))), (3, .int 1), (0, .ref x0), (1, .int p0), (2, .int p1)]) hx hb dX6_needNumber_117 hl (by decide) rfl (fun ls hl => ?_)
              refine lv_aload_n hx hb dX6_needNumber_119 rfl (lv_at hl 3 rfl) ?_
              refine lv_dup hx hb dX6_needNumber_120 rfl ?_
              refine va_get (D := D) (ci := 6) (v := .int (nI t2_77)) (C := RX6) (T := TX6) (N := 6) hx hb hts inX6 hown hK hP 0 rfl rfl 2 (by decide) (hts _ tw_113) (fun _ h9 => h9) rfl dX6_needNumber_121 ?_
              refine lv_iconst (v := 1) hx hb dX6_needNumber_124 (by decide) ?_
              refine lv_iadd hx hb dX6_needNumber_125 ?_
              refine lv_ti (y := (nI (t2_77 + 1))) (nI_add t2_77 1) ?_
              refine va_put (D := D) (ci := 6) (v := .int (nI (t2_77 + 1))) (ty := .int) (C := RX6) (T := TX6) (N := 6) hx hb hts inX6 tyX6 tyX6_ok nmX6 hown hK hP hD hS 0 rfl rfl 2 (by decide) (hts _ tw_113) (fun _ h9 => h9) rfl (by decide +kernel) rfl rfl (Nat.le_of_ble_eq_true rfl) dX6_needNumber_126 (fun H locs hP hD hS => ?_)
              replace hP : va_P D classes [(x0, .inr (6, (fX6 x1 (nI tz) (nI (t2_77 + 1)) (nI ta__2) 0 fb))), (aB k x1 240 fx)] H := hP
              replace hD : va_D A [(x0, .inr (6, (fX6 x1 (nI tz) (nI (t2_77 + 1)) (nI ta__2) 0 fb))), (aB k x1 240 fx)] := hD
              refine lv_goto (tgt := 67) hx hb dX6_needNumber_129 (by decide) ?_
              exact ih_77 _ (t2_77 + 1, x_113) _ _ _ (by omega) ⟨rfl, ⟨by omega, by omega⟩, hP, hD, hS, (lv_sub hl [0, 1, 2, 3, 4, 5] rfl)⟩

