theorem dX1_leftBehind_0 : decode cX1_leftBehind 0 = .ok (.iload_n 2, 1) := by decide +kernel
theorem dX1_leftBehind_1 : decode cX1_leftBehind 1 = .ok (.iconst 1, 1) := by decide +kernel
theorem dX1_leftBehind_2 : decode cX1_leftBehind 2 = .ok (.aload_n 0, 1) := by decide +kernel
theorem dX1_leftBehind_3 : decode cX1_leftBehind 3 = .ok (.aload_n 0, 1) := by decide +kernel
theorem dX1_leftBehind_4 : decode cX1_leftBehind 4 = .ok (.getfield 9, 3) := by decide +kernel
theorem dX1_leftBehind_7 : decode cX1_leftBehind 7 = .ok (.iload_n 1, 1) := by decide +kernel
theorem dX1_leftBehind_8 : decode cX1_leftBehind 8 = .ok (.iaload, 1) := by decide +kernel
theorem dX1_leftBehind_9 : decode cX1_leftBehind 9 = .ok (.iload_n 2, 1) := by decide +kernel
theorem dX1_leftBehind_10 : decode cX1_leftBehind 10 = .ok (.invokevirtual 74, 3) := by decide +kernel
theorem dX1_leftBehind_13 : decode cX1_leftBehind 13 = .ok (.ishl, 1) := by decide +kernel
theorem dX1_leftBehind_14 : decode cX1_leftBehind 14 = .ok (.iconst (-1), 1) := by decide +kernel
theorem dX1_leftBehind_15 : decode cX1_leftBehind 15 = .ok (.ixor, 1) := by decide +kernel
theorem dX1_leftBehind_16 : decode cX1_leftBehind 16 = .ok (.iand, 1) := by decide +kernel
theorem dX1_leftBehind_17 : decode cX1_leftBehind 17 = .ok (.ireturn, 1) := by decide +kernel
set_option maxHeartbeats 4000000 in
set_option maxRecDepth 100000 in
theorem x_leftBehind (l : Launch) (D : va_G) (k : Nat → ClassId) (st : Nat → Nat) (lo : Nat) (c0 : Nat) (z0 : Nat) (z1 : Nat) (z2 : Nat) (z3 : Nat) (pn : Nat) (pf : Int32) (pd : Int32) (pe : Int32) (pb : Nat → Nat) (cn : Nat) (p1 : Int32) (hpn : pn ≤ 24) (hcn : cn < 4) (hpb : ∀ j, pb j ≤ 24) : CRi l D k st lo yX1_leftBehind cX1_leftBehind 3 (some .int) ({ frames := 1, cells := 0, slots := 0, locals := 23 }) [.ref z0, .int (nI cn), .int p1] [(z0, .inr (1, [.ref c0, .ref z1, .ref z2, .ref z3, .int (nI pn), .int pf, .int pd, .int pe])), (z1, .inl (k 1, 4, .inl (nF pb)))] (fun _ => True) := by
  intro sz
  refine Met.ofW (cc := cX1_leftBehind) (maxL := 3) (ret := (some .int)) (by decide) rfl ?_
  intro p e s m args below meth c s₁ B hml hv
  obtain ⟨rfl, hsz, hlo, hP, hK, hDL, hZ⟩ := hv
  have hx := B.exec
  have hb := B.bytes
  have hr := B.returns
  have hts := WS_ts B.pre
  have hown : s.vm.findClass RX1 = some m.cls := findClass_of_methodNamed B.named
  have hlocks := B.notSynchronized
  subst hsz
  have hA : ∀ q : Nat, s.heap.size ≤ q → (fun q : Nat => s.heap.size ≤ q) q := fun _ h => h
  have hAlo : ∀ q : Nat, (fun q : Nat => s.heap.size ≤ q) q → lo ≤ q := fun q h => Nat.le_trans hlo h
  have hS : va_S (fun q : Nat => s.heap.size ≤ q) s.heap s.heap [] := va_S.rf
  have hl := lv_entry ([.ref z0, .int (nI cn), .int p1]) (n := 3) (Nat.le_of_ble_eq_true rfl)
  rw [lg_entry_eq]
  generalize (lg_sl ([.ref z0, .int (nI cn), .int p1]) ++ List.replicate (3 - (lg_sl ([.ref z0, .int (nI cn), .int p1])).length) Slot.unset).toArray = ls at hl ⊢
  have hl : lv_has ls 3 [(0, .ref z0), (1, .int (nI cn)), (2, .int p1)] := hl
  refine lv_iload_n hx hb dX1_leftBehind_0 rfl (lv_at hl 2 rfl) ?_
  refine lv_iconst (v := 1) hx hb dX1_leftBehind_1 (by decide) ?_
  refine lv_aload_n hx hb dX1_leftBehind_2 rfl (lv_at hl 0 rfl) ?_
  refine lv_aload_n hx hb dX1_leftBehind_3 rfl (lv_at hl 0 rfl) ?_
  refine va_get (D := D) (ci := 1) (v := .ref z1) (C := RX1) (T := TX1) (N := 8) hx hb hts inX1 hown hK hP 0 rfl rfl 1 (by decide) (hts _ tw_236) (fun _ h9 => h9) rfl dX1_leftBehind_4 ?_
  refine lv_iload_n hx hb dX1_leftBehind_7 rfl (lv_at hl 1 rfl) ?_
  refine va_iald hx hb hK hP 1 1 rfl rfl (vp_in_nI (by omega) (by decide)) dX1_leftBehind_8 ?_
  have hq_1 := hpb cn
  refine lv_ti (y := (nI (pb cn))) (by rw [nI_clamp (by omega)]; rfl) ?_
  refine lv_iload_n hx hb dX1_leftBehind_9 rfl (lv_at hl 2 rfl) ?_
  refine ro_i (D := D) (va_runV (As := [.int (nI (pb cn)), .int p1]) (rest := [.int 1, .int p1]) ⟨hx, hb, hml, hown, hts⟩ ((x_placeFrom l D k st lo c0 z0 z1 z2 z3 pn pf pd pe (pb cn) p1 (by omega) (by omega)) s.heap.size) (cwV 2 hts (gV tw_838 tw_840 tw_20 tw_84 tw_841) rfl rfl rfl (by decide +kernel) ⟨Nat.le_of_ble_eq_true rfl, Nat.le_of_ble_eq_true rfl⟩) (pV hS hAlo hlo hP hK hDL hZ [0] (by decide) rfl (ci := 1) (q0 := 0) rfl rfl) rfl rfl hl.1 rfl (lv_room (Nat.le_of_ble_eq_true rfl)) dX1_leftBehind_10 ⟨Nat.le_of_ble_eq_true rfl, Nat.le_of_ble_eq_true rfl⟩) hS hA hP (fun r_2 H locs hw_2 hP hS => ?_)
  try dsimp only at hw_2
  obtain ⟨zp_3, hzp_3, rfl⟩ := hw_2
  refine lv_ishl hx hb dX1_leftBehind_13 ?_
  refine lv_topi (fun x_4 ex_4 => ?_)
  refine lv_iconst (v := (-1)) hx hb dX1_leftBehind_14 (by decide) ?_
  refine lv_ixor hx hb dX1_leftBehind_15 ?_
  refine lv_topi (fun x_5 ex_5 => ?_)
  refine lv_iand hx hb dX1_leftBehind_16 ?_
  refine lv_topi (fun x_6 ex_6 => ?_)
  exact W.iret (v := x_6) hx hb hr (fun t ht hW => ⟨⟨x_6, (), rfl, trivial, trivial⟩, hS.F ht⟩) hS.2.2 dX1_leftBehind_17

