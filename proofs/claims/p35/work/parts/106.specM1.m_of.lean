theorem dX8_of_0 : decode cX8_of 0 = .ok (.aload_n 0, 1) := by decide +kernel
theorem dX8_of_1 : decode cX8_of 1 = .ok (.getfield 19, 3) := by decide +kernel
theorem dX8_of_4 : decode cX8_of 4 = .ok (.bipush 9, 2) := by decide +kernel
theorem dX8_of_6 : decode cX8_of 6 = .ok (.iload_n 1, 1) := by decide +kernel
theorem dX8_of_7 : decode cX8_of 7 = .ok (.imul, 1) := by decide +kernel
theorem dX8_of_8 : decode cX8_of 8 = .ok (.iload_n 2, 1) := by decide +kernel
theorem dX8_of_9 : decode cX8_of 9 = .ok (.iadd, 1) := by decide +kernel
theorem dX8_of_10 : decode cX8_of 10 = .ok (.iaload, 1) := by decide +kernel
theorem dX8_of_11 : decode cX8_of 11 = .ok (.ireturn, 1) := by decide +kernel
set_option maxHeartbeats 4000000 in
set_option maxRecDepth 100000 in
theorem m_of (l : Launch) (D : va_G) (k : Nat → ClassId) (st : Nat → Nat) (lo : Nat) (a : Nat → Nat) (tx : Nat) (t0 : Nat) (we : Nat) (rd : Nat) (ru : Nat) (rw : Nat) (ca : Nat) (fp : Int32) (wd : Int64) (nu : Int32) (na : Int32) (ts : Int32) (df : Int32) (db : Int32) (sd : Int32) (se : Nat → Nat) (tm : Nat → Nat) (gs : Nat → Int32) (sn : Nat) (w : Nat)  (hs : sn < 3) (hw9 : w < 9) : CRi l D k st lo yX8_of cX8_of 3 (some .int) ({ frames := 0, cells := 0, slots := 0, locals := 0 }) [.ref (a 0), .int (nI sn), .int (nI w)] [((a 0), .inr (8, [.ref (a 1), .ref (a 2), .ref (a 3), .ref (a 4), .ref (a 5), .int (nI tx), .int fp, .int (nI t0), .long wd, .int (nI we), .int nu, .int na, .int (nI rd), .ref (a 14), .ref (a 15), .ref (a 16), .int ts, .ref (a 18), .ref (a 19), .ref (a 20), .ref (a 21), .ref (a 22), .ref (a 23), .int (nI ru), .ref (a 25), .ref (a 26), .ref (a 27), .ref (a 28), .ref (a 29), .ref (a 30), .int (nI rw), .ref (a 32), .ref (a 33), .ref (a 34), .int (nI ca), .ref (a 36), .ref (a 37), .int df, .int db, .ref (a 40), .ref (a 41), .int sd, .ref (a 43), .ref (a 44)])), ((a 4), .inl (k 1, 27, .inl (sg se tm gs)))] (fun r => r = sg se tm gs (9 * sn + w)) := by
  intro sz
  refine Met.ofW (cc := cX8_of) (maxL := 3) (ret := (some .int)) (by decide) rfl ?_
  intro p e s m args below meth c s₁ B hml hv
  obtain ⟨rfl, hsz, hlo, hP, hK, hDL, hZ⟩ := hv
  have hx := B.exec
  have hb := B.bytes
  have hr := B.returns
  have hts := WS_ts B.pre
  have hown : s.vm.findClass RX8 = some m.cls := findClass_of_methodNamed B.named
  have hlocks := B.notSynchronized
  subst hsz
  have hA : ∀ q : Nat, s.heap.size ≤ q → (fun q : Nat => s.heap.size ≤ q) q := fun _ h => h
  have hAlo : ∀ q : Nat, (fun q : Nat => s.heap.size ≤ q) q → lo ≤ q := fun q h => Nat.le_trans hlo h
  have hS : va_S (fun q : Nat => s.heap.size ≤ q) s.heap s.heap [] := va_S.rf
  have hl := lv_entry ([.ref (a 0), .int (nI sn), .int (nI w)]) (n := 3) (Nat.le_of_ble_eq_true rfl)
  rw [lg_entry_eq]
  generalize (lg_sl ([.ref (a 0), .int (nI sn), .int (nI w)]) ++ List.replicate (3 - (lg_sl ([.ref (a 0), .int (nI sn), .int (nI w)])).length) Slot.unset).toArray = ls at hl ⊢
  have hl : lv_has ls 3 [(0, .ref (a 0)), (1, .int (nI sn)), (2, .int (nI w))] := hl
  refine lv_aload_n hx hb dX8_of_0 rfl (lv_at hl 0 rfl) ?_
  refine va_get (D := D) (ci := 8) (v := .ref (a 4)) (C := RX8) (T := TX8) (N := 44) hx hb hts inX8 hown hK hP 0 rfl rfl 3 (by decide) (hts _ tw_976) (fun _ h9 => h9) rfl dX8_of_1 ?_
  refine lv_bipush (v := 9) hx hb dX8_of_4 (by decide) ?_
  refine lv_iload_n hx hb dX8_of_6 rfl (lv_at hl 1 rfl) ?_
  refine lv_imul hx hb dX8_of_7 ?_
  refine lv_ti (y := (nI (9 * sn))) (pk_mul 9 sn) ?_
  refine lv_iload_n hx hb dX8_of_8 rfl (lv_at hl 2 rfl) ?_
  refine lv_iadd hx hb dX8_of_9 ?_
  refine lv_ti (y := (nI (9 * sn + w))) (nI_add (9 * sn) w) ?_
  refine va_iald hx hb hK hP 1 1 rfl rfl (vp_in_nI (by omega) (by decide)) dX8_of_10 ?_
  refine lv_ti (y := ((sg se tm gs) (9 * sn + w))) (by rw [nI_clamp (by omega)]) ?_
  exact W.iret (v := ((sg se tm gs) (9 * sn + w))) hx hb hr (fun t ht hW => ⟨⟨((sg se tm gs) (9 * sn + w)), (), rfl, rfl, trivial⟩, hS.F ht⟩) hS.2.2 dX8_of_11

