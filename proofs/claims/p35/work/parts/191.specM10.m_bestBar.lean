theorem dX8_bestBar_0 : decode cX8_bestBar 0 = .ok (.aload_n 0, 1) := by decide +kernel
theorem dX8_bestBar_1 : decode cX8_bestBar 1 = .ok (.getfield 87, 3) := by decide +kernel
theorem dX8_bestBar_4 : decode cX8_bestBar 4 = .ok (.iload_n 3, 1) := by decide +kernel
theorem dX8_bestBar_5 : decode cX8_bestBar 5 = .ok (.iaload, 1) := by decide +kernel
theorem dX8_bestBar_6 : decode cX8_bestBar 6 = .ok (.istore 4, 2) := by decide +kernel
theorem dX8_bestBar_8 : decode cX8_bestBar 8 = .ok (.iload 4, 2) := by decide +kernel
theorem dX8_bestBar_10 : decode cX8_bestBar 10 = .ok (.istore 5, 2) := by decide +kernel
theorem dX8_bestBar_12 : decode cX8_bestBar 12 = .ok (.aload_n 0, 1) := by decide +kernel
theorem dX8_bestBar_13 : decode cX8_bestBar 13 = .ok (.iload_n 1, 1) := by decide +kernel
theorem dX8_bestBar_14 : decode cX8_bestBar 14 = .ok (.iload_n 2, 1) := by decide +kernel
theorem dX8_bestBar_15 : decode cX8_bestBar 15 = .ok (.iload_n 3, 1) := by decide +kernel
theorem dX8_bestBar_16 : decode cX8_bestBar 16 = .ok (.invokevirtual 336, 3) := by decide +kernel
theorem dX8_bestBar_19 : decode cX8_bestBar 19 = .ok (.istore 6, 2) := by decide +kernel
theorem dX8_bestBar_21 : decode cX8_bestBar 21 = .ok (.iconst 0, 1) := by decide +kernel
theorem dX8_bestBar_22 : decode cX8_bestBar 22 = .ok (.istore 7, 2) := by decide +kernel
theorem dX8_bestBar_24 : decode cX8_bestBar 24 = .ok (.iload 7, 2) := by decide +kernel
theorem dX8_bestBar_26 : decode cX8_bestBar 26 = .ok (.aload_n 0, 1) := by decide +kernel
theorem dX8_bestBar_27 : decode cX8_bestBar 27 = .ok (.getfield 7, 3) := by decide +kernel
theorem dX8_bestBar_30 : decode cX8_bestBar 30 = .ok (.iload_n 1, 1) := by decide +kernel
theorem dX8_bestBar_31 : decode cX8_bestBar 31 = .ok (.iaload, 1) := by decide +kernel
theorem dX8_bestBar_32 : decode cX8_bestBar 32 = .ok (.if_icmp .gt 58, 3) := by decide +kernel
theorem dX8_bestBar_35 : decode cX8_bestBar 35 = .ok (.aload_n 0, 1) := by decide +kernel
theorem dX8_bestBar_36 : decode cX8_bestBar 36 = .ok (.getfield 87, 3) := by decide +kernel
theorem dX8_bestBar_39 : decode cX8_bestBar 39 = .ok (.iload_n 3, 1) := by decide +kernel
theorem dX8_bestBar_40 : decode cX8_bestBar 40 = .ok (.iload 7, 2) := by decide +kernel
theorem dX8_bestBar_42 : decode cX8_bestBar 42 = .ok (.iastore, 1) := by decide +kernel
theorem dX8_bestBar_43 : decode cX8_bestBar 43 = .ok (.aload_n 0, 1) := by decide +kernel
theorem dX8_bestBar_44 : decode cX8_bestBar 44 = .ok (.iload_n 1, 1) := by decide +kernel
theorem dX8_bestBar_45 : decode cX8_bestBar 45 = .ok (.iload_n 2, 1) := by decide +kernel
theorem dX8_bestBar_46 : decode cX8_bestBar 46 = .ok (.iload_n 3, 1) := by decide +kernel
theorem dX8_bestBar_47 : decode cX8_bestBar 47 = .ok (.invokevirtual 336, 3) := by decide +kernel
theorem dX8_bestBar_50 : decode cX8_bestBar 50 = .ok (.istore 8, 2) := by decide +kernel
theorem dX8_bestBar_52 : decode cX8_bestBar 52 = .ok (.iload 8, 2) := by decide +kernel
theorem dX8_bestBar_54 : decode cX8_bestBar 54 = .ok (.iload 6, 2) := by decide +kernel
theorem dX8_bestBar_56 : decode cX8_bestBar 56 = .ok (.if_icmp .ge 8, 3) := by decide +kernel
theorem dX8_bestBar_59 : decode cX8_bestBar 59 = .ok (.iload 7, 2) := by decide +kernel
theorem dX8_bestBar_61 : decode cX8_bestBar 61 = .ok (.goto 5, 3) := by decide +kernel
theorem dX8_bestBar_64 : decode cX8_bestBar 64 = .ok (.iload 5, 2) := by decide +kernel
theorem dX8_bestBar_66 : decode cX8_bestBar 66 = .ok (.istore 5, 2) := by decide +kernel
theorem dX8_bestBar_68 : decode cX8_bestBar 68 = .ok (.iload 8, 2) := by decide +kernel
theorem dX8_bestBar_70 : decode cX8_bestBar 70 = .ok (.iload 6, 2) := by decide +kernel
theorem dX8_bestBar_72 : decode cX8_bestBar 72 = .ok (.if_icmp .ge 8, 3) := by decide +kernel
theorem dX8_bestBar_75 : decode cX8_bestBar 75 = .ok (.iload 8, 2) := by decide +kernel
theorem dX8_bestBar_77 : decode cX8_bestBar 77 = .ok (.goto 5, 3) := by decide +kernel
theorem dX8_bestBar_80 : decode cX8_bestBar 80 = .ok (.iload 6, 2) := by decide +kernel
theorem dX8_bestBar_82 : decode cX8_bestBar 82 = .ok (.istore 6, 2) := by decide +kernel
theorem dX8_bestBar_84 : decode cX8_bestBar 84 = .ok (.iinc 7 1, 3) := by decide +kernel
theorem dX8_bestBar_87 : decode cX8_bestBar 87 = .ok (.goto (-63), 3) := by decide +kernel
theorem dX8_bestBar_90 : decode cX8_bestBar 90 = .ok (.aload_n 0, 1) := by decide +kernel
theorem dX8_bestBar_91 : decode cX8_bestBar 91 = .ok (.getfield 87, 3) := by decide +kernel
theorem dX8_bestBar_94 : decode cX8_bestBar 94 = .ok (.iload_n 3, 1) := by decide +kernel
theorem dX8_bestBar_95 : decode cX8_bestBar 95 = .ok (.iload 4, 2) := by decide +kernel
theorem dX8_bestBar_97 : decode cX8_bestBar 97 = .ok (.iastore, 1) := by decide +kernel
theorem dX8_bestBar_98 : decode cX8_bestBar 98 = .ok (.iload 5, 2) := by decide +kernel
theorem dX8_bestBar_100 : decode cX8_bestBar 100 = .ok (.ireturn, 1) := by decide +kernel
set_option maxHeartbeats 4000000 in
set_option maxRecDepth 100000 in
theorem m_bestBar (l : Launch) (D : va_G) (k : Nat → ClassId) (st : Nat → Nat) (lo : Nat) (a : Nat → Nat) (tx : Nat) (t0 : Nat) (we : Nat) (rd : Nat) (ru : Nat) (rw : Nat) (ca : Nat) (fp : Int32) (wd : Int64) (nu : Int32) (na : Int32) (ts : Int32) (df : Int32) (db : Int32) (sd : Int32) (dn : Nat → Nat) (se : Nat → Nat) (tm : Nat → Nat) (gs : Nat → Int32) (fprices : Nat → Int32) (fwalks : Nat → Int32) (br : Nat → Nat) (fdoorsOf : Nat → Int32) (sn : Nat) (cn : Nat) (p1 : Int32) (hdn : ∀ j, dn j ≤ 24) (hca : ca ≤ 4) (hbr : ∀ j, br j ≤ 24) (hs : sn < 3) (hcn : cn < 4) (hdv : dvOK fdoorsOf) : CWi l D k st lo yX8_bestBar cX8_bestBar 9 (some .int) ({ frames := 5, cells := 0, slots := 0, locals := 117 }) 0 0 [.ref (a 0), .int (nI sn), .int p1, .int (nI cn)] [((a 0), .inr (8, [.ref (a 1), .ref (a 2), .ref (a 3), .ref (a 4), .ref (a 5), .int (nI tx), .int fp, .int (nI t0), .long wd, .int (nI we), .int nu, .int na, .int (nI rd), .ref (a 14), .ref (a 15), .ref (a 16), .int ts, .ref (a 18), .ref (a 19), .ref (a 20), .ref (a 21), .ref (a 22), .ref (a 23), .int (nI ru), .ref (a 25), .ref (a 26), .ref (a 27), .ref (a 28), .ref (a 29), .ref (a 30), .int (nI rw), .ref (a 32), .ref (a 33), .ref (a 34), .int (nI ca), .ref (a 36), .ref (a 37), .int df, .int db, .ref (a 40), .ref (a 41), .int sd, .ref (a 43), .ref (a 44)])), ((a 1), .inl (k 1, 3, .inl (nF dn))), ((a 4), .inl (k 1, 27, .inl (sg se tm gs))), ((a 3), .inl (k 1, 72, .inl fprices)), ((a 36), .inl (k 1, 4, .inl fwalks)), ((a 37), .inl (k 1, 4, .inl (nF br))), ((a 40), .inl (k 1, 4, .inl fdoorsOf))] (fun (r : Int32) (u : (Nat → Nat) × (Nat → Int32) × Nat) => match u with | (br_, fdoorsOf_, er) => r = nI er ∧ er ≤ 24 ∧ (∀ j, br_ j ≤ 24) ∧ dvOK fdoorsOf_) (fun (u : (Nat → Nat) × (Nat → Int32) × Nat) => match u with | (br_, fdoorsOf_, er) => [((a 0), .inr (8, [.ref (a 1), .ref (a 2), .ref (a 3), .ref (a 4), .ref (a 5), .int (nI tx), .int fp, .int (nI t0), .long wd, .int (nI we), .int nu, .int na, .int (nI rd), .ref (a 14), .ref (a 15), .ref (a 16), .int ts, .ref (a 18), .ref (a 19), .ref (a 20), .ref (a 21), .ref (a 22), .ref (a 23), .int (nI ru), .ref (a 25), .ref (a 26), .ref (a 27), .ref (a 28), .ref (a 29), .ref (a 30), .int (nI rw), .ref (a 32), .ref (a 33), .ref (a 34), .int (nI ca), .ref (a 36), .ref (a 37), .int df, .int db, .ref (a 40), .ref (a 41), .int sd, .ref (a 43), .ref (a 44)])), ((a 1), .inl (k 1, 3, .inl (nF dn))), ((a 4), .inl (k 1, 27, .inl (sg se tm gs))), ((a 3), .inl (k 1, 72, .inl fprices)), ((a 36), .inl (k 1, 4, .inl fwalks)), ((a 37), .inl (k 1, 4, .inl (nF br_))), ((a 40), .inl (k 1, 4, .inl fdoorsOf_))]) := by
  intro sz
  refine Met.ofW (cc := cX8_bestBar) (maxL := 9) (ret := (some .int)) (by decide) rfl ?_
  intro p e s m args below meth c s₁ B hml hv
  obtain ⟨rfl, hsz, hlo, hP, hK, hDL, hZ⟩ := hv
  have hx := B.exec
  have hb := B.bytes
  have hr := B.returns
  have hts := WS_ts B.pre
  have hown : s.vm.findClass RX8 = some m.cls := findClass_of_methodNamed B.named
  have hlocks := B.notSynchronized
  subst hsz
  have hD := hDL.self (sz := s.heap.size)
  have hAlo := A_lo hDL hlo
  generalize hAe : va_A [((a 0), .inr (8, [.ref (a 1), .ref (a 2), .ref (a 3), .ref (a 4), .ref (a 5), .int (nI tx), .int fp, .int (nI t0), .long wd, .int (nI we), .int nu, .int na, .int (nI rd), .ref (a 14), .ref (a 15), .ref (a 16), .int ts, .ref (a 18), .ref (a 19), .ref (a 20), .ref (a 21), .ref (a 22), .ref (a 23), .int (nI ru), .ref (a 25), .ref (a 26), .ref (a 27), .ref (a 28), .ref (a 29), .ref (a 30), .int (nI rw), .ref (a 32), .ref (a 33), .ref (a 34), .int (nI ca), .ref (a 36), .ref (a 37), .int df, .int db, .ref (a 40), .ref (a 41), .int sd, .ref (a 43), .ref (a 44)])), ((a 1), .inl (k 1, 3, .inl (nF dn))), ((a 4), .inl (k 1, 27, .inl (sg se tm gs))), ((a 3), .inl (k 1, 72, .inl fprices)), ((a 36), .inl (k 1, 4, .inl fwalks)), ((a 37), .inl (k 1, 4, .inl (nF br))), ((a 40), .inl (k 1, 4, .inl fdoorsOf))] s.heap.size = A at hD hAlo ⊢
  have hA : ∀ q : Nat, s.heap.size ≤ q → A q := fun q h => by rw [← hAe]; exact Or.inr h
  have hS : va_S A s.heap s.heap [] := va_S.rf
  have hl := lv_entry ([.ref (a 0), .int (nI sn), .int p1, .int (nI cn)]) (n := 9) (Nat.le_of_ble_eq_true rfl)
  rw [lg_entry_eq]
  generalize (lg_sl ([.ref (a 0), .int (nI sn), .int p1, .int (nI cn)]) ++ List.replicate (9 - (lg_sl ([.ref (a 0), .int (nI sn), .int p1, .int (nI cn)])).length) Slot.unset).toArray = ls at hl ⊢
  have hl : lv_has ls 9 [(0, .ref (a 0)), (1, .int (nI sn)), (2, .int p1), (3, .int (nI cn))] := hl
  have hd_9 := hdn sn
  refine lv_aload_n hx hb dX8_bestBar_0 rfl (lv_at hl 0 rfl) ?_
  refine va_get (D := D) (ci := 8) (v := .ref (a 37)) (C := RX8) (T := TX8) (N := 44) hx hb hts inX8 hown hK hP 0 rfl rfl 36 (by decide) (hts _ tw_1009) (fun _ h9 => h9) rfl dX8_bestBar_1 ?_
  refine lv_iload_n hx hb dX8_bestBar_4 rfl (lv_at hl 3 rfl) ?_
  refine va_iald hx hb hK hP 5 1 rfl rfl (vp_in_nI (by omega) (by decide)) dX8_bestBar_5 ?_
  have hq_1 := hbr cn
  refine lv_ti (y := (nI (br cn))) (by rw [nI_clamp (by omega)]; rfl) ?_
  refine lv_istore (lv' := [(4, .int (nI (br cn))), (0, .ref (a 0)), (1, .int (nI sn)), (2, .int p1), (3, .int (nI cn))]) hx hb dX8_bestBar_6 hl (by decide) rfl (fun ls hl => ?_)
  refine lv_iload hx hb dX8_bestBar_8 (lv_at hl 0 rfl) ?_
  refine lv_istore (lv' := [(5, .int (nI (br cn))), (4, .int (nI (br cn))), (0, .ref (a 0)), (1, .int (nI sn)), (2, .int p1), (3, .int (nI cn))]) hx hb dX8_bestBar_10 hl (by decide) rfl (fun ls hl => ?_)
  refine lv_aload_n hx hb dX8_bestBar_12 rfl (lv_at hl 2 rfl) ?_
  refine lv_iload_n hx hb dX8_bestBar_13 rfl (lv_at hl 3 rfl) ?_
  refine lv_iload_n hx hb dX8_bestBar_14 rfl (lv_at hl 4 rfl) ?_
  refine lv_iload_n hx hb dX8_bestBar_15 rfl (lv_at hl 5 rfl) ?_
  refine rw_i (D := D) (wr := []) (va_runV (As := [.int (nI sn), .int p1, .int (nI cn)]) (rest := []) ⟨hx, hb, hml, hown, hts⟩ ((m_costOf l D k st lo a tx t0 we rd ru rw ca fp wd nu na ts df db sd dn se tm gs fprices fwalks br fdoorsOf sn cn p1 hdn (by omega) hbr (by omega) (by omega) hdv) s.heap.size) (cwV 3 hts (gV tw_1394 tw_1396 tw_65 tw_87 tw_1397) rfl rfl rfl (by decide +kernel) ⟨Nat.le_of_ble_eq_true rfl, Nat.le_of_ble_eq_true rfl⟩) (pV hS hAlo hlo hP hK (va_Dlo hD hAlo) hZ [0, 1, 2, 3, 4, 5, 6] (by decide) rfl (ci := 8) (q0 := 0) rfl rfl) rfl rfl hl.1 rfl (lv_room (Nat.le_of_ble_eq_true rfl)) dX8_bestBar_16 ⟨Nat.le_of_ble_eq_true rfl, Nat.le_of_ble_eq_true rfl⟩) hS hA hP hD [0, 1, 2, 3, 4, 5, 6] [] rfl rfl (by decide) (by decide) (fun r_2 u H locs hw_2 hP hD hS => ?_)
  obtain ⟨fdoorsOf__2, rfl⟩ : ∃ z, z = u := ⟨_, rfl⟩
  replace hP : va_P D classes [((a 0), .inr (8, [.ref (a 1), .ref (a 2), .ref (a 3), .ref (a 4), .ref (a 5), .int (nI tx), .int fp, .int (nI t0), .long wd, .int (nI we), .int nu, .int na, .int (nI rd), .ref (a 14), .ref (a 15), .ref (a 16), .int ts, .ref (a 18), .ref (a 19), .ref (a 20), .ref (a 21), .ref (a 22), .ref (a 23), .int (nI ru), .ref (a 25), .ref (a 26), .ref (a 27), .ref (a 28), .ref (a 29), .ref (a 30), .int (nI rw), .ref (a 32), .ref (a 33), .ref (a 34), .int (nI ca), .ref (a 36), .ref (a 37), .int df, .int db, .ref (a 40), .ref (a 41), .int sd, .ref (a 43), .ref (a 44)])), ((a 1), .inl (k 1, 3, .inl (nF dn))), ((a 4), .inl (k 1, 27, .inl (sg se tm gs))), ((a 3), .inl (k 1, 72, .inl fprices)), ((a 36), .inl (k 1, 4, .inl fwalks)), ((a 37), .inl (k 1, 4, .inl (nF br))), ((a 40), .inl (k 1, 4, .inl fdoorsOf__2))] H := hP
  replace hD : va_D A [((a 0), .inr (8, [.ref (a 1), .ref (a 2), .ref (a 3), .ref (a 4), .ref (a 5), .int (nI tx), .int fp, .int (nI t0), .long wd, .int (nI we), .int nu, .int na, .int (nI rd), .ref (a 14), .ref (a 15), .ref (a 16), .int ts, .ref (a 18), .ref (a 19), .ref (a 20), .ref (a 21), .ref (a 22), .ref (a 23), .int (nI ru), .ref (a 25), .ref (a 26), .ref (a 27), .ref (a 28), .ref (a 29), .ref (a 30), .int (nI rw), .ref (a 32), .ref (a 33), .ref (a 34), .int (nI ca), .ref (a 36), .ref (a 37), .int df, .int db, .ref (a 40), .ref (a 41), .int sd, .ref (a 43), .ref (a 44)])), ((a 1), .inl (k 1, 3, .inl (nF dn))), ((a 4), .inl (k 1, 27, .inl (sg se tm gs))), ((a 3), .inl (k 1, 72, .inl fprices)), ((a 36), .inl (k 1, 4, .inl fwalks)), ((a 37), .inl (k 1, 4, .inl (nF br))), ((a 40), .inl (k 1, 4, .inl fdoorsOf__2))] := hD
  try dsimp only at hw_2
  refine lv_istore (lv' := [(6, .int r_2), (5, .int (nI (br cn))), (4, .int (nI (br cn))), (0, .ref (a 0)), (1, .int (nI sn)), (2, .int p1), (3, .int (nI cn))]) hx hb dX8_bestBar_19 hl (by decide) rfl (fun ls hl => ?_)
  refine lv_iconst (v := 0) hx hb dX8_bestBar_21 (by decide) ?_
  refine lv_istore (lv' := [(7, .int 0), (6, .int r_2), (5, .int (nI (br cn))), (4, .int (nI (br cn))), (0, .ref (a 0)), (1, .int (nI sn)), (2, .int p1), (3, .int (nI cn))]) hx hb dX8_bestBar_22 hl (by decide) rfl (fun ls hl => ?_)
  refine W_loop (σ := Nat × Nat × Int32 × (Nat → Nat) × (Nat → Int32)) (fun (n_ : Nat) (x_ : Nat × Nat × Int32 × (Nat → Nat) × (Nat → Int32)) (H : Heap) (locs : List Loc) (ls : Array Slot) => match x_ with | (bb_3, be_3, le_3, b2_3, fd_3) => n_ = 26 - bb_3 ∧ ((bb_3 ≤ 25 ∧ be_3 ≤ 24) ∧ (∀ j, b2_3 j ≤ 24) ∧ dvOK fd_3) ∧ va_P D classes [((a 0), .inr (8, [.ref (a 1), .ref (a 2), .ref (a 3), .ref (a 4), .ref (a 5), .int (nI tx), .int fp, .int (nI t0), .long wd, .int (nI we), .int nu, .int na, .int (nI rd), .ref (a 14), .ref (a 15), .ref (a 16), .int ts, .ref (a 18), .ref (a 19), .ref (a 20), .ref (a 21), .ref (a 22), .ref (a 23), .int (nI ru), .ref (a 25), .ref (a 26), .ref (a 27), .ref (a 28), .ref (a 29), .ref (a 30), .int (nI rw), .ref (a 32), .ref (a 33), .ref (a 34), .int (nI ca), .ref (a 36), .ref (a 37), .int df, .int db, .ref (a 40), .ref (a 41), .int sd, .ref (a 43), .ref (a 44)])), ((a 1), .inl (k 1, 3, .inl (nF dn))), ((a 4), .inl (k 1, 27, .inl (sg se tm gs))), ((a 3), .inl (k 1, 72, .inl fprices)), ((a 36), .inl (k 1, 4, .inl fwalks)), ((a 37), .inl (k 1, 4, .inl (nF b2_3))), ((a 40), .inl (k 1, 4, .inl fd_3))] H ∧ va_D A [((a 0), .inr (8, [.ref (a 1), .ref (a 2), .ref (a 3), .ref (a 4), .ref (a 5), .int (nI tx), .int fp, .int (nI t0), .long wd, .int (nI we), .int nu, .int na, .int (nI rd), .ref (a 14), .ref (a 15), .ref (a 16), .int ts, .ref (a 18), .ref (a 19), .ref (a 20), .ref (a 21), .ref (a 22), .ref (a 23), .int (nI ru), .ref (a 25), .ref (a 26), .ref (a 27), .ref (a 28), .ref (a 29), .ref (a 30), .int (nI rw), .ref (a 32), .ref (a 33), .ref (a 34), .int (nI ca), .ref (a 36), .ref (a 37), .int df, .int db, .ref (a 40), .ref (a 41), .int sd, .ref (a 43), .ref (a 44)])), ((a 1), .inl (k 1, 3, .inl (nF dn))), ((a 4), .inl (k 1, 27, .inl (sg se tm gs))), ((a 3), .inl (k 1, 72, .inl fprices)), ((a 36), .inl (k 1, 4, .inl fwalks)), ((a 37), .inl (k 1, 4, .inl (nF b2_3))), ((a 40), .inl (k 1, 4, .inl fd_3))] ∧ va_S A s.heap H locs ∧ lv_has ls 9 [(7, .int (nI bb_3)), (6, .int le_3), (5, .int (nI be_3)), (4, .int (nI (br cn))), (0, .ref (a 0)), (1, .int (nI sn)), (2, .int p1), (3, .int (nI cn))]) (fun n_3 x_3 H locs ls hI ih_3 => ?_) _ (0, br cn, r_2, br, fdoorsOf__2) ⟨rfl, ⟨by omega, hbr, hw_2⟩, hP, hD, hS, (lv_sub hl [0, 1, 2, 3, 4, 5, 6, 7] rfl)⟩
  obtain ⟨bb_3, be_3, le_3, b2_3, fd_3⟩ := x_3
  obtain ⟨hm_3, hv_3, hP, hD, hS, hl⟩ := hI
  subst hm_3
  have hbl_3 := hv_3.2.1
  have hdvl_3 := hv_3.2.2
  refine lv_iload hx hb dX8_bestBar_24 (lv_at hl 0 rfl) ?_
  refine lv_aload_n hx hb dX8_bestBar_26 rfl (lv_at hl 4 rfl) ?_
  refine va_get (D := D) (ci := 8) (v := .ref (a 1)) (C := RX8) (T := TX8) (N := 44) hx hb hts inX8 hown hK hP 0 rfl rfl 0 (by decide) (hts _ tw_973) (fun _ h9 => h9) rfl dX8_bestBar_27 ?_
  refine lv_iload_n hx hb dX8_bestBar_30 rfl (lv_at hl 5 rfl) ?_
  refine va_iald hx hb hK hP 1 1 rfl rfl (vp_in_nI (by omega) (by decide)) dX8_bestBar_31 ?_
  refine lv_ti (y := (nI (dn sn))) (by rw [nI_clamp (by omega)]; rfl) ?_
  refine lv_icmp_gt (tgt := 90) hx hb dX8_bestBar_32 (by decide) (fun c_4 => ?_) (fun c_4 => ?_)
  · have c_4 := (nI_ltI (a := (dn sn)) (b := bb_3) (by omega) (by omega)).mp c_4
    refine lv_aload_n hx hb dX8_bestBar_90 rfl (lv_at hl 4 rfl) ?_
    refine va_get (D := D) (ci := 8) (v := .ref (a 37)) (C := RX8) (T := TX8) (N := 44) hx hb hts inX8 hown hK hP 0 rfl rfl 36 (by decide) (hts _ tw_1009) (fun _ h9 => h9) rfl dX8_bestBar_91 ?_
    refine lv_iload_n hx hb dX8_bestBar_94 rfl (lv_at hl 7 rfl) ?_
    refine lv_iload hx hb dX8_bestBar_95 (lv_at hl 3 rfl) ?_
    refine va_iast hx hb hK hP hD hS 5 1 rfl rfl (vp_in_nI (by omega) (by decide)) dX8_bestBar_97 (fun H locs hP hD hS => ?_)
    replace hP : va_P D classes [((a 0), .inr (8, [.ref (a 1), .ref (a 2), .ref (a 3), .ref (a 4), .ref (a 5), .int (nI tx), .int fp, .int (nI t0), .long wd, .int (nI we), .int nu, .int na, .int (nI rd), .ref (a 14), .ref (a 15), .ref (a 16), .int ts, .ref (a 18), .ref (a 19), .ref (a 20), .ref (a 21), .ref (a 22), .ref (a 23), .int (nI ru), .ref (a 25), .ref (a 26), .ref (a 27), .ref (a 28), .ref (a 29), .ref (a 30), .int (nI rw), .ref (a 32), .ref (a 33), .ref (a 34), .int (nI ca), .ref (a 36), .ref (a 37), .int df, .int db, .ref (a 40), .ref (a 41), .int sd, .ref (a 43), .ref (a 44)])), ((a 1), .inl (k 1, 3, .inl (nF dn))), ((a 4), .inl (k 1, 27, .inl (sg se tm gs))), ((a 3), .inl (k 1, 72, .inl fprices)), ((a 36), .inl (k 1, 4, .inl fwalks)), ((a 37), .inl (k 1, 4, .inl (upd (nF b2_3) (Int32.toNatClampNeg (nI cn)) (nI (br cn))))), ((a 40), .inl (k 1, 4, .inl fd_3))] H := hP
    replace hD : va_D A [((a 0), .inr (8, [.ref (a 1), .ref (a 2), .ref (a 3), .ref (a 4), .ref (a 5), .int (nI tx), .int fp, .int (nI t0), .long wd, .int (nI we), .int nu, .int na, .int (nI rd), .ref (a 14), .ref (a 15), .ref (a 16), .int ts, .ref (a 18), .ref (a 19), .ref (a 20), .ref (a 21), .ref (a 22), .ref (a 23), .int (nI ru), .ref (a 25), .ref (a 26), .ref (a 27), .ref (a 28), .ref (a 29), .ref (a 30), .int (nI rw), .ref (a 32), .ref (a 33), .ref (a 34), .int (nI ca), .ref (a 36), .ref (a 37), .int df, .int db, .ref (a 40), .ref (a 41), .int sd, .ref (a 43), .ref (a 44)])), ((a 1), .inl (k 1, 3, .inl (nF dn))), ((a 4), .inl (k 1, 27, .inl (sg se tm gs))), ((a 3), .inl (k 1, 72, .inl fprices)), ((a 36), .inl (k 1, 4, .inl fwalks)), ((a 37), .inl (k 1, 4, .inl (upd (nF b2_3) (Int32.toNatClampNeg (nI cn)) (nI (br cn))))), ((a 40), .inl (k 1, 4, .inl fd_3))] := hD
    rw [nI_clamp (n := cn) (by omega)] at hP hD
    rw [show upd (nF b2_3) cn (nI (br cn)) = nF (fun j => if j = cn then br cn else b2_3 j) from nF_upd _ _ _] at hP hD
    obtain ⟨d_6, hd_6⟩ : ∃ z : Nat → Nat, z = (fun j => if j = cn then br cn else b2_3 j) := ⟨_, rfl⟩
    rw [← hd_6] at hP hD
    have hbb_6 : ∀ j, d_6 j ≤ 24 := by rw [hd_6]; exact up_le hbl_3 (by omega)
    refine lv_iload hx hb dX8_bestBar_98 (lv_at hl 2 rfl) ?_
    have hP9 := hP.sub (ws' := [((a 0), .inr (8, [.ref (a 1), .ref (a 2), .ref (a 3), .ref (a 4), .ref (a 5), .int (nI tx), .int fp, .int (nI t0), .long wd, .int (nI we), .int nu, .int na, .int (nI rd), .ref (a 14), .ref (a 15), .ref (a 16), .int ts, .ref (a 18), .ref (a 19), .ref (a 20), .ref (a 21), .ref (a 22), .ref (a 23), .int (nI ru), .ref (a 25), .ref (a 26), .ref (a 27), .ref (a 28), .ref (a 29), .ref (a 30), .int (nI rw), .ref (a 32), .ref (a 33), .ref (a 34), .int (nI ca), .ref (a 36), .ref (a 37), .int df, .int db, .ref (a 40), .ref (a 41), .int sd, .ref (a 43), .ref (a 44)])), ((a 1), .inl (k 1, 3, .inl (nF dn))), ((a 4), .inl (k 1, 27, .inl (sg se tm gs))), ((a 3), .inl (k 1, 72, .inl fprices)), ((a 36), .inl (k 1, 4, .inl fwalks)), ((a 37), .inl (k 1, 4, .inl (nF d_6))), ((a 40), .inl (k 1, 4, .inl fd_3))]) [0, 1, 2, 3, 4, 5, 6] rfl
    have hD9 := hD.sub (ws' := [((a 0), .inr (8, [.ref (a 1), .ref (a 2), .ref (a 3), .ref (a 4), .ref (a 5), .int (nI tx), .int fp, .int (nI t0), .long wd, .int (nI we), .int nu, .int na, .int (nI rd), .ref (a 14), .ref (a 15), .ref (a 16), .int ts, .ref (a 18), .ref (a 19), .ref (a 20), .ref (a 21), .ref (a 22), .ref (a 23), .int (nI ru), .ref (a 25), .ref (a 26), .ref (a 27), .ref (a 28), .ref (a 29), .ref (a 30), .int (nI rw), .ref (a 32), .ref (a 33), .ref (a 34), .int (nI ca), .ref (a 36), .ref (a 37), .int df, .int db, .ref (a 40), .ref (a 41), .int sd, .ref (a 43), .ref (a 44)])), ((a 1), .inl (k 1, 3, .inl (nF dn))), ((a 4), .inl (k 1, 27, .inl (sg se tm gs))), ((a 3), .inl (k 1, 72, .inl fprices)), ((a 36), .inl (k 1, 4, .inl fwalks)), ((a 37), .inl (k 1, 4, .inl (nF d_6))), ((a 40), .inl (k 1, 4, .inl fd_3))]) [0, 1, 2, 3, 4, 5, 6] (by decide) rfl
    exact W.iret (v := (nI be_3)) hx hb hr (fun t ht hW => ⟨⟨(nI be_3), (d_6, fd_3, be_3), rfl, ⟨rfl, by omega, hbb_6, hdvl_3⟩, by rw [ht]; exact hP9, hD9⟩, hS.F ht⟩) hS.2.2 dX8_bestBar_100
  · have c_4 : ¬ ((dn sn) < bb_3) := fun h => c_4 ((nI_ltI (a := (dn sn)) (b := bb_3) (by omega) (by omega)).mpr h)
    refine lv_aload_n hx hb dX8_bestBar_35 rfl (lv_at hl 4 rfl) ?_
    refine va_get (D := D) (ci := 8) (v := .ref (a 37)) (C := RX8) (T := TX8) (N := 44) hx hb hts inX8 hown hK hP 0 rfl rfl 36 (by decide) (hts _ tw_1009) (fun _ h9 => h9) rfl dX8_bestBar_36 ?_
    refine lv_iload_n hx hb dX8_bestBar_39 rfl (lv_at hl 7 rfl) ?_
    refine lv_iload hx hb dX8_bestBar_40 (lv_at hl 0 rfl) ?_
    refine va_iast hx hb hK hP hD hS 5 1 rfl rfl (vp_in_nI (by omega) (by decide)) dX8_bestBar_42 (fun H locs hP hD hS => ?_)
    replace hP : va_P D classes [((a 0), .inr (8, [.ref (a 1), .ref (a 2), .ref (a 3), .ref (a 4), .ref (a 5), .int (nI tx), .int fp, .int (nI t0), .long wd, .int (nI we), .int nu, .int na, .int (nI rd), .ref (a 14), .ref (a 15), .ref (a 16), .int ts, .ref (a 18), .ref (a 19), .ref (a 20), .ref (a 21), .ref (a 22), .ref (a 23), .int (nI ru), .ref (a 25), .ref (a 26), .ref (a 27), .ref (a 28), .ref (a 29), .ref (a 30), .int (nI rw), .ref (a 32), .ref (a 33), .ref (a 34), .int (nI ca), .ref (a 36), .ref (a 37), .int df, .int db, .ref (a 40), .ref (a 41), .int sd, .ref (a 43), .ref (a 44)])), ((a 1), .inl (k 1, 3, .inl (nF dn))), ((a 4), .inl (k 1, 27, .inl (sg se tm gs))), ((a 3), .inl (k 1, 72, .inl fprices)), ((a 36), .inl (k 1, 4, .inl fwalks)), ((a 37), .inl (k 1, 4, .inl (upd (nF b2_3) (Int32.toNatClampNeg (nI cn)) (nI bb_3)))), ((a 40), .inl (k 1, 4, .inl fd_3))] H := hP
    replace hD : va_D A [((a 0), .inr (8, [.ref (a 1), .ref (a 2), .ref (a 3), .ref (a 4), .ref (a 5), .int (nI tx), .int fp, .int (nI t0), .long wd, .int (nI we), .int nu, .int na, .int (nI rd), .ref (a 14), .ref (a 15), .ref (a 16), .int ts, .ref (a 18), .ref (a 19), .ref (a 20), .ref (a 21), .ref (a 22), .ref (a 23), .int (nI ru), .ref (a 25), .ref (a 26), .ref (a 27), .ref (a 28), .ref (a 29), .ref (a 30), .int (nI rw), .ref (a 32), .ref (a 33), .ref (a 34), .int (nI ca), .ref (a 36), .ref (a 37), .int df, .int db, .ref (a 40), .ref (a 41), .int sd, .ref (a 43), .ref (a 44)])), ((a 1), .inl (k 1, 3, .inl (nF dn))), ((a 4), .inl (k 1, 27, .inl (sg se tm gs))), ((a 3), .inl (k 1, 72, .inl fprices)), ((a 36), .inl (k 1, 4, .inl fwalks)), ((a 37), .inl (k 1, 4, .inl (upd (nF b2_3) (Int32.toNatClampNeg (nI cn)) (nI bb_3)))), ((a 40), .inl (k 1, 4, .inl fd_3))] := hD
    rw [nI_clamp (n := cn) (by omega)] at hP hD
    rw [show upd (nF b2_3) cn (nI bb_3) = nF (fun j => if j = cn then bb_3 else b2_3 j) from nF_upd _ _ _] at hP hD
    obtain ⟨d_8, hd_8⟩ : ∃ z : Nat → Nat, z = (fun j => if j = cn then bb_3 else b2_3 j) := ⟨_, rfl⟩
    rw [← hd_8] at hP hD
    have hbb_8 : ∀ j, d_8 j ≤ 24 := by rw [hd_8]; exact up_le hbl_3 (by omega)
    refine lv_aload_n hx hb dX8_bestBar_43 rfl (lv_at hl 4 rfl) ?_
    refine lv_iload_n hx hb dX8_bestBar_44 rfl (lv_at hl 5 rfl) ?_
    refine lv_iload_n hx hb dX8_bestBar_45 rfl (lv_at hl 6 rfl) ?_
    refine lv_iload_n hx hb dX8_bestBar_46 rfl (lv_at hl 7 rfl) ?_
    refine rw_i (D := D) (wr := []) (va_runV (As := [.int (nI sn), .int p1, .int (nI cn)]) (rest := []) ⟨hx, hb, hml, hown, hts⟩ ((m_costOf l D k st lo a tx t0 we rd ru rw ca fp wd nu na ts df db sd dn se tm gs fprices fwalks d_8 fd_3 sn cn p1 hdn (by omega) hbb_8 (by omega) (by omega) hdvl_3) H.size) (cwV 3 hts (gV tw_1394 tw_1396 tw_65 tw_87 tw_1397) rfl rfl rfl (by decide +kernel) ⟨Nat.le_of_ble_eq_true rfl, Nat.le_of_ble_eq_true rfl⟩) (pV hS hAlo hlo hP hK (va_Dlo hD hAlo) hZ [0, 1, 2, 3, 4, 5, 6] (by decide) rfl (ci := 8) (q0 := 0) rfl rfl) rfl rfl hl.1 rfl (lv_room (Nat.le_of_ble_eq_true rfl)) dX8_bestBar_47 ⟨Nat.le_of_ble_eq_true rfl, Nat.le_of_ble_eq_true rfl⟩) hS hA hP hD [0, 1, 2, 3, 4, 5, 6] [] rfl rfl (by decide) (by decide) (fun r_9 u H locs hw_9 hP hD hS => ?_)
    obtain ⟨fdoorsOf__9, rfl⟩ : ∃ z, z = u := ⟨_, rfl⟩
    replace hP : va_P D classes [((a 0), .inr (8, [.ref (a 1), .ref (a 2), .ref (a 3), .ref (a 4), .ref (a 5), .int (nI tx), .int fp, .int (nI t0), .long wd, .int (nI we), .int nu, .int na, .int (nI rd), .ref (a 14), .ref (a 15), .ref (a 16), .int ts, .ref (a 18), .ref (a 19), .ref (a 20), .ref (a 21), .ref (a 22), .ref (a 23), .int (nI ru), .ref (a 25), .ref (a 26), .ref (a 27), .ref (a 28), .ref (a 29), .ref (a 30), .int (nI rw), .ref (a 32), .ref (a 33), .ref (a 34), .int (nI ca), .ref (a 36), .ref (a 37), .int df, .int db, .ref (a 40), .ref (a 41), .int sd, .ref (a 43), .ref (a 44)])), ((a 1), .inl (k 1, 3, .inl (nF dn))), ((a 4), .inl (k 1, 27, .inl (sg se tm gs))), ((a 3), .inl (k 1, 72, .inl fprices)), ((a 36), .inl (k 1, 4, .inl fwalks)), ((a 37), .inl (k 1, 4, .inl (nF d_8))), ((a 40), .inl (k 1, 4, .inl fdoorsOf__9))] H := hP
    replace hD : va_D A [((a 0), .inr (8, [.ref (a 1), .ref (a 2), .ref (a 3), .ref (a 4), .ref (a 5), .int (nI tx), .int fp, .int (nI t0), .long wd, .int (nI we), .int nu, .int na, .int (nI rd), .ref (a 14), .ref (a 15), .ref (a 16), .int ts, .ref (a 18), .ref (a 19), .ref (a 20), .ref (a 21), .ref (a 22), .ref (a 23), .int (nI ru), .ref (a 25), .ref (a 26), .ref (a 27), .ref (a 28), .ref (a 29), .ref (a 30), .int (nI rw), .ref (a 32), .ref (a 33), .ref (a 34), .int (nI ca), .ref (a 36), .ref (a 37), .int df, .int db, .ref (a 40), .ref (a 41), .int sd, .ref (a 43), .ref (a 44)])), ((a 1), .inl (k 1, 3, .inl (nF dn))), ((a 4), .inl (k 1, 27, .inl (sg se tm gs))), ((a 3), .inl (k 1, 72, .inl fprices)), ((a 36), .inl (k 1, 4, .inl fwalks)), ((a 37), .inl (k 1, 4, .inl (nF d_8))), ((a 40), .inl (k 1, 4, .inl fdoorsOf__9))] := hD
    try dsimp only at hw_9
    refine lv_istore (lv' := [(8, .int r_9), (7, .int (nI bb_3)), (6, .int le_3), (5, .int (nI be_3)), (4, .int (nI (br cn))), (0, .ref (a 0)), (1, .int (nI sn)), (2, .int p1), (3, .int (nI cn))]) hx hb dX8_bestBar_50 hl (by decide) rfl (fun ls hl => ?_)
    refine lv_iload hx hb dX8_bestBar_52 (lv_at hl 0 rfl) ?_
    refine lv_iload hx hb dX8_bestBar_54 (lv_at hl 2 rfl) ?_
    refine lv_icmp_ge (tgt := 64) hx hb dX8_bestBar_56 (by decide) (fun c_10 => ?_) (fun c_10 => ?_)
    · refine lv_iload hx hb dX8_bestBar_64 (lv_at hl 3 rfl) ?_
      refine lv_istore (lv' := [(5, .int (nI be_3)), (8, .int r_9), (7, .int (nI bb_3)), (6, .int le_3), (4, .int (nI (br cn))), (0, .ref (a 0)), (1, .int (nI sn)), (2, .int p1), (3, .int (nI cn))]) hx hb dX8_bestBar_66 hl (by decide) rfl (fun ls hl => ?_)
      refine lv_iload hx hb dX8_bestBar_68 (lv_at hl 1 rfl) ?_
      refine lv_iload hx hb dX8_bestBar_70 (lv_at hl 3 rfl) ?_
      refine lv_icmp_ge (tgt := 80) hx hb dX8_bestBar_72 (by decide) (fun c_11 => ?_) (fun c_11 => ?_)
      · refine lv_iload hx hb dX8_bestBar_80 (lv_at hl 3 rfl) ?_
        refine lv_istore (lv' := [(6, .int le_3), (5, .int (nI be_3)), (8, .int r_9), (7, .int (nI bb_3)), (4, .int (nI (br cn))), (0, .ref (a 0)), (1, .int (nI sn)), (2, .int p1), (3, .int (nI cn))]) hx hb dX8_bestBar_82 hl (by decide) rfl (fun ls hl => ?_)
        refine lv_iinc (v := (nI (bb_3 + 1))) (lv' := [(7, .int (nI (bb_3 + 1))), (6, .int le_3), (5, .int (nI be_3)), (8, .int r_9), (4, .int (nI (br cn))), (0, .ref (a 0)), (1, .int (nI sn)), (2, .int p1), (3, .int (nI cn))]) hx hb dX8_bestBar_84 hl (k := 3) rfl (nI_add bb_3 1) (by decide) rfl (fun ls hl => ?_)
        refine lv_goto (tgt := 24) hx hb dX8_bestBar_87 (by decide) ?_
        exact ih_3 _ (bb_3 + 1, be_3, le_3, d_8, fdoorsOf__9) _ _ _ (by omega) ⟨rfl, ⟨by omega, hbb_8, hw_9⟩, hP, hD, hS, (lv_sub hl [0, 1, 2, 4, 5, 6, 7, 8] rfl)⟩
      · refine lv_iload hx hb dX8_bestBar_75 (lv_at hl 1 rfl) ?_
        refine lv_goto (tgt := 82) hx hb dX8_bestBar_77 (by decide) ?_
        refine lv_istore (lv' := [(6, .int r_9), (5, .int (nI be_3)), (8, .int r_9), (7, .int (nI bb_3)), (4, .int (nI (br cn))), (0, .ref (a 0)), (1, .int (nI sn)), (2, .int p1), (3, .int (nI cn))]) hx hb dX8_bestBar_82 hl (by decide) rfl (fun ls hl => ?_)
        refine lv_iinc (v := (nI (bb_3 + 1))) (lv' := [(7, .int (nI (bb_3 + 1))), (6, .int r_9), (5, .int (nI be_3)), (8, .int r_9), (4, .int (nI (br cn))), (0, .ref (a 0)), (1, .int (nI sn)), (2, .int p1), (3, .int (nI cn))]) hx hb dX8_bestBar_84 hl (k := 3) rfl (nI_add bb_3 1) (by decide) rfl (fun ls hl => ?_)
        refine lv_goto (tgt := 24) hx hb dX8_bestBar_87 (by decide) ?_
        exact ih_3 _ (bb_3 + 1, be_3, r_9, d_8, fdoorsOf__9) _ _ _ (by omega) ⟨rfl, ⟨by omega, hbb_8, hw_9⟩, hP, hD, hS, (lv_sub hl [0, 1, 2, 4, 5, 6, 7, 8] rfl)⟩
    · refine lv_iload hx hb dX8_bestBar_59 (lv_at hl 1 rfl) ?_
      refine lv_goto (tgt := 66) hx hb dX8_bestBar_61 (by decide) ?_
      refine lv_istore (lv' := [(5, .int (nI bb_3)), (8, .int r_9), (7, .int (nI bb_3)), (6, .int le_3), (4, .int (nI (br cn))), (0, .ref (a 0)), (1, .int (nI sn)), (2, .int p1), (3, .int (nI cn))]) hx hb dX8_bestBar_66 hl (by decide) rfl (fun ls hl => ?_)
      refine lv_iload hx hb dX8_bestBar_68 (lv_at hl 1 rfl) ?_
      refine lv_iload hx hb dX8_bestBar_70 (lv_at hl 3 rfl) ?_
      refine lv_icmp_ge (tgt := 80) hx hb dX8_bestBar_72 (by decide) (fun c_12 => ?_) (fun c_12 => ?_)
      · refine lv_iload hx hb dX8_bestBar_80 (lv_at hl 3 rfl) ?_
        refine lv_istore (lv' := [(6, .int le_3), (5, .int (nI bb_3)), (8, .int r_9), (7, .int (nI bb_3)), (4, .int (nI (br cn))), (0, .ref (a 0)), (1, .int (nI sn)), (2, .int p1), (3, .int (nI cn))]) hx hb dX8_bestBar_82 hl (by decide) rfl (fun ls hl => ?_)
        refine lv_iinc (v := (nI (bb_3 + 1))) (lv' := [(7, .int (nI (bb_3 + 1))), (6, .int le_3), (5, .int (nI bb_3)), (8, .int r_9), (4, .int (nI (br cn))), (0, .ref (a 0)), (1, .int (nI sn)), (2, .int p1), (3, .int (nI cn))]) hx hb dX8_bestBar_84 hl (k := 3) rfl (nI_add bb_3 1) (by decide) rfl (fun ls hl => ?_)
        refine lv_goto (tgt := 24) hx hb dX8_bestBar_87 (by decide) ?_
        exact ih_3 _ (bb_3 + 1, bb_3, le_3, d_8, fdoorsOf__9) _ _ _ (by omega) ⟨rfl, ⟨by omega, hbb_8, hw_9⟩, hP, hD, hS, (lv_sub hl [0, 1, 2, 4, 5, 6, 7, 8] rfl)⟩
      · refine lv_iload hx hb dX8_bestBar_75 (lv_at hl 1 rfl) ?_
        refine lv_goto (tgt := 82) hx hb dX8_bestBar_77 (by decide) ?_
        refine lv_istore (lv' := [(6, .int r_9), (5, .int (nI bb_3)), (8, .int r_9), (7, .int (nI bb_3)), (4, .int (nI (br cn))), (0, .ref (a 0)), (1, .int (nI sn)), (2, .int p1), (3, .int (nI cn))]) hx hb dX8_bestBar_82 hl (by decide) rfl (fun ls hl => ?_)
        refine lv_iinc (v := (nI (bb_3 + 1))) (lv' := [(7, .int (nI (bb_3 + 1))), (6, .int r_9), (5, .int (nI bb_3)), (8, .int r_9), (4, .int (nI (br cn))), (0, .ref (a 0)), (1, .int (nI sn)), (2, .int p1), (3, .int (nI cn))]) hx hb dX8_bestBar_84 hl (k := 3) rfl (nI_add bb_3 1) (by decide) rfl (fun ls hl => ?_)
        refine lv_goto (tgt := 24) hx hb dX8_bestBar_87 (by decide) ?_
        exact ih_3 _ (bb_3 + 1, bb_3, r_9, d_8, fdoorsOf__9) _ _ _ (by omega) ⟨rfl, ⟨by omega, hbb_8, hw_9⟩, hP, hD, hS, (lv_sub hl [0, 1, 2, 4, 5, 6, 7, 8] rfl)⟩

