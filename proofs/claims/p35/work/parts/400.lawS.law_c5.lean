theorem dL_law_363 : decode code 363 = .ok (.aload_n 1, 1) := by decide +kernel
theorem dL_law_364 : decode code 364 = .ok (.aload_n 0, 1) := by decide +kernel
theorem dL_law_365 : decode code 365 = .ok (.iload_n 3, 1) := by decide +kernel
theorem dL_law_366 : decode code 366 = .ok (.iconst 1, 1) := by decide +kernel
theorem dL_law_367 : decode code 367 = .ok (.iadd, 1) := by decide +kernel
theorem dL_law_368 : decode code 368 = .ok (.iaload, 1) := by decide +kernel
theorem dL_law_369 : decode code 369 = .ok (.aload_n 0, 1) := by decide +kernel
theorem dL_law_370 : decode code 370 = .ok (.iload_n 3, 1) := by decide +kernel
theorem dL_law_371 : decode code 371 = .ok (.iconst 2, 1) := by decide +kernel
theorem dL_law_372 : decode code 372 = .ok (.iadd, 1) := by decide +kernel
theorem dL_law_373 : decode code 373 = .ok (.iaload, 1) := by decide +kernel
theorem dL_law_374 : decode code 374 = .ok (.aload_n 0, 1) := by decide +kernel
theorem dL_law_375 : decode code 375 = .ok (.iload_n 3, 1) := by decide +kernel
theorem dL_law_376 : decode code 376 = .ok (.iconst 3, 1) := by decide +kernel
theorem dL_law_377 : decode code 377 = .ok (.iadd, 1) := by decide +kernel
theorem dL_law_378 : decode code 378 = .ok (.iaload, 1) := by decide +kernel
theorem dL_law_379 : decode code 379 = .ok (.ifCond .eq 7, 3) := by decide +kernel
theorem dL_law_382 : decode code 382 = .ok (.iconst 1, 1) := by decide +kernel
theorem dL_law_383 : decode code 383 = .ok (.goto 4, 3) := by decide +kernel
theorem dL_law_386 : decode code 386 = .ok (.iconst 0, 1) := by decide +kernel
theorem dL_law_387 : decode code 387 = .ok (.invokevirtual 40, 3) := by decide +kernel
theorem dL_law_390 : decode code 390 = .ok (.pop, 1) := by decide +kernel
theorem dL_law_391 : decode code 391 = .ok (.aload_n 2, 1) := by decide +kernel
theorem dL_law_392 : decode code 392 = .ok (.aload_n 0, 1) := by decide +kernel
theorem dL_law_393 : decode code 393 = .ok (.iload_n 3, 1) := by decide +kernel
theorem dL_law_394 : decode code 394 = .ok (.iconst 1, 1) := by decide +kernel
theorem dL_law_395 : decode code 395 = .ok (.iadd, 1) := by decide +kernel
theorem dL_law_396 : decode code 396 = .ok (.iaload, 1) := by decide +kernel
theorem dL_law_397 : decode code 397 = .ok (.aload_n 0, 1) := by decide +kernel
theorem dL_law_398 : decode code 398 = .ok (.iload_n 3, 1) := by decide +kernel
theorem dL_law_399 : decode code 399 = .ok (.iconst 2, 1) := by decide +kernel
theorem dL_law_400 : decode code 400 = .ok (.iadd, 1) := by decide +kernel
theorem dL_law_401 : decode code 401 = .ok (.iaload, 1) := by decide +kernel
theorem dL_law_402 : decode code 402 = .ok (.aload_n 0, 1) := by decide +kernel
theorem dL_law_403 : decode code 403 = .ok (.iload_n 3, 1) := by decide +kernel
theorem dL_law_404 : decode code 404 = .ok (.iconst 3, 1) := by decide +kernel
theorem dL_law_405 : decode code 405 = .ok (.iadd, 1) := by decide +kernel
theorem dL_law_406 : decode code 406 = .ok (.iaload, 1) := by decide +kernel
theorem dL_law_407 : decode code 407 = .ok (.ifCond .eq 7, 3) := by decide +kernel
theorem dL_law_410 : decode code 410 = .ok (.iconst 1, 1) := by decide +kernel
theorem dL_law_411 : decode code 411 = .ok (.goto 4, 3) := by decide +kernel
theorem dL_law_414 : decode code 414 = .ok (.iconst 0, 1) := by decide +kernel
theorem dL_law_415 : decode code 415 = .ok (.invokevirtual 44, 3) := by decide +kernel
theorem dL_law_418 : decode code 418 = .ok (.pop, 1) := by decide +kernel
theorem dL_law_419 : decode code 419 = .ok (.goto 1086, 3) := by decide +kernel
set_option maxHeartbeats 8000000 in
set_option maxRecDepth 100000 in
theorem law_c5 {p : Program} {l : Launch} {e : Env} {s : State} {m : MethodId} {below : List Frame} {meth : Method} {c : Code} {b : Nat} {xs : Nat → Int32} {H : Heap} {locs : List Loc} {ls : Array Slot} (hx : p.tables.exec = Jvm.exec) (hb : c.code = code) (hr : meth.sig.returnType = ret) (hlocks : meth.locks = false) {D : va_G} {k : Nat → ClassId} {st : Nat → Nat} {lo : Nat} {ax am : Nat → Nat} (hml : c.maxLocals = 4) (hown : s.vm.findClass R_law = some m.cls) (hts : ∀ w ∈ LW, w.before #[Value.ref b] s = true) (hbl : b < s.heap.size) (hlo : lo ≤ s.heap.size) (hZ : Zs st lo s s.heap) (hK : va_K D classes (TY k) s) {L i : Nat} (hL : L ≤ 512) (hi8 : i + 8 ≤ L) (hX : va_X b L xs s s.heap) {zz : QSt} (hO : LOK zz) (hP : va_P D classes (LWd k ax am zz) H) (hD : va_D (fun q : Nat => s.heap.size ≤ q) (LWd k ax am zz)) (hS : va_S (fun q : Nat => s.heap.size ≤ q) s.heap H locs) (hl : lv_has ls 4 [(3, .int (nI i)), (2, .ref (am 0)), (1, .ref (ax 0)), (0, .ref b)]) (hT : ∀ (zy : QSt) (H' : Heap) (locs' : List Loc) (ls' : Array Slot), LOK zy → va_P D classes (LWd k ax am zy) H' → va_D (fun q : Nat => s.heap.size ≤ q) (LWd k ax am zy) → va_S (fun q : Nat => s.heap.size ≤ q) s.heap H' locs' → lv_has ls' 4 [(3, .int (nI i)), (2, .ref (am 0)), (1, .ref (ax 0)), (0, .ref b)] → W p l e room_1 s m #[Value.ref b] below meth c H' locs' 102 5857 (lw_Z below #[Value.ref b] s) (F0 m 1505 ls' [])) : W p l e room_1 s m #[Value.ref b] below meth c H locs 102 5857 (lw_Z below #[Value.ref b] s) (F0 m 363 ls []) := by
  have hA : ∀ q : Nat, s.heap.size ≤ q → (fun q : Nat => s.heap.size ≤ q) q := fun _ h => h
  have hAlo : ∀ q : Nat, (fun q : Nat => s.heap.size ≤ q) q → lo ≤ q := fun q h => Nat.le_trans hlo h
  have hbA : ¬ (fun q : Nat => s.heap.size ≤ q) b := Nat.not_le.mpr hbl
  obtain ⟨o_xtz, o_xn0, o_xsee0, o_xtm0, o_xn1, o_xsee1, o_xtm1, o_xn2, o_xsee2, o_xtm2, o_xrk, o_xrc0, o_xrr0, o_xrc1, o_xrr1, o_xrc2, o_xrr2, o_xrc3, o_xrr3, o_xcc, o_xrz, o_xcci0, o_xrzi0, o_xcci1, o_xrzi1, o_mtx, o_mru, o_mrw, o_mca, o_xbr, o_xbri0, o_xbri1, o_xpb, o_mdn, o_mse, o_mtm, o_mbm, o_mbr, o_mwb, o_mfdoorsOf, o_mfimages⟩ := id hO
  replace hP : va_P D classes [((ax 0), .inr (7, [.ref (ax 1), .ref (ax 3), .ref (ax 19), .ref (ax 35), .ref (ax 40), .int (nI (zz.1 0)), .int (zz.2.1 0), .ref (ax 53), .ref (ax 56), .ref (ax 63), .ref (ax 64), .ref (ax 68)])), ((ax 1), .inr (6, [.ref (ax 2), .int (nI (zz.1 1)), .int (zz.2.1 1), .int (zz.2.1 2), .int (zz.2.1 3), .int (zz.2.1 4)])), ((ax 2), .inl (k 0, 240, .inl (zz.2.2.2.1 0))), ((ax 3), .inl (k 3, 3, .inr (.inr (.inr (.inr (a3 (ax 4) (ax 9) (ax 14))))))), ((ax 4), .inr (5, [.ref (ax 5), .ref (ax 6), .ref (ax 7), .ref (ax 8)])), ((ax 5), .inl (k 1, 10, .inl (vv (zz.1 2) (zz.1 3) (zz.1 4) (zz.2.2.2.1 1)))), ((ax 6), .inl (k 1, 24, .inl (zz.2.2.2.1 2))), ((ax 7), .inl (k 1, 24, .inl (zz.2.2.2.1 3))), ((ax 8), .inl (k 1, 4, .inl (zz.2.2.2.1 4))), ((ax 9), .inr (5, [.ref (ax 10), .ref (ax 11), .ref (ax 12), .ref (ax 13)])), ((ax 10), .inl (k 1, 10, .inl (vv (zz.1 5) (zz.1 6) (zz.1 7) (zz.2.2.2.1 5)))), ((ax 11), .inl (k 1, 24, .inl (zz.2.2.2.1 6))), ((ax 12), .inl (k 1, 24, .inl (zz.2.2.2.1 7))), ((ax 13), .inl (k 1, 4, .inl (zz.2.2.2.1 8))), ((ax 14), .inr (5, [.ref (ax 15), .ref (ax 16), .ref (ax 17), .ref (ax 18)])), ((ax 15), .inl (k 1, 10, .inl (vv (zz.1 8) (zz.1 9) (zz.1 10) (zz.2.2.2.1 9)))), ((ax 16), .inl (k 1, 24, .inl (zz.2.2.2.1 10))), ((ax 17), .inl (k 1, 24, .inl (zz.2.2.2.1 11))), ((ax 18), .inl (k 1, 4, .inl (zz.2.2.2.1 12))), ((ax 19), .inl (k 4, 3, .inr (.inr (.inr (.inr (a3 (ax 20) (ax 25) (ax 30))))))), ((ax 20), .inr (0, [.ref (ax 4), .ref (ax 21), .ref (ax 22), .ref (ax 23), .ref (ax 24)])), ((ax 21), .inl (k 1, 768, .inl (zz.2.2.2.1 13))), ((ax 22), .inl (k 1, 4, .inl (zz.2.2.2.1 14))), ((ax 23), .inl (k 1, 4, .inl (zz.2.2.2.1 15))), ((ax 24), .inl (k 1, 8, .inl (zz.2.2.2.1 16))), ((ax 25), .inr (0, [.ref (ax 9), .ref (ax 26), .ref (ax 27), .ref (ax 28), .ref (ax 29)])), ((ax 26), .inl (k 1, 768, .inl (zz.2.2.2.1 17))), ((ax 27), .inl (k 1, 4, .inl (zz.2.2.2.1 18))), ((ax 28), .inl (k 1, 4, .inl (zz.2.2.2.1 19))), ((ax 29), .inl (k 1, 8, .inl (zz.2.2.2.1 20))), ((ax 30), .inr (0, [.ref (ax 14), .ref (ax 31), .ref (ax 32), .ref (ax 33), .ref (ax 34)])), ((ax 31), .inl (k 1, 768, .inl (zz.2.2.2.1 21))), ((ax 32), .inl (k 1, 4, .inl (zz.2.2.2.1 22))), ((ax 33), .inl (k 1, 4, .inl (zz.2.2.2.1 23))), ((ax 34), .inl (k 1, 8, .inl (zz.2.2.2.1 24))), ((ax 35), .inr (5, [.ref (ax 36), .ref (ax 37), .ref (ax 38), .ref (ax 39)])), ((ax 36), .inl (k 1, 10, .inl (vv (zz.1 11) (zz.1 12) (zz.1 13) (zz.2.2.2.1 25)))), ((ax 37), .inl (k 1, 24, .inl (zz.2.2.2.1 26))), ((ax 38), .inl (k 1, 24, .inl (zz.2.2.2.1 27))), ((ax 39), .inl (k 1, 4, .inl (zz.2.2.2.1 28))), ((ax 40), .inl (k 5, 4, .inr (.inr (.inr (.inr (a4 (ax 41) (ax 44) (ax 47) (ax 50))))))), ((ax 41), .inr (3, [.ref (ax 42), .ref (ax 43), .int (zz.2.1 5), .int (nI (zz.1 14)), .int (nI (zz.1 15))])), ((ax 42), .inl (k 1, 24, .inl (zz.2.2.2.1 29))), ((ax 43), .inl (k 1, 24, .inl (zz.2.2.2.1 30))), ((ax 44), .inr (3, [.ref (ax 45), .ref (ax 46), .int (zz.2.1 6), .int (nI (zz.1 16)), .int (nI (zz.1 17))])), ((ax 45), .inl (k 1, 24, .inl (zz.2.2.2.1 31))), ((ax 46), .inl (k 1, 24, .inl (zz.2.2.2.1 32))), ((ax 47), .inr (3, [.ref (ax 48), .ref (ax 49), .int (zz.2.1 7), .int (nI (zz.1 18)), .int (nI (zz.1 19))])), ((ax 48), .inl (k 1, 24, .inl (zz.2.2.2.1 33))), ((ax 49), .inl (k 1, 24, .inl (zz.2.2.2.1 34))), ((ax 50), .inr (3, [.ref (ax 51), .ref (ax 52), .int (zz.2.1 8), .int (nI (zz.1 20)), .int (nI (zz.1 21))])), ((ax 51), .inl (k 1, 24, .inl (zz.2.2.2.1 35))), ((ax 52), .inl (k 1, 24, .inl (zz.2.2.2.1 36))), ((ax 53), .inr (4, [.ref (ax 54), .ref (ax 55), .int (nI (zz.1 22)), .int (nI (zz.1 23)), .int (zz.2.1 9), .int (zz.2.1 10)])), ((ax 54), .inl (k 1, 4, .inl (zz.2.2.2.1 37))), ((ax 55), .inl (k 1, 4, .inl (nF (zz.2.2.2.2 0)))), ((ax 56), .inl (k 6, 2, .inr (.inr (.inr (.inr (a2 (ax 57) (ax 60))))))), ((ax 57), .inr (4, [.ref (ax 58), .ref (ax 59), .int (nI (zz.1 24)), .int (nI (zz.1 25)), .int (zz.2.1 11), .int (zz.2.1 12)])), ((ax 58), .inl (k 1, 4, .inl (zz.2.2.2.1 38))), ((ax 59), .inl (k 1, 4, .inl (nF (zz.2.2.2.2 1)))), ((ax 60), .inr (4, [.ref (ax 61), .ref (ax 62), .int (nI (zz.1 26)), .int (nI (zz.1 27)), .int (zz.2.1 13), .int (zz.2.1 14)])), ((ax 61), .inl (k 1, 4, .inl (zz.2.2.2.1 39))), ((ax 62), .inl (k 1, 4, .inl (nF (zz.2.2.2.2 2)))), ((ax 63), .inl (k 2, 2, .inl (zz.2.2.2.1 40))), ((ax 64), .inr (2, [.ref (ax 65), .ref (ax 66), .ref (ax 67), .int (zz.2.1 15), .int (zz.2.1 16)])), ((ax 65), .inl (k 1, 25, .inl (zz.2.2.2.1 41))), ((ax 66), .inl (k 1, 25, .inl (zz.2.2.2.1 42))), ((ax 67), .inl (k 1, 25, .inl (zz.2.2.2.1 43))), ((ax 68), .inr (1, [.ref (ax 53), .ref (ax 69), .ref (ax 70), .ref (ax 71), .int (zz.2.1 17), .int (zz.2.1 18), .int (zz.2.1 19), .int (zz.2.1 20)])), ((ax 69), .inl (k 1, 4, .inl (nF (zz.2.2.2.2 3)))), ((ax 70), .inl (k 1, 100, .inl (zz.2.2.2.1 44))), ((ax 71), .inl (k 1, 16, .inl (zz.2.2.2.1 45))), ((am 0), .inr (8, [.ref (am 1), .ref (am 2), .ref (am 3), .ref (am 4), .ref (am 5), .int (nI (zz.1 28)), .int (zz.2.1 21), .int (nI (zz.1 29)), .long zz.2.2.1, .int (nI (zz.1 30)), .int (zz.2.1 22), .int (zz.2.1 23), .int (nI (zz.1 31)), .ref (am 14), .ref (am 15), .ref (am 16), .int (zz.2.1 24), .ref (am 18), .ref (am 19), .ref (am 20), .ref (am 21), .ref (am 22), .ref (am 23), .int (nI (zz.1 32)), .ref (am 25), .ref (am 26), .ref (am 27), .ref (am 28), .ref (am 29), .ref (am 30), .int (nI (zz.1 33)), .ref (am 32), .ref (am 33), .ref (am 34), .int (nI (zz.1 34)), .ref (am 36), .ref (am 37), .int (zz.2.1 25), .int (zz.2.1 26), .ref (am 40), .ref (am 41), .int (zz.2.1 27), .ref (am 43), .ref (am 44)])), ((am 1), .inl (k 1, 3, .inl (nF (zz.2.2.2.2 4)))), ((am 2), .inl (k 1, 72, .inl (zz.2.2.2.1 46))), ((am 3), .inl (k 1, 72, .inl (zz.2.2.2.1 47))), ((am 4), .inl (k 1, 27, .inl (sg (zz.2.2.2.2 5) (zz.2.2.2.2 6) (zz.2.2.2.1 48)))), ((am 5), .inl (k 1, 240, .inl (zz.2.2.2.1 49))), ((am 14), .inl (k 1, 24, .inl (zz.2.2.2.1 50))), ((am 15), .inl (k 1, 24, .inl (zz.2.2.2.1 51))), ((am 16), .inl (k 1, 9, .inl (zz.2.2.2.1 52))), ((am 18), .inl (k 1, 768, .inl (zz.2.2.2.1 53))), ((am 19), .inl (k 1, 768, .inl (zz.2.2.2.1 54))), ((am 20), .inl (k 1, 5, .inl (zz.2.2.2.1 55))), ((am 21), .inl (k 1, 4, .inl (zz.2.2.2.1 56))), ((am 22), .inl (k 2, 4, .inl (zz.2.2.2.1 57))), ((am 23), .inl (k 1, 8, .inl (zz.2.2.2.1 58))), ((am 25), .inl (k 1, 4, .inl (nF (zz.2.2.2.2 7)))), ((am 26), .inl (k 1, 48, .inl (zz.2.2.2.1 59))), ((am 27), .inl (k 1, 48, .inl (zz.2.2.2.1 60))), ((am 28), .inl (k 1, 4, .inl (zz.2.2.2.1 61))), ((am 29), .inl (k 1, 52, .inl (zz.2.2.2.1 62))), ((am 30), .inl (k 1, 52, .inl (zz.2.2.2.1 63))), ((am 32), .inl (k 2, 24, .inl (zz.2.2.2.1 64))), ((am 33), .inl (k 1, 50, .inl (zz.2.2.2.1 65))), ((am 34), .inl (k 1, 50, .inl (zz.2.2.2.1 66))), ((am 36), .inl (k 1, 4, .inl (zz.2.2.2.1 67))), ((am 37), .inl (k 1, 4, .inl (nF (zz.2.2.2.2 8)))), ((am 40), .inl (k 1, 4, .inl (zz.2.2.2.1 68))), ((am 41), .inl (k 1, 4, .inl (nF (zz.2.2.2.2 9)))), ((am 43), .inl (k 2, 2, .inl (zz.2.2.2.1 69))), ((am 44), .inl (k 1, 70, .inl (zz.2.2.2.1 70)))] H := hP
  replace hD : va_D (fun q : Nat => s.heap.size ≤ q) [((ax 0), .inr (7, [.ref (ax 1), .ref (ax 3), .ref (ax 19), .ref (ax 35), .ref (ax 40), .int (nI (zz.1 0)), .int (zz.2.1 0), .ref (ax 53), .ref (ax 56), .ref (ax 63), .ref (ax 64), .ref (ax 68)])), ((ax 1), .inr (6, [.ref (ax 2), .int (nI (zz.1 1)), .int (zz.2.1 1), .int (zz.2.1 2), .int (zz.2.1 3), .int (zz.2.1 4)])), ((ax 2), .inl (k 0, 240, .inl (zz.2.2.2.1 0))), ((ax 3), .inl (k 3, 3, .inr (.inr (.inr (.inr (a3 (ax 4) (ax 9) (ax 14))))))), ((ax 4), .inr (5, [.ref (ax 5), .ref (ax 6), .ref (ax 7), .ref (ax 8)])), ((ax 5), .inl (k 1, 10, .inl (vv (zz.1 2) (zz.1 3) (zz.1 4) (zz.2.2.2.1 1)))), ((ax 6), .inl (k 1, 24, .inl (zz.2.2.2.1 2))), ((ax 7), .inl (k 1, 24, .inl (zz.2.2.2.1 3))), ((ax 8), .inl (k 1, 4, .inl (zz.2.2.2.1 4))), ((ax 9), .inr (5, [.ref (ax 10), .ref (ax 11), .ref (ax 12), .ref (ax 13)])), ((ax 10), .inl (k 1, 10, .inl (vv (zz.1 5) (zz.1 6) (zz.1 7) (zz.2.2.2.1 5)))), ((ax 11), .inl (k 1, 24, .inl (zz.2.2.2.1 6))), ((ax 12), .inl (k 1, 24, .inl (zz.2.2.2.1 7))), ((ax 13), .inl (k 1, 4, .inl (zz.2.2.2.1 8))), ((ax 14), .inr (5, [.ref (ax 15), .ref (ax 16), .ref (ax 17), .ref (ax 18)])), ((ax 15), .inl (k 1, 10, .inl (vv (zz.1 8) (zz.1 9) (zz.1 10) (zz.2.2.2.1 9)))), ((ax 16), .inl (k 1, 24, .inl (zz.2.2.2.1 10))), ((ax 17), .inl (k 1, 24, .inl (zz.2.2.2.1 11))), ((ax 18), .inl (k 1, 4, .inl (zz.2.2.2.1 12))), ((ax 19), .inl (k 4, 3, .inr (.inr (.inr (.inr (a3 (ax 20) (ax 25) (ax 30))))))), ((ax 20), .inr (0, [.ref (ax 4), .ref (ax 21), .ref (ax 22), .ref (ax 23), .ref (ax 24)])), ((ax 21), .inl (k 1, 768, .inl (zz.2.2.2.1 13))), ((ax 22), .inl (k 1, 4, .inl (zz.2.2.2.1 14))), ((ax 23), .inl (k 1, 4, .inl (zz.2.2.2.1 15))), ((ax 24), .inl (k 1, 8, .inl (zz.2.2.2.1 16))), ((ax 25), .inr (0, [.ref (ax 9), .ref (ax 26), .ref (ax 27), .ref (ax 28), .ref (ax 29)])), ((ax 26), .inl (k 1, 768, .inl (zz.2.2.2.1 17))), ((ax 27), .inl (k 1, 4, .inl (zz.2.2.2.1 18))), ((ax 28), .inl (k 1, 4, .inl (zz.2.2.2.1 19))), ((ax 29), .inl (k 1, 8, .inl (zz.2.2.2.1 20))), ((ax 30), .inr (0, [.ref (ax 14), .ref (ax 31), .ref (ax 32), .ref (ax 33), .ref (ax 34)])), ((ax 31), .inl (k 1, 768, .inl (zz.2.2.2.1 21))), ((ax 32), .inl (k 1, 4, .inl (zz.2.2.2.1 22))), ((ax 33), .inl (k 1, 4, .inl (zz.2.2.2.1 23))), ((ax 34), .inl (k 1, 8, .inl (zz.2.2.2.1 24))), ((ax 35), .inr (5, [.ref (ax 36), .ref (ax 37), .ref (ax 38), .ref (ax 39)])), ((ax 36), .inl (k 1, 10, .inl (vv (zz.1 11) (zz.1 12) (zz.1 13) (zz.2.2.2.1 25)))), ((ax 37), .inl (k 1, 24, .inl (zz.2.2.2.1 26))), ((ax 38), .inl (k 1, 24, .inl (zz.2.2.2.1 27))), ((ax 39), .inl (k 1, 4, .inl (zz.2.2.2.1 28))), ((ax 40), .inl (k 5, 4, .inr (.inr (.inr (.inr (a4 (ax 41) (ax 44) (ax 47) (ax 50))))))), ((ax 41), .inr (3, [.ref (ax 42), .ref (ax 43), .int (zz.2.1 5), .int (nI (zz.1 14)), .int (nI (zz.1 15))])), ((ax 42), .inl (k 1, 24, .inl (zz.2.2.2.1 29))), ((ax 43), .inl (k 1, 24, .inl (zz.2.2.2.1 30))), ((ax 44), .inr (3, [.ref (ax 45), .ref (ax 46), .int (zz.2.1 6), .int (nI (zz.1 16)), .int (nI (zz.1 17))])), ((ax 45), .inl (k 1, 24, .inl (zz.2.2.2.1 31))), ((ax 46), .inl (k 1, 24, .inl (zz.2.2.2.1 32))), ((ax 47), .inr (3, [.ref (ax 48), .ref (ax 49), .int (zz.2.1 7), .int (nI (zz.1 18)), .int (nI (zz.1 19))])), ((ax 48), .inl (k 1, 24, .inl (zz.2.2.2.1 33))), ((ax 49), .inl (k 1, 24, .inl (zz.2.2.2.1 34))), ((ax 50), .inr (3, [.ref (ax 51), .ref (ax 52), .int (zz.2.1 8), .int (nI (zz.1 20)), .int (nI (zz.1 21))])), ((ax 51), .inl (k 1, 24, .inl (zz.2.2.2.1 35))), ((ax 52), .inl (k 1, 24, .inl (zz.2.2.2.1 36))), ((ax 53), .inr (4, [.ref (ax 54), .ref (ax 55), .int (nI (zz.1 22)), .int (nI (zz.1 23)), .int (zz.2.1 9), .int (zz.2.1 10)])), ((ax 54), .inl (k 1, 4, .inl (zz.2.2.2.1 37))), ((ax 55), .inl (k 1, 4, .inl (nF (zz.2.2.2.2 0)))), ((ax 56), .inl (k 6, 2, .inr (.inr (.inr (.inr (a2 (ax 57) (ax 60))))))), ((ax 57), .inr (4, [.ref (ax 58), .ref (ax 59), .int (nI (zz.1 24)), .int (nI (zz.1 25)), .int (zz.2.1 11), .int (zz.2.1 12)])), ((ax 58), .inl (k 1, 4, .inl (zz.2.2.2.1 38))), ((ax 59), .inl (k 1, 4, .inl (nF (zz.2.2.2.2 1)))), ((ax 60), .inr (4, [.ref (ax 61), .ref (ax 62), .int (nI (zz.1 26)), .int (nI (zz.1 27)), .int (zz.2.1 13), .int (zz.2.1 14)])), ((ax 61), .inl (k 1, 4, .inl (zz.2.2.2.1 39))), ((ax 62), .inl (k 1, 4, .inl (nF (zz.2.2.2.2 2)))), ((ax 63), .inl (k 2, 2, .inl (zz.2.2.2.1 40))), ((ax 64), .inr (2, [.ref (ax 65), .ref (ax 66), .ref (ax 67), .int (zz.2.1 15), .int (zz.2.1 16)])), ((ax 65), .inl (k 1, 25, .inl (zz.2.2.2.1 41))), ((ax 66), .inl (k 1, 25, .inl (zz.2.2.2.1 42))), ((ax 67), .inl (k 1, 25, .inl (zz.2.2.2.1 43))), ((ax 68), .inr (1, [.ref (ax 53), .ref (ax 69), .ref (ax 70), .ref (ax 71), .int (zz.2.1 17), .int (zz.2.1 18), .int (zz.2.1 19), .int (zz.2.1 20)])), ((ax 69), .inl (k 1, 4, .inl (nF (zz.2.2.2.2 3)))), ((ax 70), .inl (k 1, 100, .inl (zz.2.2.2.1 44))), ((ax 71), .inl (k 1, 16, .inl (zz.2.2.2.1 45))), ((am 0), .inr (8, [.ref (am 1), .ref (am 2), .ref (am 3), .ref (am 4), .ref (am 5), .int (nI (zz.1 28)), .int (zz.2.1 21), .int (nI (zz.1 29)), .long zz.2.2.1, .int (nI (zz.1 30)), .int (zz.2.1 22), .int (zz.2.1 23), .int (nI (zz.1 31)), .ref (am 14), .ref (am 15), .ref (am 16), .int (zz.2.1 24), .ref (am 18), .ref (am 19), .ref (am 20), .ref (am 21), .ref (am 22), .ref (am 23), .int (nI (zz.1 32)), .ref (am 25), .ref (am 26), .ref (am 27), .ref (am 28), .ref (am 29), .ref (am 30), .int (nI (zz.1 33)), .ref (am 32), .ref (am 33), .ref (am 34), .int (nI (zz.1 34)), .ref (am 36), .ref (am 37), .int (zz.2.1 25), .int (zz.2.1 26), .ref (am 40), .ref (am 41), .int (zz.2.1 27), .ref (am 43), .ref (am 44)])), ((am 1), .inl (k 1, 3, .inl (nF (zz.2.2.2.2 4)))), ((am 2), .inl (k 1, 72, .inl (zz.2.2.2.1 46))), ((am 3), .inl (k 1, 72, .inl (zz.2.2.2.1 47))), ((am 4), .inl (k 1, 27, .inl (sg (zz.2.2.2.2 5) (zz.2.2.2.2 6) (zz.2.2.2.1 48)))), ((am 5), .inl (k 1, 240, .inl (zz.2.2.2.1 49))), ((am 14), .inl (k 1, 24, .inl (zz.2.2.2.1 50))), ((am 15), .inl (k 1, 24, .inl (zz.2.2.2.1 51))), ((am 16), .inl (k 1, 9, .inl (zz.2.2.2.1 52))), ((am 18), .inl (k 1, 768, .inl (zz.2.2.2.1 53))), ((am 19), .inl (k 1, 768, .inl (zz.2.2.2.1 54))), ((am 20), .inl (k 1, 5, .inl (zz.2.2.2.1 55))), ((am 21), .inl (k 1, 4, .inl (zz.2.2.2.1 56))), ((am 22), .inl (k 2, 4, .inl (zz.2.2.2.1 57))), ((am 23), .inl (k 1, 8, .inl (zz.2.2.2.1 58))), ((am 25), .inl (k 1, 4, .inl (nF (zz.2.2.2.2 7)))), ((am 26), .inl (k 1, 48, .inl (zz.2.2.2.1 59))), ((am 27), .inl (k 1, 48, .inl (zz.2.2.2.1 60))), ((am 28), .inl (k 1, 4, .inl (zz.2.2.2.1 61))), ((am 29), .inl (k 1, 52, .inl (zz.2.2.2.1 62))), ((am 30), .inl (k 1, 52, .inl (zz.2.2.2.1 63))), ((am 32), .inl (k 2, 24, .inl (zz.2.2.2.1 64))), ((am 33), .inl (k 1, 50, .inl (zz.2.2.2.1 65))), ((am 34), .inl (k 1, 50, .inl (zz.2.2.2.1 66))), ((am 36), .inl (k 1, 4, .inl (zz.2.2.2.1 67))), ((am 37), .inl (k 1, 4, .inl (nF (zz.2.2.2.2 8)))), ((am 40), .inl (k 1, 4, .inl (zz.2.2.2.1 68))), ((am 41), .inl (k 1, 4, .inl (nF (zz.2.2.2.2 9)))), ((am 43), .inl (k 2, 2, .inl (zz.2.2.2.1 69))), ((am 44), .inl (k 1, 70, .inl (zz.2.2.2.1 70)))] := hD
  refine lv_aload_n hx hb dL_law_363 rfl (lv_at hl 2 rfl) ?_
  refine lv_aload_n hx hb dL_law_364 rfl (lv_at hl 3 rfl) ?_
  refine lv_iload_n hx hb dL_law_365 rfl (lv_at hl 0 rfl) ?_
  refine lv_iconst (v := 1) hx hb dL_law_366 (by decide) ?_
  refine lv_iadd hx hb dL_law_367 ?_
  refine lv_ti (y := (nI (i + 1))) (nI_add i 1) ?_
  refine va_sld hx hb hX hbl hbA hS (vp_in_nI (by omega) (by omega)) dL_law_368 ?_
  refine lv_ti (y := xs (i + 1)) (by rw [nI_clamp (by omega)]) ?_
  refine lv_aload_n hx hb dL_law_369 rfl (lv_at hl 3 rfl) ?_
  refine lv_iload_n hx hb dL_law_370 rfl (lv_at hl 0 rfl) ?_
  refine lv_iconst (v := 2) hx hb dL_law_371 (by decide) ?_
  refine lv_iadd hx hb dL_law_372 ?_
  refine lv_ti (y := (nI (i + 2))) (nI_add i 2) ?_
  refine va_sld hx hb hX hbl hbA hS (vp_in_nI (by omega) (by omega)) dL_law_373 ?_
  refine lv_ti (y := xs (i + 2)) (by rw [nI_clamp (by omega)]) ?_
  refine lv_aload_n hx hb dL_law_374 rfl (lv_at hl 3 rfl) ?_
  refine lv_iload_n hx hb dL_law_375 rfl (lv_at hl 0 rfl) ?_
  refine lv_iconst (v := 3) hx hb dL_law_376 (by decide) ?_
  refine lv_iadd hx hb dL_law_377 ?_
  refine lv_ti (y := (nI (i + 3))) (nI_add i 3) ?_
  refine va_sld hx hb hX hbl hbA hS (vp_in_nI (by omega) (by omega)) dL_law_378 ?_
  refine lv_ti (y := xs (i + 3)) (by rw [nI_clamp (by omega)]) ?_
  refine lv_if_eq (tgt := 386) hx hb dL_law_379 (by decide) (fun c_1 => ?_) (fun c_1 => ?_)
  · refine lv_iconst (v := 0) hx hb dL_law_386 (by decide) ?_
    refine ro_i (D := D) (va_runV (As := [.int (xs (i + 1)), .int (xs (i + 2)), .int 0]) (rest := []) ⟨hx, hb, hml, hown, hts⟩ ((x_chance l D k st lo ax (zz.1 0) (zz.2.1 0) (zz.1 2) (zz.1 3) (zz.1 4) (zz.2.2.2.1 1) (zz.2.2.2.1 2) (zz.1 5) (zz.1 6) (zz.1 7) (zz.2.2.2.1 5) (zz.2.2.2.1 6) (zz.1 8) (zz.1 9) (zz.1 10) (zz.2.2.2.1 9) (zz.2.2.2.1 10) (xs (i + 1)) (xs (i + 2)) 0 (by omega) (by omega) (by omega) (by omega) (by omega) (by omega) (by omega) (by omega) (by omega)) H.size) (cwV 3 hts (gV tw_604 tw_605 tw_606 tw_79 tw_607) rfl rfl rfl (by decide +kernel) ⟨Nat.le_of_ble_eq_true rfl, Nat.le_of_ble_eq_true rfl⟩) (pV hS hAlo hlo hP hK (va_Dlo hD hAlo) hZ [0, 3, 4, 5, 6, 9, 10, 11, 14, 15, 16] (by decide) rfl (ci := 7) (q0 := 0) rfl rfl) rfl rfl hl.1 rfl (lv_room (Nat.le_of_ble_eq_true rfl)) dL_law_387 ⟨Nat.le_of_ble_eq_true rfl, Nat.le_of_ble_eq_true rfl⟩) hS hA hP (fun r_2 H locs hw_2 hP hS => ?_)
    try dsimp only at hw_2
    refine lv_pop hx hb dL_law_390 rfl ?_
    refine lv_aload_n hx hb dL_law_391 rfl (lv_at hl 1 rfl) ?_
    refine lv_aload_n hx hb dL_law_392 rfl (lv_at hl 3 rfl) ?_
    refine lv_iload_n hx hb dL_law_393 rfl (lv_at hl 0 rfl) ?_
    refine lv_iconst (v := 1) hx hb dL_law_394 (by decide) ?_
    refine lv_iadd hx hb dL_law_395 ?_
    refine lv_ti (y := (nI (i + 1))) (nI_add i 1) ?_
    refine va_sld hx hb hX hbl hbA hS (vp_in_nI (by omega) (by omega)) dL_law_396 ?_
    refine lv_ti (y := xs (i + 1)) (by rw [nI_clamp (by omega)]) ?_
    refine lv_aload_n hx hb dL_law_397 rfl (lv_at hl 3 rfl) ?_
    refine lv_iload_n hx hb dL_law_398 rfl (lv_at hl 0 rfl) ?_
    refine lv_iconst (v := 2) hx hb dL_law_399 (by decide) ?_
    refine lv_iadd hx hb dL_law_400 ?_
    refine lv_ti (y := (nI (i + 2))) (nI_add i 2) ?_
    refine va_sld hx hb hX hbl hbA hS (vp_in_nI (by omega) (by omega)) dL_law_401 ?_
    refine lv_ti (y := xs (i + 2)) (by rw [nI_clamp (by omega)]) ?_
    refine lv_aload_n hx hb dL_law_402 rfl (lv_at hl 3 rfl) ?_
    refine lv_iload_n hx hb dL_law_403 rfl (lv_at hl 0 rfl) ?_
    refine lv_iconst (v := 3) hx hb dL_law_404 (by decide) ?_
    refine lv_iadd hx hb dL_law_405 ?_
    refine lv_ti (y := (nI (i + 3))) (nI_add i 3) ?_
    refine va_sld hx hb hX hbl hbA hS (vp_in_nI (by omega) (by omega)) dL_law_406 ?_
    refine lv_ti (y := xs (i + 3)) (by rw [nI_clamp (by omega)]) ?_
    refine lv_if_eq (tgt := 414) hx hb dL_law_407 (by decide) (fun c_3 => ?_) (fun c_3 => ?_)
    · refine lv_iconst (v := 0) hx hb dL_law_414 (by decide) ?_
      refine ro_i (D := D) (va_runV (As := [.int (xs (i + 1)), .int (xs (i + 2)), .int 0]) (rest := []) ⟨hx, hb, hml, hown, hts⟩ ((m_chance l D k st lo am (zz.1 28) (zz.1 29) (zz.1 30) (zz.1 31) (zz.1 32) (zz.1 33) (zz.1 34) (zz.2.1 21) zz.2.2.1 (zz.2.1 22) (zz.2.1 23) (zz.2.1 24) (zz.2.1 25) (zz.2.1 26) (zz.2.1 27) (zz.2.2.2.2 4) (zz.2.2.2.2 5) (zz.2.2.2.2 6) (zz.2.2.2.1 48) (zz.2.2.2.1 46) (zz.2.2.2.1 47) (xs (i + 1)) (xs (i + 2)) 0 o_mdn o_mse o_mtm) H.size) (cwV 3 hts (gV tw_1206 tw_1207 tw_1208 tw_87 tw_1209) rfl rfl rfl (by decide +kernel) ⟨Nat.le_of_ble_eq_true rfl, Nat.le_of_ble_eq_true rfl⟩) (pV hS hAlo hlo hP hK (va_Dlo hD hAlo) hZ [72, 73, 76, 74, 75] (by decide) rfl (ci := 8) (q0 := 0) rfl rfl) rfl rfl hl.1 rfl (lv_room (Nat.le_of_ble_eq_true rfl)) dL_law_415 ⟨Nat.le_of_ble_eq_true rfl, Nat.le_of_ble_eq_true rfl⟩) hS hA hP (fun r_4 H locs hw_4 hP hS => ?_)
      try dsimp only at hw_4
      refine lv_pop hx hb dL_law_418 rfl ?_
      refine lv_goto (tgt := 1505) hx hb dL_law_419 (by decide) ?_
      exact hT zz _ _ _ hO hP hD hS (lv_sub hl [0, 1, 2, 3] rfl)
    · refine lv_iconst (v := 1) hx hb dL_law_410 (by decide) ?_
      refine lv_goto (tgt := 415) hx hb dL_law_411 (by decide) ?_
      refine ro_i (D := D) (va_runV (As := [.int (xs (i + 1)), .int (xs (i + 2)), .int 1]) (rest := []) ⟨hx, hb, hml, hown, hts⟩ ((m_chance l D k st lo am (zz.1 28) (zz.1 29) (zz.1 30) (zz.1 31) (zz.1 32) (zz.1 33) (zz.1 34) (zz.2.1 21) zz.2.2.1 (zz.2.1 22) (zz.2.1 23) (zz.2.1 24) (zz.2.1 25) (zz.2.1 26) (zz.2.1 27) (zz.2.2.2.2 4) (zz.2.2.2.2 5) (zz.2.2.2.2 6) (zz.2.2.2.1 48) (zz.2.2.2.1 46) (zz.2.2.2.1 47) (xs (i + 1)) (xs (i + 2)) 1 o_mdn o_mse o_mtm) H.size) (cwV 3 hts (gV tw_1206 tw_1207 tw_1208 tw_87 tw_1209) rfl rfl rfl (by decide +kernel) ⟨Nat.le_of_ble_eq_true rfl, Nat.le_of_ble_eq_true rfl⟩) (pV hS hAlo hlo hP hK (va_Dlo hD hAlo) hZ [72, 73, 76, 74, 75] (by decide) rfl (ci := 8) (q0 := 0) rfl rfl) rfl rfl hl.1 rfl (lv_room (Nat.le_of_ble_eq_true rfl)) dL_law_415 ⟨Nat.le_of_ble_eq_true rfl, Nat.le_of_ble_eq_true rfl⟩) hS hA hP (fun r_5 H locs hw_5 hP hS => ?_)
      try dsimp only at hw_5
      refine lv_pop hx hb dL_law_418 rfl ?_
      refine lv_goto (tgt := 1505) hx hb dL_law_419 (by decide) ?_
      exact hT zz _ _ _ hO hP hD hS (lv_sub hl [0, 1, 2, 3] rfl)
  · refine lv_iconst (v := 1) hx hb dL_law_382 (by decide) ?_
    refine lv_goto (tgt := 387) hx hb dL_law_383 (by decide) ?_
    refine ro_i (D := D) (va_runV (As := [.int (xs (i + 1)), .int (xs (i + 2)), .int 1]) (rest := []) ⟨hx, hb, hml, hown, hts⟩ ((x_chance l D k st lo ax (zz.1 0) (zz.2.1 0) (zz.1 2) (zz.1 3) (zz.1 4) (zz.2.2.2.1 1) (zz.2.2.2.1 2) (zz.1 5) (zz.1 6) (zz.1 7) (zz.2.2.2.1 5) (zz.2.2.2.1 6) (zz.1 8) (zz.1 9) (zz.1 10) (zz.2.2.2.1 9) (zz.2.2.2.1 10) (xs (i + 1)) (xs (i + 2)) 1 (by omega) (by omega) (by omega) (by omega) (by omega) (by omega) (by omega) (by omega) (by omega)) H.size) (cwV 3 hts (gV tw_604 tw_605 tw_606 tw_79 tw_607) rfl rfl rfl (by decide +kernel) ⟨Nat.le_of_ble_eq_true rfl, Nat.le_of_ble_eq_true rfl⟩) (pV hS hAlo hlo hP hK (va_Dlo hD hAlo) hZ [0, 3, 4, 5, 6, 9, 10, 11, 14, 15, 16] (by decide) rfl (ci := 7) (q0 := 0) rfl rfl) rfl rfl hl.1 rfl (lv_room (Nat.le_of_ble_eq_true rfl)) dL_law_387 ⟨Nat.le_of_ble_eq_true rfl, Nat.le_of_ble_eq_true rfl⟩) hS hA hP (fun r_6 H locs hw_6 hP hS => ?_)
    try dsimp only at hw_6
    refine lv_pop hx hb dL_law_390 rfl ?_
    refine lv_aload_n hx hb dL_law_391 rfl (lv_at hl 1 rfl) ?_
    refine lv_aload_n hx hb dL_law_392 rfl (lv_at hl 3 rfl) ?_
    refine lv_iload_n hx hb dL_law_393 rfl (lv_at hl 0 rfl) ?_
    refine lv_iconst (v := 1) hx hb dL_law_394 (by decide) ?_
    refine lv_iadd hx hb dL_law_395 ?_
    refine lv_ti (y := (nI (i + 1))) (nI_add i 1) ?_
    refine va_sld hx hb hX hbl hbA hS (vp_in_nI (by omega) (by omega)) dL_law_396 ?_
    refine lv_ti (y := xs (i + 1)) (by rw [nI_clamp (by omega)]) ?_
    refine lv_aload_n hx hb dL_law_397 rfl (lv_at hl 3 rfl) ?_
    refine lv_iload_n hx hb dL_law_398 rfl (lv_at hl 0 rfl) ?_
    refine lv_iconst (v := 2) hx hb dL_law_399 (by decide) ?_
    refine lv_iadd hx hb dL_law_400 ?_
    refine lv_ti (y := (nI (i + 2))) (nI_add i 2) ?_
    refine va_sld hx hb hX hbl hbA hS (vp_in_nI (by omega) (by omega)) dL_law_401 ?_
    refine lv_ti (y := xs (i + 2)) (by rw [nI_clamp (by omega)]) ?_
    refine lv_aload_n hx hb dL_law_402 rfl (lv_at hl 3 rfl) ?_
    refine lv_iload_n hx hb dL_law_403 rfl (lv_at hl 0 rfl) ?_
    refine lv_iconst (v := 3) hx hb dL_law_404 (by decide) ?_
    refine lv_iadd hx hb dL_law_405 ?_
    refine lv_ti (y := (nI (i + 3))) (nI_add i 3) ?_
    refine va_sld hx hb hX hbl hbA hS (vp_in_nI (by omega) (by omega)) dL_law_406 ?_
    refine lv_ti (y := xs (i + 3)) (by rw [nI_clamp (by omega)]) ?_
    refine lv_if_eq (tgt := 414) hx hb dL_law_407 (by decide) (fun c_7 => ?_) (fun c_7 => ?_)
    · refine lv_iconst (v := 0) hx hb dL_law_414 (by decide) ?_
      refine ro_i (D := D) (va_runV (As := [.int (xs (i + 1)), .int (xs (i + 2)), .int 0]) (rest := []) ⟨hx, hb, hml, hown, hts⟩ ((m_chance l D k st lo am (zz.1 28) (zz.1 29) (zz.1 30) (zz.1 31) (zz.1 32) (zz.1 33) (zz.1 34) (zz.2.1 21) zz.2.2.1 (zz.2.1 22) (zz.2.1 23) (zz.2.1 24) (zz.2.1 25) (zz.2.1 26) (zz.2.1 27) (zz.2.2.2.2 4) (zz.2.2.2.2 5) (zz.2.2.2.2 6) (zz.2.2.2.1 48) (zz.2.2.2.1 46) (zz.2.2.2.1 47) (xs (i + 1)) (xs (i + 2)) 0 o_mdn o_mse o_mtm) H.size) (cwV 3 hts (gV tw_1206 tw_1207 tw_1208 tw_87 tw_1209) rfl rfl rfl (by decide +kernel) ⟨Nat.le_of_ble_eq_true rfl, Nat.le_of_ble_eq_true rfl⟩) (pV hS hAlo hlo hP hK (va_Dlo hD hAlo) hZ [72, 73, 76, 74, 75] (by decide) rfl (ci := 8) (q0 := 0) rfl rfl) rfl rfl hl.1 rfl (lv_room (Nat.le_of_ble_eq_true rfl)) dL_law_415 ⟨Nat.le_of_ble_eq_true rfl, Nat.le_of_ble_eq_true rfl⟩) hS hA hP (fun r_8 H locs hw_8 hP hS => ?_)
      try dsimp only at hw_8
      refine lv_pop hx hb dL_law_418 rfl ?_
      refine lv_goto (tgt := 1505) hx hb dL_law_419 (by decide) ?_
      exact hT zz _ _ _ hO hP hD hS (lv_sub hl [0, 1, 2, 3] rfl)
    · refine lv_iconst (v := 1) hx hb dL_law_410 (by decide) ?_
      refine lv_goto (tgt := 415) hx hb dL_law_411 (by decide) ?_
      refine ro_i (D := D) (va_runV (As := [.int (xs (i + 1)), .int (xs (i + 2)), .int 1]) (rest := []) ⟨hx, hb, hml, hown, hts⟩ ((m_chance l D k st lo am (zz.1 28) (zz.1 29) (zz.1 30) (zz.1 31) (zz.1 32) (zz.1 33) (zz.1 34) (zz.2.1 21) zz.2.2.1 (zz.2.1 22) (zz.2.1 23) (zz.2.1 24) (zz.2.1 25) (zz.2.1 26) (zz.2.1 27) (zz.2.2.2.2 4) (zz.2.2.2.2 5) (zz.2.2.2.2 6) (zz.2.2.2.1 48) (zz.2.2.2.1 46) (zz.2.2.2.1 47) (xs (i + 1)) (xs (i + 2)) 1 o_mdn o_mse o_mtm) H.size) (cwV 3 hts (gV tw_1206 tw_1207 tw_1208 tw_87 tw_1209) rfl rfl rfl (by decide +kernel) ⟨Nat.le_of_ble_eq_true rfl, Nat.le_of_ble_eq_true rfl⟩) (pV hS hAlo hlo hP hK (va_Dlo hD hAlo) hZ [72, 73, 76, 74, 75] (by decide) rfl (ci := 8) (q0 := 0) rfl rfl) rfl rfl hl.1 rfl (lv_room (Nat.le_of_ble_eq_true rfl)) dL_law_415 ⟨Nat.le_of_ble_eq_true rfl, Nat.le_of_ble_eq_true rfl⟩) hS hA hP (fun r_9 H locs hw_9 hP hS => ?_)
      try dsimp only at hw_9
      refine lv_pop hx hb dL_law_418 rfl ?_
      refine lv_goto (tgt := 1505) hx hb dL_law_419 (by decide) ?_
      exact hT zz _ _ _ hO hP hD hS (lv_sub hl [0, 1, 2, 3] rfl)

