theorem dL_law_363 : decode code 363 = .ok (.aload_n 1, 1) := by decide +kernel
theorem dL_law_364 : decode code 364 = .ok (.aload_n 0, 1) := by decide +kernel
theorem dL_law_365 : decode code 365 = .ok (.iload_n 3, 1) := by decide +kernel
theorem dL_law_366 : decode code 366 = .ok (.iconst 1, 1) := by decide +kernel
theorem dL_law_367 : decode code 367 = .ok (.iadd, 1) := by decide +kernel
theorem dL_law_368 : decode code 368 = .ok (.iaload, 1) := by decide +kernel
theorem dL_law_369 : decode code 369 = .ok (.aload_n 0, 1) := by decide +kernel
theorem dL_law_370 : decode code 370 = .ok (.iload_n 3, 1) := by decide +kernel
theorem dL_law_371 : decode code 371 = .ok (.iconst 2, 1) := by decide +kernel
theorem dL_law_372 : decode code 372 = .ok (.iadd, 1) := by decide +kernel
theorem dL_law_373 : decode code 373 = .ok (.iaload, 1) := by decide +kernel
theorem dL_law_374 : decode code 374 = .ok (.aload_n 0, 1) := by decide +kernel
theorem dL_law_375 : decode code 375 = .ok (.iload_n 3, 1) := by decide +kernel
theorem dL_law_376 : decode code 376 = .ok (.iconst 3, 1) := by decide +kernel
theorem dL_law_377 : decode code 377 = .ok (.iadd, 1) := by decide +kernel
theorem dL_law_378 : decode code 378 = .ok (.iaload, 1) := by decide +kernel
theorem dL_law_379 : decode code 379 = .ok (.ifCond .eq 7, 3) := by decide +kernel
theorem dL_law_382 : decode code 382 = .ok (.iconst 1, 1) := by decide +kernel
theorem dL_law_383 : decode code 383 = .ok (.goto 4, 3) := by decide +kernel
theorem dL_law_386 : decode code 386 = .ok (.iconst 0, 1) := by decide +kernel
theorem dL_law_387 : decode code 387 = .ok (.invokevirtual 40, 3) := by decide +kernel
theorem dL_law_390 : decode code 390 = .ok (.pop, 1) := by decide +kernel
theorem dL_law_391 : decode code 391 = .ok (.aload_n 2, 1) := by decide +kernel
theorem dL_law_392 : decode code 392 = .ok (.aload_n 0, 1) := by decide +kernel
theorem dL_law_393 : decode code 393 = .ok (.iload_n 3, 1) := by decide +kernel
theorem dL_law_394 : decode code 394 = .ok (.iconst 1, 1) := by decide +kernel
theorem dL_law_395 : decode code 395 = .ok (.iadd, 1) := by decide +kernel
theorem dL_law_396 : decode code 396 = .ok (.iaload, 1) := by decide +kernel
theorem dL_law_397 : decode code 397 = .ok (.aload_n 0, 1) := by decide +kernel
theorem dL_law_398 : decode code 398 = .ok (.iload_n 3, 1) := by decide +kernel
theorem dL_law_399 : decode code 399 = .ok (.iconst 2, 1) := by decide +kernel
theorem dL_law_400 : decode code 400 = .ok (.iadd, 1) := by decide +kernel
theorem dL_law_401 : decode code 401 = .ok (.iaload, 1) := by decide +kernel
theorem dL_law_402 : decode code 402 = .ok (.aload_n 0, 1) := by decide +kernel
theorem dL_law_403 : decode code 403 = .ok (.iload_n 3, 1) := by decide +kernel
theorem dL_law_404 : decode code 404 = .ok (.iconst 3, 1) := by decide +kernel
theorem dL_law_405 : decode code 405 = .ok (.iadd, 1) := by decide +kernel
theorem dL_law_406 : decode code 406 = .ok (.iaload, 1) := by decide +kernel
theorem dL_law_407 : decode code 407 = .ok (.ifCond .eq 7, 3) := by decide +kernel
theorem dL_law_410 : decode code 410 = .ok (.iconst 1, 1) := by decide +kernel
theorem dL_law_411 : decode code 411 = .ok (.goto 4, 3) := by decide +kernel
theorem dL_law_414 : decode code 414 = .ok (.iconst 0, 1) := by decide +kernel
theorem dL_law_415 : decode code 415 = .ok (.invokevirtual 44, 3) := by decide +kernel
theorem dL_law_418 : decode code 418 = .ok (.pop, 1) := by decide +kernel
theorem dL_law_419 : decode code 419 = .ok (.goto 1086, 3) := by decide +kernel
set_option maxHeartbeats 8000000 in
set_option maxRecDepth 100000 in
theorem law_c5 {p : Program} {l : Launch} {e : Env} {s : State} {m : MethodId} {below : List Frame} {meth : Method} {c : Code} {b : Nat} {xs : Nat → Int32} {H : Heap} {locs : List Loc} {ls : Array Slot} (hx : p.tables.exec = Jvm.exec) (hb : c.code = code) (hr : meth.sig.returnType = ret) (hlocks : meth.locks = false) {D : va_G} {k : Nat → ClassId} {st : Nat → Nat} {lo : Nat} {ax am : Nat → Nat} (hml : c.maxLocals = 4) (hown : s.vm.findClass R_law = some m.cls) (hts : ∀ w ∈ LW, w.before #[Value.ref b] s = true) (hbl : b < s.heap.size) (hlo : lo ≤ s.heap.size) (hZ : Zs st lo s s.heap) (hK : va_K D classes (TY k) s) {L i : Nat} (hL : L ≤ 512) (hi8 : i + 8 ≤ L) (hX : va_X b L xs s s.heap) {zz : QSt} (hO : LOK zz) (hP : va_P D classes (LWd k ax am zz) H) (hD : va_D (fun q : Nat => s.heap.size ≤ q) (LWd k ax am zz)) (hS : va_S (fun q : Nat => s.heap.size ≤ q) s.heap H locs) (hl : lv_has ls 4 [(3, .int (nI i)), (2, .ref (am 0)), (1, .ref (ax 0)), (0, .ref b)]) (hT : ∀ (zy : QSt) (H' : Heap) (locs' : List Loc) (ls' : Array Slot), LOK zy → va_P D classes (LWd k ax am zy) H' → va_D (fun q : Nat => s.heap.size ≤ q) (LWd k ax am zy) → va_S (fun q : Nat => s.heap.size ≤ q) s.heap H' locs' → lv_has ls' 4 [(3, .int (nI i)), (2, .ref (am 0)), (1, .ref (ax 0)), (0, .ref b)] → W p l e room_1 s m #[Value.ref b] below meth c H' locs' 102 5857 (lw_Z below #[Value.ref b] s) (F0 m 1505 ls' [])) : W p l e room_1 s m #[Value.ref b] below meth c H locs 102 5857 (lw_Z below #[Value.ref b] s) (F0 m 363 ls []) := by
  have hA : ∀ q : Nat, s.heap.size ≤ q → (fun q : Nat => s.heap.size ≤ q) q := fun _ h => h
  have hAlo : ∀ q : Nat, (fun q : Nat => s.heap.size ≤ q) q → lo ≤ q := fun q h => Nat.le_trans hlo h
  have hbA : ¬ (fun q : Nat => s.heap.size ≤ q) b := Nat.not_le.mpr hbl
  obtain ⟨o_xtz, o_xn0, o_xsee0, o_xtm0, o_xn1, o_xsee1, o_xtm1, o_xn2, o_xsee2, o_xtm2, o_xrk, o_xrc0, o_xrr0, o_xrc1, o_xrr1, o_xrc2, o_xrr2, o_xrc3, o_xrr3, o_xcc, o_xrz, o_xcci0, o_xrzi0, o_xcci1, o_xrzi1, o_mtx, o_mru, o_mrw, o_mca, o_xbr, o_xbri0, o_xbri1, o_xpb, o_mdn, o_mse, o_mtm, o_mbm, o_mbr, o_mwb, o_mfdoorsOf, o_mfimages, o_r0, o_r1, o_r2, o_r3, o_r4, o_r5, o_r6, o_r7, o_r8, o_r9, o_r10, o_r11, o_r12, o_r13⟩ := id hO
  replace hP : va_P D classes [((ax 0), .inr (7, (fX7 (ax 1) (ax 3) (ax 19) (ax 35) (ax 40) (nI (zz.1 0)) (zz.2.1 0) (ax 53) (ax 56) (ax 63) (ax 64) (ax 68)))), ((ax 1), .inr (6, (fX6 (ax 2) (nI (zz.1 1)) (zz.2.1 1) (zz.2.1 2) (zz.2.1 3) (zz.2.1 4)))), (aB k (ax 2) 240 (zz.2.2.2.1 0)), ((ax 3), .inl (k 3, 3, .inr (.inr (.inr (.inr (a3 (ax 4) (ax 9) (ax 14))))))), ((ax 4), .inr (5, (fX5 (ax 5) (ax 6) (ax 7) (ax 8)))), (aI k (ax 5) 10 (vv (zz.1 2) (zz.1 3) (zz.1 4) (zz.2.2.2.1 1))), (aI k (ax 6) 24 (zz.2.2.2.1 2)), (aI k (ax 7) 24 (zz.2.2.2.1 3)), (aI k (ax 8) 4 (zz.2.2.2.1 4)), ((ax 9), .inr (5, (fX5 (ax 10) (ax 11) (ax 12) (ax 13)))), (aI k (ax 10) 10 (vv (zz.1 5) (zz.1 6) (zz.1 7) (zz.2.2.2.1 5))), (aI k (ax 11) 24 (zz.2.2.2.1 6)), (aI k (ax 12) 24 (zz.2.2.2.1 7)), (aI k (ax 13) 4 (zz.2.2.2.1 8)), ((ax 14), .inr (5, (fX5 (ax 15) (ax 16) (ax 17) (ax 18)))), (aI k (ax 15) 10 (vv (zz.1 8) (zz.1 9) (zz.1 10) (zz.2.2.2.1 9))), (aI k (ax 16) 24 (zz.2.2.2.1 10)), (aI k (ax 17) 24 (zz.2.2.2.1 11)), (aI k (ax 18) 4 (zz.2.2.2.1 12)), ((ax 19), .inl (k 4, 3, .inr (.inr (.inr (.inr (a3 (ax 20) (ax 25) (ax 30))))))), ((ax 20), .inr (0, (fX0 (ax 4) (ax 21) (ax 22) (ax 23) (ax 24)))), (aI k (ax 21) 768 (zz.2.2.2.1 13)), (aI k (ax 22) 4 (zz.2.2.2.1 14)), (aI k (ax 23) 4 (zz.2.2.2.1 15)), (aI k (ax 24) 8 (zz.2.2.2.1 16)), ((ax 25), .inr (0, (fX0 (ax 9) (ax 26) (ax 27) (ax 28) (ax 29)))), (aI k (ax 26) 768 (zz.2.2.2.1 17)), (aI k (ax 27) 4 (zz.2.2.2.1 18)), (aI k (ax 28) 4 (zz.2.2.2.1 19)), (aI k (ax 29) 8 (zz.2.2.2.1 20)), ((ax 30), .inr (0, (fX0 (ax 14) (ax 31) (ax 32) (ax 33) (ax 34)))), (aI k (ax 31) 768 (zz.2.2.2.1 21)), (aI k (ax 32) 4 (zz.2.2.2.1 22)), (aI k (ax 33) 4 (zz.2.2.2.1 23)), (aI k (ax 34) 8 (zz.2.2.2.1 24)), ((ax 35), .inr (5, (fX5 (ax 36) (ax 37) (ax 38) (ax 39)))), (aI k (ax 36) 10 (vv (zz.1 11) (zz.1 12) (zz.1 13) (zz.2.2.2.1 25))), (aI k (ax 37) 24 (zz.2.2.2.1 26)), (aI k (ax 38) 24 (zz.2.2.2.1 27)), (aI k (ax 39) 4 (zz.2.2.2.1 28)), ((ax 40), .inl (k 5, 4, .inr (.inr (.inr (.inr (a4 (ax 41) (ax 44) (ax 47) (ax 50))))))), ((ax 41), .inr (3, (fX3 (ax 42) (ax 43) (zz.2.1 5) (nI (zz.1 14)) (nI (zz.1 15))))), (aI k (ax 42) 24 (zz.2.2.2.1 29)), (aI k (ax 43) 24 (zz.2.2.2.1 30)), ((ax 44), .inr (3, (fX3 (ax 45) (ax 46) (zz.2.1 6) (nI (zz.1 16)) (nI (zz.1 17))))), (aI k (ax 45) 24 (zz.2.2.2.1 31)), (aI k (ax 46) 24 (zz.2.2.2.1 32)), ((ax 47), .inr (3, (fX3 (ax 48) (ax 49) (zz.2.1 7) (nI (zz.1 18)) (nI (zz.1 19))))), (aI k (ax 48) 24 (zz.2.2.2.1 33)), (aI k (ax 49) 24 (zz.2.2.2.1 34)), ((ax 50), .inr (3, (fX3 (ax 51) (ax 52) (zz.2.1 8) (nI (zz.1 20)) (nI (zz.1 21))))), (aI k (ax 51) 24 (zz.2.2.2.1 35)), (aI k (ax 52) 24 (zz.2.2.2.1 36)), ((ax 53), .inr (4, (fX4 (ax 54) (ax 55) (nI (zz.1 22)) (nI (zz.1 23)) (zz.2.1 9) (zz.2.1 10)))), (aI k (ax 54) 4 (zz.2.2.2.1 37)), (aI k (ax 55) 4 (nF (zz.2.2.2.2 0))), ((ax 56), .inl (k 6, 2, .inr (.inr (.inr (.inr (a2 (ax 57) (ax 60))))))), ((ax 57), .inr (4, (fX4 (ax 58) (ax 59) (nI (zz.1 24)) (nI (zz.1 25)) (zz.2.1 11) (zz.2.1 12)))), (aI k (ax 58) 4 (zz.2.2.2.1 38)), (aI k (ax 59) 4 (nF (zz.2.2.2.2 1))), ((ax 60), .inr (4, (fX4 (ax 61) (ax 62) (nI (zz.1 26)) (nI (zz.1 27)) (zz.2.1 13) (zz.2.1 14)))), (aI k (ax 61) 4 (zz.2.2.2.1 39)), (aI k (ax 62) 4 (nF (zz.2.2.2.2 2))), (aZ k (ax 63) 2 (zz.2.2.2.1 40)), ((ax 64), .inr (2, (fX2 (ax 65) (ax 66) (ax 67) (zz.2.1 15) (zz.2.1 16)))), (aI k (ax 65) 25 (zz.2.2.2.1 41)), (aI k (ax 66) 25 (zz.2.2.2.1 42)), (aI k (ax 67) 25 (zz.2.2.2.1 43)), ((ax 68), .inr (1, (fX1 (ax 53) (ax 69) (ax 70) (ax 71) (zz.2.1 17) (zz.2.1 18) (zz.2.1 19) (zz.2.1 20)))), (aI k (ax 69) 4 (nF (zz.2.2.2.2 3))), (aI k (ax 70) 100 (zz.2.2.2.1 44)), (aI k (ax 71) 16 (zz.2.2.2.1 45)), ((am 0), .inr (8, (fX8 am (nI (zz.1 28)) (zz.2.1 21) (nI (zz.1 29)) zz.2.2.1 (nI (zz.1 30)) (zz.2.1 22) (zz.2.1 23) (nI (zz.1 31)) (zz.2.1 24) (nI (zz.1 32)) (nI (zz.1 33)) (nI (zz.1 34)) (zz.2.1 25) (zz.2.1 26) (zz.2.1 27)))), (aI k (am 1) 3 (nF (zz.2.2.2.2 4))), (aI k (am 2) 72 (zz.2.2.2.1 46)), (aI k (am 3) 72 (zz.2.2.2.1 47)), (aI k (am 4) 27 (sg (zz.2.2.2.2 5) (zz.2.2.2.2 6) (zz.2.2.2.1 48))), (aI k (am 5) 240 (zz.2.2.2.1 49)), (aI k (am 14) 24 (zz.2.2.2.1 50)), (aI k (am 15) 24 (zz.2.2.2.1 51)), (aI k (am 16) 9 (zz.2.2.2.1 52)), (aI k (am 18) 768 (zz.2.2.2.1 53)), (aI k (am 19) 768 (zz.2.2.2.1 54)), (aI k (am 20) 5 (zz.2.2.2.1 55)), (aI k (am 21) 4 (zz.2.2.2.1 56)), (aZ k (am 22) 4 (zz.2.2.2.1 57)), (aI k (am 23) 8 (zz.2.2.2.1 58)), (aI k (am 25) 4 (nF (zz.2.2.2.2 7))), (aI k (am 26) 48 (zz.2.2.2.1 59)), (aI k (am 27) 48 (zz.2.2.2.1 60)), (aI k (am 28) 4 (zz.2.2.2.1 61)), (aI k (am 29) 52 (zz.2.2.2.1 62)), (aI k (am 30) 52 (zz.2.2.2.1 63)), (aZ k (am 32) 24 (zz.2.2.2.1 64)), (aI k (am 33) 50 (zz.2.2.2.1 65)), (aI k (am 34) 50 (zz.2.2.2.1 66)), (aI k (am 36) 4 (zz.2.2.2.1 67)), (aI k (am 37) 4 (nF (zz.2.2.2.2 8))), (aI k (am 40) 4 (zz.2.2.2.1 68)), (aI k (am 41) 4 (nF (zz.2.2.2.2 9))), (aZ k (am 43) 2 (zz.2.2.2.1 69)), (aI k (am 44) 70 (zz.2.2.2.1 70))] H := hP
  replace hD : va_D (fun q : Nat => s.heap.size ≤ q) [((ax 0), .inr (7, (fX7 (ax 1) (ax 3) (ax 19) (ax 35) (ax 40) (nI (zz.1 0)) (zz.2.1 0) (ax 53) (ax 56) (ax 63) (ax 64) (ax 68)))), ((ax 1), .inr (6, (fX6 (ax 2) (nI (zz.1 1)) (zz.2.1 1) (zz.2.1 2) (zz.2.1 3) (zz.2.1 4)))), (aB k (ax 2) 240 (zz.2.2.2.1 0)), ((ax 3), .inl (k 3, 3, .inr (.inr (.inr (.inr (a3 (ax 4) (ax 9) (ax 14))))))), ((ax 4), .inr (5, (fX5 (ax 5) (ax 6) (ax 7) (ax 8)))), (aI k (ax 5) 10 (vv (zz.1 2) (zz.1 3) (zz.1 4) (zz.2.2.2.1 1))), (aI k (ax 6) 24 (zz.2.2.2.1 2)), (aI k (ax 7) 24 (zz.2.2.2.1 3)), (aI k (ax 8) 4 (zz.2.2.2.1 4)), ((ax 9), .inr (5, (fX5 (ax 10) (ax 11) (ax 12) (ax 13)))), (aI k (ax 10) 10 (vv (zz.1 5) (zz.1 6) (zz.1 7) (zz.2.2.2.1 5))), (aI k (ax 11) 24 (zz.2.2.2.1 6)), (aI k (ax 12) 24 (zz.2.2.2.1 7)), (aI k (ax 13) 4 (zz.2.2.2.1 8)), ((ax 14), .inr (5, (fX5 (ax 15) (ax 16) (ax 17) (ax 18)))), (aI k (ax 15) 10 (vv (zz.1 8) (zz.1 9) (zz.1 10) (zz.2.2.2.1 9))), (aI k (ax 16) 24 (zz.2.2.2.1 10)), (aI k (ax 17) 24 (zz.2.2.2.1 11)), (aI k (ax 18) 4 (zz.2.2.2.1 12)), ((ax 19), .inl (k 4, 3, .inr (.inr (.inr (.inr (a3 (ax 20) (ax 25) (ax 30))))))), ((ax 20), .inr (0, (fX0 (ax 4) (ax 21) (ax 22) (ax 23) (ax 24)))), (aI k (ax 21) 768 (zz.2.2.2.1 13)), (aI k (ax 22) 4 (zz.2.2.2.1 14)), (aI k (ax 23) 4 (zz.2.2.2.1 15)), (aI k (ax 24) 8 (zz.2.2.2.1 16)), ((ax 25), .inr (0, (fX0 (ax 9) (ax 26) (ax 27) (ax 28) (ax 29)))), (aI k (ax 26) 768 (zz.2.2.2.1 17)), (aI k (ax 27) 4 (zz.2.2.2.1 18)), (aI k (ax 28) 4 (zz.2.2.2.1 19)), (aI k (ax 29) 8 (zz.2.2.2.1 20)), ((ax 30), .inr (0, (fX0 (ax 14) (ax 31) (ax 32) (ax 33) (ax 34)))), (aI k (ax 31) 768 (zz.2.2.2.1 21)), (aI k (ax 32) 4 (zz.2.2.2.1 22)), (aI k (ax 33) 4 (zz.2.2.2.1 23)), (aI k (ax 34) 8 (zz.2.2.2.1 24)), ((ax 35), .inr (5, (fX5 (ax 36) (ax 37) (ax 38) (ax 39)))), (aI k (ax 36) 10 (vv (zz.1 11) (zz.1 12) (zz.1 13) (zz.2.2.2.1 25))), (aI k (ax 37) 24 (zz.2.2.2.1 26)), (aI k (ax 38) 24 (zz.2.2.2.1 27)), (aI k (ax 39) 4 (zz.2.2.2.1 28)), ((ax 40), .inl (k 5, 4, .inr (.inr (.inr (.inr (a4 (ax 41) (ax 44) (ax 47) (ax 50))))))), ((ax 41), .inr (3, (fX3 (ax 42) (ax 43) (zz.2.1 5) (nI (zz.1 14)) (nI (zz.1 15))))), (aI k (ax 42) 24 (zz.2.2.2.1 29)), (aI k (ax 43) 24 (zz.2.2.2.1 30)), ((ax 44), .inr (3, (fX3 (ax 45) (ax 46) (zz.2.1 6) (nI (zz.1 16)) (nI (zz.1 17))))), (aI k (ax 45) 24 (zz.2.2.2.1 31)), (aI k (ax 46) 24 (zz.2.2.2.1 32)), ((ax 47), .inr (3, (fX3 (ax 48) (ax 49) (zz.2.1 7) (nI (zz.1 18)) (nI (zz.1 19))))), (aI k (ax 48) 24 (zz.2.2.2.1 33)), (aI k (ax 49) 24 (zz.2.2.2.1 34)), ((ax 50), .inr (3, (fX3 (ax 51) (ax 52) (zz.2.1 8) (nI (zz.1 20)) (nI (zz.1 21))))), (aI k (ax 51) 24 (zz.2.2.2.1 35)), (aI k (ax 52) 24 (zz.2.2.2.1 36)), ((ax 53), .inr (4, (fX4 (ax 54) (ax 55) (nI (zz.1 22)) (nI (zz.1 23)) (zz.2.1 9) (zz.2.1 10)))), (aI k (ax 54) 4 (zz.2.2.2.1 37)), (aI k (ax 55) 4 (nF (zz.2.2.2.2 0))), ((ax 56), .inl (k 6, 2, .inr (.inr (.inr (.inr (a2 (ax 57) (ax 60))))))), ((ax 57), .inr (4, (fX4 (ax 58) (ax 59) (nI (zz.1 24)) (nI (zz.1 25)) (zz.2.1 11) (zz.2.1 12)))), (aI k (ax 58) 4 (zz.2.2.2.1 38)), (aI k (ax 59) 4 (nF (zz.2.2.2.2 1))), ((ax 60), .inr (4, (fX4 (ax 61) (ax 62) (nI (zz.1 26)) (nI (zz.1 27)) (zz.2.1 13) (zz.2.1 14)))), (aI k (ax 61) 4 (zz.2.2.2.1 39)), (aI k (ax 62) 4 (nF (zz.2.2.2.2 2))), (aZ k (ax 63) 2 (zz.2.2.2.1 40)), ((ax 64), .inr (2, (fX2 (ax 65) (ax 66) (ax 67) (zz.2.1 15) (zz.2.1 16)))), (aI k (ax 65) 25 (zz.2.2.2.1 41)), (aI k (ax 66) 25 (zz.2.2.2.1 42)), (aI k (ax 67) 25 (zz.2.2.2.1 43)), ((ax 68), .inr (1, (fX1 (ax 53) (ax 69) (ax 70) (ax 71) (zz.2.1 17) (zz.2.1 18) (zz.2.1 19) (zz.2.1 20)))), (aI k (ax 69) 4 (nF (zz.2.2.2.2 3))), (aI k (ax 70) 100 (zz.2.2.2.1 44)), (aI k (ax 71) 16 (zz.2.2.2.1 45)), ((am 0), .inr (8, (fX8 am (nI (zz.1 28)) (zz.2.1 21) (nI (zz.1 29)) zz.2.2.1 (nI (zz.1 30)) (zz.2.1 22) (zz.2.1 23) (nI (zz.1 31)) (zz.2.1 24) (nI (zz.1 32)) (nI (zz.1 33)) (nI (zz.1 34)) (zz.2.1 25) (zz.2.1 26) (zz.2.1 27)))), (aI k (am 1) 3 (nF (zz.2.2.2.2 4))), (aI k (am 2) 72 (zz.2.2.2.1 46)), (aI k (am 3) 72 (zz.2.2.2.1 47)), (aI k (am 4) 27 (sg (zz.2.2.2.2 5) (zz.2.2.2.2 6) (zz.2.2.2.1 48))), (aI k (am 5) 240 (zz.2.2.2.1 49)), (aI k (am 14) 24 (zz.2.2.2.1 50)), (aI k (am 15) 24 (zz.2.2.2.1 51)), (aI k (am 16) 9 (zz.2.2.2.1 52)), (aI k (am 18) 768 (zz.2.2.2.1 53)), (aI k (am 19) 768 (zz.2.2.2.1 54)), (aI k (am 20) 5 (zz.2.2.2.1 55)), (aI k (am 21) 4 (zz.2.2.2.1 56)), (aZ k (am 22) 4 (zz.2.2.2.1 57)), (aI k (am 23) 8 (zz.2.2.2.1 58)), (aI k (am 25) 4 (nF (zz.2.2.2.2 7))), (aI k (am 26) 48 (zz.2.2.2.1 59)), (aI k (am 27) 48 (zz.2.2.2.1 60)), (aI k (am 28) 4 (zz.2.2.2.1 61)), (aI k (am 29) 52 (zz.2.2.2.1 62)), (aI k (am 30) 52 (zz.2.2.2.1 63)), (aZ k (am 32) 24 (zz.2.2.2.1 64)), (aI k (am 33) 50 (zz.2.2.2.1 65)), (aI k (am 34) 50 (zz.2.2.2.1 66)), (aI k (am 36) 4 (zz.2.2.2.1 67)), (aI k (am 37) 4 (nF (zz.2.2.2.2 8))), (aI k (am 40) 4 (zz.2.2.2.1 68)), (aI k (am 41) 4 (nF (zz.2.2.2.2 9))), (aZ k (am 43) 2 (zz.2.2.2.1 69)), (aI k (am 44) 70 (zz.2.2.2.1 70))] := hD
  refine lv_aload_n hx hb dL_law_363 rfl (lv_at hl 2 rfl) ?_
  refine lv_aload_n hx hb dL_law_364 rfl (lv_at hl 3 rfl) ?_
  refine lv_iload_n hx hb dL_law_365 rfl (lv_at hl 0 rfl) ?_
  refine lv_iconst (v := 1) hx hb dL_law_366 (by decide) ?_
  refine lv_iadd hx hb dL_law_367 ?_
  refine lv_ti (y := (nI (i + 1))) (nI_add i 1) ?_
  refine va_sld hx hb hX hbl hbA hS (vp_in_nI (by omega) (by omega)) dL_law_368 ?_
  refine lv_ti (y := xs (i + 1)) (by rw [nI_clamp (by omega)]) ?_
  refine lv_aload_n hx hb dL_law_369 rfl (lv_at hl 3 rfl) ?_
  refine lv_iload_n hx hb dL_law_370 rfl (lv_at hl 0 rfl) ?_
  refine lv_iconst (v := 2) hx hb dL_law_371 (by decide) ?_
  refine lv_iadd hx hb dL_law_372 ?_
  refine lv_ti (y := (nI (i + 2))) (nI_add i 2) ?_
  refine va_sld hx hb hX hbl hbA hS (vp_in_nI (by omega) (by omega)) dL_law_373 ?_
  refine lv_ti (y := xs (i + 2)) (by rw [nI_clamp (by omega)]) ?_
  refine lv_aload_n hx hb dL_law_374 rfl (lv_at hl 3 rfl) ?_
  refine lv_iload_n hx hb dL_law_375 rfl (lv_at hl 0 rfl) ?_
  refine lv_iconst (v := 3) hx hb dL_law_376 (by decide) ?_
  refine lv_iadd hx hb dL_law_377 ?_
  refine lv_ti (y := (nI (i + 3))) (nI_add i 3) ?_
  refine va_sld hx hb hX hbl hbA hS (vp_in_nI (by omega) (by omega)) dL_law_378 ?_
  refine lv_ti (y := xs (i + 3)) (by rw [nI_clamp (by omega)]) ?_
  refine lv_if_eq (tgt := 386) hx hb dL_law_379 (by decide) (fun c_1 => ?_) (fun c_1 => ?_)
  · refine lv_iconst (v := 0) hx hb dL_law_386 (by decide) ?_
    refine ro_i (D := D) (va_runV (As := [.int (xs (i + 1)), .int (xs (i + 2)), .int 0]) (rest := []) ⟨hx, hb, hml, hown, hts⟩ ((x_chance l D k st lo ax (zz.1 0) (zz.2.1 0) (zz.1 2) (zz.1 3) (zz.1 4) (zz.2.2.2.1 1) (zz.2.2.2.1 2) (zz.1 5) (zz.1 6) (zz.1 7) (zz.2.2.2.1 5) (zz.2.2.2.1 6) (zz.1 8) (zz.1 9) (zz.1 10) (zz.2.2.2.1 9) (zz.2.2.2.1 10) (xs (i + 1)) (xs (i + 2)) 0 (by omega) (by omega) (by omega) (by omega) (by omega) (by omega) (by omega) (by omega) (by omega)) H.size) (cwV 3 hts (gV tw_604 tw_605 tw_606 tw_79 tw_607) rfl rfl rfl (by decide +kernel) ⟨Nat.le_of_ble_eq_true rfl, Nat.le_of_ble_eq_true rfl⟩) (pV hS hAlo hlo hP hK (va_Dlo hD hAlo) hZ [0, 3, 4, 5, 6, 9, 10, 11, 14, 15, 16] (by decide) rfl (ci := 7) (q := (RX7, TX7, 12)) (q0 := 0) rfl rfl) rfl rfl hl.1 rfl (lv_room (Nat.le_of_ble_eq_true rfl)) dL_law_387 ⟨Nat.le_of_ble_eq_true rfl, Nat.le_of_ble_eq_true rfl⟩) hS hA hP (fun r_2 H locs hw_2 hP hS => ?_)
    try dsimp only at hw_2
    refine lv_pop hx hb dL_law_390 rfl ?_
    refine lv_aload_n hx hb dL_law_391 rfl (lv_at hl 1 rfl) ?_
    refine lv_aload_n hx hb dL_law_392 rfl (lv_at hl 3 rfl) ?_
    refine lv_iload_n hx hb dL_law_393 rfl (lv_at hl 0 rfl) ?_
    refine lv_iconst (v := 1) hx hb dL_law_394 (by decide) ?_
    refine lv_iadd hx hb dL_law_395 ?_
    refine lv_ti (y := (nI (i + 1))) (nI_add i 1) ?_
    refine va_sld hx hb hX hbl hbA hS (vp_in_nI (by omega) (by omega)) dL_law_396 ?_
    refine lv_ti (y := xs (i + 1)) (by rw [nI_clamp (by omega)]) ?_
    refine lv_aload_n hx hb dL_law_397 rfl (lv_at hl 3 rfl) ?_
    refine lv_iload_n hx hb dL_law_398 rfl (lv_at hl 0 rfl) ?_
    refine lv_iconst (v := 2) hx hb dL_law_399 (by decide) ?_
    refine lv_iadd hx hb dL_law_400 ?_
    refine lv_ti (y := (nI (i + 2))) (nI_add i 2) ?_
    refine va_sld hx hb hX hbl hbA hS (vp_in_nI (by omega) (by omega)) dL_law_401 ?_
    refine lv_ti (y := xs (i + 2)) (by rw [nI_clamp (by omega)]) ?_
    refine lv_aload_n hx hb dL_law_402 rfl (lv_at hl 3 rfl) ?_
    refine lv_iload_n hx hb dL_law_403 rfl (lv_at hl 0 rfl) ?_
    refine lv_iconst (v := 3) hx hb dL_law_404 (by decide) ?_
    refine lv_iadd hx hb dL_law_405 ?_
    refine lv_ti (y := (nI (i + 3))) (nI_add i 3) ?_
    refine va_sld hx hb hX hbl hbA hS (vp_in_nI (by omega) (by omega)) dL_law_406 ?_
    refine lv_ti (y := xs (i + 3)) (by rw [nI_clamp (by omega)]) ?_
    refine lv_if_eq (tgt := 414) hx hb dL_law_407 (by decide) (fun c_3 => ?_) (fun c_3 => ?_)
    · refine lv_iconst (v := 0) hx hb dL_law_414 (by decide) ?_
      refine ro_i (D := D) (va_runV (As := [.int (xs (i + 1)), .int (xs (i + 2)), .int 0]) (rest := []) ⟨hx, hb, hml, hown, hts⟩ ((m_chance l D k st lo am (zz.1 28) (zz.1 29) (zz.1 30) (zz.1 31) (zz.1 32) (zz.1 33) (zz.1 34) (zz.2.1 21) zz.2.2.1 (zz.2.1 22) (zz.2.1 23) (zz.2.1 24) (zz.2.1 25) (zz.2.1 26) (zz.2.1 27) (zz.2.2.2.2 4) (zz.2.2.2.2 5) (zz.2.2.2.2 6) (zz.2.2.2.1 48) (zz.2.2.2.1 46) (zz.2.2.2.1 47) (xs (i + 1)) (xs (i + 2)) 0 o_mdn o_mse o_mtm) H.size) (cwV 3 hts (gV tw_1206 tw_1207 tw_1208 tw_87 tw_1209) rfl rfl rfl (by decide +kernel) ⟨Nat.le_of_ble_eq_true rfl, Nat.le_of_ble_eq_true rfl⟩) (pV hS hAlo hlo hP hK (va_Dlo hD hAlo) hZ [72, 73, 76, 74, 75] (by decide) rfl (ci := 8) (q := (RX8, TX8, 44)) (q0 := 0) rfl rfl) rfl rfl hl.1 rfl (lv_room (Nat.le_of_ble_eq_true rfl)) dL_law_415 ⟨Nat.le_of_ble_eq_true rfl, Nat.le_of_ble_eq_true rfl⟩) hS hA hP (fun r_4 H locs hw_4 hP hS => ?_)
      try dsimp only at hw_4
      refine lv_pop hx hb dL_law_418 rfl ?_
      refine lv_goto (tgt := 1505) hx hb dL_law_419 (by decide) ?_
      exact hT zz _ _ _ hO hP hD hS (lv_sub hl [0, 1, 2, 3] rfl)
    · refine lv_iconst (v := 1) hx hb dL_law_410 (by decide) ?_
      refine lv_goto (tgt := 415) hx hb dL_law_411 (by decide) ?_
      refine ro_i (D := D) (va_runV (As := [.int (xs (i + 1)), .int (xs (i + 2)), .int 1]) (rest := []) ⟨hx, hb, hml, hown, hts⟩ ((m_chance l D k st lo am (zz.1 28) (zz.1 29) (zz.1 30) (zz.1 31) (zz.1 32) (zz.1 33) (zz.1 34) (zz.2.1 21) zz.2.2.1 (zz.2.1 22) (zz.2.1 23) (zz.2.1 24) (zz.2.1 25) (zz.2.1 26) (zz.2.1 27) (zz.2.2.2.2 4) (zz.2.2.2.2 5) (zz.2.2.2.2 6) (zz.2.2.2.1 48) (zz.2.2.2.1 46) (zz.2.2.2.1 47) (xs (i + 1)) (xs (i + 2)) 1 o_mdn o_mse o_mtm) H.size) (cwV 3 hts (gV tw_1206 tw_1207 tw_1208 tw_87 tw_1209) rfl rfl rfl (by decide +kernel) ⟨Nat.le_of_ble_eq_true rfl, Nat.le_of_ble_eq_true rfl⟩) (pV hS hAlo hlo hP hK (va_Dlo hD hAlo) hZ [72, 73, 76, 74, 75] (by decide) rfl (ci := 8) (q := (RX8, TX8, 44)) (q0 := 0) rfl rfl) rfl rfl hl.1 rfl (lv_room (Nat.le_of_ble_eq_true rfl)) dL_law_415 ⟨Nat.le_of_ble_eq_true rfl, Nat.le_of_ble_eq_true rfl⟩) hS hA hP (fun r_5 H locs hw_5 hP hS => ?_)
      try dsimp only at hw_5
      refine lv_pop hx hb dL_law_418 rfl ?_
      refine lv_goto (tgt := 1505) hx hb dL_law_419 (by decide) ?_
      exact hT zz _ _ _ hO hP hD hS (lv_sub hl [0, 1, 2, 3] rfl)
  · refine lv_iconst (v := 1) hx hb dL_law_382 (by decide) ?_
    refine lv_goto (tgt := 387) hx hb dL_law_383 (by decide) ?_
    refine ro_i (D := D) (va_runV (As := [.int (xs (i + 1)), .int (xs (i + 2)), .int 1]) (rest := []) ⟨hx, hb, hml, hown, hts⟩ ((x_chance l D k st lo ax (zz.1 0) (zz.2.1 0) (zz.1 2) (zz.1 3) (zz.1 4) (zz.2.2.2.1 1) (zz.2.2.2.1 2) (zz.1 5) (zz.1 6) (zz.1 7) (zz.2.2.2.1 5) (zz.2.2.2.1 6) (zz.1 8) (zz.1 9) (zz.1 10) (zz.2.2.2.1 9) (zz.2.2.2.1 10) (xs (i + 1)) (xs (i + 2)) 1 (by omega) (by omega) (by omega) (by omega) (by omega) (by omega) (by omega) (by omega) (by omega)) H.size) (cwV 3 hts (gV tw_604 tw_605 tw_606 tw_79 tw_607) rfl rfl rfl (by decide +kernel) ⟨Nat.le_of_ble_eq_true rfl, Nat.le_of_ble_eq_true rfl⟩) (pV hS hAlo hlo hP hK (va_Dlo hD hAlo) hZ [0, 3, 4, 5, 6, 9, 10, 11, 14, 15, 16] (by decide) rfl (ci := 7) (q := (RX7, TX7, 12)) (q0 := 0) rfl rfl) rfl rfl hl.1 rfl (lv_room (Nat.le_of_ble_eq_true rfl)) dL_law_387 ⟨Nat.le_of_ble_eq_true rfl, Nat.le_of_ble_eq_true rfl⟩) hS hA hP (fun r_6 H locs hw_6 hP hS => ?_)
    try dsimp only at hw_6
    refine lv_pop hx hb dL_law_390 rfl ?_
    refine lv_aload_n hx hb dL_law_391 rfl (lv_at hl 1 rfl) ?_
    refine lv_aload_n hx hb dL_law_392 rfl (lv_at hl 3 rfl) ?_
    refine lv_iload_n hx hb dL_law_393 rfl (lv_at hl 0 rfl) ?_
    refine lv_iconst (v := 1) hx hb dL_law_394 (by decide) ?_
    refine lv_iadd hx hb dL_law_395 ?_
    refine lv_ti (y := (nI (i + 1))) (nI_add i 1) ?_
    refine va_sld hx hb hX hbl hbA hS (vp_in_nI (by omega) (by omega)) dL_law_396 ?_
    refine lv_ti (y := xs (i + 1)) (by rw [nI_clamp (by omega)]) ?_
    refine lv_aload_n hx hb dL_law_397 rfl (lv_at hl 3 rfl) ?_
    refine lv_iload_n hx hb dL_law_398 rfl (lv_at hl 0 rfl) ?_
    refine lv_iconst (v := 2) hx hb dL_law_399 (by decide) ?_
    refine lv_iadd hx hb dL_law_400 ?_
    refine lv_ti (y := (nI (i + 2))) (nI_add i 2) ?_
    refine va_sld hx hb hX hbl hbA hS (vp_in_nI (by omega) (by omega)) dL_law_401 ?_
    refine lv_ti (y := xs (i + 2)) (by rw [nI_clamp (by omega)]) ?_
    refine lv_aload_n hx hb dL_law_402 rfl (lv_at hl 3 rfl) ?_
    refine lv_iload_n hx hb dL_law_403 rfl (lv_at hl 0 rfl) ?_
    refine lv_iconst (v := 3) hx hb dL_law_404 (by decide) ?_
    refine lv_iadd hx hb dL_law_405 ?_
    refine lv_ti (y := (nI (i + 3))) (nI_add i 3) ?_
    refine va_sld hx hb hX hbl hbA hS (vp_in_nI (by omega) (by omega)) dL_law_406 ?_
    refine lv_ti (y := xs (i + 3)) (by rw [nI_clamp (by omega)]) ?_
    refine lv_if_eq (tgt := 414) hx hb dL_law_407 (by decide) (fun c_7 => ?_) (fun c_7 => ?_)
    · refine lv_iconst (v := 0) hx hb dL_law_414 (by decide) ?_
      refine ro_i (D := D) (va_runV (As := [.int (xs (i + 1)), .int (xs (i + 2)), .int 0]) (rest := []) ⟨hx, hb, hml, hown, hts⟩ ((m_chance l D k st lo am (zz.1 28) (zz.1 29) (zz.1 30) (zz.1 31) (zz.1 32) (zz.1 33) (zz.1 34) (zz.2.1 21) zz.2.2.1 (zz.2.1 22) (zz.2.1 23) (zz.2.1 24) (zz.2.1 25) (zz.2.1 26) (zz.2.1 27) (zz.2.2.2.2 4) (zz.2.2.2.2 5) (zz.2.2.2.2 6) (zz.2.2.2.1 48) (zz.2.2.2.1 46) (zz.2.2.2.1 47) (xs (i + 1)) (xs (i + 2)) 0 o_mdn o_mse o_mtm) H.size) (cwV 3 hts (gV tw_1206 tw_1207 tw_1208 tw_87 tw_1209) rfl rfl rfl (by decide +kernel) ⟨Nat.le_of_ble_eq_true rfl, Nat.le_of_ble_eq_true rfl⟩) (pV hS hAlo hlo hP hK (va_Dlo hD hAlo) hZ [72, 73, 76, 74, 75] (by decide) rfl (ci := 8) (q := (RX8, TX8, 44)) (q0 := 0) rfl rfl) rfl rfl hl.1 rfl (lv_room (Nat.le_of_ble_eq_true rfl)) dL_law_415 ⟨Nat.le_of_ble_eq_true rfl, Nat.le_of_ble_eq_true rfl⟩) hS hA hP (fun r_8 H locs hw_8 hP hS => ?_)
      try dsimp only at hw_8
      refine lv_pop hx hb dL_law_418 rfl ?_
      refine lv_goto (tgt := 1505) hx hb dL_law_419 (by decide) ?_
      exact hT zz _ _ _ hO hP hD hS (lv_sub hl [0, 1, 2, 3] rfl)
    · refine lv_iconst (v := 1) hx hb dL_law_410 (by decide) ?_
      refine lv_goto (tgt := 415) hx hb dL_law_411 (by decide) ?_
      refine ro_i (D := D) (va_runV (As := [.int (xs (i + 1)), .int (xs (i + 2)), .int 1]) (rest := []) ⟨hx, hb, hml, hown, hts⟩ ((m_chance l D k st lo am (zz.1 28) (zz.1 29) (zz.1 30) (zz.1 31) (zz.1 32) (zz.1 33) (zz.1 34) (zz.2.1 21) zz.2.2.1 (zz.2.1 22) (zz.2.1 23) (zz.2.1 24) (zz.2.1 25) (zz.2.1 26) (zz.2.1 27) (zz.2.2.2.2 4) (zz.2.2.2.2 5) (zz.2.2.2.2 6) (zz.2.2.2.1 48) (zz.2.2.2.1 46) (zz.2.2.2.1 47) (xs (i + 1)) (xs (i + 2)) 1 o_mdn o_mse o_mtm) H.size) (cwV 3 hts (gV tw_1206 tw_1207 tw_1208 tw_87 tw_1209) rfl rfl rfl (by decide +kernel) ⟨Nat.le_of_ble_eq_true rfl, Nat.le_of_ble_eq_true rfl⟩) (pV hS hAlo hlo hP hK (va_Dlo hD hAlo) hZ [72, 73, 76, 74, 75] (by decide) rfl (ci := 8) (q := (RX8, TX8, 44)) (q0 := 0) rfl rfl) rfl rfl hl.1 rfl (lv_room (Nat.le_of_ble_eq_true rfl)) dL_law_415 ⟨Nat.le_of_ble_eq_true rfl, Nat.le_of_ble_eq_true rfl⟩) hS hA hP (fun r_9 H locs hw_9 hP hS => ?_)
      try dsimp only at hw_9
      refine lv_pop hx hb dL_law_418 rfl ?_
      refine lv_goto (tgt := 1505) hx hb dL_law_419 (by decide) ?_
      exact hT zz _ _ _ hO hP hD hS (lv_sub hl [0, 1, 2, 3] rfl)

