theorem f_glueP29 : True := trivial
/-! how many bits are set: as the library counts them -/
theorem ush {a : Nat} {y : Int32} (k : Nat) (ha : a < 2147483648) (hy : (y.toUInt32 &&& Int32.toUInt32 31).toNat % 32 = k) : ((nI a).toUInt32 >>> (y.toUInt32 &&& Int32.toUInt32 31)).toInt32 = nI (a / 2 ^ k) := by
  have e : (nI a).toUInt32 >>> (y.toUInt32 &&& Int32.toUInt32 31) = UInt32.ofNat (a / 2 ^ k) := by
    apply UInt32.toNat_inj.mp
    rw [UInt32.toNat_shiftRight, hy, show (nI a).toUInt32 = UInt32.ofNat a from rfl, UInt32.toNat_ofNat', UInt32.toNat_ofNat', Nat.shiftRight_eq_div_pow]
    have h := Nat.div_le_self a (2 ^ k)
    rw [Nat.mod_eq_of_lt (by omega), Nat.mod_eq_of_lt (by omega)]
  rw [e]
  rfl
theorem land16 {a b c d : Nat} (ha : a < 16) (hc : c < 16) : (a + 16 * b) &&& (c + 16 * d) = (a &&& c) + 16 * (b &&& d) := by
  have hac : a &&& c < 2 ^ 4 := Nat.lt_of_le_of_lt Nat.and_le_left ha
  apply Nat.eq_of_testBit_eq
  intro j
  rw [Nat.testBit_and, show a + 16 * b = 2 ^ 4 * b + a from Nat.add_comm _ _, show c + 16 * d = 2 ^ 4 * d + c from Nat.add_comm _ _, show (a &&& c) + 16 * (b &&& d) = 2 ^ 4 * (b &&& d) + (a &&& c) from Nat.add_comm _ _, Nat.testBit_two_pow_mul_add _ (show a < 2 ^ 4 from ha), Nat.testBit_two_pow_mul_add _ (show c < 2 ^ 4 from hc), Nat.testBit_two_pow_mul_add _ hac]
  by_cases h : j < 4
  · rw [if_pos h, if_pos h, if_pos h, Nat.testBit_and]
  · rw [if_neg h, if_neg h, if_neg h, Nat.testBit_and]
def m5 : Nat → Nat
  | 0 => 0
  | k + 1 => 5 + 16 * m5 k
def m3 : Nat → Nat
  | 0 => 0
  | k + 1 => 3 + 16 * m3 k
def sA (m V : Nat) : Nat := V - (V / 2 &&& m)
def sB (m A : Nat) : Nat := (A &&& m) + (A / 4 &&& m)
theorem dA : ∀ n, n < 16 → ∀ b, b < 2 → ((n / 2 + 8 * b) &&& 5) = (n / 2 &&& 5) := by decide
theorem dA2 : ∀ n, n < 16 → (n / 2 &&& 5) ≤ n := by decide
theorem dB : ∀ n, n < 16 → ∀ b, b < 4 → ((n / 4 + 4 * b) &&& 3) = (n / 4 &&& 3) := by decide
theorem dB2 : ∀ n, n < 16 → (n &&& 3) ≤ 3 ∧ (n / 4 &&& 3) ≤ 3 := by decide
theorem sA_s {n W k : Nat} (hn : n < 16) : sA (m5 (k + 1)) (n + 16 * W) = (n - (n / 2 &&& 5)) + 16 * sA (m5 k) W := by
  unfold sA
  have e : (n + 16 * W) / 2 = (n / 2 + 8 * (W % 2)) + 16 * (W / 2) := by omega
  have h1 := dA2 n hn
  have h2 : (W / 2 &&& m5 k) ≤ W := Nat.le_trans Nat.and_le_left (by omega)
  rw [e, show m5 (k + 1) = 5 + 16 * m5 k from rfl, land16 (by omega) (by omega), dA n hn (W % 2) (by omega)]
  generalize (n / 2 &&& 5) = x at h1 ⊢
  generalize (W / 2 &&& m5 k) = y at h2 ⊢
  omega
theorem sB_s {n W k : Nat} (hn : n < 16) : sB (m3 (k + 1)) (n + 16 * W) = ((n &&& 3) + (n / 4 &&& 3)) + 16 * sB (m3 k) W := by
  unfold sB
  have e : (n + 16 * W) / 4 = (n / 4 + 4 * (W % 4)) + 16 * (W / 4) := by omega
  rw [e, show m3 (k + 1) = 3 + 16 * m3 k from rfl, land16 hn (by omega), land16 (by omega) (by omega), dB n hn (W % 4) (by omega)]
  generalize (n &&& 3) = x
  generalize (n / 4 &&& 3) = y
  generalize (W &&& m3 k) = z
  generalize (W / 4 &&& m3 k) = u
  omega
def nb1 (n : Nat) : Nat := n - (n / 2 &&& 5)
def nb2 (n : Nat) : Nat := (nb1 n &&& 3) + (nb1 n / 4 &&& 3)
theorem nb1_lt : ∀ n, n < 16 → nb1 n < 16 := by decide
theorem nb2_is : ∀ n, n < 16 → nb2 n = n % 2 + n / 2 % 2 + n / 4 % 2 + n / 8 % 2 := by decide
theorem sAB_s {n W k : Nat} (hn : n < 16) : sB (m3 (k + 1)) (sA (m5 (k + 1)) (n + 16 * W)) = nb2 n + 16 * sB (m3 k) (sA (m5 k) W) := by
  rw [sA_s hn, show n - (n / 2 &&& 5) = nb1 n from rfl, sB_s (nb1_lt n hn)]
  rfl
theorem sAB_0 : sB (m3 2) (sA (m5 2) 0) = 0 := by decide
def finN (B : Nat) : Nat := ((((B + B / 16) &&& 252645135) + ((B + B / 16) &&& 252645135) / 256) + (((B + B / 16) &&& 252645135) + ((B + B / 16) &&& 252645135) / 256) / 65536) &&& 63
theorem fin_d : ∀ a, a < 5 → ∀ b, b < 5 → ∀ c, c < 5 → ∀ d, d < 5 → ∀ e, e < 5 → ∀ f, f < 5 → finN (a + 16 * (b + 16 * (c + 16 * (d + 16 * (e + 16 * (f + 16 * 0)))))) = a + b + c + d + e + f := by decide +kernel
def bs (V : Nat) : Nat → Nat
  | 0 => 0
  | k + 1 => bs V k + V / 2 ^ k % 2
theorem bs24 (V : Nat) : bs V 24 = 0 + V / 2 ^ 0 % 2 + V / 2 ^ 1 % 2 + V / 2 ^ 2 % 2 + V / 2 ^ 3 % 2 + V / 2 ^ 4 % 2 + V / 2 ^ 5 % 2 + V / 2 ^ 6 % 2 + V / 2 ^ 7 % 2 + V / 2 ^ 8 % 2 + V / 2 ^ 9 % 2 + V / 2 ^ 10 % 2 + V / 2 ^ 11 % 2 + V / 2 ^ 12 % 2 + V / 2 ^ 13 % 2 + V / 2 ^ 14 % 2 + V / 2 ^ 15 % 2 + V / 2 ^ 16 % 2 + V / 2 ^ 17 % 2 + V / 2 ^ 18 % 2 + V / 2 ^ 19 % 2 + V / 2 ^ 20 % 2 + V / 2 ^ 21 % 2 + V / 2 ^ 22 % 2 + V / 2 ^ 23 % 2 := rfl
theorem nib1 (U : Nat) : nb2 (U % 16) = U % 2 + U / 2 % 2 + U / 4 % 2 + U / 8 % 2 := by
  rw [nb2_is _ (Nat.mod_lt U (by omega))]
  omega
theorem nib (V m : Nat) : nb2 (V / 2 ^ m % 16) = V / 2 ^ m % 2 + V / 2 ^ (m + 1) % 2 + V / 2 ^ (m + 2) % 2 + V / 2 ^ (m + 3) % 2 := by
  have e1 : 2 ^ (m + 1) = 2 ^ m * 2 := Nat.pow_add 2 m 1
  have e2 : 2 ^ (m + 2) = 2 ^ m * 4 := Nat.pow_add 2 m 2
  have e3 : 2 ^ (m + 3) = 2 ^ m * 8 := Nat.pow_add 2 m 3
  rw [nib1, e1, e2, e3, Nat.div_div_eq_div_mul, Nat.div_div_eq_div_mul, Nat.div_div_eq_div_mul]
theorem nb2_lt : ∀ n, n < 16 → nb2 n < 5 := by decide
theorem sAB_6 {a b c d e f : Nat} (ha : a < 16) (hb : b < 16) (hc : c < 16) (hd : d < 16) (he : e < 16) (hf : f < 16) : finN (sB (m3 8) (sA (m5 8) (a + 16 * (b + 16 * (c + 16 * (d + 16 * (e + 16 * (f + 16 * 0)))))))) = nb2 a + nb2 b + nb2 c + nb2 d + nb2 e + nb2 f := by
  rw [sAB_s (k := 7) ha, sAB_s (k := 6) hb, sAB_s (k := 5) hc, sAB_s (k := 4) hd, sAB_s (k := 3) he, sAB_s (k := 2) hf, sAB_0]
  exact fin_d _ (nb2_lt _ ha) _ (nb2_lt _ hb) _ (nb2_lt _ hc) _ (nb2_lt _ hd) _ (nb2_lt _ he) _ (nb2_lt _ hf)
theorem bc_e {V : Nat} (hV : V < 16777216) : V / 1 % 16 + 16 * (V / 16 % 16 + 16 * (V / 256 % 16 + 16 * (V / 4096 % 16 + 16 * (V / 65536 % 16 + 16 * (V / 1048576 % 16 + 16 * 0))))) = V := by omega
theorem bc_N {V : Nat} (hV : V < 16777216) : finN (sB (m3 8) (sA (m5 8) V)) = bs V 24 := by
  have h := sAB_6 (a := V / 1 % 16) (b := V / 16 % 16) (c := V / 256 % 16) (d := V / 4096 % 16) (e := V / 65536 % 16) (f := V / 1048576 % 16) (Nat.mod_lt _ (by decide)) (Nat.mod_lt _ (by decide)) (Nat.mod_lt _ (by decide)) (Nat.mod_lt _ (by decide)) (Nat.mod_lt _ (by decide)) (Nat.mod_lt _ (by decide))
  rw [bc_e hV] at h
  have n0 : nb2 (V / 1 % 16) = V / 2 ^ 0 % 2 + V / 2 ^ 1 % 2 + V / 2 ^ 2 % 2 + V / 2 ^ 3 % 2 := nib V 0
  have n1 : nb2 (V / 16 % 16) = V / 2 ^ 4 % 2 + V / 2 ^ 5 % 2 + V / 2 ^ 6 % 2 + V / 2 ^ 7 % 2 := nib V 4
  have n2 : nb2 (V / 256 % 16) = V / 2 ^ 8 % 2 + V / 2 ^ 9 % 2 + V / 2 ^ 10 % 2 + V / 2 ^ 11 % 2 := nib V 8
  have n3 : nb2 (V / 4096 % 16) = V / 2 ^ 12 % 2 + V / 2 ^ 13 % 2 + V / 2 ^ 14 % 2 + V / 2 ^ 15 % 2 := nib V 12
  have n4 : nb2 (V / 65536 % 16) = V / 2 ^ 16 % 2 + V / 2 ^ 17 % 2 + V / 2 ^ 18 % 2 + V / 2 ^ 19 % 2 := nib V 16
  have n5 : nb2 (V / 1048576 % 16) = V / 2 ^ 20 % 2 + V / 2 ^ 21 % 2 + V / 2 ^ 22 % 2 + V / 2 ^ 23 % 2 := nib V 20
  rw [h, n0, n1, n2, n3, n4, n5, bs24]
  simp only [Nat.zero_add, Nat.add_assoc]
def cntN (f : Nat → Int32) : Nat → Nat
  | 0 => 0
  | n + 1 => cntN f n + (if f n = 1 then 1 else 0)
theorem bs_cnt {f : Nat → Int32} {z : Nat} : ∀ k, k ≤ z → bs (rowN f z) k = cntN f k := by
  intro k
  induction k with
  | zero => intro _; rfl
  | succ k ih =>
    intro h
    show bs (rowN f z) k + rowN f z / 2 ^ k % 2 = cntN f k + (if f k = 1 then 1 else 0)
    rw [ih (by omega), rowN_bit (show k < z from h)]
theorem bs_out {V z : Nat} (h : V < 2 ^ z) : ∀ k, z ≤ k → bs V k = bs V z := by
  intro k hk
  obtain ⟨m, rfl⟩ := Nat.exists_eq_add_of_le hk
  clear hk
  induction m with
  | zero => rfl
  | succ m ih =>
    show bs V (z + m) + V / 2 ^ (z + m) % 2 = bs V z
    rw [ih, Nat.div_eq_of_lt (Nat.lt_of_lt_of_le h (Nat.pow_le_pow_right (n := 2) (by omega) (Nat.le_add_right z m)))]
    rfl
theorem bc_row {f : Nat → Int32} {z : Nat} (hz : z ≤ 24) : finN (sB (m3 8) (sA (m5 8) (rowN f z))) = cntN f z := by
  rw [bc_N (rowN_24 hz), bs_out (rowN_lt f z) 24 hz, bs_cnt z (Nat.le_refl z)]
def usI (x y : Int32) : Int32 := (x.toUInt32 >>> (y.toUInt32 &&& Int32.toUInt32 31)).toInt32
def bcI (v : Int32) : Int32 := v - (usI v 1 &&& 1431655765)
def bcJ (a : Int32) : Int32 := (a &&& 858993459) + (usI a 2 &&& 858993459)
def bcK (b : Int32) : Int32 := (b + usI b 4) &&& 252645135
def bcL (c : Int32) : Int32 := c + usI c 8
def bcM (e : Int32) : Int32 := (e + usI e 16) &&& 63
theorem and_le_r {a b : Nat} : a &&& b ≤ b := Nat.and_le_right
theorem bc_I {V : Nat} (hV : V < 16777216) : bcM (bcL (bcK (bcJ (bcI (nI V))))) = nI (finN (sB (m3 8) (sA (m5 8) V))) := by
  have e5 : m5 8 = 1431655765 := by decide
  have e3 : m3 8 = 858993459 := by decide
  have h1 : bcI (nI V) = nI (sA (m5 8) V) := by
    unfold bcI usI sA
    rw [ush 1 (by omega) (by decide), show (1431655765 : Int32) = nI 1431655765 from rfl, nI_and, e5, Nat.pow_one, pk_sub (Nat.le_trans Nat.and_le_left (by omega))]
  have b1 : sA (m5 8) V ≤ V := Nat.sub_le _ _
  generalize sA (m5 8) V = A at h1 b1 ⊢
  have h2 : bcJ (nI A) = nI (sB (m3 8) A) := by
    unfold bcJ usI sB
    rw [ush 2 (by omega) (by decide), show (858993459 : Int32) = nI 858993459 from rfl, nI_and, nI_and, nI_add, e3]
  have b2 : sB (m3 8) A ≤ A + A / 4 := Nat.add_le_add Nat.and_le_left Nat.and_le_left
  generalize sB (m3 8) A = B at h2 b2 ⊢
  have h3 : bcK (nI B) = nI ((B + B / 16) &&& 252645135) := by
    unfold bcK usI
    rw [ush 4 (by omega) (by decide), show (252645135 : Int32) = nI 252645135 from rfl, nI_add, nI_and]
  have b3 : (B + B / 16) &&& 252645135 ≤ 252645135 := Nat.and_le_right
  unfold finN
  generalize (B + B / 16) &&& 252645135 = C at h3 b3 ⊢
  have h4 : bcL (nI C) = nI (C + C / 256) := by
    unfold bcL usI
    rw [ush 8 (by omega) (by decide), nI_add]
  have h5 : bcM (nI (C + C / 256)) = nI ((C + C / 256 + (C + C / 256) / 65536) &&& 63) := by
    unfold bcM usI
    rw [ush 16 (by omega) (by decide), show (63 : Int32) = nI 63 from rfl, nI_add, nI_and]
  rw [h1, h2, h3, h4, h5]
def cnP (a b c d e : Nat) (p r : Int32) : Prop := (p = 0 → r = nI a) ∧ (p = 1 → r = nI b) ∧ (p = 2 → r = nI c) ∧ (p = 3 → r = nI d) ∧ (p = 4 → r = nI e) ∧ (¬ p = 0 → ¬ p = 1 → ¬ p = 2 → ¬ p = 3 → ¬ p = 4 → r = -1002)
theorem cnP_fun {a b c d e : Nat} {p r q : Int32} (h : cnP a b c d e p r) (g : cnP a b c d e p q) : r = q := by
  obtain ⟨h0, h1, h2, h3, h4, h5⟩ := h
  obtain ⟨g0, g1, g2, g3, g4, g5⟩ := g
  rcases Classical.em (p = 0) with k0 | k0
  · exact (h0 k0).trans (g0 k0).symm
  rcases Classical.em (p = 1) with k1 | k1
  · exact (h1 k1).trans (g1 k1).symm
  rcases Classical.em (p = 2) with k2 | k2
  · exact (h2 k2).trans (g2 k2).symm
  rcases Classical.em (p = 3) with k3 | k3
  · exact (h3 k3).trans (g3 k3).symm
  rcases Classical.em (p = 4) with k4 | k4
  · exact (h4 k4).trans (g4 k4).symm
  exact (h5 k0 k1 k2 k3 k4).trans (g5 k0 k1 k2 k3 k4).symm


set_option maxHeartbeats 4000000 in
set_option maxRecDepth 100000 in
theorem y_bitCount (l : Launch) (D : va_G) (k : Nat → ClassId) (st : Nat → Nat) (lo : Nat) (p0 : Int32)  : CRi l D k st lo yJ6_bitCount_0f7a4 cJ6_bitCount_0f7a4 1 (some .int) ({ frames := 0, cells := 0, slots := 0, locals := 0 }) [.int p0] [] (fun r => r = bcM (bcL (bcK (bcJ (bcI p0))))) := by
  intro sz
  refine Met.ofW (cc := cJ6_bitCount_0f7a4) (maxL := 1) (ret := (some .int)) (by decide) rfl ?_
  intro p e s m args below meth c s₁ B hml hv
  obtain ⟨rfl, hsz, hlo, hP, hK, hDL, hZ⟩ := hv
  have hx := B.exec
  have hb := B.bytes
  have hr := B.returns
  have hts := WS_ts B.pre
  have hown : s.vm.findClass RJ6 = some m.cls := findClass_of_methodNamed B.named
  have hlocks := B.notSynchronized
  subst hsz
  have hA : ∀ q : Nat, s.heap.size ≤ q → (fun q : Nat => s.heap.size ≤ q) q := fun _ h => h
  have hAlo : ∀ q : Nat, (fun q : Nat => s.heap.size ≤ q) q → lo ≤ q := fun q h => Nat.le_trans hlo h
  have hS : va_S (fun q : Nat => s.heap.size ≤ q) s.heap s.heap [] := va_S.rf
  have hl := lv_entry ([.int p0]) (n := 1) (Nat.le_of_ble_eq_true rfl)
  rw [lg_entry_eq]
  generalize (lg_sl ([.int p0]) ++ List.replicate (1 - (lg_sl ([.int p0])).length) Slot.unset).toArray = ls at hl ⊢
  have hl : lv_has ls 1 [(0, .int p0)] := hl
  refine lv_iload_n hx hb dJ6_bitCount_0f7a4_0 rfl (lv_at hl 0 rfl) ?_
  refine lv_iload_n hx hb dJ6_bitCount_0f7a4_1 rfl (lv_at hl 0 rfl) ?_
  refine lv_iconst (v := 1) hx hb dJ6_bitCount_0f7a4_2 (by decide) ?_
  refine lv_iushr hx hb dJ6_bitCount_0f7a4_3 rfl ?_
  refine lv_topi (fun x_1 ex_1 => ?_)
  refine lv_ldcw hx hb hown (hts _ tw_948) dJ6_bitCount_0f7a4_4 ?_
  refine lv_iand hx hb dJ6_bitCount_0f7a4_7 ?_
  refine lv_topi (fun x_2 ex_2 => ?_)
  refine lv_isub hx hb dJ6_bitCount_0f7a4_8 ?_
  refine lv_topi (fun x_3 ex_3 => ?_)
  refine lv_istore_n (lv' := [(0, .int x_3)]) hx hb dJ6_bitCount_0f7a4_9 rfl hl (by decide) rfl (fun ls hl => ?_)
  refine lv_iload_n hx hb dJ6_bitCount_0f7a4_10 rfl (lv_at hl 0 rfl) ?_
  refine lv_ldcw hx hb hown (hts _ tw_949) dJ6_bitCount_0f7a4_11 ?_
  refine lv_iand hx hb dJ6_bitCount_0f7a4_14 ?_
  refine lv_topi (fun x_4 ex_4 => ?_)
  refine lv_iload_n hx hb dJ6_bitCount_0f7a4_15 rfl (lv_at hl 0 rfl) ?_
  refine lv_iconst (v := 2) hx hb dJ6_bitCount_0f7a4_16 (by decide) ?_
  refine lv_iushr hx hb dJ6_bitCount_0f7a4_17 rfl ?_
  refine lv_topi (fun x_5 ex_5 => ?_)
  refine lv_ldcw hx hb hown (hts _ tw_949) dJ6_bitCount_0f7a4_18 ?_
  refine lv_iand hx hb dJ6_bitCount_0f7a4_21 ?_
  refine lv_topi (fun x_6 ex_6 => ?_)
  refine lv_iadd hx hb dJ6_bitCount_0f7a4_22 ?_
  refine lv_topi (fun x_7 ex_7 => ?_)
  refine lv_istore_n (lv' := [(0, .int x_7)]) hx hb dJ6_bitCount_0f7a4_23 rfl hl (by decide) rfl (fun ls hl => ?_)
  refine lv_iload_n hx hb dJ6_bitCount_0f7a4_24 rfl (lv_at hl 0 rfl) ?_
  refine lv_iload_n hx hb dJ6_bitCount_0f7a4_25 rfl (lv_at hl 0 rfl) ?_
  refine lv_iconst (v := 4) hx hb dJ6_bitCount_0f7a4_26 (by decide) ?_
  refine lv_iushr hx hb dJ6_bitCount_0f7a4_27 rfl ?_
  refine lv_topi (fun x_8 ex_8 => ?_)
  refine lv_iadd hx hb dJ6_bitCount_0f7a4_28 ?_
  refine lv_topi (fun x_9 ex_9 => ?_)
  refine lv_ldcw hx hb hown (hts _ tw_950) dJ6_bitCount_0f7a4_29 ?_
  refine lv_iand hx hb dJ6_bitCount_0f7a4_32 ?_
  refine lv_topi (fun x_10 ex_10 => ?_)
  refine lv_istore_n (lv' := [(0, .int x_10)]) hx hb dJ6_bitCount_0f7a4_33 rfl hl (by decide) rfl (fun ls hl => ?_)
  refine lv_iload_n hx hb dJ6_bitCount_0f7a4_34 rfl (lv_at hl 0 rfl) ?_
  refine lv_iload_n hx hb dJ6_bitCount_0f7a4_35 rfl (lv_at hl 0 rfl) ?_
  refine lv_bipush (v := 8) hx hb dJ6_bitCount_0f7a4_36 (by decide) ?_
  refine lv_iushr hx hb dJ6_bitCount_0f7a4_38 rfl ?_
  refine lv_topi (fun x_11 ex_11 => ?_)
  refine lv_iadd hx hb dJ6_bitCount_0f7a4_39 ?_
  refine lv_topi (fun x_12 ex_12 => ?_)
  refine lv_istore_n (lv' := [(0, .int x_12)]) hx hb dJ6_bitCount_0f7a4_40 rfl hl (by decide) rfl (fun ls hl => ?_)
  refine lv_iload_n hx hb dJ6_bitCount_0f7a4_41 rfl (lv_at hl 0 rfl) ?_
  refine lv_iload_n hx hb dJ6_bitCount_0f7a4_42 rfl (lv_at hl 0 rfl) ?_
  refine lv_bipush (v := 16) hx hb dJ6_bitCount_0f7a4_43 (by decide) ?_
  refine lv_iushr hx hb dJ6_bitCount_0f7a4_45 rfl ?_
  refine lv_topi (fun x_13 ex_13 => ?_)
  refine lv_iadd hx hb dJ6_bitCount_0f7a4_46 ?_
  refine lv_topi (fun x_14 ex_14 => ?_)
  refine lv_istore_n (lv' := [(0, .int x_14)]) hx hb dJ6_bitCount_0f7a4_47 rfl hl (by decide) rfl (fun ls hl => ?_)
  refine lv_iload_n hx hb dJ6_bitCount_0f7a4_48 rfl (lv_at hl 0 rfl) ?_
  refine lv_bipush (v := 63) hx hb dJ6_bitCount_0f7a4_49 (by decide) ?_
  refine lv_iand hx hb dJ6_bitCount_0f7a4_51 ?_
  refine lv_topi (fun x_15 ex_15 => ?_)
  exact W.iret (v := x_15) hx hb hr (fun t ht hW => ⟨⟨x_15, (), rfl, (by rw [ex_15, ex_14, ex_13, ex_12, ex_11, ex_10, ex_9, ex_8, ex_7, ex_6, ex_5, ex_4, ex_3, ex_2, ex_1]; rfl), trivial⟩, hS.F ht⟩) hS.2.2 dJ6_bitCount_0f7a4_52


set_option maxHeartbeats 4000000 in
set_option maxRecDepth 100000 in
theorem y_count (l : Launch) (D : va_G) (k : Nat → ClassId) (st : Nat → Nat) (lo : Nat) (a : Nat → Nat) (rk : Nat) (lfa : Int32) (cc : Nat) (rz : Nat) (ro : Int32) (sd : Int32) (tz : Nat) (ta : Int32) (na : Int32) (fn : Int32) (fb : Int32) (p0 : Int32) (fr : Nat → Int32) (hrz : rz ≤ 24) (hro : ro = nI (rowN fr rz)) : CRi l D k st lo yX7_count cX7_count 2 (some .int) ({ frames := 1, cells := 0, slots := 0, locals := 20 }) [.ref (a 0), .int p0] [((a 0), .inr (7, (fX7 (a 1) (a 3) (a 19) (a 35) (a 40) (nI rk) lfa (a 53) (a 56) (a 63) (a 64) (a 68)))), ((a 53), .inr (4, (fX4 (a 54) (a 55) (nI cc) (nI rz) ro sd))), ((a 1), .inr (6, (fX6 (a 2) (nI tz) ta na fn fb)))] (fun r => cnP rk rz (cntN fr rz) cc tz p0 r) := by
  intro sz
  refine Met.ofW (cc := cX7_count) (maxL := 2) (ret := (some .int)) (by decide) rfl ?_
  intro p e s m args below meth c s₁ B hml hv
  obtain ⟨rfl, hsz, hlo, hP, hK, hDL, hZ⟩ := hv
  have hx := B.exec
  have hb := B.bytes
  have hr := B.returns
  have hts := WS_ts B.pre
  have hown : s.vm.findClass RX7 = some m.cls := findClass_of_methodNamed B.named
  have hlocks := B.notSynchronized
  subst hsz
  have hA : ∀ q : Nat, s.heap.size ≤ q → (fun q : Nat => s.heap.size ≤ q) q := fun _ h => h
  have hAlo : ∀ q : Nat, (fun q : Nat => s.heap.size ≤ q) q → lo ≤ q := fun q h => Nat.le_trans hlo h
  have hS : va_S (fun q : Nat => s.heap.size ≤ q) s.heap s.heap [] := va_S.rf
  have hl := lv_entry ([.ref (a 0), .int p0]) (n := 2) (Nat.le_of_ble_eq_true rfl)
  rw [lg_entry_eq]
  generalize (lg_sl ([.ref (a 0), .int p0]) ++ List.replicate (2 - (lg_sl ([.ref (a 0), .int p0])).length) Slot.unset).toArray = ls at hl ⊢
  have hl : lv_has ls 2 [(0, .ref (a 0)), (1, .int p0)] := hl
  refine lv_iload_n hx hb dX7_count_0 rfl (lv_at hl 1 rfl) ?_
  rcases sw5 p0 with rfl | rfl | rfl | rfl | rfl | hsw_1
  · refine lv_tableIn (tgt := 36) hx hb dX7_count_1 (by decide) (by decide) rfl (by decide) ?_
    refine lv_aload_n hx hb dX7_count_36 rfl (lv_at hl 0 rfl) ?_
    refine va_get (D := D) (ci := 7) (v := .int (nI rk)) (C := RX7) (T := TX7) (N := 12) hx hb hts inX7 hown hK hP 0 rfl rfl 5 (by decide) (hts _ tw_310) (fun _ h9 => h9) rfl dX7_count_37 ?_
    exact W.iret (v := (nI rk)) hx hb hr (fun t ht hW => ⟨⟨(nI rk), (), rfl, ⟨fun _ => rfl, fun h => absurd h (by decide), fun h => absurd h (by decide), fun h => absurd h (by decide), fun h => absurd h (by decide), fun h0 h1 h2 h3 h4 => absurd rfl h0⟩, trivial⟩, hS.F ht⟩) hS.2.2 dX7_count_40
  · refine lv_tableIn (tgt := 41) hx hb dX7_count_1 (by decide) (by decide) rfl (by decide) ?_
    refine lv_aload_n hx hb dX7_count_41 rfl (lv_at hl 0 rfl) ?_
    refine va_get (D := D) (ci := 7) (v := .ref (a 53)) (C := RX7) (T := TX7) (N := 12) hx hb hts inX7 hown hK hP 0 rfl rfl 7 (by decide) (hts _ tw_312) (fun _ h9 => h9) rfl dX7_count_42 ?_
    refine va_get (D := D) (ci := 4) (v := .int (nI rz)) (C := RX4) (T := TX4) (N := 6) hx hb hts inX4 hown hK hP 1 rfl rfl 3 (by decide) (hts _ tw_184) (fun _ h9 => h9) rfl dX7_count_45 ?_
    exact W.iret (v := (nI rz)) hx hb hr (fun t ht hW => ⟨⟨(nI rz), (), rfl, ⟨fun h => absurd h (by decide), fun _ => rfl, fun h => absurd h (by decide), fun h => absurd h (by decide), fun h => absurd h (by decide), fun h0 h1 h2 h3 h4 => absurd rfl h1⟩, trivial⟩, hS.F ht⟩) hS.2.2 dX7_count_48
  · refine lv_tableIn (tgt := 49) hx hb dX7_count_1 (by decide) (by decide) rfl (by decide) ?_
    refine lv_aload_n hx hb dX7_count_49 rfl (lv_at hl 0 rfl) ?_
    refine va_get (D := D) (ci := 7) (v := .ref (a 53)) (C := RX7) (T := TX7) (N := 12) hx hb hts inX7 hown hK hP 0 rfl rfl 7 (by decide) (hts _ tw_312) (fun _ h9 => h9) rfl dX7_count_50 ?_
    refine va_get (D := D) (ci := 4) (v := .int ro) (C := RX4) (T := TX4) (N := 6) hx hb hts inX4 hown hK hP 1 rfl rfl 4 (by decide) (hts _ tw_187) (fun _ h9 => h9) rfl dX7_count_53 ?_
    refine ro_i (D := D) (va_runS (As := [.int ro]) (rest := []) ⟨hx, hb, hml, hown, hts⟩ ((y_bitCount l D k st lo ro) s.heap.size) (va_cwS 1 hts (gS tw_945 tw_946 tw_94 tw_947) rfl rfl rfl (by decide +kernel) ⟨Nat.le_of_ble_eq_true rfl, Nat.le_of_ble_eq_true rfl⟩) (pS hS hAlo hlo hP hK hDL hZ [] (by decide) rfl) rfl rfl hl.1 rfl (lv_room (Nat.le_of_ble_eq_true rfl)) dX7_count_56 ⟨Nat.le_of_ble_eq_true rfl, Nat.le_of_ble_eq_true rfl⟩) hS hA hP (fun r_2 H locs hw_2 hP hS => ?_)
    try dsimp only at hw_2
    exact W.iret (v := r_2) hx hb hr (fun t ht hW => ⟨⟨r_2, (), rfl, ⟨fun h => absurd h (by decide), fun h => absurd h (by decide), fun _ => (hw_2.trans (by rw [hro, bc_I (rowN_24 hrz), bc_row hrz])), fun h => absurd h (by decide), fun h => absurd h (by decide), fun h0 h1 h2 h3 h4 => absurd rfl h2⟩, trivial⟩, hS.F ht⟩) hS.2.2 dX7_count_59
  · refine lv_tableIn (tgt := 60) hx hb dX7_count_1 (by decide) (by decide) rfl (by decide) ?_
    refine lv_aload_n hx hb dX7_count_60 rfl (lv_at hl 0 rfl) ?_
    refine va_get (D := D) (ci := 7) (v := .ref (a 53)) (C := RX7) (T := TX7) (N := 12) hx hb hts inX7 hown hK hP 0 rfl rfl 7 (by decide) (hts _ tw_312) (fun _ h9 => h9) rfl dX7_count_61 ?_
    refine va_get (D := D) (ci := 4) (v := .int (nI cc)) (C := RX4) (T := TX4) (N := 6) hx hb hts inX4 hown hK hP 1 rfl rfl 2 (by decide) (hts _ tw_180) (fun _ h9 => h9) rfl dX7_count_64 ?_
    exact W.iret (v := (nI cc)) hx hb hr (fun t ht hW => ⟨⟨(nI cc), (), rfl, ⟨fun h => absurd h (by decide), fun h => absurd h (by decide), fun h => absurd h (by decide), fun _ => rfl, fun h => absurd h (by decide), fun h0 h1 h2 h3 h4 => absurd rfl h3⟩, trivial⟩, hS.F ht⟩) hS.2.2 dX7_count_67
  · refine lv_tableIn (tgt := 68) hx hb dX7_count_1 (by decide) (by decide) rfl (by decide) ?_
    refine lv_aload_n hx hb dX7_count_68 rfl (lv_at hl 0 rfl) ?_
    refine va_get (D := D) (ci := 7) (v := .ref (a 1)) (C := RX7) (T := TX7) (N := 12) hx hb hts inX7 hown hK hP 0 rfl rfl 0 (by decide) (hts _ tw_305) (fun _ h9 => h9) rfl dX7_count_69 ?_
    refine va_get (D := D) (ci := 6) (v := .int (nI tz)) (C := RX6) (T := TX6) (N := 6) hx hb hts inX6 hown hK hP 2 rfl rfl 1 (by decide) (hts _ tw_111) (fun _ h9 => h9) rfl dX7_count_72 ?_
    exact W.iret (v := (nI tz)) hx hb hr (fun t ht hW => ⟨⟨(nI tz), (), rfl, ⟨fun h => absurd h (by decide), fun h => absurd h (by decide), fun h => absurd h (by decide), fun h => absurd h (by decide), fun _ => rfl, fun h0 h1 h2 h3 h4 => absurd rfl h4⟩, trivial⟩, hS.F ht⟩) hS.2.2 dX7_count_75
  · refine lv_tableOut (tgt := 76) hx hb dX7_count_1 hsw_1 (by decide) ?_
    refine lv_sipush (v := (-1002)) hx hb dX7_count_76 (by decide) ?_
    exact W.iret (v := (-1002)) hx hb hr (fun t ht hW => ⟨⟨(-1002), (), rfl, ⟨fun h => absurd hsw_1 (by rw [h]; decide), fun h => absurd hsw_1 (by rw [h]; decide), fun h => absurd hsw_1 (by rw [h]; decide), fun h => absurd hsw_1 (by rw [h]; decide), fun h => absurd hsw_1 (by rw [h]; decide), fun _ _ _ _ _ => rfl⟩, trivial⟩, hS.F ht⟩) hS.2.2 dX7_count_79


set_option maxHeartbeats 4000000 in
set_option maxRecDepth 100000 in
theorem n_count (l : Launch) (D : va_G) (k : Nat → ClassId) (st : Nat → Nat) (lo : Nat) (a : Nat → Nat) (tx : Nat) (t0 : Nat) (we : Nat) (rd : Nat) (ru : Nat) (rw : Nat) (ca : Nat) (fp : Int32) (wd : Int64) (nu : Int32) (na : Int32) (ts : Int32) (df : Int32) (db : Int32) (sd : Int32) (frow : Nat → Int32) (p0 : Int32) (hrw : rw ≤ 24) (hfr : ∀ i, i < 24 → frow i = 0 ∨ frow i = 1) : CRi l D k st lo yX8_count cX8_count 4 (some .int) ({ frames := 0, cells := 0, slots := 0, locals := 0 }) [.ref (a 0), .int p0] [((a 0), .inr (8, (fX8 a (nI tx) fp (nI t0) wd (nI we) nu na (nI rd) ts (nI ru) (nI rw) (nI ca) df db sd))), (aZ k (a 32) 24 frow)] (fun r => cnP ru rw (cntN frow rw) ca tx p0 r) := by
  intro sz
  refine Met.ofW (cc := cX8_count) (maxL := 4) (ret := (some .int)) (by decide) rfl ?_
  intro p e s m args below meth c s₁ B hml hv
  obtain ⟨rfl, hsz, hlo, hP, hK, hDL, hZ⟩ := hv
  have hx := B.exec
  have hb := B.bytes
  have hr := B.returns
  have hts := WS_ts B.pre
  have hown : s.vm.findClass RX8 = some m.cls := findClass_of_methodNamed B.named
  have hlocks := B.notSynchronized
  subst hsz
  have hA : ∀ q : Nat, s.heap.size ≤ q → (fun q : Nat => s.heap.size ≤ q) q := fun _ h => h
  have hAlo : ∀ q : Nat, (fun q : Nat => s.heap.size ≤ q) q → lo ≤ q := fun q h => Nat.le_trans hlo h
  have hS : va_S (fun q : Nat => s.heap.size ≤ q) s.heap s.heap [] := va_S.rf
  have hl := lv_entry ([.ref (a 0), .int p0]) (n := 4) (Nat.le_of_ble_eq_true rfl)
  rw [lg_entry_eq]
  generalize (lg_sl ([.ref (a 0), .int p0]) ++ List.replicate (4 - (lg_sl ([.ref (a 0), .int p0])).length) Slot.unset).toArray = ls at hl ⊢
  have hl : lv_has ls 4 [(0, .ref (a 0)), (1, .int p0)] := hl
  refine lv_iconst (v := 0) hx hb dX8_count_0 (by decide) ?_
  refine lv_istore_n (lv' := [(2, .int 0), (0, .ref (a 0)), (1, .int p0)]) hx hb dX8_count_1 rfl hl (by decide) rfl (fun ls hl => ?_)
  refine lv_iconst (v := 0) hx hb dX8_count_2 (by decide) ?_
  refine lv_istore_n (lv' := [(3, .int 0), (2, .int 0), (0, .ref (a 0)), (1, .int p0)]) hx hb dX8_count_3 rfl hl (by decide) rfl (fun ls hl => ?_)
  refine W_loop (σ := Nat × Nat) (fun (n_ : Nat) (x_ : Nat × Nat) (H : Heap) (locs : List Loc) (ls : Array Slot) => match x_ with | (ii_1, fc_1) => n_ = rw - ii_1 ∧ (ii_1 ≤ rw ∧ fc_1 = cntN frow ii_1) ∧ va_P D classes [((a 0), .inr (8, (fX8 a (nI tx) fp (nI t0) wd (nI we) nu na (nI rd) ts (nI ru) (nI rw) (nI ca) df db sd))), (aZ k (a 32) 24 frow)] H ∧ va_S (fun q : Nat => s.heap.size ≤ q) s.heap H locs ∧ lv_has ls 4 [(3, .int (nI ii_1)), (2, .int (nI fc_1)), (0, .ref (a 0)), (1, .int p0)]) (fun n_1 x_1 H locs ls hI ih_1 => ?_) _ (0, 0) ⟨rfl, ⟨by omega, rfl⟩, hP, hS, (lv_sub hl [0, 1, 2, 3] rfl)⟩
  obtain ⟨ii_1, fc_1⟩ := x_1
  obtain ⟨hm_1, hv_1, hP, hS, hl⟩ := hI
  subst hm_1
  refine lv_iload_n hx hb dX8_count_4 rfl (lv_at hl 0 rfl) ?_
  refine lv_aload_n hx hb dX8_count_5 rfl (lv_at hl 2 rfl) ?_
  refine va_get (D := D) (ci := 8) (v := .int (nI rw)) (C := RX8) (T := TX8) (N := 44) hx hb hts inX8 hown hK hP 0 rfl rfl 30 (by decide) (hts _ tw_1003) (fun _ h9 => h9) rfl dX8_count_6 ?_
  refine lv_icmp_ge (tgt := 35) hx hb dX8_count_9 (by decide) (fun c_2 => ?_) (fun c_2 => ?_)
  · have c_2 := (nI_leI (a := rw) (b := ii_1) (by omega) (by omega)).mp c_2
    refine lv_iload_n hx hb dX8_count_35 rfl (lv_at hl 3 rfl) ?_
    rcases sw5 p0 with rfl | rfl | rfl | rfl | rfl | hsw_3
    · refine lv_tableIn (tgt := 72) hx hb dX8_count_36 (by decide) (by decide) rfl (by decide) ?_
      refine lv_aload_n hx hb dX8_count_72 rfl (lv_at hl 2 rfl) ?_
      refine va_get (D := D) (ci := 8) (v := .int (nI ru)) (C := RX8) (T := TX8) (N := 44) hx hb hts inX8 hown hK hP 0 rfl rfl 23 (by decide) (hts _ tw_996) (fun _ h9 => h9) rfl dX8_count_73 ?_
      exact W.iret (v := (nI ru)) hx hb hr (fun t ht hW => ⟨⟨(nI ru), (), rfl, ⟨fun _ => rfl, fun h => absurd h (by decide), fun h => absurd h (by decide), fun h => absurd h (by decide), fun h => absurd h (by decide), fun h0 h1 h2 h3 h4 => absurd rfl h0⟩, trivial⟩, hS.F ht⟩) hS.2.2 dX8_count_76
    · refine lv_tableIn (tgt := 77) hx hb dX8_count_36 (by decide) (by decide) rfl (by decide) ?_
      refine lv_aload_n hx hb dX8_count_77 rfl (lv_at hl 2 rfl) ?_
      refine va_get (D := D) (ci := 8) (v := .int (nI rw)) (C := RX8) (T := TX8) (N := 44) hx hb hts inX8 hown hK hP 0 rfl rfl 30 (by decide) (hts _ tw_1003) (fun _ h9 => h9) rfl dX8_count_78 ?_
      exact W.iret (v := (nI rw)) hx hb hr (fun t ht hW => ⟨⟨(nI rw), (), rfl, ⟨fun h => absurd h (by decide), fun _ => rfl, fun h => absurd h (by decide), fun h => absurd h (by decide), fun h => absurd h (by decide), fun h0 h1 h2 h3 h4 => absurd rfl h1⟩, trivial⟩, hS.F ht⟩) hS.2.2 dX8_count_81
    · refine lv_tableIn (tgt := 82) hx hb dX8_count_36 (by decide) (by decide) rfl (by decide) ?_
      refine lv_iload_n hx hb dX8_count_82 rfl (lv_at hl 1 rfl) ?_
      exact W.iret (v := (nI fc_1)) hx hb hr (fun t ht hW => ⟨⟨(nI fc_1), (), rfl, ⟨fun h => absurd h (by decide), fun h => absurd h (by decide), fun _ => (congrArg nI (show fc_1 = cntN frow rw by rw [hv_1.2, show ii_1 = rw by omega])), fun h => absurd h (by decide), fun h => absurd h (by decide), fun h0 h1 h2 h3 h4 => absurd rfl h2⟩, trivial⟩, hS.F ht⟩) hS.2.2 dX8_count_83
    · refine lv_tableIn (tgt := 84) hx hb dX8_count_36 (by decide) (by decide) rfl (by decide) ?_
      refine lv_aload_n hx hb dX8_count_84 rfl (lv_at hl 2 rfl) ?_
      refine va_get (D := D) (ci := 8) (v := .int (nI ca)) (C := RX8) (T := TX8) (N := 44) hx hb hts inX8 hown hK hP 0 rfl rfl 34 (by decide) (hts _ tw_1007) (fun _ h9 => h9) rfl dX8_count_85 ?_
      exact W.iret (v := (nI ca)) hx hb hr (fun t ht hW => ⟨⟨(nI ca), (), rfl, ⟨fun h => absurd h (by decide), fun h => absurd h (by decide), fun h => absurd h (by decide), fun _ => rfl, fun h => absurd h (by decide), fun h0 h1 h2 h3 h4 => absurd rfl h3⟩, trivial⟩, hS.F ht⟩) hS.2.2 dX8_count_88
    · refine lv_tableIn (tgt := 89) hx hb dX8_count_36 (by decide) (by decide) rfl (by decide) ?_
      refine lv_aload_n hx hb dX8_count_89 rfl (lv_at hl 2 rfl) ?_
      refine va_get (D := D) (ci := 8) (v := .int (nI tx)) (C := RX8) (T := TX8) (N := 44) hx hb hts inX8 hown hK hP 0 rfl rfl 5 (by decide) (hts _ tw_978) (fun _ h9 => h9) rfl dX8_count_90 ?_
      exact W.iret (v := (nI tx)) hx hb hr (fun t ht hW => ⟨⟨(nI tx), (), rfl, ⟨fun h => absurd h (by decide), fun h => absurd h (by decide), fun h => absurd h (by decide), fun h => absurd h (by decide), fun _ => rfl, fun h0 h1 h2 h3 h4 => absurd rfl h4⟩, trivial⟩, hS.F ht⟩) hS.2.2 dX8_count_93
    · refine lv_tableOut (tgt := 94) hx hb dX8_count_36 hsw_3 (by decide) ?_
      refine lv_sipush (v := (-1002)) hx hb dX8_count_94 (by decide) ?_
      exact W.iret (v := (-1002)) hx hb hr (fun t ht hW => ⟨⟨(-1002), (), rfl, ⟨fun h => absurd hsw_3 (by rw [h]; decide), fun h => absurd hsw_3 (by rw [h]; decide), fun h => absurd hsw_3 (by rw [h]; decide), fun h => absurd hsw_3 (by rw [h]; decide), fun h => absurd hsw_3 (by rw [h]; decide), fun _ _ _ _ _ => rfl⟩, trivial⟩, hS.F ht⟩) hS.2.2 dX8_count_97
  · have c_2 : ¬ (rw ≤ ii_1) := fun h => c_2 ((nI_leI (a := rw) (b := ii_1) (by omega) (by omega)).mpr h)
    refine lv_iload_n hx hb dX8_count_12 rfl (lv_at hl 1 rfl) ?_
    refine lv_aload_n hx hb dX8_count_13 rfl (lv_at hl 2 rfl) ?_
    refine va_get (D := D) (ci := 8) (v := .ref (a 32)) (C := RX8) (T := TX8) (N := 44) hx hb hts inX8 hown hK hP 0 rfl rfl 31 (by decide) (hts _ tw_1004) (fun _ h9 => h9) rfl dX8_count_14 ?_
    refine lv_iload_n hx hb dX8_count_17 rfl (lv_at hl 0 rfl) ?_
    refine va_zald hx hb hK hP 1 2 rfl rfl (vp_in_nI (by omega) (by decide)) dX8_count_18 ?_
    refine lv_ti (y := (frow ii_1)) (by rw [nI_clamp (by omega)]) ?_
    refine lv_if_eq (tgt := 26) hx hb dX8_count_19 (by decide) (fun c_4 => ?_) (fun c_4 => ?_)
    · refine lv_iconst (v := 0) hx hb dX8_count_26 (by decide) ?_
      refine lv_iadd hx hb dX8_count_27 ?_
      refine lv_ti (y := (nI (fc_1 + 0))) (nI_add fc_1 0) ?_
      refine lv_istore_n (lv' := [(2, .int (nI (fc_1 + 0))), (3, .int (nI ii_1)), (0, .ref (a 0)), (1, .int p0)]) hx hb dX8_count_28 rfl hl (by decide) rfl (fun ls hl => ?_)
      refine lv_iinc (v := (nI (ii_1 + 1))) (lv' := [(3, .int (nI (ii_1 + 1))), (2, .int (nI (fc_1 + 0))), (0, .ref (a 0)), (1, .int p0)]) hx hb dX8_count_29 hl (k := 1) rfl (nI_add ii_1 1) (by decide) rfl (fun ls hl => ?_)
      refine lv_goto (tgt := 4) hx hb dX8_count_32 (by decide) ?_
      exact ih_1 _ (ii_1 + 1, fc_1 + 0) _ _ _ (by omega) ⟨rfl, ⟨by omega, (by show _ = cntN frow ii_1 + (if frow ii_1 = 1 then 1 else 0); rw [if_neg (by rw [c_4]; decide), ← hv_1.2])⟩, hP, hS, (lv_sub hl [0, 1, 2, 3] rfl)⟩
    · refine lv_iconst (v := 1) hx hb dX8_count_22 (by decide) ?_
      refine lv_goto (tgt := 27) hx hb dX8_count_23 (by decide) ?_
      refine lv_iadd hx hb dX8_count_27 ?_
      refine lv_ti (y := (nI (fc_1 + 1))) (nI_add fc_1 1) ?_
      refine lv_istore_n (lv' := [(2, .int (nI (fc_1 + 1))), (3, .int (nI ii_1)), (0, .ref (a 0)), (1, .int p0)]) hx hb dX8_count_28 rfl hl (by decide) rfl (fun ls hl => ?_)
      refine lv_iinc (v := (nI (ii_1 + 1))) (lv' := [(3, .int (nI (ii_1 + 1))), (2, .int (nI (fc_1 + 1))), (0, .ref (a 0)), (1, .int p0)]) hx hb dX8_count_29 hl (k := 1) rfl (nI_add ii_1 1) (by decide) rfl (fun ls hl => ?_)
      refine lv_goto (tgt := 4) hx hb dX8_count_32 (by decide) ?_
      exact ih_1 _ (ii_1 + 1, fc_1 + 1) _ _ _ (by omega) ⟨rfl, ⟨by omega, (by show _ = cntN frow ii_1 + (if frow ii_1 = 1 then 1 else 0); rw [if_pos ((hfr _ (by omega)).resolve_left c_4), ← hv_1.2])⟩, hP, hS, (lv_sub hl [0, 1, 2, 3] rfl)⟩

