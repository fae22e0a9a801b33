theorem m_glue13 : True := trivial
theorem lgc0 {x y : Int64} (h : lg_cmp x y = 0) : x = y :=
  Int64.le_antisymm (Int64.not_lt.mp (fun q => absurd ((lg_cmp_gt x y).mpr q) (by rw [h]; decide))) (Int64.not_lt.mp (fun q => absurd ((lg_cmp_lt x y).mpr q) (by rw [h]; decide)))
/-- a word of fewer than three letters is small -/
def wB (n : Nat) (w : Int64) : Prop := n < 3 → ∃ v : Nat, v < 27 ^ n ∧ w = Int64.ofNat v
abbrev bigW (q : Int64) : Prop := ∀ v, v < 729 → q ≠ Int64.ofNat v
theorem wB0 (t : Nat) : wB (t - t) 0 := fun _ => ⟨0, by rw [Nat.sub_self]; decide, rfl⟩
theorem wB_key : ∀ v, v < 27 → ∀ d, d < 26 → ((27 : Int32).toInt64) * Int64.ofNat v + (nI (97 + d)).toInt64 - ((96 : Int32).toInt64) = Int64.ofNat (27 * v + d + 1) := by decide +kernel
theorem wB_lt {n v : Nat} (hn : n < 2) (h : v < 27 ^ n) : v < 27 ∧ 27 * v + 26 < 27 ^ (n + 1) := by
  rcases (show n = 0 ∨ n = 1 by omega) with rfl | rfl
  · have h2 : v < 1 := h
    exact ⟨by omega, by show 27 * v + 26 < 27; omega⟩
  · have h2 : v < 27 := h
    exact ⟨by omega, by show 27 * v + 26 < 729; omega⟩
theorem wB_step {t e2 : Nat} {w : Int64} {x : Int32} (ht : t ≤ e2) (h : wB (e2 - t) w) (hc : inB x 97 122) : wB (e2 + 1 - t) (((27 : Int32).toInt64) * w + x.toInt64 - ((96 : Int32).toInt64)) := by
  intro hn
  obtain ⟨v, hv, rfl⟩ := h (by omega)
  obtain ⟨j, h1, h2, rfl⟩ := inB_ofc (a := 97) (b := 122) (by omega) (by omega) hc
  obtain ⟨d, rfl⟩ : ∃ d, j = 97 + d := ⟨j - 97, by omega⟩
  have h3 := wB_lt (by omega) hv
  refine ⟨27 * v + d + 1, ?_, wB_key v h3.1 d (by omega)⟩
  have e : e2 + 1 - t = e2 - t + 1 := by omega
  rw [e]
  omega
theorem wB_far_key : ∀ v, v < 27 → lg_cmp (Int64.ofNat v) 1000000000000 ≤ 0 := by decide +kernel
theorem wB_far {t e2 : Nat} {w : Int64} (ht : t ≤ e2) (h : wB (e2 - t) w) (hc : ¬ lg_cmp w 1000000000000 ≤ 0) (y : Int64) : wB (e2 + 1 - t) y := by
  intro hn
  obtain ⟨v, hv, rfl⟩ := h (by omega)
  exact absurd (wB_far_key v (wB_lt (by omega) hv).1) hc
theorem wB_big {n : Nat} {w : Int64} (h : wB n w) (hb : bigW w) : 3 ≤ n := by
  rcases Nat.lt_or_ge n 3 with hn | hn
  · obtain ⟨v, hv, e⟩ := h hn
    have h2 : 27 ^ n ≤ 27 ^ 2 := Nat.pow_le_pow_right (by omega) (by omega)
    exact absurd e (hb v (by have : (27 : Nat) ^ 2 = 729 := rfl; omega))
  · exact hn
/-- what images keep: row's size, cars, bars -/
def imP (k : Nat) (v : Int32) : Prop := (k = 0 → ∃ a : Nat, a ≤ 24 ∧ v = nI a) ∧ (k = 1 → ∃ a : Nat, a ≤ 4 ∧ v = nI a) ∧ (31 ≤ k → ∃ a : Nat, a ≤ 24 ∧ v = nI a)
def imOK (f : Nat → Int32) : Prop := ∀ j, imP (j % 35) (f j)
theorem imOK_upd {f : Nat → Int32} (h : imOK f) (i : Nat) (x : Int32) (hx : imP (i % 35) x) : imOK (upd f i x) := by
  intro j
  unfold upd
  by_cases hj : j = i
  · rw [if_pos hj, hj]
    exact hx
  · rw [if_neg hj]
    exact h j
theorem imOK_0 : imOK (fun _ => 0) := fun _ => ⟨fun _ => ⟨0, by omega, rfl⟩, fun _ => ⟨0, by omega, rfl⟩, fun _ => ⟨0, by omega, rfl⟩⟩

theorem f_m_takeSeen_rows : True := trivial
theorem dX8_takeSeen_0 : decode cX8_takeSeen 0 = .ok (.aload_n 0, 1) := by decide +kernel
theorem dX8_takeSeen_1 : decode cX8_takeSeen 1 = .ok (.bipush 115, 2) := by decide +kernel
theorem dX8_takeSeen_3 : decode cX8_takeSeen 3 = .ok (.bipush 101, 2) := by decide +kernel
theorem dX8_takeSeen_5 : decode cX8_takeSeen 5 = .ok (.bipush 101, 2) := by decide +kernel
theorem dX8_takeSeen_7 : decode cX8_takeSeen 7 = .ok (.invokestatic 148, 3) := by decide +kernel
theorem dX8_takeSeen_10 : decode cX8_takeSeen 10 = .ok (.bipush 110, 2) := by decide +kernel
theorem dX8_takeSeen_12 : decode cX8_takeSeen 12 = .ok (.invokestatic 144, 3) := by decide +kernel
theorem dX8_takeSeen_15 : decode cX8_takeSeen 15 = .ok (.invokevirtual 186, 3) := by decide +kernel
theorem dX8_takeSeen_18 : decode cX8_takeSeen 18 = .ok (.istore_n 3, 1) := by decide +kernel
theorem dX8_takeSeen_19 : decode cX8_takeSeen 19 = .ok (.iload_n 3, 1) := by decide +kernel
theorem dX8_takeSeen_20 : decode cX8_takeSeen 20 = .ok (.ifCond .le 7, 3) := by decide +kernel
theorem dX8_takeSeen_23 : decode cX8_takeSeen 23 = .ok (.iload_n 3, 1) := by decide +kernel
theorem dX8_takeSeen_24 : decode cX8_takeSeen 24 = .ok (.goto 10, 3) := by decide +kernel
theorem dX8_takeSeen_27 : decode cX8_takeSeen 27 = .ok (.aload_n 0, 1) := by decide +kernel
theorem dX8_takeSeen_28 : decode cX8_takeSeen 28 = .ok (.iconst 1, 1) := by decide +kernel
theorem dX8_takeSeen_29 : decode cX8_takeSeen 29 = .ok (.bipush 24, 2) := by decide +kernel
theorem dX8_takeSeen_31 : decode cX8_takeSeen 31 = .ok (.invokevirtual 183, 3) := by decide +kernel
theorem dX8_takeSeen_34 : decode cX8_takeSeen 34 = .ok (.istore_n 3, 1) := by decide +kernel
theorem dX8_takeSeen_35 : decode cX8_takeSeen 35 = .ok (.bipush 12, 2) := by decide +kernel
theorem dX8_takeSeen_37 : decode cX8_takeSeen 37 = .ok (.aload_n 0, 1) := by decide +kernel
theorem dX8_takeSeen_38 : decode cX8_takeSeen 38 = .ok (.getfield 276, 3) := by decide +kernel
theorem dX8_takeSeen_41 : decode cX8_takeSeen 41 = .ok (.imul, 1) := by decide +kernel
theorem dX8_takeSeen_42 : decode cX8_takeSeen 42 = .ok (.aload_n 0, 1) := by decide +kernel
theorem dX8_takeSeen_43 : decode cX8_takeSeen 43 = .ok (.getfield 57, 3) := by decide +kernel
theorem dX8_takeSeen_46 : decode cX8_takeSeen 46 = .ok (.aload_n 0, 1) := by decide +kernel
theorem dX8_takeSeen_47 : decode cX8_takeSeen 47 = .ok (.getfield 276, 3) := by decide +kernel
theorem dX8_takeSeen_50 : decode cX8_takeSeen 50 = .ok (.iaload, 1) := by decide +kernel
theorem dX8_takeSeen_51 : decode cX8_takeSeen 51 = .ok (.iadd, 1) := by decide +kernel
theorem dX8_takeSeen_52 : decode cX8_takeSeen 52 = .ok (.istore 4, 2) := by decide +kernel
theorem dX8_takeSeen_54 : decode cX8_takeSeen 54 = .ok (.iload_n 3, 1) := by decide +kernel
theorem dX8_takeSeen_55 : decode cX8_takeSeen 55 = .ok (.ifCond .ne 29, 3) := by decide +kernel
theorem dX8_takeSeen_58 : decode cX8_takeSeen 58 = .ok (.aload_n 0, 1) := by decide +kernel
theorem dX8_takeSeen_59 : decode cX8_takeSeen 59 = .ok (.getfield 163, 3) := by decide +kernel
theorem dX8_takeSeen_62 : decode cX8_takeSeen 62 = .ok (.aload_n 0, 1) := by decide +kernel
theorem dX8_takeSeen_63 : decode cX8_takeSeen 63 = .ok (.getfield 60, 3) := by decide +kernel
theorem dX8_takeSeen_66 : decode cX8_takeSeen 66 = .ok (.iload 4, 2) := by decide +kernel
theorem dX8_takeSeen_68 : decode cX8_takeSeen 68 = .ok (.iconst 1, 1) := by decide +kernel
theorem dX8_takeSeen_69 : decode cX8_takeSeen 69 = .ok (.isub, 1) := by decide +kernel
theorem dX8_takeSeen_70 : decode cX8_takeSeen 70 = .ok (.iaload, 1) := by decide +kernel
theorem dX8_takeSeen_71 : decode cX8_takeSeen 71 = .ok (.if_icmp .gt 13, 3) := by decide +kernel
theorem dX8_takeSeen_74 : decode cX8_takeSeen 74 = .ok (.aload_n 0, 1) := by decide +kernel
theorem dX8_takeSeen_75 : decode cX8_takeSeen 75 = .ok (.iconst 3, 1) := by decide +kernel
theorem dX8_takeSeen_76 : decode cX8_takeSeen 76 = .ok (.aload_n 0, 1) := by decide +kernel
theorem dX8_takeSeen_77 : decode cX8_takeSeen 77 = .ok (.getfield 170, 3) := by decide +kernel
theorem dX8_takeSeen_80 : decode cX8_takeSeen 80 = .ok (.invokevirtual 159, 3) := by decide +kernel
theorem dX8_takeSeen_83 : decode cX8_takeSeen 83 = .ok (.istore_n 3, 1) := by decide +kernel
theorem dX8_takeSeen_84 : decode cX8_takeSeen 84 = .ok (.iload_n 3, 1) := by decide +kernel
theorem dX8_takeSeen_85 : decode cX8_takeSeen 85 = .ok (.ifCond .le 5, 3) := by decide +kernel
theorem dX8_takeSeen_88 : decode cX8_takeSeen 88 = .ok (.iload_n 3, 1) := by decide +kernel
theorem dX8_takeSeen_89 : decode cX8_takeSeen 89 = .ok (.ireturn, 1) := by decide +kernel
theorem dX8_takeSeen_90 : decode cX8_takeSeen 90 = .ok (.aload_n 0, 1) := by decide +kernel
theorem dX8_takeSeen_91 : decode cX8_takeSeen 91 = .ok (.getfield 60, 3) := by decide +kernel
theorem dX8_takeSeen_94 : decode cX8_takeSeen 94 = .ok (.iload 4, 2) := by decide +kernel
theorem dX8_takeSeen_96 : decode cX8_takeSeen 96 = .ok (.aload_n 0, 1) := by decide +kernel
theorem dX8_takeSeen_97 : decode cX8_takeSeen 97 = .ok (.getfield 163, 3) := by decide +kernel
theorem dX8_takeSeen_100 : decode cX8_takeSeen 100 = .ok (.iastore, 1) := by decide +kernel
theorem dX8_takeSeen_101 : decode cX8_takeSeen 101 = .ok (.aload_n 0, 1) := by decide +kernel
theorem dX8_takeSeen_102 : decode cX8_takeSeen 102 = .ok (.lload_n 1, 1) := by decide +kernel
theorem dX8_takeSeen_103 : decode cX8_takeSeen 103 = .ok (.invokevirtual 186, 3) := by decide +kernel
theorem dX8_takeSeen_106 : decode cX8_takeSeen 106 = .ok (.istore_n 3, 1) := by decide +kernel
theorem dX8_takeSeen_107 : decode cX8_takeSeen 107 = .ok (.iload_n 3, 1) := by decide +kernel
theorem dX8_takeSeen_108 : decode cX8_takeSeen 108 = .ok (.ifCond .le 7, 3) := by decide +kernel
theorem dX8_takeSeen_111 : decode cX8_takeSeen 111 = .ok (.iload_n 3, 1) := by decide +kernel
theorem dX8_takeSeen_112 : decode cX8_takeSeen 112 = .ok (.goto 10, 3) := by decide +kernel
theorem dX8_takeSeen_115 : decode cX8_takeSeen 115 = .ok (.aload_n 0, 1) := by decide +kernel
theorem dX8_takeSeen_116 : decode cX8_takeSeen 116 = .ok (.iconst 0, 1) := by decide +kernel
theorem dX8_takeSeen_117 : decode cX8_takeSeen 117 = .ok (.bipush 24, 2) := by decide +kernel
theorem dX8_takeSeen_119 : decode cX8_takeSeen 119 = .ok (.invokevirtual 183, 3) := by decide +kernel
theorem dX8_takeSeen_122 : decode cX8_takeSeen 122 = .ok (.istore_n 3, 1) := by decide +kernel
theorem dX8_takeSeen_123 : decode cX8_takeSeen 123 = .ok (.aload_n 0, 1) := by decide +kernel
theorem dX8_takeSeen_124 : decode cX8_takeSeen 124 = .ok (.getfield 63, 3) := by decide +kernel
theorem dX8_takeSeen_127 : decode cX8_takeSeen 127 = .ok (.iload 4, 2) := by decide +kernel
theorem dX8_takeSeen_129 : decode cX8_takeSeen 129 = .ok (.aload_n 0, 1) := by decide +kernel
theorem dX8_takeSeen_130 : decode cX8_takeSeen 130 = .ok (.getfield 163, 3) := by decide +kernel
theorem dX8_takeSeen_133 : decode cX8_takeSeen 133 = .ok (.iastore, 1) := by decide +kernel
theorem dX8_takeSeen_134 : decode cX8_takeSeen 134 = .ok (.aload_n 0, 1) := by decide +kernel
theorem dX8_takeSeen_135 : decode cX8_takeSeen 135 = .ok (.getfield 57, 3) := by decide +kernel
theorem dX8_takeSeen_138 : decode cX8_takeSeen 138 = .ok (.aload_n 0, 1) := by decide +kernel
theorem dX8_takeSeen_139 : decode cX8_takeSeen 139 = .ok (.getfield 276, 3) := by decide +kernel
theorem dX8_takeSeen_142 : decode cX8_takeSeen 142 = .ok (.dup2, 1) := by decide +kernel
theorem dX8_takeSeen_143 : decode cX8_takeSeen 143 = .ok (.iaload, 1) := by decide +kernel
theorem dX8_takeSeen_144 : decode cX8_takeSeen 144 = .ok (.iconst 1, 1) := by decide +kernel
theorem dX8_takeSeen_145 : decode cX8_takeSeen 145 = .ok (.iadd, 1) := by decide +kernel
theorem dX8_takeSeen_146 : decode cX8_takeSeen 146 = .ok (.iastore, 1) := by decide +kernel
theorem dX8_takeSeen_147 : decode cX8_takeSeen 147 = .ok (.iload_n 3, 1) := by decide +kernel
theorem dX8_takeSeen_148 : decode cX8_takeSeen 148 = .ok (.ireturn, 1) := by decide +kernel
theorem f_m_takeRule_rows : True := trivial
theorem dX8_takeRule_0 : decode cX8_takeRule 0 = .ok (.bipush 102, 2) := by decide +kernel
theorem dX8_takeRule_2 : decode cX8_takeRule 2 = .ok (.bipush 114, 2) := by decide +kernel
theorem dX8_takeRule_4 : decode cX8_takeRule 4 = .ok (.bipush 111, 2) := by decide +kernel
theorem dX8_takeRule_6 : decode cX8_takeRule 6 = .ok (.invokestatic 148, 3) := by decide +kernel
theorem dX8_takeRule_9 : decode cX8_takeRule 9 = .ok (.bipush 109, 2) := by decide +kernel
theorem dX8_takeRule_11 : decode cX8_takeRule 11 = .ok (.invokestatic 144, 3) := by decide +kernel
theorem dX8_takeRule_14 : decode cX8_takeRule 14 = .ok (.lstore_n 1, 1) := by decide +kernel
theorem dX8_takeRule_15 : decode cX8_takeRule 15 = .ok (.aload_n 0, 1) := by decide +kernel
theorem dX8_takeRule_16 : decode cX8_takeRule 16 = .ok (.lload_n 1, 1) := by decide +kernel
theorem dX8_takeRule_17 : decode cX8_takeRule 17 = .ok (.invokevirtual 186, 3) := by decide +kernel
theorem dX8_takeRule_20 : decode cX8_takeRule 20 = .ok (.istore_n 3, 1) := by decide +kernel
theorem dX8_takeRule_21 : decode cX8_takeRule 21 = .ok (.iload_n 3, 1) := by decide +kernel
theorem dX8_takeRule_22 : decode cX8_takeRule 22 = .ok (.ifCond .le 7, 3) := by decide +kernel
theorem dX8_takeRule_25 : decode cX8_takeRule 25 = .ok (.iload_n 3, 1) := by decide +kernel
theorem dX8_takeRule_26 : decode cX8_takeRule 26 = .ok (.goto 10, 3) := by decide +kernel
theorem dX8_takeRule_29 : decode cX8_takeRule 29 = .ok (.aload_n 0, 1) := by decide +kernel
theorem dX8_takeRule_30 : decode cX8_takeRule 30 = .ok (.iconst 0, 1) := by decide +kernel
theorem dX8_takeRule_31 : decode cX8_takeRule 31 = .ok (.bipush 24, 2) := by decide +kernel
theorem dX8_takeRule_33 : decode cX8_takeRule 33 = .ok (.invokevirtual 183, 3) := by decide +kernel
theorem dX8_takeRule_36 : decode cX8_takeRule 36 = .ok (.istore_n 3, 1) := by decide +kernel
theorem dX8_takeRule_37 : decode cX8_takeRule 37 = .ok (.aload_n 0, 1) := by decide +kernel
theorem dX8_takeRule_38 : decode cX8_takeRule 38 = .ok (.getfield 60, 3) := by decide +kernel
theorem dX8_takeRule_41 : decode cX8_takeRule 41 = .ok (.bipush 12, 2) := by decide +kernel
theorem dX8_takeRule_43 : decode cX8_takeRule 43 = .ok (.aload_n 0, 1) := by decide +kernel
theorem dX8_takeRule_44 : decode cX8_takeRule 44 = .ok (.getfield 276, 3) := by decide +kernel
theorem dX8_takeRule_47 : decode cX8_takeRule 47 = .ok (.imul, 1) := by decide +kernel
theorem dX8_takeRule_48 : decode cX8_takeRule 48 = .ok (.iconst 0, 1) := by decide +kernel
theorem dX8_takeRule_49 : decode cX8_takeRule 49 = .ok (.iastore, 1) := by decide +kernel
theorem dX8_takeRule_50 : decode cX8_takeRule 50 = .ok (.aload_n 0, 1) := by decide +kernel
theorem dX8_takeRule_51 : decode cX8_takeRule 51 = .ok (.getfield 63, 3) := by decide +kernel
theorem dX8_takeRule_54 : decode cX8_takeRule 54 = .ok (.bipush 12, 2) := by decide +kernel
theorem dX8_takeRule_56 : decode cX8_takeRule 56 = .ok (.aload_n 0, 1) := by decide +kernel
theorem dX8_takeRule_57 : decode cX8_takeRule 57 = .ok (.getfield 276, 3) := by decide +kernel
theorem dX8_takeRule_60 : decode cX8_takeRule 60 = .ok (.imul, 1) := by decide +kernel
theorem dX8_takeRule_61 : decode cX8_takeRule 61 = .ok (.aload_n 0, 1) := by decide +kernel
theorem dX8_takeRule_62 : decode cX8_takeRule 62 = .ok (.getfield 163, 3) := by decide +kernel
theorem dX8_takeRule_65 : decode cX8_takeRule 65 = .ok (.iastore, 1) := by decide +kernel
theorem dX8_takeRule_66 : decode cX8_takeRule 66 = .ok (.aload_n 0, 1) := by decide +kernel
theorem dX8_takeRule_67 : decode cX8_takeRule 67 = .ok (.getfield 57, 3) := by decide +kernel
theorem dX8_takeRule_70 : decode cX8_takeRule 70 = .ok (.aload_n 0, 1) := by decide +kernel
theorem dX8_takeRule_71 : decode cX8_takeRule 71 = .ok (.getfield 276, 3) := by decide +kernel
theorem dX8_takeRule_74 : decode cX8_takeRule 74 = .ok (.iconst 1, 1) := by decide +kernel
theorem dX8_takeRule_75 : decode cX8_takeRule 75 = .ok (.iastore, 1) := by decide +kernel
theorem dX8_takeRule_76 : decode cX8_takeRule 76 = .ok (.aload_n 0, 1) := by decide +kernel
theorem dX8_takeRule_77 : decode cX8_takeRule 77 = .ok (.getfield 66, 3) := by decide +kernel
theorem dX8_takeRule_80 : decode cX8_takeRule 80 = .ok (.aload_n 0, 1) := by decide +kernel
theorem dX8_takeRule_81 : decode cX8_takeRule 81 = .ok (.getfield 276, 3) := by decide +kernel
theorem dX8_takeRule_84 : decode cX8_takeRule 84 = .ok (.iconst 0, 1) := by decide +kernel
theorem dX8_takeRule_85 : decode cX8_takeRule 85 = .ok (.iastore, 1) := by decide +kernel
theorem dX8_takeRule_86 : decode cX8_takeRule 86 = .ok (.iload_n 3, 1) := by decide +kernel
theorem dX8_takeRule_87 : decode cX8_takeRule 87 = .ok (.ifCond .ne 14, 3) := by decide +kernel
theorem dX8_takeRule_90 : decode cX8_takeRule 90 = .ok (.aload_n 0, 1) := by decide +kernel
theorem dX8_takeRule_91 : decode cX8_takeRule 91 = .ok (.invokevirtual 121, 3) := by decide +kernel
theorem dX8_takeRule_94 : decode cX8_takeRule 94 = .ok (.ifCond .lt 7, 3) := by decide +kernel
theorem dX8_takeRule_97 : decode cX8_takeRule 97 = .ok (.iconst 1, 1) := by decide +kernel
theorem dX8_takeRule_98 : decode cX8_takeRule 98 = .ok (.goto 4, 3) := by decide +kernel
theorem dX8_takeRule_101 : decode cX8_takeRule 101 = .ok (.iconst 0, 1) := by decide +kernel
theorem dX8_takeRule_102 : decode cX8_takeRule 102 = .ok (.istore 4, 2) := by decide +kernel
theorem dX8_takeRule_104 : decode cX8_takeRule 104 = .ok (.iload 4, 2) := by decide +kernel
theorem dX8_takeRule_106 : decode cX8_takeRule 106 = .ok (.ifCond .eq 92, 3) := by decide +kernel
theorem dX8_takeRule_109 : decode cX8_takeRule 109 = .ok (.aload_n 0, 1) := by decide +kernel
theorem dX8_takeRule_110 : decode cX8_takeRule 110 = .ok (.invokevirtual 156, 3) := by decide +kernel
theorem dX8_takeRule_113 : decode cX8_takeRule 113 = .ok (.aload_n 0, 1) := by decide +kernel
theorem dX8_takeRule_114 : decode cX8_takeRule 114 = .ok (.getfield 125, 3) := by decide +kernel
theorem dX8_takeRule_117 : decode cX8_takeRule 117 = .ok (.bipush 114, 2) := by decide +kernel
theorem dX8_takeRule_119 : decode cX8_takeRule 119 = .ok (.bipush 111, 2) := by decide +kernel
theorem dX8_takeRule_121 : decode cX8_takeRule 121 = .ok (.bipush 117, 2) := by decide +kernel
theorem dX8_takeRule_123 : decode cX8_takeRule 123 = .ok (.invokestatic 148, 3) := by decide +kernel
theorem dX8_takeRule_126 : decode cX8_takeRule 126 = .ok (.bipush 110, 2) := by decide +kernel
theorem dX8_takeRule_128 : decode cX8_takeRule 128 = .ok (.bipush 100, 2) := by decide +kernel
theorem dX8_takeRule_130 : decode cX8_takeRule 130 = .ok (.invokestatic 152, 3) := by decide +kernel
theorem dX8_takeRule_133 : decode cX8_takeRule 133 = .ok (.lcmp, 1) := by decide +kernel
theorem dX8_takeRule_134 : decode cX8_takeRule 134 = .ok (.ifCond .ne 37, 3) := by decide +kernel
theorem dX8_takeRule_137 : decode cX8_takeRule 137 = .ok (.aload_n 0, 1) := by decide +kernel
theorem dX8_takeRule_138 : decode cX8_takeRule 138 = .ok (.aload_n 0, 1) := by decide +kernel
theorem dX8_takeRule_139 : decode cX8_takeRule 139 = .ok (.getfield 129, 3) := by decide +kernel
theorem dX8_takeRule_142 : decode cX8_takeRule 142 = .ok (.putfield 118, 3) := by decide +kernel
theorem dX8_takeRule_145 : decode cX8_takeRule 145 = .ok (.aload_n 0, 1) := by decide +kernel
theorem dX8_takeRule_146 : decode cX8_takeRule 146 = .ok (.iconst 0, 1) := by decide +kernel
theorem dX8_takeRule_147 : decode cX8_takeRule 147 = .ok (.iconst 3, 1) := by decide +kernel
theorem dX8_takeRule_148 : decode cX8_takeRule 148 = .ok (.invokevirtual 183, 3) := by decide +kernel
theorem dX8_takeRule_151 : decode cX8_takeRule 151 = .ok (.istore_n 3, 1) := by decide +kernel
theorem dX8_takeRule_152 : decode cX8_takeRule 152 = .ok (.aload_n 0, 1) := by decide +kernel
theorem dX8_takeRule_153 : decode cX8_takeRule 153 = .ok (.getfield 66, 3) := by decide +kernel
theorem dX8_takeRule_156 : decode cX8_takeRule 156 = .ok (.aload_n 0, 1) := by decide +kernel
theorem dX8_takeRule_157 : decode cX8_takeRule 157 = .ok (.getfield 276, 3) := by decide +kernel
theorem dX8_takeRule_160 : decode cX8_takeRule 160 = .ok (.aload_n 0, 1) := by decide +kernel
theorem dX8_takeRule_161 : decode cX8_takeRule 161 = .ok (.getfield 163, 3) := by decide +kernel
theorem dX8_takeRule_164 : decode cX8_takeRule 164 = .ok (.iastore, 1) := by decide +kernel
theorem dX8_takeRule_165 : decode cX8_takeRule 165 = .ok (.iconst 0, 1) := by decide +kernel
theorem dX8_takeRule_166 : decode cX8_takeRule 166 = .ok (.istore 4, 2) := by decide +kernel
theorem dX8_takeRule_168 : decode cX8_takeRule 168 = .ok (.goto (-64), 3) := by decide +kernel
theorem dX8_takeRule_171 : decode cX8_takeRule 171 = .ok (.aload_n 0, 1) := by decide +kernel
theorem dX8_takeRule_172 : decode cX8_takeRule 172 = .ok (.lload_n 1, 1) := by decide +kernel
theorem dX8_takeRule_173 : decode cX8_takeRule 173 = .ok (.invokevirtual 279, 3) := by decide +kernel
theorem dX8_takeRule_176 : decode cX8_takeRule 176 = .ok (.istore_n 3, 1) := by decide +kernel
theorem dX8_takeRule_177 : decode cX8_takeRule 177 = .ok (.iload_n 3, 1) := by decide +kernel
theorem dX8_takeRule_178 : decode cX8_takeRule 178 = .ok (.ifCond .ne 14, 3) := by decide +kernel
theorem dX8_takeRule_181 : decode cX8_takeRule 181 = .ok (.aload_n 0, 1) := by decide +kernel
theorem dX8_takeRule_182 : decode cX8_takeRule 182 = .ok (.invokevirtual 121, 3) := by decide +kernel
theorem dX8_takeRule_185 : decode cX8_takeRule 185 = .ok (.ifCond .lt 7, 3) := by decide +kernel
theorem dX8_takeRule_188 : decode cX8_takeRule 188 = .ok (.iconst 1, 1) := by decide +kernel
theorem dX8_takeRule_189 : decode cX8_takeRule 189 = .ok (.goto 4, 3) := by decide +kernel
theorem dX8_takeRule_192 : decode cX8_takeRule 192 = .ok (.iconst 0, 1) := by decide +kernel
theorem dX8_takeRule_193 : decode cX8_takeRule 193 = .ok (.istore 4, 2) := by decide +kernel
theorem dX8_takeRule_195 : decode cX8_takeRule 195 = .ok (.goto (-91), 3) := by decide +kernel
theorem dX8_takeRule_198 : decode cX8_takeRule 198 = .ok (.iload_n 3, 1) := by decide +kernel
theorem dX8_takeRule_199 : decode cX8_takeRule 199 = .ok (.ifCond .le 7, 3) := by decide +kernel
theorem dX8_takeRule_202 : decode cX8_takeRule 202 = .ok (.iload_n 3, 1) := by decide +kernel
theorem dX8_takeRule_203 : decode cX8_takeRule 203 = .ok (.goto 23, 3) := by decide +kernel
theorem dX8_takeRule_206 : decode cX8_takeRule 206 = .ok (.aload_n 0, 1) := by decide +kernel
theorem dX8_takeRule_207 : decode cX8_takeRule 207 = .ok (.invokevirtual 121, 3) := by decide +kernel
theorem dX8_takeRule_210 : decode cX8_takeRule 210 = .ok (.ifCond .lt 15, 3) := by decide +kernel
theorem dX8_takeRule_213 : decode cX8_takeRule 213 = .ok (.aload_n 0, 1) := by decide +kernel
theorem dX8_takeRule_214 : decode cX8_takeRule 214 = .ok (.iconst 1, 1) := by decide +kernel
theorem dX8_takeRule_215 : decode cX8_takeRule 215 = .ok (.aload_n 0, 1) := by decide +kernel
theorem dX8_takeRule_216 : decode cX8_takeRule 216 = .ok (.getfield 118, 3) := by decide +kernel
theorem dX8_takeRule_219 : decode cX8_takeRule 219 = .ok (.invokevirtual 159, 3) := by decide +kernel
theorem dX8_takeRule_222 : decode cX8_takeRule 222 = .ok (.goto 4, 3) := by decide +kernel
theorem dX8_takeRule_225 : decode cX8_takeRule 225 = .ok (.iconst 0, 1) := by decide +kernel
theorem dX8_takeRule_226 : decode cX8_takeRule 226 = .ok (.ireturn, 1) := by decide +kernel
theorem f_m_rule_rows : True := trivial
theorem dX8_rule_0 : decode cX8_rule 0 = .ok (.aload_n 0, 1) := by decide +kernel
theorem dX8_rule_1 : decode cX8_rule 1 = .ok (.getfield 113, 3) := by decide +kernel
theorem dX8_rule_4 : decode cX8_rule 4 = .ok (.bipush 80, 2) := by decide +kernel
theorem dX8_rule_6 : decode cX8_rule 6 = .ok (.if_icmp .le 7, 3) := by decide +kernel
theorem dX8_rule_9 : decode cX8_rule 9 = .ok (.sipush (-1003), 3) := by decide +kernel
theorem dX8_rule_12 : decode cX8_rule 12 = .ok (.ireturn, 1) := by decide +kernel
theorem dX8_rule_13 : decode cX8_rule 13 = .ok (.aload_n 0, 1) := by decide +kernel
theorem dX8_rule_14 : decode cX8_rule 14 = .ok (.getfield 276, 3) := by decide +kernel
theorem dX8_rule_17 : decode cX8_rule 17 = .ok (.iconst 4, 1) := by decide +kernel
theorem dX8_rule_18 : decode cX8_rule 18 = .ok (.if_icmp .ne 7, 3) := by decide +kernel
theorem dX8_rule_21 : decode cX8_rule 21 = .ok (.sipush (-1004), 3) := by decide +kernel
theorem dX8_rule_24 : decode cX8_rule 24 = .ok (.ireturn, 1) := by decide +kernel
theorem dX8_rule_25 : decode cX8_rule 25 = .ok (.aload_n 0, 1) := by decide +kernel
theorem dX8_rule_26 : decode cX8_rule 26 = .ok (.iconst (-1), 1) := by decide +kernel
theorem dX8_rule_27 : decode cX8_rule 27 = .ok (.putfield 25, 3) := by decide +kernel
theorem dX8_rule_30 : decode cX8_rule 30 = .ok (.aload_n 0, 1) := by decide +kernel
theorem dX8_rule_31 : decode cX8_rule 31 = .ok (.iconst 0, 1) := by decide +kernel
theorem dX8_rule_32 : decode cX8_rule 32 = .ok (.putfield 118, 3) := by decide +kernel
theorem dX8_rule_35 : decode cX8_rule 35 = .ok (.aload_n 0, 1) := by decide +kernel
theorem dX8_rule_36 : decode cX8_rule 36 = .ok (.invokevirtual 282, 3) := by decide +kernel
theorem dX8_rule_39 : decode cX8_rule 39 = .ok (.istore_n 1, 1) := by decide +kernel
theorem dX8_rule_40 : decode cX8_rule 40 = .ok (.aload_n 0, 1) := by decide +kernel
theorem dX8_rule_41 : decode cX8_rule 41 = .ok (.iconst 0, 1) := by decide +kernel
theorem dX8_rule_42 : decode cX8_rule 42 = .ok (.putfield 113, 3) := by decide +kernel
theorem dX8_rule_45 : decode cX8_rule 45 = .ok (.iload_n 1, 1) := by decide +kernel
theorem dX8_rule_46 : decode cX8_rule 46 = .ok (.ifCond .le 8, 3) := by decide +kernel
theorem dX8_rule_49 : decode cX8_rule 49 = .ok (.bipush (-10), 2) := by decide +kernel
theorem dX8_rule_51 : decode cX8_rule 51 = .ok (.iload_n 1, 1) := by decide +kernel
theorem dX8_rule_52 : decode cX8_rule 52 = .ok (.isub, 1) := by decide +kernel
theorem dX8_rule_53 : decode cX8_rule 53 = .ok (.ireturn, 1) := by decide +kernel
theorem dX8_rule_54 : decode cX8_rule 54 = .ok (.aload_n 0, 1) := by decide +kernel
theorem dX8_rule_55 : decode cX8_rule 55 = .ok (.dup, 1) := by decide +kernel
theorem dX8_rule_56 : decode cX8_rule 56 = .ok (.getfield 276, 3) := by decide +kernel
theorem dX8_rule_59 : decode cX8_rule 59 = .ok (.iconst 1, 1) := by decide +kernel
theorem dX8_rule_60 : decode cX8_rule 60 = .ok (.iadd, 1) := by decide +kernel
theorem dX8_rule_61 : decode cX8_rule 61 = .ok (.putfield 276, 3) := by decide +kernel
theorem dX8_rule_64 : decode cX8_rule 64 = .ok (.aload_n 0, 1) := by decide +kernel
theorem dX8_rule_65 : decode cX8_rule 65 = .ok (.getfield 276, 3) := by decide +kernel
theorem dX8_rule_68 : decode cX8_rule 68 = .ok (.iconst 1, 1) := by decide +kernel
theorem dX8_rule_69 : decode cX8_rule 69 = .ok (.isub, 1) := by decide +kernel
theorem dX8_rule_70 : decode cX8_rule 70 = .ok (.ireturn, 1) := by decide +kernel
theorem f_m_keep_rows : True := trivial
theorem dX8_keep_0 : decode cX8_keep 0 = .ok (.iload_n 1, 1) := by decide +kernel
theorem dX8_keep_1 : decode cX8_keep 1 = .ok (.i2l, 1) := by decide +kernel
theorem dX8_keep_2 : decode cX8_keep 2 = .ok (.lconst 0, 1) := by decide +kernel
theorem dX8_keep_3 : decode cX8_keep 3 = .ok (.lconst 1, 1) := by decide +kernel
theorem dX8_keep_4 : decode cX8_keep 4 = .ok (.invokestatic 107, 3) := by decide +kernel
theorem dX8_keep_7 : decode cX8_keep 7 = .ok (.ifCond .ne 7, 3) := by decide +kernel
theorem dX8_keep_10 : decode cX8_keep 10 = .ok (.sipush (-1001), 3) := by decide +kernel
theorem dX8_keep_13 : decode cX8_keep 13 = .ok (.ireturn, 1) := by decide +kernel
theorem dX8_keep_14 : decode cX8_keep 14 = .ok (.bipush 35, 2) := by decide +kernel
theorem dX8_keep_16 : decode cX8_keep 16 = .ok (.iload_n 1, 1) := by decide +kernel
theorem dX8_keep_17 : decode cX8_keep 17 = .ok (.imul, 1) := by decide +kernel
theorem dX8_keep_18 : decode cX8_keep 18 = .ok (.istore_n 2, 1) := by decide +kernel
theorem dX8_keep_19 : decode cX8_keep 19 = .ok (.aload_n 0, 1) := by decide +kernel
theorem dX8_keep_20 : decode cX8_keep 20 = .ok (.getfield 99, 3) := by decide +kernel
theorem dX8_keep_23 : decode cX8_keep 23 = .ok (.iload_n 2, 1) := by decide +kernel
theorem dX8_keep_24 : decode cX8_keep 24 = .ok (.aload_n 0, 1) := by decide +kernel
theorem dX8_keep_25 : decode cX8_keep 25 = .ok (.getfield 304, 3) := by decide +kernel
theorem dX8_keep_28 : decode cX8_keep 28 = .ok (.iastore, 1) := by decide +kernel
theorem dX8_keep_29 : decode cX8_keep 29 = .ok (.aload_n 0, 1) := by decide +kernel
theorem dX8_keep_30 : decode cX8_keep 30 = .ok (.getfield 99, 3) := by decide +kernel
theorem dX8_keep_33 : decode cX8_keep 33 = .ok (.iload_n 2, 1) := by decide +kernel
theorem dX8_keep_34 : decode cX8_keep 34 = .ok (.iconst 1, 1) := by decide +kernel
theorem dX8_keep_35 : decode cX8_keep 35 = .ok (.iadd, 1) := by decide +kernel
theorem dX8_keep_36 : decode cX8_keep 36 = .ok (.aload_n 0, 1) := by decide +kernel
theorem dX8_keep_37 : decode cX8_keep 37 = .ok (.getfield 315, 3) := by decide +kernel
theorem dX8_keep_40 : decode cX8_keep 40 = .ok (.iastore, 1) := by decide +kernel
theorem dX8_keep_41 : decode cX8_keep 41 = .ok (.aload_n 0, 1) := by decide +kernel
theorem dX8_keep_42 : decode cX8_keep 42 = .ok (.getfield 99, 3) := by decide +kernel
theorem dX8_keep_45 : decode cX8_keep 45 = .ok (.iload_n 2, 1) := by decide +kernel
theorem dX8_keep_46 : decode cX8_keep 46 = .ok (.iconst 2, 1) := by decide +kernel
theorem dX8_keep_47 : decode cX8_keep 47 = .ok (.iadd, 1) := by decide +kernel
theorem dX8_keep_48 : decode cX8_keep 48 = .ok (.aload_n 0, 1) := by decide +kernel
theorem dX8_keep_49 : decode cX8_keep 49 = .ok (.getfield 374, 3) := by decide +kernel
theorem dX8_keep_52 : decode cX8_keep 52 = .ok (.iastore, 1) := by decide +kernel
theorem dX8_keep_53 : decode cX8_keep 53 = .ok (.iconst 0, 1) := by decide +kernel
theorem dX8_keep_54 : decode cX8_keep 54 = .ok (.istore_n 3, 1) := by decide +kernel
theorem dX8_keep_55 : decode cX8_keep 55 = .ok (.iload_n 3, 1) := by decide +kernel
theorem dX8_keep_56 : decode cX8_keep 56 = .ok (.bipush 24, 2) := by decide +kernel
theorem dX8_keep_58 : decode cX8_keep 58 = .ok (.if_icmp .ge 33, 3) := by decide +kernel
theorem dX8_keep_61 : decode cX8_keep 61 = .ok (.aload_n 0, 1) := by decide +kernel
theorem dX8_keep_62 : decode cX8_keep 62 = .ok (.getfield 99, 3) := by decide +kernel
theorem dX8_keep_65 : decode cX8_keep 65 = .ok (.iload_n 2, 1) := by decide +kernel
theorem dX8_keep_66 : decode cX8_keep 66 = .ok (.iconst 3, 1) := by decide +kernel
theorem dX8_keep_67 : decode cX8_keep 67 = .ok (.iadd, 1) := by decide +kernel
theorem dX8_keep_68 : decode cX8_keep 68 = .ok (.iload_n 3, 1) := by decide +kernel
theorem dX8_keep_69 : decode cX8_keep 69 = .ok (.iadd, 1) := by decide +kernel
theorem dX8_keep_70 : decode cX8_keep 70 = .ok (.aload_n 0, 1) := by decide +kernel
theorem dX8_keep_71 : decode cX8_keep 71 = .ok (.getfield 75, 3) := by decide +kernel
theorem dX8_keep_74 : decode cX8_keep 74 = .ok (.iload_n 3, 1) := by decide +kernel
theorem dX8_keep_75 : decode cX8_keep 75 = .ok (.baload, 1) := by decide +kernel
theorem dX8_keep_76 : decode cX8_keep 76 = .ok (.ifCond .eq 7, 3) := by decide +kernel
theorem dX8_keep_79 : decode cX8_keep 79 = .ok (.iconst 1, 1) := by decide +kernel
theorem dX8_keep_80 : decode cX8_keep 80 = .ok (.goto 4, 3) := by decide +kernel
theorem dX8_keep_83 : decode cX8_keep 83 = .ok (.iconst 0, 1) := by decide +kernel
theorem dX8_keep_84 : decode cX8_keep 84 = .ok (.iastore, 1) := by decide +kernel
theorem dX8_keep_85 : decode cX8_keep 85 = .ok (.iinc 3 1, 3) := by decide +kernel
theorem dX8_keep_88 : decode cX8_keep 88 = .ok (.goto (-33), 3) := by decide +kernel
theorem dX8_keep_91 : decode cX8_keep 91 = .ok (.iconst 0, 1) := by decide +kernel
theorem dX8_keep_92 : decode cX8_keep 92 = .ok (.istore_n 3, 1) := by decide +kernel
theorem dX8_keep_93 : decode cX8_keep 93 = .ok (.iload_n 3, 1) := by decide +kernel
theorem dX8_keep_94 : decode cX8_keep 94 = .ok (.iconst 4, 1) := by decide +kernel
theorem dX8_keep_95 : decode cX8_keep 95 = .ok (.if_icmp .ge 43, 3) := by decide +kernel
theorem dX8_keep_98 : decode cX8_keep 98 = .ok (.aload_n 0, 1) := by decide +kernel
theorem dX8_keep_99 : decode cX8_keep 99 = .ok (.getfield 99, 3) := by decide +kernel
theorem dX8_keep_102 : decode cX8_keep 102 = .ok (.iload_n 2, 1) := by decide +kernel
theorem dX8_keep_103 : decode cX8_keep 103 = .ok (.bipush 27, 2) := by decide +kernel
theorem dX8_keep_105 : decode cX8_keep 105 = .ok (.iadd, 1) := by decide +kernel
theorem dX8_keep_106 : decode cX8_keep 106 = .ok (.iload_n 3, 1) := by decide +kernel
theorem dX8_keep_107 : decode cX8_keep 107 = .ok (.iadd, 1) := by decide +kernel
theorem dX8_keep_108 : decode cX8_keep 108 = .ok (.aload_n 0, 1) := by decide +kernel
theorem dX8_keep_109 : decode cX8_keep 109 = .ok (.getfield 84, 3) := by decide +kernel
theorem dX8_keep_112 : decode cX8_keep 112 = .ok (.iload_n 3, 1) := by decide +kernel
theorem dX8_keep_113 : decode cX8_keep 113 = .ok (.iaload, 1) := by decide +kernel
theorem dX8_keep_114 : decode cX8_keep 114 = .ok (.iastore, 1) := by decide +kernel
theorem dX8_keep_115 : decode cX8_keep 115 = .ok (.aload_n 0, 1) := by decide +kernel
theorem dX8_keep_116 : decode cX8_keep 116 = .ok (.getfield 99, 3) := by decide +kernel
theorem dX8_keep_119 : decode cX8_keep 119 = .ok (.iload_n 2, 1) := by decide +kernel
theorem dX8_keep_120 : decode cX8_keep 120 = .ok (.bipush 31, 2) := by decide +kernel
theorem dX8_keep_122 : decode cX8_keep 122 = .ok (.iadd, 1) := by decide +kernel
theorem dX8_keep_123 : decode cX8_keep 123 = .ok (.iload_n 3, 1) := by decide +kernel
theorem dX8_keep_124 : decode cX8_keep 124 = .ok (.iadd, 1) := by decide +kernel
theorem dX8_keep_125 : decode cX8_keep 125 = .ok (.aload_n 0, 1) := by decide +kernel
theorem dX8_keep_126 : decode cX8_keep 126 = .ok (.getfield 87, 3) := by decide +kernel
theorem dX8_keep_129 : decode cX8_keep 129 = .ok (.iload_n 3, 1) := by decide +kernel
theorem dX8_keep_130 : decode cX8_keep 130 = .ok (.iaload, 1) := by decide +kernel
theorem dX8_keep_131 : decode cX8_keep 131 = .ok (.iastore, 1) := by decide +kernel
theorem dX8_keep_132 : decode cX8_keep 132 = .ok (.iinc 3 1, 3) := by decide +kernel
theorem dX8_keep_135 : decode cX8_keep 135 = .ok (.goto (-42), 3) := by decide +kernel
theorem dX8_keep_138 : decode cX8_keep 138 = .ok (.aload_n 0, 1) := by decide +kernel
theorem dX8_keep_139 : decode cX8_keep 139 = .ok (.getfield 96, 3) := by decide +kernel
theorem dX8_keep_142 : decode cX8_keep 142 = .ok (.iload_n 1, 1) := by decide +kernel
theorem dX8_keep_143 : decode cX8_keep 143 = .ok (.iconst 1, 1) := by decide +kernel
theorem dX8_keep_144 : decode cX8_keep 144 = .ok (.bastore, 1) := by decide +kernel
theorem dX8_keep_145 : decode cX8_keep 145 = .ok (.iconst 1, 1) := by decide +kernel
theorem dX8_keep_146 : decode cX8_keep 146 = .ok (.ireturn, 1) := by decide +kernel
theorem f_m_goBack_rows : True := trivial
theorem dX8_goBack_0 : decode cX8_goBack 0 = .ok (.iload_n 1, 1) := by decide +kernel
theorem dX8_goBack_1 : decode cX8_goBack 1 = .ok (.i2l, 1) := by decide +kernel
theorem dX8_goBack_2 : decode cX8_goBack 2 = .ok (.lconst 0, 1) := by decide +kernel
theorem dX8_goBack_3 : decode cX8_goBack 3 = .ok (.lconst 1, 1) := by decide +kernel
theorem dX8_goBack_4 : decode cX8_goBack 4 = .ok (.invokestatic 107, 3) := by decide +kernel
theorem dX8_goBack_7 : decode cX8_goBack 7 = .ok (.ifCond .ne 7, 3) := by decide +kernel
theorem dX8_goBack_10 : decode cX8_goBack 10 = .ok (.sipush (-1001), 3) := by decide +kernel
theorem dX8_goBack_13 : decode cX8_goBack 13 = .ok (.ireturn, 1) := by decide +kernel
theorem dX8_goBack_14 : decode cX8_goBack 14 = .ok (.aload_n 0, 1) := by decide +kernel
theorem dX8_goBack_15 : decode cX8_goBack 15 = .ok (.getfield 96, 3) := by decide +kernel
theorem dX8_goBack_18 : decode cX8_goBack 18 = .ok (.iload_n 1, 1) := by decide +kernel
theorem dX8_goBack_19 : decode cX8_goBack 19 = .ok (.baload, 1) := by decide +kernel
theorem dX8_goBack_20 : decode cX8_goBack 20 = .ok (.ifCond .ne 7, 3) := by decide +kernel
theorem dX8_goBack_23 : decode cX8_goBack 23 = .ok (.sipush (-1003), 3) := by decide +kernel
theorem dX8_goBack_26 : decode cX8_goBack 26 = .ok (.ireturn, 1) := by decide +kernel
theorem dX8_goBack_27 : decode cX8_goBack 27 = .ok (.bipush 35, 2) := by decide +kernel
theorem dX8_goBack_29 : decode cX8_goBack 29 = .ok (.iload_n 1, 1) := by decide +kernel
theorem dX8_goBack_30 : decode cX8_goBack 30 = .ok (.imul, 1) := by decide +kernel
theorem dX8_goBack_31 : decode cX8_goBack 31 = .ok (.istore_n 2, 1) := by decide +kernel
theorem dX8_goBack_32 : decode cX8_goBack 32 = .ok (.aload_n 0, 1) := by decide +kernel
theorem dX8_goBack_33 : decode cX8_goBack 33 = .ok (.aload_n 0, 1) := by decide +kernel
theorem dX8_goBack_34 : decode cX8_goBack 34 = .ok (.getfield 99, 3) := by decide +kernel
theorem dX8_goBack_37 : decode cX8_goBack 37 = .ok (.iload_n 2, 1) := by decide +kernel
theorem dX8_goBack_38 : decode cX8_goBack 38 = .ok (.iaload, 1) := by decide +kernel
theorem dX8_goBack_39 : decode cX8_goBack 39 = .ok (.putfield 304, 3) := by decide +kernel
theorem dX8_goBack_42 : decode cX8_goBack 42 = .ok (.aload_n 0, 1) := by decide +kernel
theorem dX8_goBack_43 : decode cX8_goBack 43 = .ok (.aload_n 0, 1) := by decide +kernel
theorem dX8_goBack_44 : decode cX8_goBack 44 = .ok (.getfield 99, 3) := by decide +kernel
theorem dX8_goBack_47 : decode cX8_goBack 47 = .ok (.iload_n 2, 1) := by decide +kernel
theorem dX8_goBack_48 : decode cX8_goBack 48 = .ok (.iconst 1, 1) := by decide +kernel
theorem dX8_goBack_49 : decode cX8_goBack 49 = .ok (.iadd, 1) := by decide +kernel
theorem dX8_goBack_50 : decode cX8_goBack 50 = .ok (.iaload, 1) := by decide +kernel
theorem dX8_goBack_51 : decode cX8_goBack 51 = .ok (.putfield 315, 3) := by decide +kernel
theorem dX8_goBack_54 : decode cX8_goBack 54 = .ok (.aload_n 0, 1) := by decide +kernel
theorem dX8_goBack_55 : decode cX8_goBack 55 = .ok (.aload_n 0, 1) := by decide +kernel
theorem dX8_goBack_56 : decode cX8_goBack 56 = .ok (.getfield 99, 3) := by decide +kernel
theorem dX8_goBack_59 : decode cX8_goBack 59 = .ok (.iload_n 2, 1) := by decide +kernel
theorem dX8_goBack_60 : decode cX8_goBack 60 = .ok (.iconst 2, 1) := by decide +kernel
theorem dX8_goBack_61 : decode cX8_goBack 61 = .ok (.iadd, 1) := by decide +kernel
theorem dX8_goBack_62 : decode cX8_goBack 62 = .ok (.iaload, 1) := by decide +kernel
theorem dX8_goBack_63 : decode cX8_goBack 63 = .ok (.putfield 374, 3) := by decide +kernel
theorem dX8_goBack_66 : decode cX8_goBack 66 = .ok (.iconst 0, 1) := by decide +kernel
theorem dX8_goBack_67 : decode cX8_goBack 67 = .ok (.istore_n 3, 1) := by decide +kernel
theorem dX8_goBack_68 : decode cX8_goBack 68 = .ok (.iload_n 3, 1) := by decide +kernel
theorem dX8_goBack_69 : decode cX8_goBack 69 = .ok (.bipush 24, 2) := by decide +kernel
theorem dX8_goBack_71 : decode cX8_goBack 71 = .ok (.if_icmp .ge 34, 3) := by decide +kernel
theorem dX8_goBack_74 : decode cX8_goBack 74 = .ok (.aload_n 0, 1) := by decide +kernel
theorem dX8_goBack_75 : decode cX8_goBack 75 = .ok (.getfield 75, 3) := by decide +kernel
theorem dX8_goBack_78 : decode cX8_goBack 78 = .ok (.iload_n 3, 1) := by decide +kernel
theorem dX8_goBack_79 : decode cX8_goBack 79 = .ok (.aload_n 0, 1) := by decide +kernel
theorem dX8_goBack_80 : decode cX8_goBack 80 = .ok (.getfield 99, 3) := by decide +kernel
theorem dX8_goBack_83 : decode cX8_goBack 83 = .ok (.iload_n 2, 1) := by decide +kernel
theorem dX8_goBack_84 : decode cX8_goBack 84 = .ok (.iconst 3, 1) := by decide +kernel
theorem dX8_goBack_85 : decode cX8_goBack 85 = .ok (.iadd, 1) := by decide +kernel
theorem dX8_goBack_86 : decode cX8_goBack 86 = .ok (.iload_n 3, 1) := by decide +kernel
theorem dX8_goBack_87 : decode cX8_goBack 87 = .ok (.iadd, 1) := by decide +kernel
theorem dX8_goBack_88 : decode cX8_goBack 88 = .ok (.iaload, 1) := by decide +kernel
theorem dX8_goBack_89 : decode cX8_goBack 89 = .ok (.iconst 1, 1) := by decide +kernel
theorem dX8_goBack_90 : decode cX8_goBack 90 = .ok (.if_icmp .ne 7, 3) := by decide +kernel
theorem dX8_goBack_93 : decode cX8_goBack 93 = .ok (.iconst 1, 1) := by decide +kernel
theorem dX8_goBack_94 : decode cX8_goBack 94 = .ok (.goto 4, 3) := by decide +kernel
theorem dX8_goBack_97 : decode cX8_goBack 97 = .ok (.iconst 0, 1) := by decide +kernel
theorem dX8_goBack_98 : decode cX8_goBack 98 = .ok (.bastore, 1) := by decide +kernel
theorem dX8_goBack_99 : decode cX8_goBack 99 = .ok (.iinc 3 1, 3) := by decide +kernel
theorem dX8_goBack_102 : decode cX8_goBack 102 = .ok (.goto (-34), 3) := by decide +kernel
theorem dX8_goBack_105 : decode cX8_goBack 105 = .ok (.iconst 0, 1) := by decide +kernel
theorem dX8_goBack_106 : decode cX8_goBack 106 = .ok (.istore_n 3, 1) := by decide +kernel
theorem dX8_goBack_107 : decode cX8_goBack 107 = .ok (.iload_n 3, 1) := by decide +kernel
theorem dX8_goBack_108 : decode cX8_goBack 108 = .ok (.iconst 4, 1) := by decide +kernel
theorem dX8_goBack_109 : decode cX8_goBack 109 = .ok (.if_icmp .ge 43, 3) := by decide +kernel
theorem dX8_goBack_112 : decode cX8_goBack 112 = .ok (.aload_n 0, 1) := by decide +kernel
theorem dX8_goBack_113 : decode cX8_goBack 113 = .ok (.getfield 84, 3) := by decide +kernel
theorem dX8_goBack_116 : decode cX8_goBack 116 = .ok (.iload_n 3, 1) := by decide +kernel
theorem dX8_goBack_117 : decode cX8_goBack 117 = .ok (.aload_n 0, 1) := by decide +kernel
theorem dX8_goBack_118 : decode cX8_goBack 118 = .ok (.getfield 99, 3) := by decide +kernel
theorem dX8_goBack_121 : decode cX8_goBack 121 = .ok (.iload_n 2, 1) := by decide +kernel
theorem dX8_goBack_122 : decode cX8_goBack 122 = .ok (.bipush 27, 2) := by decide +kernel
theorem dX8_goBack_124 : decode cX8_goBack 124 = .ok (.iadd, 1) := by decide +kernel
theorem dX8_goBack_125 : decode cX8_goBack 125 = .ok (.iload_n 3, 1) := by decide +kernel
theorem dX8_goBack_126 : decode cX8_goBack 126 = .ok (.iadd, 1) := by decide +kernel
theorem dX8_goBack_127 : decode cX8_goBack 127 = .ok (.iaload, 1) := by decide +kernel
theorem dX8_goBack_128 : decode cX8_goBack 128 = .ok (.iastore, 1) := by decide +kernel
theorem dX8_goBack_129 : decode cX8_goBack 129 = .ok (.aload_n 0, 1) := by decide +kernel
theorem dX8_goBack_130 : decode cX8_goBack 130 = .ok (.getfield 87, 3) := by decide +kernel
theorem dX8_goBack_133 : decode cX8_goBack 133 = .ok (.iload_n 3, 1) := by decide +kernel
theorem dX8_goBack_134 : decode cX8_goBack 134 = .ok (.aload_n 0, 1) := by decide +kernel
theorem dX8_goBack_135 : decode cX8_goBack 135 = .ok (.getfield 99, 3) := by decide +kernel
theorem dX8_goBack_138 : decode cX8_goBack 138 = .ok (.iload_n 2, 1) := by decide +kernel
theorem dX8_goBack_139 : decode cX8_goBack 139 = .ok (.bipush 31, 2) := by decide +kernel
theorem dX8_goBack_141 : decode cX8_goBack 141 = .ok (.iadd, 1) := by decide +kernel
theorem dX8_goBack_142 : decode cX8_goBack 142 = .ok (.iload_n 3, 1) := by decide +kernel
theorem dX8_goBack_143 : decode cX8_goBack 143 = .ok (.iadd, 1) := by decide +kernel
theorem dX8_goBack_144 : decode cX8_goBack 144 = .ok (.iaload, 1) := by decide +kernel
theorem dX8_goBack_145 : decode cX8_goBack 145 = .ok (.iastore, 1) := by decide +kernel
theorem dX8_goBack_146 : decode cX8_goBack 146 = .ok (.iinc 3 1, 3) := by decide +kernel
theorem dX8_goBack_149 : decode cX8_goBack 149 = .ok (.goto (-42), 3) := by decide +kernel
theorem dX8_goBack_152 : decode cX8_goBack 152 = .ok (.iconst 1, 1) := by decide +kernel
theorem dX8_goBack_153 : decode cX8_goBack 153 = .ok (.ireturn, 1) := by decide +kernel
