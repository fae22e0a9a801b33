theorem law_str0 : True := trivial
def sTmL : List Term := [.string "LastPlace$Street" 87, .string "LastPlace$Street" 88, .string "LastPlace$Street" 90, .string "LastPlace$Street" 92, .string "LastPlace$Street" 94, .string "LastPlace$Street" 96, .string "LastPlace$Street" 98, .string "LastPlace$Street" 100, .string "LastPlace$Street" 102, .string "LastPlace$Street" 104, .string "LastPlace$Street" 118, .string "LastPlace$Street" 124, .string "LastPlace$Rule" 28, .string "LastPlace$Rule" 43]
def sTm (i : Nat) : Term := sTmL.getD i (.int 0)
theorem law_sa : ∀ i, i < 14 → Cond.exactly (sTm i) "java/lang/String" ∈ flatC (Jvm.Cond.and given_1 narrow_1) := by decide +kernel
theorem law_sb : ∀ i, i < 14 → Cond.eq (.field (sTm i) "java/lang/String" "coder" "B") (.int 0) ∈ flatC (Jvm.Cond.and given_1 narrow_1) := by decide +kernel
theorem law_sc : ∀ i, i < 14 → Cond.arrayOf (.field (sTm i) "java/lang/String" "value" "[B") .byte ∈ flatC (Jvm.Cond.and given_1 narrow_1) := by decide +kernel
theorem law_sd : ∀ i, i < 14 → Cond.eq (.length (.field (sTm i) "java/lang/String" "value" "[B")) (.int (Int32.ofNat (sLen.getD i 0))) ∈ flatC (Jvm.Cond.and given_1 narrow_1) := by decide +kernel
theorem law_se : ∀ i, i < 14 → ∀ j, j < sLen.getD i 0 → Cond.eq (.elem (.field (sTm i) "java/lang/String" "value" "[B") (.int (Int32.ofNat j))) (.int ((sByt.getD i []).getD j 0)) ∈ flatC (Jvm.Cond.and given_1 narrow_1) := by decide +kernel
theorem law_sf : ∀ j, j < 14 → ∀ i, i < j → Cond.not (Cond.eq (sTm i) (sTm j)) ∈ flatC (Jvm.Cond.and given_1 narrow_1) := by decide +kernel

