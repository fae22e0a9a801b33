theorem tw_968 : Cond.methodLink RX8 1 objectInit ∈ LW := LWm4 (i := 170) (by decide +kernel) rfl
