theorem tw_968 : Cond.methodLink RX8 1 objectInit ∈ LW := LWm (i := 968) (by decide +kernel) rfl
