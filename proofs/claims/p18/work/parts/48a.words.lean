theorem q_82 : Cond.instantiable RX6 9 ∈ oh_t := oh_of (i := 82) (by decide +kernel) rfl

