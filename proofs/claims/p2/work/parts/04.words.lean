set_option maxRecDepth 100000 in
def wsGA : List Cond := [Cond.code yX11_cell cX11_cell 2 (some .int), Cond.methodLink RX11 425 yX11_cell, Cond.static yX11_cell, Cond.initialized RX11, Cond.fieldLink RX3 9 "SightedMonths$Frame" "allowed" "[I", Cond.fieldLink RX3 28 "SightedMonths$Frame" "full" "I", Cond.fieldLink RX3 32 "SightedMonths$Frame" "lean" "I", Cond.fieldLink RX3 24 "SightedMonths$Frame" "months" "I", Cond.fieldLink RX3 15 "SightedMonths$Frame" "onward" "[I", Cond.code yX11_firstRun cX11_firstRun 1 (some .int), Cond.static yX11_firstRun, Cond.code yX11_lastRun cX11_lastRun 3 (some .int), Cond.static yX11_lastRun, Cond.code yX11_runWithFull cX11_runWithFull 2 (some .int), Cond.static yX11_runWithFull, Cond.code yX11_runWithLean cX11_runWithLean 3 (some .int), Cond.static yX11_runWithLean] ++ wsX30
theorem mGA_0 : Cond.code yX11_cell cX11_cell 2 (some .int) ∈ wsGA := List.mem_of_getElem? (i := 0) (by decide +kernel)
theorem mGA_1 : Cond.methodLink RX11 425 yX11_cell ∈ wsGA := List.mem_of_getElem? (i := 1) (by decide +kernel)
theorem mGA_2 : Cond.static yX11_cell ∈ wsGA := List.mem_of_getElem? (i := 2) (by decide +kernel)
theorem mGA_3 : Cond.initialized RX11 ∈ wsGA := List.mem_of_getElem? (i := 3) (by decide +kernel)
theorem mGA_4 : Cond.fieldLink RX3 9 "SightedMonths$Frame" "allowed" "[I" ∈ wsGA := List.mem_of_getElem? (i := 4) (by decide +kernel)
theorem mGA_5 : Cond.fieldLink RX3 28 "SightedMonths$Frame" "full" "I" ∈ wsGA := List.mem_of_getElem? (i := 5) (by decide +kernel)
theorem mGA_6 : Cond.fieldLink RX3 32 "SightedMonths$Frame" "lean" "I" ∈ wsGA := List.mem_of_getElem? (i := 6) (by decide +kernel)
theorem mGA_7 : Cond.fieldLink RX3 24 "SightedMonths$Frame" "months" "I" ∈ wsGA := List.mem_of_getElem? (i := 7) (by decide +kernel)
theorem mGA_8 : Cond.fieldLink RX3 15 "SightedMonths$Frame" "onward" "[I" ∈ wsGA := List.mem_of_getElem? (i := 8) (by decide +kernel)
theorem mGA_9 : Cond.code yX11_firstRun cX11_firstRun 1 (some .int) ∈ wsGA := List.mem_of_getElem? (i := 9) (by decide +kernel)
theorem mGA_10 : Cond.static yX11_firstRun ∈ wsGA := List.mem_of_getElem? (i := 10) (by decide +kernel)
theorem mGA_11 : Cond.code yX11_lastRun cX11_lastRun 3 (some .int) ∈ wsGA := List.mem_of_getElem? (i := 11) (by decide +kernel)
theorem mGA_12 : Cond.static yX11_lastRun ∈ wsGA := List.mem_of_getElem? (i := 12) (by decide +kernel)
theorem mGA_13 : Cond.code yX11_runWithFull cX11_runWithFull 2 (some .int) ∈ wsGA := List.mem_of_getElem? (i := 13) (by decide +kernel)
theorem mGA_14 : Cond.static yX11_runWithFull ∈ wsGA := List.mem_of_getElem? (i := 14) (by decide +kernel)
theorem mGA_15 : Cond.code yX11_runWithLean cX11_runWithLean 3 (some .int) ∈ wsGA := List.mem_of_getElem? (i := 15) (by decide +kernel)
theorem mGA_16 : Cond.static yX11_runWithLean ∈ wsGA := List.mem_of_getElem? (i := 16) (by decide +kernel)
theorem jnGA_X3 : ∀ w ∈ wsX30, w ∈ wsGA := fun _ h => List.mem_append_right _ h
theorem goodGA : wsGA.all goodWord = true := by decide +kernel
def nzA (U : State) : Prop := va_Nw (.methodLinkNest RX11 11 yX6_init RX11) U ∧ va_Nw (.methodLinkNest RX6 11 yX10_init RX11) U ∧ va_Nw (.methodLinkNest RX0 29 yX5_init RX11) U ∧ va_Nw (.methodLinkNest RX0 30 yX7_init RX11) U ∧ va_Nw (.methodLinkNest RX0 31 yX2_init RX11) U ∧ va_Nw (.methodLinkNest RX11 28 yX3_init RX11) U ∧ va_Nw (.methodLinkNest RX11 35 yX1_init RX11) U ∧ va_Nw (.methodLinkNest RX1 11 yX3_init RX11) U ∧ va_Nw (.methodLinkNest RX11 45 yX9_init RX11) U ∧ va_Nw (.methodLinkNest RX11 52 yX8_init RX11) U ∧ va_Nw (.methodLinkNest RX11 59 yX4_init RX11) U ∧ va_Nw (.methodLinkNest RX3 48 yX11_firstRun RX11) U ∧ va_Nw (.methodLinkNest RX3 52 yX11_lastRun RX11) U ∧ va_Nw (.methodLinkNest RX3 56 yX11_runWithFull RX11) U ∧ va_Nw (.methodLinkNest RX3 60 yX11_runWithLean RX11) U ∧ va_Nw (.methodLinkNest RX3 63 yX11_dayOf RX11) U ∧ va_Nw (.methodLinkNest RX9 63 yX11_spot RX11) U ∧ va_Nw (.methodLinkNest RX9 67 yX11_firstRun RX11) U ∧ va_Nw (.methodLinkNest RX9 71 yX11_lastRun RX11) U ∧ va_Nw (.methodLinkNest RX9 74 yX11_runWithFull RX11) U ∧ va_Nw (.methodLinkNest RX9 78 yX11_runWithLean RX11) U ∧ va_Nw (.methodLinkNest RX9 92 yX11_cell RX11) U ∧ va_Nw (.methodLinkNest RX9 95 yX11_dayOf RX11) U ∧ va_Nw (.methodLinkNest RX8 24 yX11_cell RX11) U ∧ va_Nw (.methodLinkNest RX8 52 yX11_firstRun RX11) U ∧ va_Nw (.methodLinkNest RX8 56 yX11_lastRun RX11) U ∧ va_Nw (.methodLinkNest RX8 74 yX11_runWithFull RX11) U ∧ va_Nw (.methodLinkNest RX8 71 yX11_spot RX11) U ∧ va_Nw (.methodLinkNest RX8 77 yX11_runWithLean RX11) U ∧ va_Nw (.methodLinkNest RX2 23 yX11_anchorOf RX11) U ∧ va_Nw (.methodLinkNest RX2 29 yX11_offsetOf RX11) U ∧ va_AO RX5 U ∧ va_AO RX7 U ∧ va_AO RX2 U
theorem nzA_X11_11 {U : State} (h : nzA U) : va_Nw (.methodLinkNest RX11 11 yX6_init RX11) U := h.1
theorem nzA_X6_11 {U : State} (h : nzA U) : va_Nw (.methodLinkNest RX6 11 yX10_init RX11) U := h.2.1
theorem nzA_X0_29 {U : State} (h : nzA U) : va_Nw (.methodLinkNest RX0 29 yX5_init RX11) U := h.2.2.1
theorem nzA_X0_30 {U : State} (h : nzA U) : va_Nw (.methodLinkNest RX0 30 yX7_init RX11) U := h.2.2.2.1
theorem nzA_X0_31 {U : State} (h : nzA U) : va_Nw (.methodLinkNest RX0 31 yX2_init RX11) U := h.2.2.2.2.1
theorem nzA_X11_28 {U : State} (h : nzA U) : va_Nw (.methodLinkNest RX11 28 yX3_init RX11) U := h.2.2.2.2.2.1
theorem nzA_X11_35 {U : State} (h : nzA U) : va_Nw (.methodLinkNest RX11 35 yX1_init RX11) U := h.2.2.2.2.2.2.1
theorem nzA_X1_11 {U : State} (h : nzA U) : va_Nw (.methodLinkNest RX1 11 yX3_init RX11) U := h.2.2.2.2.2.2.2.1
theorem nzA_X11_45 {U : State} (h : nzA U) : va_Nw (.methodLinkNest RX11 45 yX9_init RX11) U := h.2.2.2.2.2.2.2.2.1
theorem nzA_X11_52 {U : State} (h : nzA U) : va_Nw (.methodLinkNest RX11 52 yX8_init RX11) U := h.2.2.2.2.2.2.2.2.2.1
theorem nzA_X11_59 {U : State} (h : nzA U) : va_Nw (.methodLinkNest RX11 59 yX4_init RX11) U := h.2.2.2.2.2.2.2.2.2.2.1
theorem nzA_X3_48 {U : State} (h : nzA U) : va_Nw (.methodLinkNest RX3 48 yX11_firstRun RX11) U := h.2.2.2.2.2.2.2.2.2.2.2.1
theorem nzA_X3_52 {U : State} (h : nzA U) : va_Nw (.methodLinkNest RX3 52 yX11_lastRun RX11) U := h.2.2.2.2.2.2.2.2.2.2.2.2.1
theorem nzA_X3_56 {U : State} (h : nzA U) : va_Nw (.methodLinkNest RX3 56 yX11_runWithFull RX11) U := h.2.2.2.2.2.2.2.2.2.2.2.2.2.1
theorem nzA_X3_60 {U : State} (h : nzA U) : va_Nw (.methodLinkNest RX3 60 yX11_runWithLean RX11) U := h.2.2.2.2.2.2.2.2.2.2.2.2.2.2.1
theorem nzA_X3_63 {U : State} (h : nzA U) : va_Nw (.methodLinkNest RX3 63 yX11_dayOf RX11) U := h.2.2.2.2.2.2.2.2.2.2.2.2.2.2.2.1
theorem nzA_X9_63 {U : State} (h : nzA U) : va_Nw (.methodLinkNest RX9 63 yX11_spot RX11) U := h.2.2.2.2.2.2.2.2.2.2.2.2.2.2.2.2.1
theorem nzA_X9_67 {U : State} (h : nzA U) : va_Nw (.methodLinkNest RX9 67 yX11_firstRun RX11) U := h.2.2.2.2.2.2.2.2.2.2.2.2.2.2.2.2.2.1
theorem nzA_X9_71 {U : State} (h : nzA U) : va_Nw (.methodLinkNest RX9 71 yX11_lastRun RX11) U := h.2.2.2.2.2.2.2.2.2.2.2.2.2.2.2.2.2.2.1
theorem nzA_X9_74 {U : State} (h : nzA U) : va_Nw (.methodLinkNest RX9 74 yX11_runWithFull RX11) U := h.2.2.2.2.2.2.2.2.2.2.2.2.2.2.2.2.2.2.2.1
theorem nzA_X9_78 {U : State} (h : nzA U) : va_Nw (.methodLinkNest RX9 78 yX11_runWithLean RX11) U := h.2.2.2.2.2.2.2.2.2.2.2.2.2.2.2.2.2.2.2.2.1
theorem nzA_X9_92 {U : State} (h : nzA U) : va_Nw (.methodLinkNest RX9 92 yX11_cell RX11) U := h.2.2.2.2.2.2.2.2.2.2.2.2.2.2.2.2.2.2.2.2.2.1
theorem nzA_X9_95 {U : State} (h : nzA U) : va_Nw (.methodLinkNest RX9 95 yX11_dayOf RX11) U := h.2.2.2.2.2.2.2.2.2.2.2.2.2.2.2.2.2.2.2.2.2.2.1
theorem nzA_X8_24 {U : State} (h : nzA U) : va_Nw (.methodLinkNest RX8 24 yX11_cell RX11) U := h.2.2.2.2.2.2.2.2.2.2.2.2.2.2.2.2.2.2.2.2.2.2.2.1
theorem nzA_X8_52 {U : State} (h : nzA U) : va_Nw (.methodLinkNest RX8 52 yX11_firstRun RX11) U := h.2.2.2.2.2.2.2.2.2.2.2.2.2.2.2.2.2.2.2.2.2.2.2.2.1
theorem nzA_X8_56 {U : State} (h : nzA U) : va_Nw (.methodLinkNest RX8 56 yX11_lastRun RX11) U := h.2.2.2.2.2.2.2.2.2.2.2.2.2.2.2.2.2.2.2.2.2.2.2.2.2.1
theorem nzA_X8_74 {U : State} (h : nzA U) : va_Nw (.methodLinkNest RX8 74 yX11_runWithFull RX11) U := h.2.2.2.2.2.2.2.2.2.2.2.2.2.2.2.2.2.2.2.2.2.2.2.2.2.2.1
theorem nzA_X8_71 {U : State} (h : nzA U) : va_Nw (.methodLinkNest RX8 71 yX11_spot RX11) U := h.2.2.2.2.2.2.2.2.2.2.2.2.2.2.2.2.2.2.2.2.2.2.2.2.2.2.2.1
theorem nzA_X8_77 {U : State} (h : nzA U) : va_Nw (.methodLinkNest RX8 77 yX11_runWithLean RX11) U := h.2.2.2.2.2.2.2.2.2.2.2.2.2.2.2.2.2.2.2.2.2.2.2.2.2.2.2.2.1
theorem nzA_X2_23 {U : State} (h : nzA U) : va_Nw (.methodLinkNest RX2 23 yX11_anchorOf RX11) U := h.2.2.2.2.2.2.2.2.2.2.2.2.2.2.2.2.2.2.2.2.2.2.2.2.2.2.2.2.2.1
theorem nzA_X2_29 {U : State} (h : nzA U) : va_Nw (.methodLinkNest RX2 29 yX11_offsetOf RX11) U := h.2.2.2.2.2.2.2.2.2.2.2.2.2.2.2.2.2.2.2.2.2.2.2.2.2.2.2.2.2.2.1
theorem nzA_ao_X5 {U : State} (h : nzA U) : va_AO RX5 U := h.2.2.2.2.2.2.2.2.2.2.2.2.2.2.2.2.2.2.2.2.2.2.2.2.2.2.2.2.2.2.2.1
theorem nzA_ao_X7 {U : State} (h : nzA U) : va_AO RX7 U := h.2.2.2.2.2.2.2.2.2.2.2.2.2.2.2.2.2.2.2.2.2.2.2.2.2.2.2.2.2.2.2.2.1
theorem nzA_ao_X2 {U : State} (h : nzA U) : va_AO RX2 U := h.2.2.2.2.2.2.2.2.2.2.2.2.2.2.2.2.2.2.2.2.2.2.2.2.2.2.2.2.2.2.2.2.2
theorem nzA_same {u U : State} (h : u.vm = U.vm) (hz : nzA u) : nzA U := ⟨va_Nw.same rfl h (nzA_X11_11 hz), va_Nw.same rfl h (nzA_X6_11 hz), va_Nw.same rfl h (nzA_X0_29 hz), va_Nw.same rfl h (nzA_X0_30 hz), va_Nw.same rfl h (nzA_X0_31 hz), va_Nw.same rfl h (nzA_X11_28 hz), va_Nw.same rfl h (nzA_X11_35 hz), va_Nw.same rfl h (nzA_X1_11 hz), va_Nw.same rfl h (nzA_X11_45 hz), va_Nw.same rfl h (nzA_X11_52 hz), va_Nw.same rfl h (nzA_X11_59 hz), va_Nw.same rfl h (nzA_X3_48 hz), va_Nw.same rfl h (nzA_X3_52 hz), va_Nw.same rfl h (nzA_X3_56 hz), va_Nw.same rfl h (nzA_X3_60 hz), va_Nw.same rfl h (nzA_X3_63 hz), va_Nw.same rfl h (nzA_X9_63 hz), va_Nw.same rfl h (nzA_X9_67 hz), va_Nw.same rfl h (nzA_X9_71 hz), va_Nw.same rfl h (nzA_X9_74 hz), va_Nw.same rfl h (nzA_X9_78 hz), va_Nw.same rfl h (nzA_X9_92 hz), va_Nw.same rfl h (nzA_X9_95 hz), va_Nw.same rfl h (nzA_X8_24 hz), va_Nw.same rfl h (nzA_X8_52 hz), va_Nw.same rfl h (nzA_X8_56 hz), va_Nw.same rfl h (nzA_X8_74 hz), va_Nw.same rfl h (nzA_X8_71 hz), va_Nw.same rfl h (nzA_X8_77 hz), va_Nw.same rfl h (nzA_X2_23 hz), va_Nw.same rfl h (nzA_X2_29 hz), va_AO.moved (h ▸ Vm.Alike.refl u.vm) (nzA_ao_X5 hz), va_AO.moved (h ▸ Vm.Alike.refl u.vm) (nzA_ao_X7 hz), va_AO.moved (h ▸ Vm.Alike.refl u.vm) (nzA_ao_X2 hz)⟩
theorem nzA_warm {s U : State} (hW : s.WarmedH U.vm) (hz : nzA s) : nzA U := ⟨va_Nw.warmM hW (nzA_X11_11 hz), va_Nw.warmM hW (nzA_X6_11 hz), va_Nw.warmM hW (nzA_X0_29 hz), va_Nw.warmM hW (nzA_X0_30 hz), va_Nw.warmM hW (nzA_X0_31 hz), va_Nw.warmM hW (nzA_X11_28 hz), va_Nw.warmM hW (nzA_X11_35 hz), va_Nw.warmM hW (nzA_X1_11 hz), va_Nw.warmM hW (nzA_X11_45 hz), va_Nw.warmM hW (nzA_X11_52 hz), va_Nw.warmM hW (nzA_X11_59 hz), va_Nw.warmM hW (nzA_X3_48 hz), va_Nw.warmM hW (nzA_X3_52 hz), va_Nw.warmM hW (nzA_X3_56 hz), va_Nw.warmM hW (nzA_X3_60 hz), va_Nw.warmM hW (nzA_X3_63 hz), va_Nw.warmM hW (nzA_X9_63 hz), va_Nw.warmM hW (nzA_X9_67 hz), va_Nw.warmM hW (nzA_X9_71 hz), va_Nw.warmM hW (nzA_X9_74 hz), va_Nw.warmM hW (nzA_X9_78 hz), va_Nw.warmM hW (nzA_X9_92 hz), va_Nw.warmM hW (nzA_X9_95 hz), va_Nw.warmM hW (nzA_X8_24 hz), va_Nw.warmM hW (nzA_X8_52 hz), va_Nw.warmM hW (nzA_X8_56 hz), va_Nw.warmM hW (nzA_X8_74 hz), va_Nw.warmM hW (nzA_X8_71 hz), va_Nw.warmM hW (nzA_X8_77 hz), va_Nw.warmM hW (nzA_X2_23 hz), va_Nw.warmM hW (nzA_X2_29 hz), va_AO.moved hW.alike (nzA_ao_X5 hz), va_AO.moved hW.alike (nzA_ao_X7 hz), va_AO.moved hW.alike (nzA_ao_X2 hz)⟩
