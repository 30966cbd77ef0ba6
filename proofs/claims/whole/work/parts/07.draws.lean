theorem tst1 : Cond.constant RX8 107 (1103515245) ∈ wsX8_draw := List.mem_of_getElem? (i := 2) rfl
theorem tst2 (z : Int32) : z * 1103515245 + 12345 = drZ z := by simp only [drZ]
theorem tst3 (z : Int32) : ((drZ z).toUInt32 >>> ((16 : Int32).toUInt32 &&& Int32.toUInt32 31)).toInt32 = drV z := by simp only [drV]
theorem tst4 : (Int16.ofInt 12345).toInt32 = 12345 := by decide
