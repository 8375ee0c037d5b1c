theorem zs_fm.t {S S2 : zs_S} (h : zs_fm S S2) : S2.1 84 = S.1 84 := funext fun i => (h 84 i rfl).1
theorem zs_nb8 : ∀ c, c < 128 → vp_nar .byte (Int8.toInt32 (Int32.toInt8 (nI c))) = nI c := by decide +kernel
