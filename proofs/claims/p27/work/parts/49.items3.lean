theorem zs_oS.tr {S S1 S2 : zs_S} (h : zs_oS S S1) (k : zs_oS S1 S2) : zs_oS S S2 := ⟨k.1, h.2.1.tr k.2.1, k.2.2.1.trans h.2.2.1, k.2.2.2.trans h.2.2.2⟩
