/-! methods, their words -/
abbrev MX0_gather : zs_M := (yX0_gather, cX0_gather, 3, none, { frames := 4, cells := 0, slots := 0, locals := 90 })
set_option maxRecDepth 100000 in
theorem cwX0_gather : Cond.code MX0_gather.1 MX0_gather.2.1 MX0_gather.2.2.1 MX0_gather.2.2.2.1 ∈ zs_tbl := zs_iq4 17 rfl rfl
set_option maxRecDepth 100000 in
theorem iwX0_gather : Cond.initialized MX0_gather.1.cls ∈ zs_tbl := zs_iq1 8 rfl rfl
set_option maxRecDepth 100000 in
theorem mwX0_gather : Cond.instanceMethod MX0_gather.1 ∈ zs_tbl := zs_iq4 15 rfl rfl
set_option maxRecDepth 100000 in
theorem ewX0_gather : Cond.selects MX0_gather.1.cls MX0_gather.1 MX0_gather.1 ∈ zs_tbl := zs_iq4 16 rfl rfl
abbrev MX0_tallyAt : zs_M := (yX0_tallyAt, cX0_tallyAt, 5, none, { frames := 3, cells := 0, slots := 0, locals := 67 })
set_option maxRecDepth 100000 in
theorem cwX0_tallyAt : Cond.code MX0_tallyAt.1 MX0_tallyAt.2.1 MX0_tallyAt.2.2.1 MX0_tallyAt.2.2.2.1 ∈ zs_tbl := zs_iq4 47 rfl rfl
set_option maxRecDepth 100000 in
theorem iwX0_tallyAt : Cond.initialized MX0_tallyAt.1.cls ∈ zs_tbl := zs_iq1 8 rfl rfl
set_option maxRecDepth 100000 in
theorem mwX0_tallyAt : Cond.instanceMethod MX0_tallyAt.1 ∈ zs_tbl := zs_iq4 45 rfl rfl
set_option maxRecDepth 100000 in
theorem ewX0_tallyAt : Cond.selects MX0_tallyAt.1.cls MX0_tallyAt.1 MX0_tallyAt.1 ∈ zs_tbl := zs_iq4 46 rfl rfl
abbrev MX0_fillPassed : zs_M := (yX0_fillPassed, cX0_fillPassed, 5, none, { frames := 2, cells := 0, slots := 0, locals := 43 })
set_option maxRecDepth 100000 in
theorem cwX0_fillPassed : Cond.code MX0_fillPassed.1 MX0_fillPassed.2.1 MX0_fillPassed.2.2.1 MX0_fillPassed.2.2.2.1 ∈ zs_tbl := zs_iq4 21 rfl rfl
set_option maxRecDepth 100000 in
theorem iwX0_fillPassed : Cond.initialized MX0_fillPassed.1.cls ∈ zs_tbl := zs_iq1 8 rfl rfl
set_option maxRecDepth 100000 in
theorem mwX0_fillPassed : Cond.instanceMethod MX0_fillPassed.1 ∈ zs_tbl := zs_iq4 20 rfl rfl
set_option maxRecDepth 100000 in
theorem ewX0_fillPassed : Cond.selects MX0_fillPassed.1.cls MX0_fillPassed.1 MX0_fillPassed.1 ∈ zs_tbl := zs_iq0 27 rfl rfl
abbrev MX0_fits : zs_M := (yX0_fits, cX0_fits, 4, some .boolean, { frames := 3, cells := 0, slots := 0, locals := 67 })
set_option maxRecDepth 100000 in
theorem cwX0_fits : Cond.code MX0_fits.1 MX0_fits.2.1 MX0_fits.2.2.1 MX0_fits.2.2.2.1 ∈ zs_tbl := zs_iq4 27 rfl rfl
set_option maxRecDepth 100000 in
theorem iwX0_fits : Cond.initialized MX0_fits.1.cls ∈ zs_tbl := zs_iq1 8 rfl rfl
set_option maxRecDepth 100000 in
theorem mwX0_fits : Cond.instanceMethod MX0_fits.1 ∈ zs_tbl := zs_iq4 26 rfl rfl
set_option maxRecDepth 100000 in
theorem ewX0_fits : Cond.selects MX0_fits.1.cls MX0_fits.1 MX0_fits.1 ∈ zs_tbl := zs_iq0 28 rfl rfl
abbrev MX0_drawingAt : zs_M := (yX0_drawingAt, cX0_drawingAt, 5, some .int, { frames := 2, cells := 0, slots := 0, locals := 43 })
set_option maxRecDepth 100000 in
theorem cwX0_drawingAt : Cond.code MX0_drawingAt.1 MX0_drawingAt.2.1 MX0_drawingAt.2.2.1 MX0_drawingAt.2.2.2.1 ∈ zs_tbl := zs_iq4 36 rfl rfl
set_option maxRecDepth 100000 in
theorem iwX0_drawingAt : Cond.initialized MX0_drawingAt.1.cls ∈ zs_tbl := zs_iq1 8 rfl rfl
set_option maxRecDepth 100000 in
theorem mwX0_drawingAt : Cond.instanceMethod MX0_drawingAt.1 ∈ zs_tbl := zs_iq4 35 rfl rfl
set_option maxRecDepth 100000 in
theorem ewX0_drawingAt : Cond.selects MX0_drawingAt.1.cls MX0_drawingAt.1 MX0_drawingAt.1 ∈ zs_tbl := zs_iq0 29 rfl rfl
abbrev MX1_sight : zs_M := (yX1_sight, cX1_sight, 3, some .int, { frames := 2, cells := 0, slots := 0, locals := 42 })
set_option maxRecDepth 100000 in
theorem cwX1_sight : Cond.code MX1_sight.1 MX1_sight.2.1 MX1_sight.2.2.1 MX1_sight.2.2.2.1 ∈ zs_tbl := zs_iq3 62 rfl rfl
set_option maxRecDepth 100000 in
theorem iwX1_sight : Cond.initialized MX1_sight.1.cls ∈ zs_tbl := zs_iq1 18 rfl rfl
set_option maxRecDepth 100000 in
theorem swX1_sight : Cond.static MX1_sight.1 ∈ zs_tbl := zs_iq3 61 rfl rfl
abbrev MX1_lazy : zs_M := (yX1_lazy, cX1_lazy, 2, some .int, { frames := 0, cells := 0, slots := 0, locals := 0 })
set_option maxRecDepth 100000 in
theorem cwX1_lazy : Cond.code MX1_lazy.1 MX1_lazy.2.1 MX1_lazy.2.2.1 MX1_lazy.2.2.2.1 ∈ zs_tbl := zs_iq3 65 rfl rfl
set_option maxRecDepth 100000 in
theorem iwX1_lazy : Cond.initialized MX1_lazy.1.cls ∈ zs_tbl := zs_iq1 18 rfl rfl
set_option maxRecDepth 100000 in
theorem swX1_lazy : Cond.static MX1_lazy.1 ∈ zs_tbl := zs_iq3 64 rfl rfl
abbrev MX1_sharp : zs_M := (yX1_sharp, cX1_sharp, 2, some .int, { frames := 1, cells := 0, slots := 0, locals := 20 })
set_option maxRecDepth 100000 in
theorem cwX1_sharp : Cond.code MX1_sharp.1 MX1_sharp.2.1 MX1_sharp.2.2.1 MX1_sharp.2.2.2.1 ∈ zs_tbl := zs_iq3 68 rfl rfl
set_option maxRecDepth 100000 in
theorem iwX1_sharp : Cond.initialized MX1_sharp.1.cls ∈ zs_tbl := zs_iq1 18 rfl rfl
set_option maxRecDepth 100000 in
theorem swX1_sharp : Cond.static MX1_sharp.1 ∈ zs_tbl := zs_iq3 67 rfl rfl
abbrev MX1_child : zs_M := (yX1_child, cX1_child, 2, some .int, { frames := 1, cells := 0, slots := 0, locals := 21 })
set_option maxRecDepth 100000 in
theorem cwX1_child : Cond.code MX1_child.1 MX1_child.2.1 MX1_child.2.2.1 MX1_child.2.2.2.1 ∈ zs_tbl := zs_iq3 74 rfl rfl
set_option maxRecDepth 100000 in
theorem iwX1_child : Cond.initialized MX1_child.1.cls ∈ zs_tbl := zs_iq1 18 rfl rfl
set_option maxRecDepth 100000 in
theorem swX1_child : Cond.static MX1_child.1 ∈ zs_tbl := zs_iq3 73 rfl rfl
abbrev MX2_passing : zs_M := (yX2_passing, cX2_passing, 3, some .int, { frames := 1, cells := 0, slots := 0, locals := 21 })
set_option maxRecDepth 100000 in
theorem cwX2_passing : Cond.code MX2_passing.1 MX2_passing.2.1 MX2_passing.2.2.1 MX2_passing.2.2.2.1 ∈ zs_tbl := zs_iq3 39 rfl rfl
set_option maxRecDepth 100000 in
theorem iwX2_passing : Cond.initialized MX2_passing.1.cls ∈ zs_tbl := zs_iq1 16 rfl rfl
set_option maxRecDepth 100000 in
theorem swX2_passing : Cond.static MX2_passing.1 ∈ zs_tbl := zs_iq3 38 rfl rfl
abbrev MX2_twice : zs_M := (yX2_twice, cX2_twice, 1, some .int, { frames := 0, cells := 0, slots := 0, locals := 0 })
set_option maxRecDepth 100000 in
theorem cwX2_twice : Cond.code MX2_twice.1 MX2_twice.2.1 MX2_twice.2.2.1 MX2_twice.2.2.2.1 ∈ zs_tbl := zs_iq3 42 rfl rfl
set_option maxRecDepth 100000 in
theorem iwX2_twice : Cond.initialized MX2_twice.1.cls ∈ zs_tbl := zs_iq1 16 rfl rfl
set_option maxRecDepth 100000 in
theorem swX2_twice : Cond.static MX2_twice.1 ∈ zs_tbl := zs_iq3 41 rfl rfl
abbrev MX2_jerk : zs_M := (yX2_jerk, cX2_jerk, 2, some .int, { frames := 0, cells := 0, slots := 0, locals := 0 })
set_option maxRecDepth 100000 in
theorem cwX2_jerk : Cond.code MX2_jerk.1 MX2_jerk.2.1 MX2_jerk.2.2.1 MX2_jerk.2.2.2.1 ∈ zs_tbl := zs_iq3 45 rfl rfl
set_option maxRecDepth 100000 in
theorem iwX2_jerk : Cond.initialized MX2_jerk.1.cls ∈ zs_tbl := zs_iq1 16 rfl rfl
set_option maxRecDepth 100000 in
theorem swX2_jerk : Cond.static MX2_jerk.1 ∈ zs_tbl := zs_iq3 44 rfl rfl
abbrev MX3_begin : zs_M := (yX3_begin, cX3_begin, 2, none, { frames := 1, cells := 0, slots := 0, locals := 22 })
set_option maxRecDepth 100000 in
theorem cwX3_begin : Cond.code MX3_begin.1 MX3_begin.2.1 MX3_begin.2.2.1 MX3_begin.2.2.2.1 ∈ zs_tbl := zs_iq2 92 rfl rfl
set_option maxRecDepth 100000 in
theorem iwX3_begin : Cond.initialized MX3_begin.1.cls ∈ zs_tbl := zs_iq1 3 rfl rfl
set_option maxRecDepth 100000 in
theorem mwX3_begin : Cond.instanceMethod MX3_begin.1 ∈ zs_tbl := zs_iq2 90 rfl rfl
set_option maxRecDepth 100000 in
theorem ewX3_begin : Cond.selects MX3_begin.1.cls MX3_begin.1 MX3_begin.1 ∈ zs_tbl := zs_iq2 91 rfl rfl
abbrev MX3_become : zs_M := (yX3_become, cX3_become, 2, none, { frames := 1, cells := 0, slots := 0, locals := 22 })
set_option maxRecDepth 100000 in
theorem cwX3_become : Cond.code MX3_become.1 MX3_become.2.1 MX3_become.2.2.1 MX3_become.2.2.2.1 ∈ zs_tbl := zs_iq3 89 rfl rfl
set_option maxRecDepth 100000 in
theorem iwX3_become : Cond.initialized MX3_become.1.cls ∈ zs_tbl := zs_iq1 3 rfl rfl
set_option maxRecDepth 100000 in
theorem mwX3_become : Cond.instanceMethod MX3_become.1 ∈ zs_tbl := zs_iq3 87 rfl rfl
set_option maxRecDepth 100000 in
theorem ewX3_become : Cond.selects MX3_become.1.cls MX3_become.1 MX3_become.1 ∈ zs_tbl := zs_iq3 88 rfl rfl
abbrev MX3_writeTo : zs_M := (yX3_writeTo, cX3_writeTo, 5, none, { frames := 1, cells := 0, slots := 0, locals := 22 })
set_option maxRecDepth 100000 in
theorem cwX3_writeTo : Cond.code MX3_writeTo.1 MX3_writeTo.2.1 MX3_writeTo.2.2.1 MX3_writeTo.2.2.2.1 ∈ zs_tbl := zs_iq3 119 rfl rfl
set_option maxRecDepth 100000 in
theorem iwX3_writeTo : Cond.initialized MX3_writeTo.1.cls ∈ zs_tbl := zs_iq1 3 rfl rfl
set_option maxRecDepth 100000 in
theorem mwX3_writeTo : Cond.instanceMethod MX3_writeTo.1 ∈ zs_tbl := zs_iq3 117 rfl rfl
set_option maxRecDepth 100000 in
theorem ewX3_writeTo : Cond.selects MX3_writeTo.1.cls MX3_writeTo.1 MX3_writeTo.1 ∈ zs_tbl := zs_iq3 118 rfl rfl
abbrev MX3_takeFrom : zs_M := (yX3_takeFrom, cX3_takeFrom, 5, none, { frames := 1, cells := 0, slots := 0, locals := 22 })
set_option maxRecDepth 100000 in
theorem cwX3_takeFrom : Cond.code MX3_takeFrom.1 MX3_takeFrom.2.1 MX3_takeFrom.2.2.1 MX3_takeFrom.2.2.2.1 ∈ zs_tbl := zs_iq3 155 rfl rfl
set_option maxRecDepth 100000 in
theorem iwX3_takeFrom : Cond.initialized MX3_takeFrom.1.cls ∈ zs_tbl := zs_iq1 3 rfl rfl
set_option maxRecDepth 100000 in
theorem mwX3_takeFrom : Cond.instanceMethod MX3_takeFrom.1 ∈ zs_tbl := zs_iq3 153 rfl rfl
set_option maxRecDepth 100000 in
theorem ewX3_takeFrom : Cond.selects MX3_takeFrom.1.cls MX3_takeFrom.1 MX3_takeFrom.1 ∈ zs_tbl := zs_iq3 154 rfl rfl
abbrev MX4_empty : zs_M := (yX4_empty, cX4_empty, 1, none, { frames := 0, cells := 0, slots := 0, locals := 0 })
set_option maxRecDepth 100000 in
theorem cwX4_empty : Cond.code MX4_empty.1 MX4_empty.2.1 MX4_empty.2.2.1 MX4_empty.2.2.2.1 ∈ zs_tbl := zs_iq2 97 rfl rfl
set_option maxRecDepth 100000 in
theorem iwX4_empty : Cond.initialized MX4_empty.1.cls ∈ zs_tbl := zs_iq1 4 rfl rfl
set_option maxRecDepth 100000 in
theorem mwX4_empty : Cond.instanceMethod MX4_empty.1 ∈ zs_tbl := zs_iq2 95 rfl rfl
set_option maxRecDepth 100000 in
theorem ewX4_empty : Cond.selects MX4_empty.1.cls MX4_empty.1 MX4_empty.1 ∈ zs_tbl := zs_iq2 96 rfl rfl
abbrev MX4_push : zs_M := (yX4_push, cX4_push, 2, none, { frames := 2, cells := 0, slots := 0, locals := 46 })
set_option maxRecDepth 100000 in
theorem cwX4_push : Cond.code MX4_push.1 MX4_push.2.1 MX4_push.2.2.1 MX4_push.2.2.2.1 ∈ zs_tbl := zs_iq3 109 rfl rfl
set_option maxRecDepth 100000 in
theorem iwX4_push : Cond.initialized MX4_push.1.cls ∈ zs_tbl := zs_iq1 4 rfl rfl
set_option maxRecDepth 100000 in
theorem mwX4_push : Cond.instanceMethod MX4_push.1 ∈ zs_tbl := zs_iq3 107 rfl rfl
set_option maxRecDepth 100000 in
theorem ewX4_push : Cond.selects MX4_push.1.cls MX4_push.1 MX4_push.1 ∈ zs_tbl := zs_iq3 108 rfl rfl
abbrev MX4_pop : zs_M := (yX4_pop, cX4_pop, 2, none, { frames := 2, cells := 0, slots := 0, locals := 46 })
set_option maxRecDepth 100000 in
theorem cwX4_pop : Cond.code MX4_pop.1 MX4_pop.2.1 MX4_pop.2.2.1 MX4_pop.2.2.2.1 ∈ zs_tbl := zs_iq3 151 rfl rfl
set_option maxRecDepth 100000 in
theorem iwX4_pop : Cond.initialized MX4_pop.1.cls ∈ zs_tbl := zs_iq1 4 rfl rfl
set_option maxRecDepth 100000 in
theorem mwX4_pop : Cond.instanceMethod MX4_pop.1 ∈ zs_tbl := zs_iq3 149 rfl rfl
set_option maxRecDepth 100000 in
theorem ewX4_pop : Cond.selects MX4_pop.1.cls MX4_pop.1 MX4_pop.1 ∈ zs_tbl := zs_iq3 150 rfl rfl
abbrev MX4_become : zs_M := (yX4_become, cX4_become, 2, none, { frames := 1, cells := 0, slots := 0, locals := 22 })
set_option maxRecDepth 100000 in
theorem cwX4_become : Cond.code MX4_become.1 MX4_become.2.1 MX4_become.2.2.1 MX4_become.2.2.2.1 ∈ zs_tbl := zs_iq3 94 rfl rfl
set_option maxRecDepth 100000 in
theorem iwX4_become : Cond.initialized MX4_become.1.cls ∈ zs_tbl := zs_iq1 4 rfl rfl
set_option maxRecDepth 100000 in
theorem mwX4_become : Cond.instanceMethod MX4_become.1 ∈ zs_tbl := zs_iq3 92 rfl rfl
set_option maxRecDepth 100000 in
theorem ewX4_become : Cond.selects MX4_become.1.cls MX4_become.1 MX4_become.1 ∈ zs_tbl := zs_iq3 93 rfl rfl
abbrev MX4_dropOldest : zs_M := (yX4_dropOldest, cX4_dropOldest, 2, none, { frames := 1, cells := 0, slots := 0, locals := 22 })
set_option maxRecDepth 100000 in
theorem cwX4_dropOldest : Cond.code MX4_dropOldest.1 MX4_dropOldest.2.1 MX4_dropOldest.2.2.1 MX4_dropOldest.2.2.2.1 ∈ zs_tbl := zs_iq3 113 rfl rfl
set_option maxRecDepth 100000 in
theorem iwX4_dropOldest : Cond.initialized MX4_dropOldest.1.cls ∈ zs_tbl := zs_iq1 4 rfl rfl
set_option maxRecDepth 100000 in
theorem mwX4_dropOldest : Cond.instanceMethod MX4_dropOldest.1 ∈ zs_tbl := zs_iq3 112 rfl rfl
set_option maxRecDepth 100000 in
theorem ewX4_dropOldest : Cond.selects MX4_dropOldest.1.cls MX4_dropOldest.1 MX4_dropOldest.1 ∈ zs_tbl := zs_iq0 16 rfl rfl
abbrev MX5_isFull : zs_M := (yX5_isFull, cX5_isFull, 1, some .boolean, { frames := 0, cells := 0, slots := 0, locals := 0 })
set_option maxRecDepth 100000 in
theorem cwX5_isFull : Cond.code MX5_isFull.1 MX5_isFull.2.1 MX5_isFull.2.2.1 MX5_isFull.2.2.2.1 ∈ zs_tbl := zs_iq4 4 rfl rfl
set_option maxRecDepth 100000 in
theorem iwX5_isFull : Cond.initialized MX5_isFull.1.cls ∈ zs_tbl := zs_iq1 5 rfl rfl
set_option maxRecDepth 100000 in
theorem mwX5_isFull : Cond.instanceMethod MX5_isFull.1 ∈ zs_tbl := zs_iq4 2 rfl rfl
set_option maxRecDepth 100000 in
theorem ewX5_isFull : Cond.selects MX5_isFull.1.cls MX5_isFull.1 MX5_isFull.1 ∈ zs_tbl := zs_iq4 3 rfl rfl
abbrev MX5_add : zs_M := (yX5_add, cX5_add, 6, some .int, { frames := 1, cells := 0, slots := 0, locals := 22 })
set_option maxRecDepth 100000 in
theorem cwX5_add : Cond.code MX5_add.1 MX5_add.2.1 MX5_add.2.2.1 MX5_add.2.2.2.1 ∈ zs_tbl := zs_iq4 8 rfl rfl
set_option maxRecDepth 100000 in
theorem iwX5_add : Cond.initialized MX5_add.1.cls ∈ zs_tbl := zs_iq1 5 rfl rfl
set_option maxRecDepth 100000 in
theorem mwX5_add : Cond.instanceMethod MX5_add.1 ∈ zs_tbl := zs_iq4 6 rfl rfl
set_option maxRecDepth 100000 in
theorem ewX5_add : Cond.selects MX5_add.1.cls MX5_add.1 MX5_add.1 ∈ zs_tbl := zs_iq4 7 rfl rfl
abbrev MX5_value : zs_M := (yX5_value, cX5_value, 3, some .int, { frames := 1, cells := 0, slots := 0, locals := 21 })
set_option maxRecDepth 100000 in
theorem cwX5_value : Cond.code MX5_value.1 MX5_value.2.1 MX5_value.2.2.1 MX5_value.2.2.2.1 ∈ zs_tbl := zs_iq4 31 rfl rfl
set_option maxRecDepth 100000 in
theorem iwX5_value : Cond.initialized MX5_value.1.cls ∈ zs_tbl := zs_iq1 5 rfl rfl
set_option maxRecDepth 100000 in
theorem mwX5_value : Cond.instanceMethod MX5_value.1 ∈ zs_tbl := zs_iq4 29 rfl rfl
set_option maxRecDepth 100000 in
theorem ewX5_value : Cond.selects MX5_value.1.cls MX5_value.1 MX5_value.1 ∈ zs_tbl := zs_iq4 30 rfl rfl
abbrev MX5_empty : zs_M := (yX5_empty, cX5_empty, 2, some .int, { frames := 0, cells := 0, slots := 0, locals := 0 })
set_option maxRecDepth 100000 in
theorem cwX5_empty : Cond.code MX5_empty.1 MX5_empty.2.1 MX5_empty.2.2.1 MX5_empty.2.2.2.1 ∈ zs_tbl := zs_iq2 101 rfl rfl
set_option maxRecDepth 100000 in
theorem iwX5_empty : Cond.initialized MX5_empty.1.cls ∈ zs_tbl := zs_iq1 5 rfl rfl
set_option maxRecDepth 100000 in
theorem mwX5_empty : Cond.instanceMethod MX5_empty.1 ∈ zs_tbl := zs_iq2 99 rfl rfl
set_option maxRecDepth 100000 in
theorem ewX5_empty : Cond.selects MX5_empty.1.cls MX5_empty.1 MX5_empty.1 ∈ zs_tbl := zs_iq2 100 rfl rfl
abbrev MX5_become : zs_M := (yX5_become, cX5_become, 2, none, { frames := 1, cells := 0, slots := 0, locals := 22 })
set_option maxRecDepth 100000 in
theorem cwX5_become : Cond.code MX5_become.1 MX5_become.2.1 MX5_become.2.2.1 MX5_become.2.2.2.1 ∈ zs_tbl := zs_iq3 99 rfl rfl
set_option maxRecDepth 100000 in
theorem iwX5_become : Cond.initialized MX5_become.1.cls ∈ zs_tbl := zs_iq1 5 rfl rfl
set_option maxRecDepth 100000 in
theorem mwX5_become : Cond.instanceMethod MX5_become.1 ∈ zs_tbl := zs_iq3 97 rfl rfl
set_option maxRecDepth 100000 in
theorem ewX5_become : Cond.selects MX5_become.1.cls MX5_become.1 MX5_become.1 ∈ zs_tbl := zs_iq3 98 rfl rfl
abbrev MX5_digestOnto : zs_M := (yX5_digestOnto, cX5_digestOnto, 5, some .long, { frames := 2, cells := 0, slots := 0, locals := 43 })
set_option maxRecDepth 100000 in
theorem cwX5_digestOnto : Cond.code MX5_digestOnto.1 MX5_digestOnto.2.1 MX5_digestOnto.2.2.1 MX5_digestOnto.2.2.2.1 ∈ zs_tbl := zs_iq4 221 rfl rfl
set_option maxRecDepth 100000 in
theorem iwX5_digestOnto : Cond.initialized MX5_digestOnto.1.cls ∈ zs_tbl := zs_iq1 5 rfl rfl
set_option maxRecDepth 100000 in
theorem mwX5_digestOnto : Cond.instanceMethod MX5_digestOnto.1 ∈ zs_tbl := zs_iq4 219 rfl rfl
set_option maxRecDepth 100000 in
theorem ewX5_digestOnto : Cond.selects MX5_digestOnto.1.cls MX5_digestOnto.1 MX5_digestOnto.1 ∈ zs_tbl := zs_iq4 220 rfl rfl
abbrev MX6_begin : zs_M := (yX6_begin, cX6_begin, 4, none, { frames := 2, cells := 0, slots := 0, locals := 43 })
set_option maxRecDepth 100000 in
theorem cwX6_begin : Cond.code MX6_begin.1 MX6_begin.2.1 MX6_begin.2.2.1 MX6_begin.2.2.2.1 ∈ zs_tbl := zs_iq2 85 rfl rfl
set_option maxRecDepth 100000 in
theorem iwX6_begin : Cond.initialized MX6_begin.1.cls ∈ zs_tbl := zs_iq1 2 rfl rfl
set_option maxRecDepth 100000 in
theorem mwX6_begin : Cond.instanceMethod MX6_begin.1 ∈ zs_tbl := zs_iq2 83 rfl rfl
set_option maxRecDepth 100000 in
theorem ewX6_begin : Cond.selects MX6_begin.1.cls MX6_begin.1 MX6_begin.1 ∈ zs_tbl := zs_iq2 84 rfl rfl
abbrev MX6_become : zs_M := (yX6_become, cX6_become, 2, none, { frames := 2, cells := 0, slots := 0, locals := 43 })
set_option maxRecDepth 100000 in
theorem cwX6_become : Cond.code MX6_become.1 MX6_become.2.1 MX6_become.2.2.1 MX6_become.2.2.2.1 ∈ zs_tbl := zs_iq3 82 rfl rfl
set_option maxRecDepth 100000 in
theorem iwX6_become : Cond.initialized MX6_become.1.cls ∈ zs_tbl := zs_iq1 2 rfl rfl
set_option maxRecDepth 100000 in
theorem mwX6_become : Cond.instanceMethod MX6_become.1 ∈ zs_tbl := zs_iq3 80 rfl rfl
set_option maxRecDepth 100000 in
theorem ewX6_become : Cond.selects MX6_become.1.cls MX6_become.1 MX6_become.1 ∈ zs_tbl := zs_iq3 81 rfl rfl
abbrev MX6_addEye : zs_M := (yX6_addEye, cX6_addEye, 2, none, { frames := 1, cells := 0, slots := 0, locals := 22 })
set_option maxRecDepth 100000 in
theorem cwX6_addEye : Cond.code MX6_addEye.1 MX6_addEye.2.1 MX6_addEye.2.2.1 MX6_addEye.2.2.2.1 ∈ zs_tbl := zs_iq2 118 rfl rfl
set_option maxRecDepth 100000 in
theorem iwX6_addEye : Cond.initialized MX6_addEye.1.cls ∈ zs_tbl := zs_iq1 2 rfl rfl
set_option maxRecDepth 100000 in
theorem mwX6_addEye : Cond.instanceMethod MX6_addEye.1 ∈ zs_tbl := zs_iq2 116 rfl rfl
set_option maxRecDepth 100000 in
theorem ewX6_addEye : Cond.selects MX6_addEye.1.cls MX6_addEye.1 MX6_addEye.1 ∈ zs_tbl := zs_iq2 117 rfl rfl
abbrev MX6_turn : zs_M := (yX6_turn, cX6_turn, 3, none, { frames := 4, cells := 0, slots := 0, locals := 89 })
set_option maxRecDepth 100000 in
theorem cwX6_turn : Cond.code MX6_turn.1 MX6_turn.2.1 MX6_turn.2.2.1 MX6_turn.2.2.2.1 ∈ zs_tbl := zs_iq3 32 rfl rfl
set_option maxRecDepth 100000 in
theorem iwX6_turn : Cond.initialized MX6_turn.1.cls ∈ zs_tbl := zs_iq1 2 rfl rfl
set_option maxRecDepth 100000 in
theorem mwX6_turn : Cond.instanceMethod MX6_turn.1 ∈ zs_tbl := zs_iq3 30 rfl rfl
set_option maxRecDepth 100000 in
theorem ewX6_turn : Cond.selects MX6_turn.1.cls MX6_turn.1 MX6_turn.1 ∈ zs_tbl := zs_iq3 31 rfl rfl
abbrev MX6_flash : zs_M := (yX6_flash, cX6_flash, 6, none, { frames := 3, cells := 0, slots := 0, locals := 64 })
set_option maxRecDepth 100000 in
theorem cwX6_flash : Cond.code MX6_flash.1 MX6_flash.2.1 MX6_flash.2.2.1 MX6_flash.2.2.2.1 ∈ zs_tbl := zs_iq3 36 rfl rfl
set_option maxRecDepth 100000 in
theorem iwX6_flash : Cond.initialized MX6_flash.1.cls ∈ zs_tbl := zs_iq1 2 rfl rfl
set_option maxRecDepth 100000 in
theorem mwX6_flash : Cond.instanceMethod MX6_flash.1 ∈ zs_tbl := zs_iq3 34 rfl rfl
set_option maxRecDepth 100000 in
theorem ewX6_flash : Cond.selects MX6_flash.1.cls MX6_flash.1 MX6_flash.1 ∈ zs_tbl := zs_iq3 35 rfl rfl
abbrev MX6_drawingAtHand : zs_M := (yX6_drawingAtHand, cX6_drawingAtHand, 2, some .int, { frames := 1, cells := 0, slots := 0, locals := 21 })
set_option maxRecDepth 100000 in
theorem cwX6_drawingAtHand : Cond.code MX6_drawingAtHand.1 MX6_drawingAtHand.2.1 MX6_drawingAtHand.2.2.1 MX6_drawingAtHand.2.2.2.1 ∈ zs_tbl := zs_iq3 58 rfl rfl
set_option maxRecDepth 100000 in
theorem iwX6_drawingAtHand : Cond.initialized MX6_drawingAtHand.1.cls ∈ zs_tbl := zs_iq1 2 rfl rfl
set_option maxRecDepth 100000 in
theorem mwX6_drawingAtHand : Cond.instanceMethod MX6_drawingAtHand.1 ∈ zs_tbl := zs_iq3 56 rfl rfl
set_option maxRecDepth 100000 in
theorem ewX6_drawingAtHand : Cond.selects MX6_drawingAtHand.1.cls MX6_drawingAtHand.1 MX6_drawingAtHand.1 ∈ zs_tbl := zs_iq3 57 rfl rfl
abbrev MX6_movesTogether : zs_M := (yX6_movesTogether, cX6_movesTogether, 4, some .int, { frames := 1, cells := 0, slots := 0, locals := 21 })
set_option maxRecDepth 100000 in
theorem cwX6_movesTogether : Cond.code MX6_movesTogether.1 MX6_movesTogether.2.1 MX6_movesTogether.2.2.1 MX6_movesTogether.2.2.2.1 ∈ zs_tbl := zs_iq4 187 rfl rfl
set_option maxRecDepth 100000 in
theorem iwX6_movesTogether : Cond.initialized MX6_movesTogether.1.cls ∈ zs_tbl := zs_iq1 2 rfl rfl
set_option maxRecDepth 100000 in
theorem mwX6_movesTogether : Cond.instanceMethod MX6_movesTogether.1 ∈ zs_tbl := zs_iq4 185 rfl rfl
set_option maxRecDepth 100000 in
theorem ewX6_movesTogether : Cond.selects MX6_movesTogether.1.cls MX6_movesTogether.1 MX6_movesTogether.1 ∈ zs_tbl := zs_iq4 186 rfl rfl
abbrev MX7_begin : zs_M := (yX7_begin, cX7_begin, 2, none, { frames := 1, cells := 0, slots := 0, locals := 22 })
set_option maxRecDepth 100000 in
theorem cwX7_begin : Cond.code MX7_begin.1 MX7_begin.2.1 MX7_begin.2.2.1 MX7_begin.2.2.2.1 ∈ zs_tbl := zs_iq4 147 rfl rfl
set_option maxRecDepth 100000 in
theorem iwX7_begin : Cond.initialized MX7_begin.1.cls ∈ zs_tbl := zs_iq1 10 rfl rfl
set_option maxRecDepth 100000 in
theorem mwX7_begin : Cond.instanceMethod MX7_begin.1 ∈ zs_tbl := zs_iq4 145 rfl rfl
set_option maxRecDepth 100000 in
theorem ewX7_begin : Cond.selects MX7_begin.1.cls MX7_begin.1 MX7_begin.1 ∈ zs_tbl := zs_iq4 146 rfl rfl
abbrev MX7_flash : zs_M := (yX7_flash, cX7_flash, 6, none, { frames := 3, cells := 0, slots := 0, locals := 64 })
set_option maxRecDepth 100000 in
theorem cwX7_flash : Cond.code MX7_flash.1 MX7_flash.2.1 MX7_flash.2.2.1 MX7_flash.2.2.2.1 ∈ zs_tbl := zs_iq4 153 rfl rfl
set_option maxRecDepth 100000 in
theorem iwX7_flash : Cond.initialized MX7_flash.1.cls ∈ zs_tbl := zs_iq1 10 rfl rfl
set_option maxRecDepth 100000 in
theorem mwX7_flash : Cond.instanceMethod MX7_flash.1 ∈ zs_tbl := zs_iq4 151 rfl rfl
set_option maxRecDepth 100000 in
theorem ewX7_flash : Cond.selects MX7_flash.1.cls MX7_flash.1 MX7_flash.1 ∈ zs_tbl := zs_iq4 152 rfl rfl
abbrev MX7_weightOf : zs_M := (yX7_weightOf, cX7_weightOf, 2, some .int, { frames := 1, cells := 0, slots := 0, locals := 21 })
set_option maxRecDepth 100000 in
theorem cwX7_weightOf : Cond.code MX7_weightOf.1 MX7_weightOf.2.1 MX7_weightOf.2.2.1 MX7_weightOf.2.2.2.1 ∈ zs_tbl := zs_iq4 163 rfl rfl
set_option maxRecDepth 100000 in
theorem iwX7_weightOf : Cond.initialized MX7_weightOf.1.cls ∈ zs_tbl := zs_iq1 10 rfl rfl
set_option maxRecDepth 100000 in
theorem mwX7_weightOf : Cond.instanceMethod MX7_weightOf.1 ∈ zs_tbl := zs_iq4 161 rfl rfl
set_option maxRecDepth 100000 in
theorem ewX7_weightOf : Cond.selects MX7_weightOf.1.cls MX7_weightOf.1 MX7_weightOf.1 ∈ zs_tbl := zs_iq4 162 rfl rfl
abbrev MX7_add : zs_M := (yX7_add, cX7_add, 3, none, { frames := 2, cells := 0, slots := 0, locals := 42 })
set_option maxRecDepth 100000 in
theorem cwX7_add : Cond.code MX7_add.1 MX7_add.2.1 MX7_add.2.2.1 MX7_add.2.2.2.1 ∈ zs_tbl := zs_iq4 159 rfl rfl
set_option maxRecDepth 100000 in
theorem iwX7_add : Cond.initialized MX7_add.1.cls ∈ zs_tbl := zs_iq1 10 rfl rfl
set_option maxRecDepth 100000 in
theorem mwX7_add : Cond.instanceMethod MX7_add.1 ∈ zs_tbl := zs_iq4 158 rfl rfl
set_option maxRecDepth 100000 in
theorem ewX7_add : Cond.selects MX7_add.1.cls MX7_add.1 MX7_add.1 ∈ zs_tbl := zs_iq0 39 rfl rfl
abbrev MX8_plan : zs_M := (yX8_plan, cX8_plan, 5, none, { frames := 4, cells := 0, slots := 0, locals := 95 })
set_option maxRecDepth 100000 in
theorem cwX8_plan : Cond.code MX8_plan.1 MX8_plan.2.1 MX8_plan.2.2.1 MX8_plan.2.2.2.1 ∈ zs_tbl := zs_iq3 215 rfl rfl
set_option maxRecDepth 100000 in
theorem iwX8_plan : Cond.initialized MX8_plan.1.cls ∈ zs_tbl := zs_iq1 7 rfl rfl
set_option maxRecDepth 100000 in
theorem mwX8_plan : Cond.instanceMethod MX8_plan.1 ∈ zs_tbl := zs_iq3 213 rfl rfl
set_option maxRecDepth 100000 in
theorem ewX8_plan : Cond.selects MX8_plan.1.cls MX8_plan.1 MX8_plan.1 ∈ zs_tbl := zs_iq3 214 rfl rfl
abbrev MX8_fillCosts : zs_M := (yX8_fillCosts, cX8_fillCosts, 8, none, { frames := 3, cells := 0, slots := 0, locals := 68 })
set_option maxRecDepth 100000 in
theorem cwX8_fillCosts : Cond.code MX8_fillCosts.1 MX8_fillCosts.2.1 MX8_fillCosts.2.2.1 MX8_fillCosts.2.2.2.1 ∈ zs_tbl := zs_iq3 220 rfl rfl
set_option maxRecDepth 100000 in
theorem iwX8_fillCosts : Cond.initialized MX8_fillCosts.1.cls ∈ zs_tbl := zs_iq1 7 rfl rfl
set_option maxRecDepth 100000 in
theorem mwX8_fillCosts : Cond.instanceMethod MX8_fillCosts.1 ∈ zs_tbl := zs_iq3 219 rfl rfl
set_option maxRecDepth 100000 in
theorem ewX8_fillCosts : Cond.selects MX8_fillCosts.1.cls MX8_fillCosts.1 MX8_fillCosts.1 ∈ zs_tbl := zs_iq0 24 rfl rfl
abbrev MX8_closing : zs_M := (yX8_closing, cX8_closing, 2, some .int, { frames := 1, cells := 0, slots := 0, locals := 20 })
set_option maxRecDepth 100000 in
theorem cwX8_closing : Cond.code MX8_closing.1 MX8_closing.2.1 MX8_closing.2.2.1 MX8_closing.2.2.2.1 ∈ zs_tbl := zs_iq3 224 rfl rfl
set_option maxRecDepth 100000 in
theorem iwX8_closing : Cond.initialized MX8_closing.1.cls ∈ zs_tbl := zs_iq1 7 rfl rfl
set_option maxRecDepth 100000 in
theorem swX8_closing : Cond.static MX8_closing.1 ∈ zs_tbl := zs_iq3 223 rfl rfl
abbrev MX8_bestBeside : zs_M := (yX8_bestBeside, cX8_bestBeside, 6, some .int, { frames := 2, cells := 0, slots := 0, locals := 43 })
set_option maxRecDepth 100000 in
theorem cwX8_bestBeside : Cond.code MX8_bestBeside.1 MX8_bestBeside.2.1 MX8_bestBeside.2.2.1 MX8_bestBeside.2.2.2.1 ∈ zs_tbl := zs_iq3 229 rfl rfl
set_option maxRecDepth 100000 in
theorem iwX8_bestBeside : Cond.initialized MX8_bestBeside.1.cls ∈ zs_tbl := zs_iq1 7 rfl rfl
set_option maxRecDepth 100000 in
theorem mwX8_bestBeside : Cond.instanceMethod MX8_bestBeside.1 ∈ zs_tbl := zs_iq3 228 rfl rfl
set_option maxRecDepth 100000 in
theorem ewX8_bestBeside : Cond.selects MX8_bestBeside.1.cls MX8_bestBeside.1 MX8_bestBeside.1 ∈ zs_tbl := zs_iq0 25 rfl rfl
abbrev MX8_cost : zs_M := (yX8_cost, cX8_cost, 3, some .int, { frames := 1, cells := 0, slots := 0, locals := 21 })
set_option maxRecDepth 100000 in
theorem cwX8_cost : Cond.code MX8_cost.1 MX8_cost.2.1 MX8_cost.2.2.1 MX8_cost.2.2.2.1 ∈ zs_tbl := zs_iq3 234 rfl rfl
set_option maxRecDepth 100000 in
theorem iwX8_cost : Cond.initialized MX8_cost.1.cls ∈ zs_tbl := zs_iq1 7 rfl rfl
set_option maxRecDepth 100000 in
theorem mwX8_cost : Cond.instanceMethod MX8_cost.1 ∈ zs_tbl := zs_iq3 233 rfl rfl
set_option maxRecDepth 100000 in
theorem ewX8_cost : Cond.selects MX8_cost.1.cls MX8_cost.1 MX8_cost.1 ∈ zs_tbl := zs_iq0 26 rfl rfl
abbrev MX9_begin : zs_M := (yX9_begin, cX9_begin, 1, none, { frames := 1, cells := 0, slots := 0, locals := 22 })
set_option maxRecDepth 100000 in
theorem cwX9_begin : Cond.code MX9_begin.1 MX9_begin.2.1 MX9_begin.2.2.1 MX9_begin.2.2.2.1 ∈ zs_tbl := zs_iq4 51 rfl rfl
set_option maxRecDepth 100000 in
theorem iwX9_begin : Cond.initialized MX9_begin.1.cls ∈ zs_tbl := zs_iq1 9 rfl rfl
set_option maxRecDepth 100000 in
theorem mwX9_begin : Cond.instanceMethod MX9_begin.1 ∈ zs_tbl := zs_iq4 49 rfl rfl
set_option maxRecDepth 100000 in
theorem ewX9_begin : Cond.selects MX9_begin.1.cls MX9_begin.1 MX9_begin.1 ∈ zs_tbl := zs_iq4 50 rfl rfl
abbrev MX9_add : zs_M := (yX9_add, cX9_add, 3, none, { frames := 1, cells := 0, slots := 0, locals := 22 })
set_option maxRecDepth 100000 in
theorem cwX9_add : Cond.code MX9_add.1 MX9_add.2.1 MX9_add.2.2.1 MX9_add.2.2.2.1 ∈ zs_tbl := zs_iq4 56 rfl rfl
set_option maxRecDepth 100000 in
theorem iwX9_add : Cond.initialized MX9_add.1.cls ∈ zs_tbl := zs_iq1 9 rfl rfl
set_option maxRecDepth 100000 in
theorem mwX9_add : Cond.instanceMethod MX9_add.1 ∈ zs_tbl := zs_iq4 54 rfl rfl
set_option maxRecDepth 100000 in
theorem ewX9_add : Cond.selects MX9_add.1.cls MX9_add.1 MX9_add.1 ∈ zs_tbl := zs_iq4 55 rfl rfl
abbrev MX10_isFull : zs_M := (yX10_isFull, cX10_isFull, 1, some .boolean, { frames := 0, cells := 0, slots := 0, locals := 0 })
set_option maxRecDepth 100000 in
theorem cwX10_isFull : Cond.code MX10_isFull.1 MX10_isFull.2.1 MX10_isFull.2.2.1 MX10_isFull.2.2.2.1 ∈ zs_tbl := zs_iq2 129 rfl rfl
set_option maxRecDepth 100000 in
theorem iwX10_isFull : Cond.initialized MX10_isFull.1.cls ∈ zs_tbl := zs_iq1 6 rfl rfl
set_option maxRecDepth 100000 in
theorem mwX10_isFull : Cond.instanceMethod MX10_isFull.1 ∈ zs_tbl := zs_iq2 127 rfl rfl
set_option maxRecDepth 100000 in
theorem ewX10_isFull : Cond.selects MX10_isFull.1.cls MX10_isFull.1 MX10_isFull.1 ∈ zs_tbl := zs_iq2 128 rfl rfl
abbrev MX10_add : zs_M := (yX10_add, cX10_add, 2, some .int, { frames := 1, cells := 0, slots := 0, locals := 22 })
set_option maxRecDepth 100000 in
theorem cwX10_add : Cond.code MX10_add.1 MX10_add.2.1 MX10_add.2.2.1 MX10_add.2.2.2.1 ∈ zs_tbl := zs_iq2 133 rfl rfl
set_option maxRecDepth 100000 in
theorem iwX10_add : Cond.initialized MX10_add.1.cls ∈ zs_tbl := zs_iq1 6 rfl rfl
set_option maxRecDepth 100000 in
theorem mwX10_add : Cond.instanceMethod MX10_add.1 ∈ zs_tbl := zs_iq2 131 rfl rfl
set_option maxRecDepth 100000 in
theorem ewX10_add : Cond.selects MX10_add.1.cls MX10_add.1 MX10_add.1 ∈ zs_tbl := zs_iq2 132 rfl rfl
abbrev MX10_empty : zs_M := (yX10_empty, cX10_empty, 2, some .int, { frames := 0, cells := 0, slots := 0, locals := 0 })
set_option maxRecDepth 100000 in
theorem cwX10_empty : Cond.code MX10_empty.1 MX10_empty.2.1 MX10_empty.2.2.1 MX10_empty.2.2.2.1 ∈ zs_tbl := zs_iq2 142 rfl rfl
set_option maxRecDepth 100000 in
theorem iwX10_empty : Cond.initialized MX10_empty.1.cls ∈ zs_tbl := zs_iq1 6 rfl rfl
set_option maxRecDepth 100000 in
theorem mwX10_empty : Cond.instanceMethod MX10_empty.1 ∈ zs_tbl := zs_iq2 140 rfl rfl
set_option maxRecDepth 100000 in
theorem ewX10_empty : Cond.selects MX10_empty.1.cls MX10_empty.1 MX10_empty.1 ∈ zs_tbl := zs_iq2 141 rfl rfl
abbrev MX10_readDraft : zs_M := (yX10_readDraft, cX10_readDraft, 2, some .int, { frames := 9, cells := 0, slots := 0, locals := 197 })
set_option maxRecDepth 100000 in
theorem cwX10_readDraft : Cond.code MX10_readDraft.1 MX10_readDraft.2.1 MX10_readDraft.2.2.1 MX10_readDraft.2.2.2.1 ∈ zs_tbl := zs_iq2 150 rfl rfl
set_option maxRecDepth 100000 in
theorem iwX10_readDraft : Cond.initialized MX10_readDraft.1.cls ∈ zs_tbl := zs_iq1 6 rfl rfl
set_option maxRecDepth 100000 in
theorem mwX10_readDraft : Cond.instanceMethod MX10_readDraft.1 ∈ zs_tbl := zs_iq2 148 rfl rfl
set_option maxRecDepth 100000 in
theorem ewX10_readDraft : Cond.selects MX10_readDraft.1.cls MX10_readDraft.1 MX10_readDraft.1 ∈ zs_tbl := zs_iq2 149 rfl rfl
abbrev MX10_fault : zs_M := (yX10_fault, cX10_fault, 1, some .int, { frames := 1, cells := 0, slots := 0, locals := 21 })
set_option maxRecDepth 100000 in
theorem cwX10_fault : Cond.code MX10_fault.1 MX10_fault.2.1 MX10_fault.2.2.1 MX10_fault.2.2.2.1 ∈ zs_tbl := zs_iq3 19 rfl rfl
set_option maxRecDepth 100000 in
theorem iwX10_fault : Cond.initialized MX10_fault.1.cls ∈ zs_tbl := zs_iq1 6 rfl rfl
set_option maxRecDepth 100000 in
theorem mwX10_fault : Cond.instanceMethod MX10_fault.1 ∈ zs_tbl := zs_iq3 18 rfl rfl
set_option maxRecDepth 100000 in
theorem ewX10_fault : Cond.selects MX10_fault.1.cls MX10_fault.1 MX10_fault.1 ∈ zs_tbl := zs_iq0 13 rfl rfl
abbrev MX10_takeDrum : zs_M := (yX10_takeDrum, cX10_takeDrum, 3, some .boolean, { frames := 3, cells := 0, slots := 0, locals := 66 })
set_option maxRecDepth 100000 in
theorem cwX10_takeDrum : Cond.code MX10_takeDrum.1 MX10_takeDrum.2.1 MX10_takeDrum.2.2.1 MX10_takeDrum.2.2.2.1 ∈ zs_tbl := zs_iq3 1 rfl rfl
set_option maxRecDepth 100000 in
theorem iwX10_takeDrum : Cond.initialized MX10_takeDrum.1.cls ∈ zs_tbl := zs_iq1 6 rfl rfl
set_option maxRecDepth 100000 in
theorem mwX10_takeDrum : Cond.instanceMethod MX10_takeDrum.1 ∈ zs_tbl := zs_iq3 0 rfl rfl
set_option maxRecDepth 100000 in
theorem ewX10_takeDrum : Cond.selects MX10_takeDrum.1.cls MX10_takeDrum.1 MX10_takeDrum.1 ∈ zs_tbl := zs_iq0 9 rfl rfl
abbrev MX10_takeItem : zs_M := (yX10_takeItem, cX10_takeItem, 1, some .boolean, { frames := 5, cells := 0, slots := 0, locals := 111 })
set_option maxRecDepth 100000 in
theorem cwX10_takeItem : Cond.code MX10_takeItem.1 MX10_takeItem.2.1 MX10_takeItem.2.2.1 MX10_takeItem.2.2.2.1 ∈ zs_tbl := zs_iq3 23 rfl rfl
set_option maxRecDepth 100000 in
theorem iwX10_takeItem : Cond.initialized MX10_takeItem.1.cls ∈ zs_tbl := zs_iq1 6 rfl rfl
set_option maxRecDepth 100000 in
theorem mwX10_takeItem : Cond.instanceMethod MX10_takeItem.1 ∈ zs_tbl := zs_iq3 22 rfl rfl
set_option maxRecDepth 100000 in
theorem ewX10_takeItem : Cond.selects MX10_takeItem.1.cls MX10_takeItem.1 MX10_takeItem.1 ∈ zs_tbl := zs_iq0 14 rfl rfl
abbrev MX10_takeDraw : zs_M := (yX10_takeDraw, cX10_takeDraw, 2, some .boolean, { frames := 3, cells := 0, slots := 0, locals := 63 })
set_option maxRecDepth 100000 in
theorem cwX10_takeDraw : Cond.code MX10_takeDraw.1 MX10_takeDraw.2.1 MX10_takeDraw.2.2.1 MX10_takeDraw.2.2.2.1 ∈ zs_tbl := zs_iq3 27 rfl rfl
set_option maxRecDepth 100000 in
theorem iwX10_takeDraw : Cond.initialized MX10_takeDraw.1.cls ∈ zs_tbl := zs_iq1 6 rfl rfl
set_option maxRecDepth 100000 in
theorem mwX10_takeDraw : Cond.instanceMethod MX10_takeDraw.1 ∈ zs_tbl := zs_iq3 26 rfl rfl
set_option maxRecDepth 100000 in
theorem ewX10_takeDraw : Cond.selects MX10_takeDraw.1.cls MX10_takeDraw.1 MX10_takeDraw.1 ∈ zs_tbl := zs_iq0 15 rfl rfl
abbrev MX10_takeNumber : zs_M := (yX10_takeNumber, cX10_takeNumber, 3, some .boolean, { frames := 2, cells := 0, slots := 0, locals := 41 })
set_option maxRecDepth 100000 in
theorem cwX10_takeNumber : Cond.code MX10_takeNumber.1 MX10_takeNumber.2.1 MX10_takeNumber.2.2.1 MX10_takeNumber.2.2.2.1 ∈ zs_tbl := zs_iq3 5 rfl rfl
set_option maxRecDepth 100000 in
theorem iwX10_takeNumber : Cond.initialized MX10_takeNumber.1.cls ∈ zs_tbl := zs_iq1 6 rfl rfl
set_option maxRecDepth 100000 in
theorem mwX10_takeNumber : Cond.instanceMethod MX10_takeNumber.1 ∈ zs_tbl := zs_iq3 4 rfl rfl
set_option maxRecDepth 100000 in
theorem ewX10_takeNumber : Cond.selects MX10_takeNumber.1.cls MX10_takeNumber.1 MX10_takeNumber.1 ∈ zs_tbl := zs_iq0 10 rfl rfl
abbrev MX10_takeStop : zs_M := (yX10_takeStop, cX10_takeStop, 1, some .boolean, { frames := 2, cells := 0, slots := 0, locals := 41 })
set_option maxRecDepth 100000 in
theorem cwX10_takeStop : Cond.code MX10_takeStop.1 MX10_takeStop.2.1 MX10_takeStop.2.2.1 MX10_takeStop.2.2.2.1 ∈ zs_tbl := zs_iq3 15 rfl rfl
set_option maxRecDepth 100000 in
theorem iwX10_takeStop : Cond.initialized MX10_takeStop.1.cls ∈ zs_tbl := zs_iq1 6 rfl rfl
set_option maxRecDepth 100000 in
theorem mwX10_takeStop : Cond.instanceMethod MX10_takeStop.1 ∈ zs_tbl := zs_iq3 14 rfl rfl
set_option maxRecDepth 100000 in
theorem ewX10_takeStop : Cond.selects MX10_takeStop.1.cls MX10_takeStop.1 MX10_takeStop.1 ∈ zs_tbl := zs_iq0 12 rfl rfl
abbrev MX10_token : zs_M := (yX10_token, cX10_token, 1, some .int, { frames := 1, cells := 0, slots := 0, locals := 21 })
set_option maxRecDepth 100000 in
theorem cwX10_token : Cond.code MX10_token.1 MX10_token.2.1 MX10_token.2.2.1 MX10_token.2.2.2.1 ∈ zs_tbl := zs_iq2 237 rfl rfl
set_option maxRecDepth 100000 in
theorem iwX10_token : Cond.initialized MX10_token.1.cls ∈ zs_tbl := zs_iq1 6 rfl rfl
set_option maxRecDepth 100000 in
theorem mwX10_token : Cond.instanceMethod MX10_token.1 ∈ zs_tbl := zs_iq2 236 rfl rfl
set_option maxRecDepth 100000 in
theorem ewX10_token : Cond.selects MX10_token.1.cls MX10_token.1 MX10_token.1 ∈ zs_tbl := zs_iq0 8 rfl rfl
abbrev MX10_value : zs_M := (yX10_value, cX10_value, 1, some .int, { frames := 1, cells := 0, slots := 0, locals := 21 })
set_option maxRecDepth 100000 in
theorem cwX10_value : Cond.code MX10_value.1 MX10_value.2.1 MX10_value.2.2.1 MX10_value.2.2.2.1 ∈ zs_tbl := zs_iq3 9 rfl rfl
set_option maxRecDepth 100000 in
theorem iwX10_value : Cond.initialized MX10_value.1.cls ∈ zs_tbl := zs_iq1 6 rfl rfl
set_option maxRecDepth 100000 in
theorem mwX10_value : Cond.instanceMethod MX10_value.1 ∈ zs_tbl := zs_iq3 8 rfl rfl
set_option maxRecDepth 100000 in
theorem ewX10_value : Cond.selects MX10_value.1.cls MX10_value.1 MX10_value.1 ∈ zs_tbl := zs_iq0 11 rfl rfl
abbrev MX10_splitTokens : zs_M := (yX10_splitTokens, cX10_splitTokens, 6, some .int, { frames := 1, cells := 0, slots := 0, locals := 22 })
set_option maxRecDepth 100000 in
theorem cwX10_splitTokens : Cond.code MX10_splitTokens.1 MX10_splitTokens.2.1 MX10_splitTokens.2.2.1 MX10_splitTokens.2.2.2.1 ∈ zs_tbl := zs_iq2 154 rfl rfl
set_option maxRecDepth 100000 in
theorem iwX10_splitTokens : Cond.initialized MX10_splitTokens.1.cls ∈ zs_tbl := zs_iq1 6 rfl rfl
set_option maxRecDepth 100000 in
theorem mwX10_splitTokens : Cond.instanceMethod MX10_splitTokens.1 ∈ zs_tbl := zs_iq2 153 rfl rfl
set_option maxRecDepth 100000 in
theorem ewX10_splitTokens : Cond.selects MX10_splitTokens.1.cls MX10_splitTokens.1 MX10_splitTokens.1 ∈ zs_tbl := zs_iq0 2 rfl rfl
abbrev MX10_nameTokens : zs_M := (yX10_nameTokens, cX10_nameTokens, 3, none, { frames := 8, cells := 0, slots := 0, locals := 175 })
set_option maxRecDepth 100000 in
theorem cwX10_nameTokens : Cond.code MX10_nameTokens.1 MX10_nameTokens.2.1 MX10_nameTokens.2.2.1 MX10_nameTokens.2.2.2.1 ∈ zs_tbl := zs_iq2 164 rfl rfl
set_option maxRecDepth 100000 in
theorem iwX10_nameTokens : Cond.initialized MX10_nameTokens.1.cls ∈ zs_tbl := zs_iq1 6 rfl rfl
set_option maxRecDepth 100000 in
theorem mwX10_nameTokens : Cond.instanceMethod MX10_nameTokens.1 ∈ zs_tbl := zs_iq2 163 rfl rfl
set_option maxRecDepth 100000 in
theorem ewX10_nameTokens : Cond.selects MX10_nameTokens.1.cls MX10_nameTokens.1 MX10_nameTokens.1 ∈ zs_tbl := zs_iq0 3 rfl rfl
abbrev MX10_tokenFrom : zs_M := (yX10_tokenFrom, cX10_tokenFrom, 4, some .int, { frames := 7, cells := 0, slots := 0, locals := 152 })
set_option maxRecDepth 100000 in
theorem cwX10_tokenFrom : Cond.code MX10_tokenFrom.1 MX10_tokenFrom.2.1 MX10_tokenFrom.2.2.1 MX10_tokenFrom.2.2.2.1 ∈ zs_tbl := zs_iq2 168 rfl rfl
set_option maxRecDepth 100000 in
theorem iwX10_tokenFrom : Cond.initialized MX10_tokenFrom.1.cls ∈ zs_tbl := zs_iq1 6 rfl rfl
set_option maxRecDepth 100000 in
theorem mwX10_tokenFrom : Cond.instanceMethod MX10_tokenFrom.1 ∈ zs_tbl := zs_iq2 167 rfl rfl
set_option maxRecDepth 100000 in
theorem ewX10_tokenFrom : Cond.selects MX10_tokenFrom.1.cls MX10_tokenFrom.1 MX10_tokenFrom.1 ∈ zs_tbl := zs_iq0 4 rfl rfl
abbrev MX10_wordFrom : zs_M := (yX10_wordFrom, cX10_wordFrom, 3, some .int, { frames := 6, cells := 0, slots := 0, locals := 130 })
set_option maxRecDepth 100000 in
theorem cwX10_wordFrom : Cond.code MX10_wordFrom.1 MX10_wordFrom.2.1 MX10_wordFrom.2.2.1 MX10_wordFrom.2.2.2.1 ∈ zs_tbl := zs_iq2 172 rfl rfl
set_option maxRecDepth 100000 in
theorem iwX10_wordFrom : Cond.initialized MX10_wordFrom.1.cls ∈ zs_tbl := zs_iq1 6 rfl rfl
set_option maxRecDepth 100000 in
theorem mwX10_wordFrom : Cond.instanceMethod MX10_wordFrom.1 ∈ zs_tbl := zs_iq2 171 rfl rfl
set_option maxRecDepth 100000 in
theorem ewX10_wordFrom : Cond.selects MX10_wordFrom.1.cls MX10_wordFrom.1 MX10_wordFrom.1 ∈ zs_tbl := zs_iq0 5 rfl rfl
abbrev MX10_isWord : zs_M := (yX10_isWord, cX10_isWord, 5, some .boolean, { frames := 5, cells := 0, slots := 0, locals := 106 })
set_option maxRecDepth 100000 in
theorem cwX10_isWord : Cond.code MX10_isWord.1 MX10_isWord.2.1 MX10_isWord.2.2.1 MX10_isWord.2.2.2.1 ∈ zs_tbl := zs_iq2 177 rfl rfl
set_option maxRecDepth 100000 in
theorem iwX10_isWord : Cond.initialized MX10_isWord.1.cls ∈ zs_tbl := zs_iq1 6 rfl rfl
set_option maxRecDepth 100000 in
theorem mwX10_isWord : Cond.instanceMethod MX10_isWord.1 ∈ zs_tbl := zs_iq2 176 rfl rfl
set_option maxRecDepth 100000 in
theorem ewX10_isWord : Cond.selects MX10_isWord.1.cls MX10_isWord.1 MX10_isWord.1 ∈ zs_tbl := zs_iq0 6 rfl rfl
abbrev MX10_numberFrom : zs_M := (yX10_numberFrom, cX10_numberFrom, 4, some .int, { frames := 1, cells := 0, slots := 0, locals := 21 })
set_option maxRecDepth 100000 in
theorem cwX10_numberFrom : Cond.code MX10_numberFrom.1 MX10_numberFrom.2.1 MX10_numberFrom.2.2.1 MX10_numberFrom.2.2.2.1 ∈ zs_tbl := zs_iq2 233 rfl rfl
set_option maxRecDepth 100000 in
theorem iwX10_numberFrom : Cond.initialized MX10_numberFrom.1.cls ∈ zs_tbl := zs_iq1 6 rfl rfl
set_option maxRecDepth 100000 in
theorem mwX10_numberFrom : Cond.instanceMethod MX10_numberFrom.1 ∈ zs_tbl := zs_iq2 232 rfl rfl
set_option maxRecDepth 100000 in
theorem ewX10_numberFrom : Cond.selects MX10_numberFrom.1.cls MX10_numberFrom.1 MX10_numberFrom.1 ∈ zs_tbl := zs_iq0 7 rfl rfl
abbrev MX10_sortOf : zs_M := (yX10_sortOf, cX10_sortOf, 1, some .int, { frames := 0, cells := 0, slots := 0, locals := 0 })
set_option maxRecDepth 100000 in
theorem cwX10_sortOf : Cond.code MX10_sortOf.1 MX10_sortOf.2.1 MX10_sortOf.2.2.1 MX10_sortOf.2.2.2.1 ∈ zs_tbl := zs_iq2 160 rfl rfl
set_option maxRecDepth 100000 in
theorem iwX10_sortOf : Cond.initialized MX10_sortOf.1.cls ∈ zs_tbl := zs_iq1 6 rfl rfl
set_option maxRecDepth 100000 in
theorem swX10_sortOf : Cond.static MX10_sortOf.1 ∈ zs_tbl := zs_iq2 159 rfl rfl
abbrev MX11_drum : zs_M := (yX11_drum, cX11_drum, 5, some .int, { frames := 3, cells := 0, slots := 0, locals := 66 })
set_option maxRecDepth 100000 in
theorem cwX11_drum : Cond.code MX11_drum.1 MX11_drum.2.1 MX11_drum.2.2.1 MX11_drum.2.2.2.1 ∈ zs_tbl := zs_iq2 68 rfl rfl
set_option maxRecDepth 100000 in
theorem iwX11_drum : Cond.initialized MX11_drum.1.cls ∈ zs_tbl := zs_iq1 1 rfl rfl
set_option maxRecDepth 100000 in
theorem mwX11_drum : Cond.instanceMethod MX11_drum.1 ∈ zs_tbl := zs_iq2 66 rfl rfl
set_option maxRecDepth 100000 in
theorem ewX11_drum : Cond.selects MX11_drum.1.cls MX11_drum.1 MX11_drum.1 ∈ zs_tbl := zs_iq2 67 rfl rfl
abbrev MX11_lamp : zs_M := (yX11_lamp, cX11_lamp, 3, some .int, { frames := 2, cells := 0, slots := 0, locals := 42 })
set_option maxRecDepth 100000 in
theorem cwX11_lamp : Cond.code MX11_lamp.1 MX11_lamp.2.1 MX11_lamp.2.2.1 MX11_lamp.2.2.2.1 ∈ zs_tbl := zs_iq2 105 rfl rfl
set_option maxRecDepth 100000 in
theorem iwX11_lamp : Cond.initialized MX11_lamp.1.cls ∈ zs_tbl := zs_iq1 1 rfl rfl
set_option maxRecDepth 100000 in
theorem mwX11_lamp : Cond.instanceMethod MX11_lamp.1 ∈ zs_tbl := zs_iq2 103 rfl rfl
set_option maxRecDepth 100000 in
theorem ewX11_lamp : Cond.selects MX11_lamp.1.cls MX11_lamp.1 MX11_lamp.1 ∈ zs_tbl := zs_iq2 104 rfl rfl
abbrev MX11_eye : zs_M := (yX11_eye, cX11_eye, 2, some .int, { frames := 2, cells := 0, slots := 0, locals := 43 })
set_option maxRecDepth 100000 in
theorem cwX11_eye : Cond.code MX11_eye.1 MX11_eye.2.1 MX11_eye.2.2.1 MX11_eye.2.2.2.1 ∈ zs_tbl := zs_iq2 110 rfl rfl
set_option maxRecDepth 100000 in
theorem iwX11_eye : Cond.initialized MX11_eye.1.cls ∈ zs_tbl := zs_iq1 1 rfl rfl
set_option maxRecDepth 100000 in
theorem mwX11_eye : Cond.instanceMethod MX11_eye.1 ∈ zs_tbl := zs_iq2 108 rfl rfl
set_option maxRecDepth 100000 in
theorem ewX11_eye : Cond.selects MX11_eye.1.cls MX11_eye.1 MX11_eye.1 ∈ zs_tbl := zs_iq2 109 rfl rfl
abbrev MX11_type : zs_M := (yX11_type, cX11_type, 2, some .int, { frames := 2, cells := 0, slots := 0, locals := 43 })
set_option maxRecDepth 100000 in
theorem cwX11_type : Cond.code MX11_type.1 MX11_type.2.1 MX11_type.2.2.1 MX11_type.2.2.2.1 ∈ zs_tbl := zs_iq2 125 rfl rfl
set_option maxRecDepth 100000 in
theorem iwX11_type : Cond.initialized MX11_type.1.cls ∈ zs_tbl := zs_iq1 1 rfl rfl
set_option maxRecDepth 100000 in
theorem mwX11_type : Cond.instanceMethod MX11_type.1 ∈ zs_tbl := zs_iq2 123 rfl rfl
set_option maxRecDepth 100000 in
theorem ewX11_type : Cond.selects MX11_type.1.cls MX11_type.1 MX11_type.1 ∈ zs_tbl := zs_iq2 124 rfl rfl
abbrev MX11_clear : zs_M := (yX11_clear, cX11_clear, 1, some .int, { frames := 1, cells := 0, slots := 0, locals := 21 })
set_option maxRecDepth 100000 in
theorem cwX11_clear : Cond.code MX11_clear.1 MX11_clear.2.1 MX11_clear.2.2.1 MX11_clear.2.2.2.1 ∈ zs_tbl := zs_iq2 138 rfl rfl
set_option maxRecDepth 100000 in
theorem iwX11_clear : Cond.initialized MX11_clear.1.cls ∈ zs_tbl := zs_iq1 1 rfl rfl
set_option maxRecDepth 100000 in
theorem mwX11_clear : Cond.instanceMethod MX11_clear.1 ∈ zs_tbl := zs_iq2 136 rfl rfl
set_option maxRecDepth 100000 in
theorem ewX11_clear : Cond.selects MX11_clear.1.cls MX11_clear.1 MX11_clear.1 ∈ zs_tbl := zs_iq2 137 rfl rfl
abbrev MX11_read : zs_M := (yX11_read, cX11_read, 2, some .int, { frames := 10, cells := 0, slots := 0, locals := 218 })
set_option maxRecDepth 100000 in
theorem cwX11_read : Cond.code MX11_read.1 MX11_read.2.1 MX11_read.2.2.1 MX11_read.2.2.2.1 ∈ zs_tbl := zs_iq2 146 rfl rfl
set_option maxRecDepth 100000 in
theorem iwX11_read : Cond.initialized MX11_read.1.cls ∈ zs_tbl := zs_iq1 1 rfl rfl
set_option maxRecDepth 100000 in
theorem mwX11_read : Cond.instanceMethod MX11_read.1 ∈ zs_tbl := zs_iq2 144 rfl rfl
set_option maxRecDepth 100000 in
theorem ewX11_read : Cond.selects MX11_read.1.cls MX11_read.1 MX11_read.1 ∈ zs_tbl := zs_iq2 145 rfl rfl
abbrev MX11_spins : zs_M := (yX11_spins, cX11_spins, 2, some .int, { frames := 5, cells := 0, slots := 0, locals := 111 })
set_option maxRecDepth 100000 in
theorem cwX11_spins : Cond.code MX11_spins.1 MX11_spins.2.1 MX11_spins.2.2.1 MX11_spins.2.2.2.1 ∈ zs_tbl := zs_iq3 105 rfl rfl
set_option maxRecDepth 100000 in
theorem iwX11_spins : Cond.initialized MX11_spins.1.cls ∈ zs_tbl := zs_iq1 1 rfl rfl
set_option maxRecDepth 100000 in
theorem mwX11_spins : Cond.instanceMethod MX11_spins.1 ∈ zs_tbl := zs_iq3 103 rfl rfl
set_option maxRecDepth 100000 in
theorem ewX11_spins : Cond.selects MX11_spins.1.cls MX11_spins.1 MX11_spins.1 ∈ zs_tbl := zs_iq3 104 rfl rfl
abbrev MX11_steps : zs_M := (yX11_steps, cX11_steps, 3, some .int, { frames := 3, cells := 0, slots := 0, locals := 67 })
set_option maxRecDepth 100000 in
theorem cwX11_steps : Cond.code MX11_steps.1 MX11_steps.2.1 MX11_steps.2.2.1 MX11_steps.2.2.2.1 ∈ zs_tbl := zs_iq3 126 rfl rfl
set_option maxRecDepth 100000 in
theorem iwX11_steps : Cond.initialized MX11_steps.1.cls ∈ zs_tbl := zs_iq1 1 rfl rfl
set_option maxRecDepth 100000 in
theorem mwX11_steps : Cond.instanceMethod MX11_steps.1 ∈ zs_tbl := zs_iq3 124 rfl rfl
set_option maxRecDepth 100000 in
theorem ewX11_steps : Cond.selects MX11_steps.1.cls MX11_steps.1 MX11_steps.1 ∈ zs_tbl := zs_iq3 125 rfl rfl
abbrev MX11_draws : zs_M := (yX11_draws, cX11_draws, 4, some .int, { frames := 3, cells := 0, slots := 0, locals := 67 })
set_option maxRecDepth 100000 in
theorem cwX11_draws : Cond.code MX11_draws.1 MX11_draws.2.1 MX11_draws.2.2.1 MX11_draws.2.2.2.1 ∈ zs_tbl := zs_iq3 134 rfl rfl
set_option maxRecDepth 100000 in
theorem iwX11_draws : Cond.initialized MX11_draws.1.cls ∈ zs_tbl := zs_iq1 1 rfl rfl
set_option maxRecDepth 100000 in
theorem mwX11_draws : Cond.instanceMethod MX11_draws.1 ∈ zs_tbl := zs_iq3 132 rfl rfl
set_option maxRecDepth 100000 in
theorem ewX11_draws : Cond.selects MX11_draws.1.cls MX11_draws.1 MX11_draws.1 ∈ zs_tbl := zs_iq3 133 rfl rfl
abbrev MX11_undo : zs_M := (yX11_undo, cX11_undo, 1, some .int, { frames := 3, cells := 0, slots := 0, locals := 67 })
set_option maxRecDepth 100000 in
theorem cwX11_undo : Cond.code MX11_undo.1 MX11_undo.2.1 MX11_undo.2.2.1 MX11_undo.2.2.2.1 ∈ zs_tbl := zs_iq3 147 rfl rfl
set_option maxRecDepth 100000 in
theorem iwX11_undo : Cond.initialized MX11_undo.1.cls ∈ zs_tbl := zs_iq1 1 rfl rfl
set_option maxRecDepth 100000 in
theorem mwX11_undo : Cond.instanceMethod MX11_undo.1 ∈ zs_tbl := zs_iq3 145 rfl rfl
set_option maxRecDepth 100000 in
theorem ewX11_undo : Cond.selects MX11_undo.1.cls MX11_undo.1 MX11_undo.1 ∈ zs_tbl := zs_iq3 146 rfl rfl
abbrev MX11_of : zs_M := (yX11_of, cX11_of, 3, some .int, { frames := 2, cells := 0, slots := 0, locals := 43 })
set_option maxRecDepth 100000 in
theorem cwX11_of : Cond.code MX11_of.1 MX11_of.2.1 MX11_of.2.2.1 MX11_of.2.2.2.1 ∈ zs_tbl := zs_iq3 159 rfl rfl
set_option maxRecDepth 100000 in
theorem iwX11_of : Cond.initialized MX11_of.1.cls ∈ zs_tbl := zs_iq1 1 rfl rfl
set_option maxRecDepth 100000 in
theorem mwX11_of : Cond.instanceMethod MX11_of.1 ∈ zs_tbl := zs_iq3 157 rfl rfl
set_option maxRecDepth 100000 in
theorem ewX11_of : Cond.selects MX11_of.1.cls MX11_of.1 MX11_of.1 ∈ zs_tbl := zs_iq3 158 rfl rfl
abbrev MX11_drawn : zs_M := (yX11_drawn, cX11_drawn, 2, some .int, { frames := 2, cells := 0, slots := 0, locals := 43 })
set_option maxRecDepth 100000 in
theorem cwX11_drawn : Cond.code MX11_drawn.1 MX11_drawn.2.1 MX11_drawn.2.2.1 MX11_drawn.2.2.2.1 ∈ zs_tbl := zs_iq3 167 rfl rfl
set_option maxRecDepth 100000 in
theorem iwX11_drawn : Cond.initialized MX11_drawn.1.cls ∈ zs_tbl := zs_iq1 1 rfl rfl
set_option maxRecDepth 100000 in
theorem mwX11_drawn : Cond.instanceMethod MX11_drawn.1 ∈ zs_tbl := zs_iq3 165 rfl rfl
set_option maxRecDepth 100000 in
theorem ewX11_drawn : Cond.selects MX11_drawn.1.cls MX11_drawn.1 MX11_drawn.1 ∈ zs_tbl := zs_iq3 166 rfl rfl
abbrev MX11_at : zs_M := (yX11_at, cX11_at, 2, some .int, { frames := 5, cells := 0, slots := 0, locals := 112 })
set_option maxRecDepth 100000 in
theorem cwX11_at : Cond.code MX11_at.1 MX11_at.2.1 MX11_at.2.2.1 MX11_at.2.2.2.1 ∈ zs_tbl := zs_iq3 171 rfl rfl
set_option maxRecDepth 100000 in
theorem iwX11_at : Cond.initialized MX11_at.1.cls ∈ zs_tbl := zs_iq1 1 rfl rfl
set_option maxRecDepth 100000 in
theorem mwX11_at : Cond.instanceMethod MX11_at.1 ∈ zs_tbl := zs_iq3 169 rfl rfl
set_option maxRecDepth 100000 in
theorem ewX11_at : Cond.selects MX11_at.1.cls MX11_at.1 MX11_at.1 ∈ zs_tbl := zs_iq3 170 rfl rfl
abbrev MX11_sees : zs_M := (yX11_sees, cX11_sees, 3, some .int, { frames := 5, cells := 0, slots := 0, locals := 112 })
set_option maxRecDepth 100000 in
theorem cwX11_sees : Cond.code MX11_sees.1 MX11_sees.2.1 MX11_sees.2.2.1 MX11_sees.2.2.2.1 ∈ zs_tbl := zs_iq3 186 rfl rfl
set_option maxRecDepth 100000 in
theorem iwX11_sees : Cond.initialized MX11_sees.1.cls ∈ zs_tbl := zs_iq1 1 rfl rfl
set_option maxRecDepth 100000 in
theorem mwX11_sees : Cond.instanceMethod MX11_sees.1 ∈ zs_tbl := zs_iq3 184 rfl rfl
set_option maxRecDepth 100000 in
theorem ewX11_sees : Cond.selects MX11_sees.1.cls MX11_sees.1 MX11_sees.1 ∈ zs_tbl := zs_iq3 185 rfl rfl
abbrev MX11_round : zs_M := (yX11_round, cX11_round, 2, some .int, { frames := 4, cells := 0, slots := 0, locals := 89 })
set_option maxRecDepth 100000 in
theorem cwX11_round : Cond.code MX11_round.1 MX11_round.2.1 MX11_round.2.2.1 MX11_round.2.2.2.1 ∈ zs_tbl := zs_iq3 190 rfl rfl
set_option maxRecDepth 100000 in
theorem iwX11_round : Cond.initialized MX11_round.1.cls ∈ zs_tbl := zs_iq1 1 rfl rfl
set_option maxRecDepth 100000 in
theorem mwX11_round : Cond.instanceMethod MX11_round.1 ∈ zs_tbl := zs_iq3 188 rfl rfl
set_option maxRecDepth 100000 in
theorem ewX11_round : Cond.selects MX11_round.1.cls MX11_round.1 MX11_round.1 ∈ zs_tbl := zs_iq3 189 rfl rfl
abbrev MX11_still : zs_M := (yX11_still, cX11_still, 4, some .int, { frames := 5, cells := 0, slots := 0, locals := 113 })
set_option maxRecDepth 100000 in
theorem cwX11_still : Cond.code MX11_still.1 MX11_still.2.1 MX11_still.2.2.1 MX11_still.2.2.2.1 ∈ zs_tbl := zs_iq3 198 rfl rfl
set_option maxRecDepth 100000 in
theorem iwX11_still : Cond.initialized MX11_still.1.cls ∈ zs_tbl := zs_iq1 1 rfl rfl
set_option maxRecDepth 100000 in
theorem mwX11_still : Cond.instanceMethod MX11_still.1 ∈ zs_tbl := zs_iq3 196 rfl rfl
set_option maxRecDepth 100000 in
theorem ewX11_still : Cond.selects MX11_still.1.cls MX11_still.1 MX11_still.1 ∈ zs_tbl := zs_iq3 197 rfl rfl
abbrev MX11_most : zs_M := (yX11_most, cX11_most, 8, some .int, { frames := 5, cells := 0, slots := 0, locals := 112 })
set_option maxRecDepth 100000 in
theorem cwX11_most : Cond.code MX11_most.1 MX11_most.2.1 MX11_most.2.2.1 MX11_most.2.2.2.1 ∈ zs_tbl := zs_iq3 207 rfl rfl
set_option maxRecDepth 100000 in
theorem iwX11_most : Cond.initialized MX11_most.1.cls ∈ zs_tbl := zs_iq1 1 rfl rfl
set_option maxRecDepth 100000 in
theorem mwX11_most : Cond.instanceMethod MX11_most.1 ∈ zs_tbl := zs_iq3 205 rfl rfl
set_option maxRecDepth 100000 in
theorem ewX11_most : Cond.selects MX11_most.1.cls MX11_most.1 MX11_most.1 ∈ zs_tbl := zs_iq3 206 rfl rfl
abbrev MX11_smooth : zs_M := (yX11_smooth, cX11_smooth, 2, some .int, { frames := 5, cells := 0, slots := 0, locals := 119 })
set_option maxRecDepth 100000 in
theorem cwX11_smooth : Cond.code MX11_smooth.1 MX11_smooth.2.1 MX11_smooth.2.2.1 MX11_smooth.2.2.2.1 ∈ zs_tbl := zs_iq3 211 rfl rfl
set_option maxRecDepth 100000 in
theorem iwX11_smooth : Cond.initialized MX11_smooth.1.cls ∈ zs_tbl := zs_iq1 1 rfl rfl
set_option maxRecDepth 100000 in
theorem mwX11_smooth : Cond.instanceMethod MX11_smooth.1 ∈ zs_tbl := zs_iq3 209 rfl rfl
set_option maxRecDepth 100000 in
theorem ewX11_smooth : Cond.selects MX11_smooth.1.cls MX11_smooth.1 MX11_smooth.1 ∈ zs_tbl := zs_iq3 210 rfl rfl
abbrev MX11_seen : zs_M := (yX11_seen, cX11_seen, 3, some .int, { frames := 2, cells := 0, slots := 0, locals := 47 })
set_option maxRecDepth 100000 in
theorem cwX11_seen : Cond.code MX11_seen.1 MX11_seen.2.1 MX11_seen.2.2.1 MX11_seen.2.2.2.1 ∈ zs_tbl := zs_iq4 0 rfl rfl
set_option maxRecDepth 100000 in
theorem iwX11_seen : Cond.initialized MX11_seen.1.cls ∈ zs_tbl := zs_iq1 1 rfl rfl
set_option maxRecDepth 100000 in
theorem mwX11_seen : Cond.instanceMethod MX11_seen.1 ∈ zs_tbl := zs_iq3 238 rfl rfl
set_option maxRecDepth 100000 in
theorem ewX11_seen : Cond.selects MX11_seen.1.cls MX11_seen.1 MX11_seen.1 ∈ zs_tbl := zs_iq3 239 rfl rfl
abbrev MX11_began : zs_M := (yX11_began, cX11_began, 2, some .int, { frames := 5, cells := 0, slots := 0, locals := 112 })
set_option maxRecDepth 100000 in
theorem cwX11_began : Cond.code MX11_began.1 MX11_began.2.1 MX11_began.2.2.1 MX11_began.2.2.2.1 ∈ zs_tbl := zs_iq4 13 rfl rfl
set_option maxRecDepth 100000 in
theorem iwX11_began : Cond.initialized MX11_began.1.cls ∈ zs_tbl := zs_iq1 1 rfl rfl
set_option maxRecDepth 100000 in
theorem mwX11_began : Cond.instanceMethod MX11_began.1 ∈ zs_tbl := zs_iq4 11 rfl rfl
set_option maxRecDepth 100000 in
theorem ewX11_began : Cond.selects MX11_began.1.cls MX11_began.1 MX11_began.1 ∈ zs_tbl := zs_iq4 12 rfl rfl
abbrev MX11_tell : zs_M := (yX11_tell, cX11_tell, 4, some .int, { frames := 5, cells := 0, slots := 0, locals := 112 })
set_option maxRecDepth 100000 in
theorem cwX11_tell : Cond.code MX11_tell.1 MX11_tell.2.1 MX11_tell.2.2.1 MX11_tell.2.2.2.1 ∈ zs_tbl := zs_iq4 42 rfl rfl
set_option maxRecDepth 100000 in
theorem iwX11_tell : Cond.initialized MX11_tell.1.cls ∈ zs_tbl := zs_iq1 1 rfl rfl
set_option maxRecDepth 100000 in
theorem mwX11_tell : Cond.instanceMethod MX11_tell.1 ∈ zs_tbl := zs_iq4 40 rfl rfl
set_option maxRecDepth 100000 in
theorem ewX11_tell : Cond.selects MX11_tell.1.cls MX11_tell.1 MX11_tell.1 ∈ zs_tbl := zs_iq4 41 rfl rfl
abbrev MX11_note : zs_M := (yX11_note, cX11_note, 5, some .int, { frames := 2, cells := 0, slots := 0, locals := 47 })
set_option maxRecDepth 100000 in
theorem cwX11_note : Cond.code MX11_note.1 MX11_note.2.1 MX11_note.2.2.1 MX11_note.2.2.2.1 ∈ zs_tbl := zs_iq4 63 rfl rfl
set_option maxRecDepth 100000 in
theorem iwX11_note : Cond.initialized MX11_note.1.cls ∈ zs_tbl := zs_iq1 1 rfl rfl
set_option maxRecDepth 100000 in
theorem mwX11_note : Cond.instanceMethod MX11_note.1 ∈ zs_tbl := zs_iq4 61 rfl rfl
set_option maxRecDepth 100000 in
theorem ewX11_note : Cond.selects MX11_note.1.cls MX11_note.1 MX11_note.1 ∈ zs_tbl := zs_iq4 62 rfl rfl
abbrev MX11_mark : zs_M := (yX11_mark, cX11_mark, 4, some .int, { frames := 2, cells := 0, slots := 0, locals := 47 })
set_option maxRecDepth 100000 in
theorem cwX11_mark : Cond.code MX11_mark.1 MX11_mark.2.1 MX11_mark.2.2.1 MX11_mark.2.2.2.1 ∈ zs_tbl := zs_iq4 67 rfl rfl
set_option maxRecDepth 100000 in
theorem iwX11_mark : Cond.initialized MX11_mark.1.cls ∈ zs_tbl := zs_iq1 1 rfl rfl
set_option maxRecDepth 100000 in
theorem mwX11_mark : Cond.instanceMethod MX11_mark.1 ∈ zs_tbl := zs_iq4 65 rfl rfl
set_option maxRecDepth 100000 in
theorem ewX11_mark : Cond.selects MX11_mark.1.cls MX11_mark.1 MX11_mark.1 ∈ zs_tbl := zs_iq4 66 rfl rfl
abbrev MX11_forget : zs_M := (yX11_forget, cX11_forget, 2, some .int, { frames := 1, cells := 0, slots := 0, locals := 21 })
set_option maxRecDepth 100000 in
theorem cwX11_forget : Cond.code MX11_forget.1 MX11_forget.2.1 MX11_forget.2.2.1 MX11_forget.2.2.2.1 ∈ zs_tbl := zs_iq4 71 rfl rfl
set_option maxRecDepth 100000 in
theorem iwX11_forget : Cond.initialized MX11_forget.1.cls ∈ zs_tbl := zs_iq1 1 rfl rfl
set_option maxRecDepth 100000 in
theorem mwX11_forget : Cond.instanceMethod MX11_forget.1 ∈ zs_tbl := zs_iq4 69 rfl rfl
set_option maxRecDepth 100000 in
theorem ewX11_forget : Cond.selects MX11_forget.1.cls MX11_forget.1 MX11_forget.1 ∈ zs_tbl := zs_iq4 70 rfl rfl
abbrev MX11_is : zs_M := (yX11_is, cX11_is, 2, some .int, { frames := 5, cells := 0, slots := 0, locals := 112 })
set_option maxRecDepth 100000 in
theorem cwX11_is : Cond.code MX11_is.1 MX11_is.2.1 MX11_is.2.2.1 MX11_is.2.2.2.1 ∈ zs_tbl := zs_iq4 76 rfl rfl
set_option maxRecDepth 100000 in
theorem iwX11_is : Cond.initialized MX11_is.1.cls ∈ zs_tbl := zs_iq1 1 rfl rfl
set_option maxRecDepth 100000 in
theorem mwX11_is : Cond.instanceMethod MX11_is.1 ∈ zs_tbl := zs_iq4 74 rfl rfl
set_option maxRecDepth 100000 in
theorem ewX11_is : Cond.selects MX11_is.1.cls MX11_is.1 MX11_is.1 ∈ zs_tbl := zs_iq4 75 rfl rfl
abbrev MX11_look : zs_M := (yX11_look, cX11_look, 3, some .int, { frames := 5, cells := 0, slots := 0, locals := 112 })
set_option maxRecDepth 100000 in
theorem cwX11_look : Cond.code MX11_look.1 MX11_look.2.1 MX11_look.2.2.1 MX11_look.2.2.2.1 ∈ zs_tbl := zs_iq4 90 rfl rfl
set_option maxRecDepth 100000 in
theorem iwX11_look : Cond.initialized MX11_look.1.cls ∈ zs_tbl := zs_iq1 1 rfl rfl
set_option maxRecDepth 100000 in
theorem mwX11_look : Cond.instanceMethod MX11_look.1 ∈ zs_tbl := zs_iq4 88 rfl rfl
set_option maxRecDepth 100000 in
theorem ewX11_look : Cond.selects MX11_look.1.cls MX11_look.1 MX11_look.1 ∈ zs_tbl := zs_iq4 89 rfl rfl
abbrev MX11_kinds : zs_M := (yX11_kinds, cX11_kinds, 1, some .int, { frames := 4, cells := 0, slots := 0, locals := 88 })
set_option maxRecDepth 100000 in
theorem cwX11_kinds : Cond.code MX11_kinds.1 MX11_kinds.2.1 MX11_kinds.2.2.1 MX11_kinds.2.2.2.1 ∈ zs_tbl := zs_iq4 103 rfl rfl
set_option maxRecDepth 100000 in
theorem iwX11_kinds : Cond.initialized MX11_kinds.1.cls ∈ zs_tbl := zs_iq1 1 rfl rfl
set_option maxRecDepth 100000 in
theorem mwX11_kinds : Cond.instanceMethod MX11_kinds.1 ∈ zs_tbl := zs_iq4 101 rfl rfl
set_option maxRecDepth 100000 in
theorem ewX11_kinds : Cond.selects MX11_kinds.1.cls MX11_kinds.1 MX11_kinds.1 ∈ zs_tbl := zs_iq4 102 rfl rfl
abbrev MX11_ask : zs_M := (yX11_ask, cX11_ask, 2, some .int, { frames := 4, cells := 0, slots := 0, locals := 93 })
set_option maxRecDepth 100000 in
theorem cwX11_ask : Cond.code MX11_ask.1 MX11_ask.2.1 MX11_ask.2.2.1 MX11_ask.2.2.2.1 ∈ zs_tbl := zs_iq4 116 rfl rfl
set_option maxRecDepth 100000 in
theorem iwX11_ask : Cond.initialized MX11_ask.1.cls ∈ zs_tbl := zs_iq1 1 rfl rfl
set_option maxRecDepth 100000 in
theorem mwX11_ask : Cond.instanceMethod MX11_ask.1 ∈ zs_tbl := zs_iq4 114 rfl rfl
set_option maxRecDepth 100000 in
theorem ewX11_ask : Cond.selects MX11_ask.1.cls MX11_ask.1 MX11_ask.1 ∈ zs_tbl := zs_iq4 115 rfl rfl
abbrev MX11_hands : zs_M := (yX11_hands, cX11_hands, 7, some .int, { frames := 6, cells := 0, slots := 0, locals := 135 })
set_option maxRecDepth 100000 in
theorem cwX11_hands : Cond.code MX11_hands.1 MX11_hands.2.1 MX11_hands.2.2.1 MX11_hands.2.2.2.1 ∈ zs_tbl := zs_iq4 128 rfl rfl
set_option maxRecDepth 100000 in
theorem iwX11_hands : Cond.initialized MX11_hands.1.cls ∈ zs_tbl := zs_iq1 1 rfl rfl
set_option maxRecDepth 100000 in
theorem mwX11_hands : Cond.instanceMethod MX11_hands.1 ∈ zs_tbl := zs_iq4 126 rfl rfl
set_option maxRecDepth 100000 in
theorem ewX11_hands : Cond.selects MX11_hands.1.cls MX11_hands.1 MX11_hands.1 ∈ zs_tbl := zs_iq4 127 rfl rfl
abbrev MX11_smear : zs_M := (yX11_smear, cX11_smear, 8, some .int, { frames := 4, cells := 0, slots := 0, locals := 89 })
set_option maxRecDepth 100000 in
theorem cwX11_smear : Cond.code MX11_smear.1 MX11_smear.2.1 MX11_smear.2.2.1 MX11_smear.2.2.2.1 ∈ zs_tbl := zs_iq4 143 rfl rfl
set_option maxRecDepth 100000 in
theorem iwX11_smear : Cond.initialized MX11_smear.1.cls ∈ zs_tbl := zs_iq1 1 rfl rfl
set_option maxRecDepth 100000 in
theorem mwX11_smear : Cond.instanceMethod MX11_smear.1 ∈ zs_tbl := zs_iq4 141 rfl rfl
set_option maxRecDepth 100000 in
theorem ewX11_smear : Cond.selects MX11_smear.1.cls MX11_smear.1 MX11_smear.1 ∈ zs_tbl := zs_iq4 142 rfl rfl
abbrev MX11_nights : zs_M := (yX11_nights, cX11_nights, 6, some .int, { frames := 4, cells := 0, slots := 0, locals := 89 })
set_option maxRecDepth 100000 in
theorem cwX11_nights : Cond.code MX11_nights.1 MX11_nights.2.1 MX11_nights.2.2.1 MX11_nights.2.2.2.1 ∈ zs_tbl := zs_iq4 177 rfl rfl
set_option maxRecDepth 100000 in
theorem iwX11_nights : Cond.initialized MX11_nights.1.cls ∈ zs_tbl := zs_iq1 1 rfl rfl
set_option maxRecDepth 100000 in
theorem mwX11_nights : Cond.instanceMethod MX11_nights.1 ∈ zs_tbl := zs_iq4 175 rfl rfl
set_option maxRecDepth 100000 in
theorem ewX11_nights : Cond.selects MX11_nights.1.cls MX11_nights.1 MX11_nights.1 ∈ zs_tbl := zs_iq4 176 rfl rfl
abbrev MX11_part : zs_M := (yX11_part, cX11_part, 2, some .long, { frames := 1, cells := 0, slots := 0, locals := 21 })
set_option maxRecDepth 100000 in
theorem cwX11_part : Cond.code MX11_part.1 MX11_part.2.1 MX11_part.2.2.1 MX11_part.2.2.2.1 ∈ zs_tbl := zs_iq4 191 rfl rfl
set_option maxRecDepth 100000 in
theorem iwX11_part : Cond.initialized MX11_part.1.cls ∈ zs_tbl := zs_iq1 1 rfl rfl
set_option maxRecDepth 100000 in
theorem mwX11_part : Cond.instanceMethod MX11_part.1 ∈ zs_tbl := zs_iq4 189 rfl rfl
set_option maxRecDepth 100000 in
theorem ewX11_part : Cond.selects MX11_part.1.cls MX11_part.1 MX11_part.1 ∈ zs_tbl := zs_iq4 190 rfl rfl
abbrev MX11_image : zs_M := (yX11_image, cX11_image, 2, some .int, { frames := 3, cells := 0, slots := 0, locals := 64 })
set_option maxRecDepth 100000 in
theorem cwX11_image : Cond.code MX11_image.1 MX11_image.2.1 MX11_image.2.2.1 MX11_image.2.2.2.1 ∈ zs_tbl := zs_iq4 195 rfl rfl
set_option maxRecDepth 100000 in
theorem iwX11_image : Cond.initialized MX11_image.1.cls ∈ zs_tbl := zs_iq1 1 rfl rfl
set_option maxRecDepth 100000 in
theorem mwX11_image : Cond.instanceMethod MX11_image.1 ∈ zs_tbl := zs_iq4 193 rfl rfl
set_option maxRecDepth 100000 in
theorem ewX11_image : Cond.selects MX11_image.1.cls MX11_image.1 MX11_image.1 ∈ zs_tbl := zs_iq4 194 rfl rfl
abbrev MX11_from : zs_M := (yX11_from, cX11_from, 3, some .int, { frames := 3, cells := 0, slots := 0, locals := 64 })
set_option maxRecDepth 100000 in
theorem cwX11_from : Cond.code MX11_from.1 MX11_from.2.1 MX11_from.2.2.1 MX11_from.2.2.2.1 ∈ zs_tbl := zs_iq4 199 rfl rfl
set_option maxRecDepth 100000 in
theorem iwX11_from : Cond.initialized MX11_from.1.cls ∈ zs_tbl := zs_iq1 1 rfl rfl
set_option maxRecDepth 100000 in
theorem mwX11_from : Cond.instanceMethod MX11_from.1 ∈ zs_tbl := zs_iq4 197 rfl rfl
set_option maxRecDepth 100000 in
theorem ewX11_from : Cond.selects MX11_from.1.cls MX11_from.1 MX11_from.1 ∈ zs_tbl := zs_iq4 198 rfl rfl
abbrev MX11_status : zs_M := (yX11_status, cX11_status, 2, some .int, { frames := 1, cells := 0, slots := 0, locals := 21 })
set_option maxRecDepth 100000 in
theorem cwX11_status : Cond.code MX11_status.1 MX11_status.2.1 MX11_status.2.2.1 MX11_status.2.2.2.1 ∈ zs_tbl := zs_iq4 203 rfl rfl
set_option maxRecDepth 100000 in
theorem iwX11_status : Cond.initialized MX11_status.1.cls ∈ zs_tbl := zs_iq1 1 rfl rfl
set_option maxRecDepth 100000 in
theorem mwX11_status : Cond.instanceMethod MX11_status.1 ∈ zs_tbl := zs_iq4 201 rfl rfl
set_option maxRecDepth 100000 in
theorem ewX11_status : Cond.selects MX11_status.1.cls MX11_status.1 MX11_status.1 ∈ zs_tbl := zs_iq4 202 rfl rfl
abbrev MX11_count : zs_M := (yX11_count, cX11_count, 2, some .int, { frames := 3, cells := 0, slots := 0, locals := 65 })
set_option maxRecDepth 100000 in
theorem cwX11_count : Cond.code MX11_count.1 MX11_count.2.1 MX11_count.2.2.1 MX11_count.2.2.2.1 ∈ zs_tbl := zs_iq4 207 rfl rfl
set_option maxRecDepth 100000 in
theorem iwX11_count : Cond.initialized MX11_count.1.cls ∈ zs_tbl := zs_iq1 1 rfl rfl
set_option maxRecDepth 100000 in
theorem mwX11_count : Cond.instanceMethod MX11_count.1 ∈ zs_tbl := zs_iq4 205 rfl rfl
set_option maxRecDepth 100000 in
theorem ewX11_count : Cond.selects MX11_count.1.cls MX11_count.1 MX11_count.1 ∈ zs_tbl := zs_iq4 206 rfl rfl
abbrev MX11_digest : zs_M := (yX11_digest, cX11_digest, 4, some .long, { frames := 3, cells := 0, slots := 0, locals := 67 })
set_option maxRecDepth 100000 in
theorem cwX11_digest : Cond.code MX11_digest.1 MX11_digest.2.1 MX11_digest.2.2.1 MX11_digest.2.2.2.1 ∈ zs_tbl := zs_iq4 215 rfl rfl
set_option maxRecDepth 100000 in
theorem iwX11_digest : Cond.initialized MX11_digest.1.cls ∈ zs_tbl := zs_iq1 1 rfl rfl
set_option maxRecDepth 100000 in
theorem mwX11_digest : Cond.instanceMethod MX11_digest.1 ∈ zs_tbl := zs_iq4 213 rfl rfl
set_option maxRecDepth 100000 in
theorem ewX11_digest : Cond.selects MX11_digest.1.cls MX11_digest.1 MX11_digest.1 ∈ zs_tbl := zs_iq4 214 rfl rfl
abbrev MX11_refuseBad : zs_M := (yX11_refuseBad, cX11_refuseBad, 2, some .int, { frames := 0, cells := 0, slots := 0, locals := 0 })
set_option maxRecDepth 100000 in
theorem cwX11_refuseBad : Cond.code MX11_refuseBad.1 MX11_refuseBad.2.1 MX11_refuseBad.2.2.1 MX11_refuseBad.2.2.2.1 ∈ zs_tbl := zs_iq2 81 rfl rfl
set_option maxRecDepth 100000 in
theorem iwX11_refuseBad : Cond.initialized MX11_refuseBad.1.cls ∈ zs_tbl := zs_iq1 1 rfl rfl
set_option maxRecDepth 100000 in
theorem mwX11_refuseBad : Cond.instanceMethod MX11_refuseBad.1 ∈ zs_tbl := zs_iq2 80 rfl rfl
set_option maxRecDepth 100000 in
theorem ewX11_refuseBad : Cond.selects MX11_refuseBad.1.cls MX11_refuseBad.1 MX11_refuseBad.1 ∈ zs_tbl := zs_iq0 0 rfl rfl
abbrev MX11_refuseNo : zs_M := (yX11_refuseNo, cX11_refuseNo, 1, some .int, { frames := 0, cells := 0, slots := 0, locals := 0 })
set_option maxRecDepth 100000 in
theorem cwX11_refuseNo : Cond.code MX11_refuseNo.1 MX11_refuseNo.2.1 MX11_refuseNo.2.2.1 MX11_refuseNo.2.2.2.1 ∈ zs_tbl := zs_iq3 130 rfl rfl
set_option maxRecDepth 100000 in
theorem iwX11_refuseNo : Cond.initialized MX11_refuseNo.1.cls ∈ zs_tbl := zs_iq1 1 rfl rfl
set_option maxRecDepth 100000 in
theorem mwX11_refuseNo : Cond.instanceMethod MX11_refuseNo.1 ∈ zs_tbl := zs_iq3 129 rfl rfl
set_option maxRecDepth 100000 in
theorem ewX11_refuseNo : Cond.selects MX11_refuseNo.1.cls MX11_refuseNo.1 MX11_refuseNo.1 ∈ zs_tbl := zs_iq0 17 rfl rfl
abbrev MX11_refuseFull : zs_M := (yX11_refuseFull, cX11_refuseFull, 1, some .int, { frames := 0, cells := 0, slots := 0, locals := 0 })
set_option maxRecDepth 100000 in
theorem cwX11_refuseFull : Cond.code MX11_refuseFull.1 MX11_refuseFull.2.1 MX11_refuseFull.2.2.1 MX11_refuseFull.2.2.2.1 ∈ zs_tbl := zs_iq2 114 rfl rfl
set_option maxRecDepth 100000 in
theorem iwX11_refuseFull : Cond.initialized MX11_refuseFull.1.cls ∈ zs_tbl := zs_iq1 1 rfl rfl
set_option maxRecDepth 100000 in
theorem mwX11_refuseFull : Cond.instanceMethod MX11_refuseFull.1 ∈ zs_tbl := zs_iq2 113 rfl rfl
set_option maxRecDepth 100000 in
theorem ewX11_refuseFull : Cond.selects MX11_refuseFull.1.cls MX11_refuseFull.1 MX11_refuseFull.1 ∈ zs_tbl := zs_iq0 1 rfl rfl
abbrev MX11_within : zs_M := (yX11_within, cX11_within, 3, some .boolean, { frames := 0, cells := 0, slots := 0, locals := 0 })
set_option maxRecDepth 100000 in
theorem cwX11_within : Cond.code MX11_within.1 MX11_within.2.1 MX11_within.2.2.1 MX11_within.2.2.2.1 ∈ zs_tbl := zs_iq2 71 rfl rfl
set_option maxRecDepth 100000 in
theorem iwX11_within : Cond.initialized MX11_within.1.cls ∈ zs_tbl := zs_iq1 1 rfl rfl
set_option maxRecDepth 100000 in
theorem swX11_within : Cond.static MX11_within.1 ∈ zs_tbl := zs_iq2 70 rfl rfl
abbrev MX11_isKind : zs_M := (yX11_isKind, cX11_isKind, 1, some .boolean, { frames := 1, cells := 0, slots := 0, locals := 22 })
set_option maxRecDepth 100000 in
theorem cwX11_isKind : Cond.code MX11_isKind.1 MX11_isKind.2.1 MX11_isKind.2.2.1 MX11_isKind.2.2.2.1 ∈ zs_tbl := zs_iq2 74 rfl rfl
set_option maxRecDepth 100000 in
theorem iwX11_isKind : Cond.initialized MX11_isKind.1.cls ∈ zs_tbl := zs_iq1 1 rfl rfl
set_option maxRecDepth 100000 in
theorem swX11_isKind : Cond.static MX11_isKind.1 ∈ zs_tbl := zs_iq2 73 rfl rfl
abbrev MX11_isStep : zs_M := (yX11_isStep, cX11_isStep, 1, some .boolean, { frames := 1, cells := 0, slots := 0, locals := 22 })
set_option maxRecDepth 100000 in
theorem cwX11_isStep : Cond.code MX11_isStep.1 MX11_isStep.2.1 MX11_isStep.2.2.1 MX11_isStep.2.2.2.1 ∈ zs_tbl := zs_iq2 77 rfl rfl
set_option maxRecDepth 100000 in
theorem iwX11_isStep : Cond.initialized MX11_isStep.1.cls ∈ zs_tbl := zs_iq1 1 rfl rfl
set_option maxRecDepth 100000 in
theorem swX11_isStep : Cond.static MX11_isStep.1 ∈ zs_tbl := zs_iq2 76 rfl rfl
abbrev MX11_isDrawing : zs_M := (yX11_isDrawing, cX11_isDrawing, 1, some .boolean, { frames := 1, cells := 0, slots := 0, locals := 22 })
set_option maxRecDepth 100000 in
theorem cwX11_isDrawing : Cond.code MX11_isDrawing.1 MX11_isDrawing.2.1 MX11_isDrawing.2.2.1 MX11_isDrawing.2.2.2.1 ∈ zs_tbl := zs_iq3 141 rfl rfl
set_option maxRecDepth 100000 in
theorem iwX11_isDrawing : Cond.initialized MX11_isDrawing.1.cls ∈ zs_tbl := zs_iq1 1 rfl rfl
set_option maxRecDepth 100000 in
theorem swX11_isDrawing : Cond.static MX11_isDrawing.1 ∈ zs_tbl := zs_iq3 140 rfl rfl
abbrev MX11_isFrame : zs_M := (yX11_isFrame, cX11_isFrame, 2, some .boolean, { frames := 1, cells := 0, slots := 0, locals := 22 })
set_option maxRecDepth 100000 in
theorem cwX11_isFrame : Cond.code MX11_isFrame.1 MX11_isFrame.2.1 MX11_isFrame.2.2.1 MX11_isFrame.2.2.2.1 ∈ zs_tbl := zs_iq3 138 rfl rfl
set_option maxRecDepth 100000 in
theorem iwX11_isFrame : Cond.initialized MX11_isFrame.1.cls ∈ zs_tbl := zs_iq1 1 rfl rfl
set_option maxRecDepth 100000 in
theorem mwX11_isFrame : Cond.instanceMethod MX11_isFrame.1 ∈ zs_tbl := zs_iq3 137 rfl rfl
set_option maxRecDepth 100000 in
theorem ewX11_isFrame : Cond.selects MX11_isFrame.1.cls MX11_isFrame.1 MX11_isFrame.1 ∈ zs_tbl := zs_iq0 18 rfl rfl
abbrev MX11_isEye : zs_M := (yX11_isEye, cX11_isEye, 2, some .boolean, { frames := 1, cells := 0, slots := 0, locals := 22 })
set_option maxRecDepth 100000 in
theorem cwX11_isEye : Cond.code MX11_isEye.1 MX11_isEye.2.1 MX11_isEye.2.2.1 MX11_isEye.2.2.2.1 ∈ zs_tbl := zs_iq3 163 rfl rfl
set_option maxRecDepth 100000 in
theorem iwX11_isEye : Cond.initialized MX11_isEye.1.cls ∈ zs_tbl := zs_iq1 1 rfl rfl
set_option maxRecDepth 100000 in
theorem mwX11_isEye : Cond.instanceMethod MX11_isEye.1 ∈ zs_tbl := zs_iq3 162 rfl rfl
set_option maxRecDepth 100000 in
theorem ewX11_isEye : Cond.selects MX11_isEye.1.cls MX11_isEye.1 MX11_isEye.1 ∈ zs_tbl := zs_iq0 19 rfl rfl
abbrev MX11_cell : zs_M := (yX11_cell, cX11_cell, 2, some .int, { frames := 0, cells := 0, slots := 0, locals := 0 })
set_option maxRecDepth 100000 in
theorem cwX11_cell : Cond.code MX11_cell.1 MX11_cell.2.1 MX11_cell.2.2.1 MX11_cell.2.2.2.1 ∈ zs_tbl := zs_iq2 157 rfl rfl
set_option maxRecDepth 100000 in
theorem iwX11_cell : Cond.initialized MX11_cell.1.cls ∈ zs_tbl := zs_iq1 1 rfl rfl
set_option maxRecDepth 100000 in
theorem swX11_cell : Cond.static MX11_cell.1 ∈ zs_tbl := zs_iq2 156 rfl rfl
abbrev MX11_put : zs_M := (yX11_put, cX11_put, 3, none, { frames := 0, cells := 0, slots := 0, locals := 0 })
set_option maxRecDepth 100000 in
theorem cwX11_put : Cond.code MX11_put.1 MX11_put.2.1 MX11_put.2.2.1 MX11_put.2.2.2.1 ∈ zs_tbl := zs_iq2 121 rfl rfl
set_option maxRecDepth 100000 in
theorem iwX11_put : Cond.initialized MX11_put.1.cls ∈ zs_tbl := zs_iq1 1 rfl rfl
set_option maxRecDepth 100000 in
theorem swX11_put : Cond.static MX11_put.1 ∈ zs_tbl := zs_iq2 120 rfl rfl
abbrev MX11_fill : zs_M := (yX11_fill, cX11_fill, 3, none, { frames := 0, cells := 0, slots := 0, locals := 0 })
set_option maxRecDepth 100000 in
theorem cwX11_fill : Cond.code MX11_fill.1 MX11_fill.2.1 MX11_fill.2.2.1 MX11_fill.2.2.2.1 ∈ zs_tbl := zs_iq2 88 rfl rfl
set_option maxRecDepth 100000 in
theorem iwX11_fill : Cond.initialized MX11_fill.1.cls ∈ zs_tbl := zs_iq1 1 rfl rfl
set_option maxRecDepth 100000 in
theorem swX11_fill : Cond.static MX11_fill.1 ∈ zs_tbl := zs_iq2 87 rfl rfl
abbrev MX11_copyRow : zs_M := (yX11_copyRow, cX11_copyRow, 3, none, { frames := 0, cells := 0, slots := 0, locals := 0 })
set_option maxRecDepth 100000 in
theorem cwX11_copyRow : Cond.code MX11_copyRow.1 MX11_copyRow.2.1 MX11_copyRow.2.2.1 MX11_copyRow.2.2.2.1 ∈ zs_tbl := zs_iq3 85 rfl rfl
set_option maxRecDepth 100000 in
theorem iwX11_copyRow : Cond.initialized MX11_copyRow.1.cls ∈ zs_tbl := zs_iq1 1 rfl rfl
set_option maxRecDepth 100000 in
theorem swX11_copyRow : Cond.static MX11_copyRow.1 ∈ zs_tbl := zs_iq3 84 rfl rfl
abbrev MX11_wrap : zs_M := (yX11_wrap, cX11_wrap, 2, some .int, { frames := 1, cells := 0, slots := 0, locals := 22 })
set_option maxRecDepth 100000 in
theorem cwX11_wrap : Cond.code MX11_wrap.1 MX11_wrap.2.1 MX11_wrap.2.2.1 MX11_wrap.2.2.2.1 ∈ zs_tbl := zs_iq3 51 rfl rfl
set_option maxRecDepth 100000 in
theorem iwX11_wrap : Cond.initialized MX11_wrap.1.cls ∈ zs_tbl := zs_iq1 1 rfl rfl
set_option maxRecDepth 100000 in
theorem swX11_wrap : Cond.static MX11_wrap.1 ∈ zs_tbl := zs_iq3 50 rfl rfl
abbrev MX11_startTrial : zs_M := (yX11_startTrial, cX11_startTrial, 2, none, { frames := 2, cells := 0, slots := 0, locals := 43 })
set_option maxRecDepth 100000 in
theorem cwX11_startTrial : Cond.code MX11_startTrial.1 MX11_startTrial.2.1 MX11_startTrial.2.2.1 MX11_startTrial.2.2.2.1 ∈ zs_tbl := zs_iq3 179 rfl rfl
set_option maxRecDepth 100000 in
theorem iwX11_startTrial : Cond.initialized MX11_startTrial.1.cls ∈ zs_tbl := zs_iq1 1 rfl rfl
set_option maxRecDepth 100000 in
theorem mwX11_startTrial : Cond.instanceMethod MX11_startTrial.1 ∈ zs_tbl := zs_iq3 178 rfl rfl
set_option maxRecDepth 100000 in
theorem ewX11_startTrial : Cond.selects MX11_startTrial.1.cls MX11_startTrial.1 MX11_startTrial.1 ∈ zs_tbl := zs_iq0 21 rfl rfl
abbrev MX11_tryFlashes : zs_M := (yX11_tryFlashes, cX11_tryFlashes, 4, none, { frames := 4, cells := 0, slots := 0, locals := 89 })
set_option maxRecDepth 100000 in
theorem cwX11_tryFlashes : Cond.code MX11_tryFlashes.1 MX11_tryFlashes.2.1 MX11_tryFlashes.2.2.1 MX11_tryFlashes.2.2.2.1 ∈ zs_tbl := zs_iq3 175 rfl rfl
set_option maxRecDepth 100000 in
theorem iwX11_tryFlashes : Cond.initialized MX11_tryFlashes.1.cls ∈ zs_tbl := zs_iq1 1 rfl rfl
set_option maxRecDepth 100000 in
theorem mwX11_tryFlashes : Cond.instanceMethod MX11_tryFlashes.1 ∈ zs_tbl := zs_iq3 174 rfl rfl
set_option maxRecDepth 100000 in
theorem ewX11_tryFlashes : Cond.selects MX11_tryFlashes.1.cls MX11_tryFlashes.1 MX11_tryFlashes.1 ∈ zs_tbl := zs_iq0 20 rfl rfl
abbrev MX11_trialIsAsNow : zs_M := (yX11_trialIsAsNow, cX11_trialIsAsNow, 2, some .boolean, { frames := 1, cells := 0, slots := 0, locals := 21 })
set_option maxRecDepth 100000 in
theorem cwX11_trialIsAsNow : Cond.code MX11_trialIsAsNow.1 MX11_trialIsAsNow.2.1 MX11_trialIsAsNow.2.2.1 MX11_trialIsAsNow.2.2.2.1 ∈ zs_tbl := zs_iq3 194 rfl rfl
set_option maxRecDepth 100000 in
theorem iwX11_trialIsAsNow : Cond.initialized MX11_trialIsAsNow.1.cls ∈ zs_tbl := zs_iq1 1 rfl rfl
set_option maxRecDepth 100000 in
theorem mwX11_trialIsAsNow : Cond.instanceMethod MX11_trialIsAsNow.1 ∈ zs_tbl := zs_iq3 193 rfl rfl
set_option maxRecDepth 100000 in
theorem ewX11_trialIsAsNow : Cond.selects MX11_trialIsAsNow.1.cls MX11_trialIsAsNow.1 MX11_trialIsAsNow.1 ∈ zs_tbl := zs_iq0 22 rfl rfl
abbrev MX11_standsStill : zs_M := (yX11_standsStill, cX11_standsStill, 5, some .boolean, { frames := 4, cells := 0, slots := 0, locals := 89 })
set_option maxRecDepth 100000 in
theorem cwX11_standsStill : Cond.code MX11_standsStill.1 MX11_standsStill.2.1 MX11_standsStill.2.2.1 MX11_standsStill.2.2.2.1 ∈ zs_tbl := zs_iq3 202 rfl rfl
set_option maxRecDepth 100000 in
theorem iwX11_standsStill : Cond.initialized MX11_standsStill.1.cls ∈ zs_tbl := zs_iq1 1 rfl rfl
set_option maxRecDepth 100000 in
theorem mwX11_standsStill : Cond.instanceMethod MX11_standsStill.1 ∈ zs_tbl := zs_iq3 201 rfl rfl
set_option maxRecDepth 100000 in
theorem ewX11_standsStill : Cond.selects MX11_standsStill.1.cls MX11_standsStill.1 MX11_standsStill.1 ∈ zs_tbl := zs_iq0 23 rfl rfl
abbrev MX11_eyeKinds : zs_M := (yX11_eyeKinds, cX11_eyeKinds, 4, some .int, { frames := 4, cells := 0, slots := 0, locals := 89 })
set_option maxRecDepth 100000 in
theorem cwX11_eyeKinds : Cond.code MX11_eyeKinds.1 MX11_eyeKinds.2.1 MX11_eyeKinds.2.2.1 MX11_eyeKinds.2.2.2.1 ∈ zs_tbl := zs_iq4 80 rfl rfl
set_option maxRecDepth 100000 in
theorem iwX11_eyeKinds : Cond.initialized MX11_eyeKinds.1.cls ∈ zs_tbl := zs_iq1 1 rfl rfl
set_option maxRecDepth 100000 in
theorem mwX11_eyeKinds : Cond.instanceMethod MX11_eyeKinds.1 ∈ zs_tbl := zs_iq4 79 rfl rfl
set_option maxRecDepth 100000 in
theorem ewX11_eyeKinds : Cond.selects MX11_eyeKinds.1.cls MX11_eyeKinds.1 MX11_eyeKinds.1 ∈ zs_tbl := zs_iq0 30 rfl rfl
abbrev MX11_eyeFits : zs_M := (yX11_eyeFits, cX11_eyeFits, 6, some .boolean, { frames := 3, cells := 0, slots := 0, locals := 64 })
set_option maxRecDepth 100000 in
theorem cwX11_eyeFits : Cond.code MX11_eyeFits.1 MX11_eyeFits.2.1 MX11_eyeFits.2.2.1 MX11_eyeFits.2.2.2.1 ∈ zs_tbl := zs_iq4 84 rfl rfl
set_option maxRecDepth 100000 in
theorem iwX11_eyeFits : Cond.initialized MX11_eyeFits.1.cls ∈ zs_tbl := zs_iq1 1 rfl rfl
set_option maxRecDepth 100000 in
theorem mwX11_eyeFits : Cond.instanceMethod MX11_eyeFits.1 ∈ zs_tbl := zs_iq4 83 rfl rfl
set_option maxRecDepth 100000 in
theorem ewX11_eyeFits : Cond.selects MX11_eyeFits.1.cls MX11_eyeFits.1 MX11_eyeFits.1 ∈ zs_tbl := zs_iq0 31 rfl rfl
abbrev MX11_bestLook : zs_M := (yX11_bestLook, cX11_bestLook, 6, some .int, { frames := 3, cells := 0, slots := 0, locals := 64 })
set_option maxRecDepth 100000 in
theorem cwX11_bestLook : Cond.code MX11_bestLook.1 MX11_bestLook.2.1 MX11_bestLook.2.2.1 MX11_bestLook.2.2.2.1 ∈ zs_tbl := zs_iq4 94 rfl rfl
set_option maxRecDepth 100000 in
theorem iwX11_bestLook : Cond.initialized MX11_bestLook.1.cls ∈ zs_tbl := zs_iq1 1 rfl rfl
set_option maxRecDepth 100000 in
theorem mwX11_bestLook : Cond.instanceMethod MX11_bestLook.1 ∈ zs_tbl := zs_iq4 93 rfl rfl
set_option maxRecDepth 100000 in
theorem ewX11_bestLook : Cond.selects MX11_bestLook.1.cls MX11_bestLook.1 MX11_bestLook.1 ∈ zs_tbl := zs_iq0 32 rfl rfl
abbrev MX11_lampKinds : zs_M := (yX11_lampKinds, cX11_lampKinds, 3, some .int, { frames := 3, cells := 0, slots := 0, locals := 66 })
set_option maxRecDepth 100000 in
theorem cwX11_lampKinds : Cond.code MX11_lampKinds.1 MX11_lampKinds.2.1 MX11_lampKinds.2.2.1 MX11_lampKinds.2.2.2.1 ∈ zs_tbl := zs_iq4 107 rfl rfl
set_option maxRecDepth 100000 in
theorem iwX11_lampKinds : Cond.initialized MX11_lampKinds.1.cls ∈ zs_tbl := zs_iq1 1 rfl rfl
set_option maxRecDepth 100000 in
theorem mwX11_lampKinds : Cond.instanceMethod MX11_lampKinds.1 ∈ zs_tbl := zs_iq4 106 rfl rfl
set_option maxRecDepth 100000 in
theorem ewX11_lampKinds : Cond.selects MX11_lampKinds.1.cls MX11_lampKinds.1 MX11_lampKinds.1 ∈ zs_tbl := zs_iq0 33 rfl rfl
abbrev MX11_lampFits : zs_M := (yX11_lampFits, cX11_lampFits, 4, some .boolean, { frames := 2, cells := 0, slots := 0, locals := 43 })
set_option maxRecDepth 100000 in
theorem cwX11_lampFits : Cond.code MX11_lampFits.1 MX11_lampFits.2.1 MX11_lampFits.2.2.1 MX11_lampFits.2.2.2.1 ∈ zs_tbl := zs_iq4 111 rfl rfl
set_option maxRecDepth 100000 in
theorem iwX11_lampFits : Cond.initialized MX11_lampFits.1.cls ∈ zs_tbl := zs_iq1 1 rfl rfl
set_option maxRecDepth 100000 in
theorem mwX11_lampFits : Cond.instanceMethod MX11_lampFits.1 ∈ zs_tbl := zs_iq4 110 rfl rfl
set_option maxRecDepth 100000 in
theorem ewX11_lampFits : Cond.selects MX11_lampFits.1.cls MX11_lampFits.1 MX11_lampFits.1 ∈ zs_tbl := zs_iq0 34 rfl rfl
abbrev MX11_bestAsk : zs_M := (yX11_bestAsk, cX11_bestAsk, 6, some .int, { frames := 3, cells := 0, slots := 0, locals := 68 })
set_option maxRecDepth 100000 in
theorem cwX11_bestAsk : Cond.code MX11_bestAsk.1 MX11_bestAsk.2.1 MX11_bestAsk.2.2.1 MX11_bestAsk.2.2.2.1 ∈ zs_tbl := zs_iq4 120 rfl rfl
set_option maxRecDepth 100000 in
theorem iwX11_bestAsk : Cond.initialized MX11_bestAsk.1.cls ∈ zs_tbl := zs_iq1 1 rfl rfl
set_option maxRecDepth 100000 in
theorem mwX11_bestAsk : Cond.instanceMethod MX11_bestAsk.1 ∈ zs_tbl := zs_iq4 119 rfl rfl
set_option maxRecDepth 100000 in
theorem ewX11_bestAsk : Cond.selects MX11_bestAsk.1.cls MX11_bestAsk.1 MX11_bestAsk.1 ∈ zs_tbl := zs_iq0 35 rfl rfl
abbrev MX11_tallyPassing : zs_M := (yX11_tallyPassing, cX11_tallyPassing, 5, none, { frames := 2, cells := 0, slots := 0, locals := 44 })
set_option maxRecDepth 100000 in
theorem cwX11_tallyPassing : Cond.code MX11_tallyPassing.1 MX11_tallyPassing.2.1 MX11_tallyPassing.2.2.1 MX11_tallyPassing.2.2.2.1 ∈ zs_tbl := zs_iq4 124 rfl rfl
set_option maxRecDepth 100000 in
theorem iwX11_tallyPassing : Cond.initialized MX11_tallyPassing.1.cls ∈ zs_tbl := zs_iq1 1 rfl rfl
set_option maxRecDepth 100000 in
theorem mwX11_tallyPassing : Cond.instanceMethod MX11_tallyPassing.1 ∈ zs_tbl := zs_iq4 123 rfl rfl
set_option maxRecDepth 100000 in
theorem ewX11_tallyPassing : Cond.selects MX11_tallyPassing.1.cls MX11_tallyPassing.1 MX11_tallyPassing.1 ∈ zs_tbl := zs_iq0 36 rfl rfl
abbrev MX11_hasBit : zs_M := (yX11_hasBit, cX11_hasBit, 2, some .boolean, { frames := 0, cells := 0, slots := 0, locals := 0 })
set_option maxRecDepth 100000 in
theorem cwX11_hasBit : Cond.code MX11_hasBit.1 MX11_hasBit.2.1 MX11_hasBit.2.2.1 MX11_hasBit.2.2.2.1 ∈ zs_tbl := zs_iq4 98 rfl rfl
set_option maxRecDepth 100000 in
theorem iwX11_hasBit : Cond.initialized MX11_hasBit.1.cls ∈ zs_tbl := zs_iq1 1 rfl rfl
set_option maxRecDepth 100000 in
theorem swX11_hasBit : Cond.static MX11_hasBit.1 ∈ zs_tbl := zs_iq4 97 rfl rfl
abbrev MX11_fillGains : zs_M := (yX11_fillGains, cX11_fillGains, 4, none, { frames := 5, cells := 0, slots := 0, locals := 112 })
set_option maxRecDepth 100000 in
theorem cwX11_fillGains : Cond.code MX11_fillGains.1 MX11_fillGains.2.1 MX11_fillGains.2.2.1 MX11_fillGains.2.2.2.1 ∈ zs_tbl := zs_iq4 132 rfl rfl
set_option maxRecDepth 100000 in
theorem iwX11_fillGains : Cond.initialized MX11_fillGains.1.cls ∈ zs_tbl := zs_iq1 1 rfl rfl
set_option maxRecDepth 100000 in
theorem mwX11_fillGains : Cond.instanceMethod MX11_fillGains.1 ∈ zs_tbl := zs_iq4 131 rfl rfl
set_option maxRecDepth 100000 in
theorem ewX11_fillGains : Cond.selects MX11_fillGains.1.cls MX11_fillGains.1 MX11_fillGains.1 ∈ zs_tbl := zs_iq0 37 rfl rfl
abbrev MX11_gain : zs_M := (yX11_gain, cX11_gain, 4, some .int, { frames := 1, cells := 0, slots := 0, locals := 21 })
set_option maxRecDepth 100000 in
theorem cwX11_gain : Cond.code MX11_gain.1 MX11_gain.2.1 MX11_gain.2.2.1 MX11_gain.2.2.2.1 ∈ zs_tbl := zs_iq4 139 rfl rfl
set_option maxRecDepth 100000 in
theorem iwX11_gain : Cond.initialized MX11_gain.1.cls ∈ zs_tbl := zs_iq1 1 rfl rfl
set_option maxRecDepth 100000 in
theorem swX11_gain : Cond.static MX11_gain.1 ∈ zs_tbl := zs_iq4 138 rfl rfl
abbrev MX11_rests : zs_M := (yX11_rests, cX11_rests, 4, some .boolean, { frames := 2, cells := 0, slots := 0, locals := 44 })
set_option maxRecDepth 100000 in
theorem cwX11_rests : Cond.code MX11_rests.1 MX11_rests.2.1 MX11_rests.2.2.1 MX11_rests.2.2.2.1 ∈ zs_tbl := zs_iq4 136 rfl rfl
set_option maxRecDepth 100000 in
theorem iwX11_rests : Cond.initialized MX11_rests.1.cls ∈ zs_tbl := zs_iq1 1 rfl rfl
set_option maxRecDepth 100000 in
theorem mwX11_rests : Cond.instanceMethod MX11_rests.1 ∈ zs_tbl := zs_iq4 135 rfl rfl
set_option maxRecDepth 100000 in
theorem ewX11_rests : Cond.selects MX11_rests.1.cls MX11_rests.1 MX11_rests.1 ∈ zs_tbl := zs_iq0 38 rfl rfl
abbrev MX11_keepFraction : zs_M := (yX11_keepFraction, cX11_keepFraction, 7, none, { frames := 1, cells := 0, slots := 0, locals := 26 })
set_option maxRecDepth 100000 in
theorem cwX11_keepFraction : Cond.code MX11_keepFraction.1 MX11_keepFraction.2.1 MX11_keepFraction.2.2.1 MX11_keepFraction.2.2.2.1 ∈ zs_tbl := zs_iq4 170 rfl rfl
set_option maxRecDepth 100000 in
theorem iwX11_keepFraction : Cond.initialized MX11_keepFraction.1.cls ∈ zs_tbl := zs_iq1 1 rfl rfl
set_option maxRecDepth 100000 in
theorem mwX11_keepFraction : Cond.instanceMethod MX11_keepFraction.1 ∈ zs_tbl := zs_iq4 169 rfl rfl
set_option maxRecDepth 100000 in
theorem ewX11_keepFraction : Cond.selects MX11_keepFraction.1.cls MX11_keepFraction.1 MX11_keepFraction.1 ∈ zs_tbl := zs_iq0 40 rfl rfl
abbrev MX11_greatestDivisor : zs_M := (yX11_greatestDivisor, cX11_greatestDivisor, 7, some .long, { frames := 0, cells := 0, slots := 0, locals := 0 })
set_option maxRecDepth 100000 in
theorem cwX11_greatestDivisor : Cond.code MX11_greatestDivisor.1 MX11_greatestDivisor.2.1 MX11_greatestDivisor.2.2.1 MX11_greatestDivisor.2.2.2.1 ∈ zs_tbl := zs_iq4 173 rfl rfl
set_option maxRecDepth 100000 in
theorem iwX11_greatestDivisor : Cond.initialized MX11_greatestDivisor.1.cls ∈ zs_tbl := zs_iq1 1 rfl rfl
set_option maxRecDepth 100000 in
theorem swX11_greatestDivisor : Cond.static MX11_greatestDivisor.1 ∈ zs_tbl := zs_iq4 172 rfl rfl
abbrev MX11_countOf : zs_M := (yX11_countOf, cX11_countOf, 2, some .int, { frames := 2, cells := 0, slots := 0, locals := 44 })
set_option maxRecDepth 100000 in
theorem cwX11_countOf : Cond.code MX11_countOf.1 MX11_countOf.2.1 MX11_countOf.2.2.1 MX11_countOf.2.2.2.1 ∈ zs_tbl := zs_iq4 211 rfl rfl
set_option maxRecDepth 100000 in
theorem iwX11_countOf : Cond.initialized MX11_countOf.1.cls ∈ zs_tbl := zs_iq1 1 rfl rfl
set_option maxRecDepth 100000 in
theorem mwX11_countOf : Cond.instanceMethod MX11_countOf.1 ∈ zs_tbl := zs_iq4 210 rfl rfl
set_option maxRecDepth 100000 in
theorem ewX11_countOf : Cond.selects MX11_countOf.1.cls MX11_countOf.1 MX11_countOf.1 ∈ zs_tbl := zs_iq0 41 rfl rfl
abbrev MX12_in : zs_M := (yX12_in, cX12_in, 6, some .boolean, { frames := 0, cells := 0, slots := 0, locals := 0 })
set_option maxRecDepth 100000 in
theorem cwX12_in : Cond.code MX12_in.1 MX12_in.2.1 MX12_in.2.2.1 MX12_in.2.2.2.1 ∈ zs_tbl := zs_iq5 60 rfl rfl
set_option maxRecDepth 100000 in
theorem iwX12_in : Cond.initialized MX12_in.1.cls ∈ zs_tbl := zs_iq1 11 rfl rfl
set_option maxRecDepth 100000 in
theorem swX12_in : Cond.static MX12_in.1 ∈ zs_tbl := zs_iq5 59 rfl rfl
abbrev MX12_has : zs_M := (yX12_has, cX12_has, 2, some .boolean, { frames := 0, cells := 0, slots := 0, locals := 0 })
set_option maxRecDepth 100000 in
theorem cwX12_has : Cond.code MX12_has.1 MX12_has.2.1 MX12_has.2.2.1 MX12_has.2.2.2.1 ∈ zs_tbl := zs_iq6 52 rfl rfl
set_option maxRecDepth 100000 in
theorem iwX12_has : Cond.initialized MX12_has.1.cls ∈ zs_tbl := zs_iq1 11 rfl rfl
set_option maxRecDepth 100000 in
theorem swX12_has : Cond.static MX12_has.1 ∈ zs_tbl := zs_iq6 51 rfl rfl
abbrev MX12_apart : zs_M := (yX12_apart, cX12_apart, 2, some .int, { frames := 0, cells := 0, slots := 0, locals := 0 })
set_option maxRecDepth 100000 in
theorem cwX12_apart : Cond.code MX12_apart.1 MX12_apart.2.1 MX12_apart.2.2.1 MX12_apart.2.2.2.1 ∈ zs_tbl := zs_iq5 157 rfl rfl
set_option maxRecDepth 100000 in
theorem iwX12_apart : Cond.initialized MX12_apart.1.cls ∈ zs_tbl := zs_iq1 11 rfl rfl
set_option maxRecDepth 100000 in
theorem swX12_apart : Cond.static MX12_apart.1 ∈ zs_tbl := zs_iq5 156 rfl rfl
abbrev MX12_bad : zs_M := (yX12_bad, cX12_bad, 1, some .int, { frames := 0, cells := 0, slots := 0, locals := 0 })
set_option maxRecDepth 100000 in
theorem cwX12_bad : Cond.code MX12_bad.1 MX12_bad.2.1 MX12_bad.2.2.1 MX12_bad.2.2.2.1 ∈ zs_tbl := zs_iq5 66 rfl rfl
set_option maxRecDepth 100000 in
theorem iwX12_bad : Cond.initialized MX12_bad.1.cls ∈ zs_tbl := zs_iq1 11 rfl rfl
set_option maxRecDepth 100000 in
theorem mwX12_bad : Cond.instanceMethod MX12_bad.1 ∈ zs_tbl := zs_iq5 65 rfl rfl
set_option maxRecDepth 100000 in
theorem ewX12_bad : Cond.selects MX12_bad.1.cls MX12_bad.1 MX12_bad.1 ∈ zs_tbl := zs_iq0 43 rfl rfl
abbrev MX12_no : zs_M := (yX12_no, cX12_no, 1, some .int, { frames := 0, cells := 0, slots := 0, locals := 0 })
set_option maxRecDepth 100000 in
theorem cwX12_no : Cond.code MX12_no.1 MX12_no.2.1 MX12_no.2.2.1 MX12_no.2.2.2.1 ∈ zs_tbl := zs_iq5 178 rfl rfl
set_option maxRecDepth 100000 in
theorem iwX12_no : Cond.initialized MX12_no.1.cls ∈ zs_tbl := zs_iq1 11 rfl rfl
set_option maxRecDepth 100000 in
theorem mwX12_no : Cond.instanceMethod MX12_no.1 ∈ zs_tbl := zs_iq5 177 rfl rfl
set_option maxRecDepth 100000 in
theorem ewX12_no : Cond.selects MX12_no.1.cls MX12_no.1 MX12_no.1 ∈ zs_tbl := zs_iq0 58 rfl rfl
abbrev MX12_full : zs_M := (yX12_full, cX12_full, 1, some .int, { frames := 0, cells := 0, slots := 0, locals := 0 })
set_option maxRecDepth 100000 in
theorem cwX12_full : Cond.code MX12_full.1 MX12_full.2.1 MX12_full.2.2.1 MX12_full.2.2.2.1 ∈ zs_tbl := zs_iq5 78 rfl rfl
set_option maxRecDepth 100000 in
theorem iwX12_full : Cond.initialized MX12_full.1.cls ∈ zs_tbl := zs_iq1 11 rfl rfl
set_option maxRecDepth 100000 in
theorem mwX12_full : Cond.instanceMethod MX12_full.1 ∈ zs_tbl := zs_iq5 77 rfl rfl
set_option maxRecDepth 100000 in
theorem ewX12_full : Cond.selects MX12_full.1.cls MX12_full.1 MX12_full.1 ∈ zs_tbl := zs_iq0 44 rfl rfl
abbrev MX12_bad10 : zs_M := (yX12_bad10, cX12_bad10, 1, some .int, { frames := 0, cells := 0, slots := 0, locals := 0 })
set_option maxRecDepth 100000 in
theorem cwX12_bad10 : Cond.code MX12_bad10.1 MX12_bad10.2.1 MX12_bad10.2.2.1 MX12_bad10.2.2.2.1 ∈ zs_tbl := zs_iq5 239 rfl rfl
set_option maxRecDepth 100000 in
theorem iwX12_bad10 : Cond.initialized MX12_bad10.1.cls ∈ zs_tbl := zs_iq1 11 rfl rfl
set_option maxRecDepth 100000 in
theorem mwX12_bad10 : Cond.instanceMethod MX12_bad10.1 ∈ zs_tbl := zs_iq5 238 rfl rfl
set_option maxRecDepth 100000 in
theorem ewX12_bad10 : Cond.selects MX12_bad10.1.cls MX12_bad10.1 MX12_bad10.1 ∈ zs_tbl := zs_iq0 63 rfl rfl
abbrev MX12_begins : zs_M := (yX12_begins, cX12_begins, 5, none, { frames := 0, cells := 0, slots := 0, locals := 0 })
set_option maxRecDepth 100000 in
theorem cwX12_begins : Cond.code MX12_begins.1 MX12_begins.2.1 MX12_begins.2.2.1 MX12_begins.2.2.2.1 ∈ zs_tbl := zs_iq4 233 rfl rfl
set_option maxRecDepth 100000 in
theorem iwX12_begins : Cond.initialized MX12_begins.1.cls ∈ zs_tbl := zs_iq1 11 rfl rfl
set_option maxRecDepth 100000 in
theorem mwX12_begins : Cond.instanceMethod MX12_begins.1 ∈ zs_tbl := zs_iq4 232 rfl rfl
set_option maxRecDepth 100000 in
theorem ewX12_begins : Cond.selects MX12_begins.1.cls MX12_begins.1 MX12_begins.1 ∈ zs_tbl := zs_iq0 42 rfl rfl
abbrev MX12_passes : zs_M := (yX12_passes, cX12_passes, 4, some .int, { frames := 0, cells := 0, slots := 0, locals := 0 })
set_option maxRecDepth 100000 in
theorem cwX12_passes : Cond.code MX12_passes.1 MX12_passes.2.1 MX12_passes.2.2.1 MX12_passes.2.2.2.1 ∈ zs_tbl := zs_iq5 151 rfl rfl
set_option maxRecDepth 100000 in
theorem iwX12_passes : Cond.initialized MX12_passes.1.cls ∈ zs_tbl := zs_iq1 11 rfl rfl
set_option maxRecDepth 100000 in
theorem swX12_passes : Cond.static MX12_passes.1 ∈ zs_tbl := zs_iq5 150 rfl rfl
abbrev MX12_looks : zs_M := (yX12_looks, cX12_looks, 4, some .int, { frames := 1, cells := 0, slots := 0, locals := 21 })
set_option maxRecDepth 100000 in
theorem cwX12_looks : Cond.code MX12_looks.1 MX12_looks.2.1 MX12_looks.2.2.1 MX12_looks.2.2.2.1 ∈ zs_tbl := zs_iq5 154 rfl rfl
set_option maxRecDepth 100000 in
theorem iwX12_looks : Cond.initialized MX12_looks.1.cls ∈ zs_tbl := zs_iq1 11 rfl rfl
set_option maxRecDepth 100000 in
theorem swX12_looks : Cond.static MX12_looks.1 ∈ zs_tbl := zs_iq5 153 rfl rfl
abbrev MX12_drum : zs_M := (yX12_drum, cX12_drum, 5, some .int, { frames := 1, cells := 0, slots := 0, locals := 25 })
set_option maxRecDepth 100000 in
theorem cwX12_drum : Cond.code MX12_drum.1 MX12_drum.2.1 MX12_drum.2.2.1 MX12_drum.2.2.2.1 ∈ zs_tbl := zs_iq5 55 rfl rfl
set_option maxRecDepth 100000 in
theorem iwX12_drum : Cond.initialized MX12_drum.1.cls ∈ zs_tbl := zs_iq1 11 rfl rfl
set_option maxRecDepth 100000 in
theorem mwX12_drum : Cond.instanceMethod MX12_drum.1 ∈ zs_tbl := zs_iq5 53 rfl rfl
set_option maxRecDepth 100000 in
theorem ewX12_drum : Cond.selects MX12_drum.1.cls MX12_drum.1 MX12_drum.1 ∈ zs_tbl := zs_iq5 54 rfl rfl
abbrev MX12_lamp : zs_M := (yX12_lamp, cX12_lamp, 3, some .int, { frames := 1, cells := 0, slots := 0, locals := 25 })
set_option maxRecDepth 100000 in
theorem cwX12_lamp : Cond.code MX12_lamp.1 MX12_lamp.2.1 MX12_lamp.2.2.1 MX12_lamp.2.2.2.1 ∈ zs_tbl := zs_iq5 70 rfl rfl
set_option maxRecDepth 100000 in
theorem iwX12_lamp : Cond.initialized MX12_lamp.1.cls ∈ zs_tbl := zs_iq1 11 rfl rfl
set_option maxRecDepth 100000 in
theorem mwX12_lamp : Cond.instanceMethod MX12_lamp.1 ∈ zs_tbl := zs_iq5 68 rfl rfl
set_option maxRecDepth 100000 in
theorem ewX12_lamp : Cond.selects MX12_lamp.1.cls MX12_lamp.1 MX12_lamp.1 ∈ zs_tbl := zs_iq5 69 rfl rfl
abbrev MX12_comes : zs_M := (yX12_comes, cX12_comes, 3, some .int, { frames := 0, cells := 0, slots := 0, locals := 0 })
set_option maxRecDepth 100000 in
theorem cwX12_comes : Cond.code MX12_comes.1 MX12_comes.2.1 MX12_comes.2.2.1 MX12_comes.2.2.2.1 ∈ zs_tbl := zs_iq5 82 rfl rfl
set_option maxRecDepth 100000 in
theorem iwX12_comes : Cond.initialized MX12_comes.1.cls ∈ zs_tbl := zs_iq1 11 rfl rfl
set_option maxRecDepth 100000 in
theorem mwX12_comes : Cond.instanceMethod MX12_comes.1 ∈ zs_tbl := zs_iq5 81 rfl rfl
set_option maxRecDepth 100000 in
theorem ewX12_comes : Cond.selects MX12_comes.1.cls MX12_comes.1 MX12_comes.1 ∈ zs_tbl := zs_iq0 45 rfl rfl
abbrev MX12_eye : zs_M := (yX12_eye, cX12_eye, 2, some .int, { frames := 1, cells := 0, slots := 0, locals := 25 })
set_option maxRecDepth 100000 in
theorem cwX12_eye : Cond.code MX12_eye.1 MX12_eye.2.1 MX12_eye.2.2.1 MX12_eye.2.2.2.1 ∈ zs_tbl := zs_iq5 74 rfl rfl
set_option maxRecDepth 100000 in
theorem iwX12_eye : Cond.initialized MX12_eye.1.cls ∈ zs_tbl := zs_iq1 11 rfl rfl
set_option maxRecDepth 100000 in
theorem mwX12_eye : Cond.instanceMethod MX12_eye.1 ∈ zs_tbl := zs_iq5 72 rfl rfl
set_option maxRecDepth 100000 in
theorem ewX12_eye : Cond.selects MX12_eye.1.cls MX12_eye.1 MX12_eye.1 ∈ zs_tbl := zs_iq5 73 rfl rfl
abbrev MX12_type : zs_M := (yX12_type, cX12_type, 2, some .int, { frames := 1, cells := 0, slots := 0, locals := 25 })
set_option maxRecDepth 100000 in
theorem cwX12_type : Cond.code MX12_type.1 MX12_type.2.1 MX12_type.2.2.1 MX12_type.2.2.2.1 ∈ zs_tbl := zs_iq5 86 rfl rfl
set_option maxRecDepth 100000 in
theorem iwX12_type : Cond.initialized MX12_type.1.cls ∈ zs_tbl := zs_iq1 11 rfl rfl
set_option maxRecDepth 100000 in
theorem mwX12_type : Cond.instanceMethod MX12_type.1 ∈ zs_tbl := zs_iq5 84 rfl rfl
set_option maxRecDepth 100000 in
theorem ewX12_type : Cond.selects MX12_type.1.cls MX12_type.1 MX12_type.1 ∈ zs_tbl := zs_iq5 85 rfl rfl
abbrev MX12_clear : zs_M := (yX12_clear, cX12_clear, 2, some .int, { frames := 0, cells := 0, slots := 0, locals := 0 })
set_option maxRecDepth 100000 in
theorem cwX12_clear : Cond.code MX12_clear.1 MX12_clear.2.1 MX12_clear.2.2.1 MX12_clear.2.2.2.1 ∈ zs_tbl := zs_iq5 91 rfl rfl
set_option maxRecDepth 100000 in
theorem iwX12_clear : Cond.initialized MX12_clear.1.cls ∈ zs_tbl := zs_iq1 11 rfl rfl
set_option maxRecDepth 100000 in
theorem mwX12_clear : Cond.instanceMethod MX12_clear.1 ∈ zs_tbl := zs_iq5 89 rfl rfl
set_option maxRecDepth 100000 in
theorem ewX12_clear : Cond.selects MX12_clear.1.cls MX12_clear.1 MX12_clear.1 ∈ zs_tbl := zs_iq5 90 rfl rfl
abbrev MX12_byteAt : zs_M := (yX12_byteAt, cX12_byteAt, 2, some .int, { frames := 0, cells := 0, slots := 0, locals := 0 })
set_option maxRecDepth 100000 in
theorem cwX12_byteAt : Cond.code MX12_byteAt.1 MX12_byteAt.2.1 MX12_byteAt.2.2.1 MX12_byteAt.2.2.2.1 ∈ zs_tbl := zs_iq5 107 rfl rfl
set_option maxRecDepth 100000 in
theorem iwX12_byteAt : Cond.initialized MX12_byteAt.1.cls ∈ zs_tbl := zs_iq1 11 rfl rfl
set_option maxRecDepth 100000 in
theorem mwX12_byteAt : Cond.instanceMethod MX12_byteAt.1 ∈ zs_tbl := zs_iq5 106 rfl rfl
set_option maxRecDepth 100000 in
theorem ewX12_byteAt : Cond.selects MX12_byteAt.1.cls MX12_byteAt.1 MX12_byteAt.1 ∈ zs_tbl := zs_iq0 48 rfl rfl
abbrev MX12_token : zs_M := (yX12_token, cX12_token, 3, some .int, { frames := 1, cells := 0, slots := 0, locals := 25 })
set_option maxRecDepth 100000 in
theorem cwX12_token : Cond.code MX12_token.1 MX12_token.2.1 MX12_token.2.2.1 MX12_token.2.2.2.1 ∈ zs_tbl := zs_iq5 103 rfl rfl
set_option maxRecDepth 100000 in
theorem iwX12_token : Cond.initialized MX12_token.1.cls ∈ zs_tbl := zs_iq1 11 rfl rfl
set_option maxRecDepth 100000 in
theorem mwX12_token : Cond.instanceMethod MX12_token.1 ∈ zs_tbl := zs_iq5 102 rfl rfl
set_option maxRecDepth 100000 in
theorem ewX12_token : Cond.selects MX12_token.1.cls MX12_token.1 MX12_token.1 ∈ zs_tbl := zs_iq0 47 rfl rfl
abbrev MX12_word : zs_M := (yX12_word, cX12_word, 4, some .long, { frames := 1, cells := 0, slots := 0, locals := 21 })
set_option maxRecDepth 100000 in
theorem cwX12_word : Cond.code MX12_word.1 MX12_word.2.1 MX12_word.2.2.1 MX12_word.2.2.2.1 ∈ zs_tbl := zs_iq5 119 rfl rfl
set_option maxRecDepth 100000 in
theorem iwX12_word : Cond.initialized MX12_word.1.cls ∈ zs_tbl := zs_iq1 11 rfl rfl
set_option maxRecDepth 100000 in
theorem mwX12_word : Cond.instanceMethod MX12_word.1 ∈ zs_tbl := zs_iq5 118 rfl rfl
set_option maxRecDepth 100000 in
theorem ewX12_word : Cond.selects MX12_word.1.cls MX12_word.1 MX12_word.1 ∈ zs_tbl := zs_iq0 50 rfl rfl
abbrev MX12_wants : zs_M := (yX12_wants, cX12_wants, 4, some .int, { frames := 2, cells := 0, slots := 0, locals := 47 })
set_option maxRecDepth 100000 in
theorem cwX12_wants : Cond.code MX12_wants.1 MX12_wants.2.1 MX12_wants.2.2.1 MX12_wants.2.2.2.1 ∈ zs_tbl := zs_iq5 138 rfl rfl
set_option maxRecDepth 100000 in
theorem iwX12_wants : Cond.initialized MX12_wants.1.cls ∈ zs_tbl := zs_iq1 11 rfl rfl
set_option maxRecDepth 100000 in
theorem mwX12_wants : Cond.instanceMethod MX12_wants.1 ∈ zs_tbl := zs_iq5 137 rfl rfl
set_option maxRecDepth 100000 in
theorem ewX12_wants : Cond.selects MX12_wants.1.cls MX12_wants.1 MX12_wants.1 ∈ zs_tbl := zs_iq0 53 rfl rfl
abbrev MX12_drumItem : zs_M := (yX12_drumItem, cX12_drumItem, 4, none, { frames := 3, cells := 0, slots := 0, locals := 70 })
set_option maxRecDepth 100000 in
theorem cwX12_drumItem : Cond.code MX12_drumItem.1 MX12_drumItem.2.1 MX12_drumItem.2.2.1 MX12_drumItem.2.2.2.1 ∈ zs_tbl := zs_iq5 134 rfl rfl
set_option maxRecDepth 100000 in
theorem iwX12_drumItem : Cond.initialized MX12_drumItem.1.cls ∈ zs_tbl := zs_iq1 11 rfl rfl
set_option maxRecDepth 100000 in
theorem mwX12_drumItem : Cond.instanceMethod MX12_drumItem.1 ∈ zs_tbl := zs_iq5 133 rfl rfl
set_option maxRecDepth 100000 in
theorem ewX12_drumItem : Cond.selects MX12_drumItem.1.cls MX12_drumItem.1 MX12_drumItem.1 ∈ zs_tbl := zs_iq0 52 rfl rfl
abbrev MX12_drawItem : zs_M := (yX12_drawItem, cX12_drawItem, 3, none, { frames := 2, cells := 0, slots := 0, locals := 47 })
set_option maxRecDepth 100000 in
theorem cwX12_drawItem : Cond.code MX12_drawItem.1 MX12_drawItem.2.1 MX12_drawItem.2.2.1 MX12_drawItem.2.2.2.1 ∈ zs_tbl := zs_iq5 129 rfl rfl
set_option maxRecDepth 100000 in
theorem iwX12_drawItem : Cond.initialized MX12_drawItem.1.cls ∈ zs_tbl := zs_iq1 11 rfl rfl
set_option maxRecDepth 100000 in
theorem mwX12_drawItem : Cond.instanceMethod MX12_drawItem.1 ∈ zs_tbl := zs_iq5 128 rfl rfl
set_option maxRecDepth 100000 in
theorem ewX12_drawItem : Cond.selects MX12_drawItem.1.cls MX12_drawItem.1 MX12_drawItem.1 ∈ zs_tbl := zs_iq0 51 rfl rfl
abbrev MX12_act : zs_M := (yX12_act, cX12_act, 5, none, { frames := 3, cells := 0, slots := 0, locals := 70 })
set_option maxRecDepth 100000 in
theorem cwX12_act : Cond.code MX12_act.1 MX12_act.2.1 MX12_act.2.2.1 MX12_act.2.2.2.1 ∈ zs_tbl := zs_iq5 142 rfl rfl
set_option maxRecDepth 100000 in
theorem iwX12_act : Cond.initialized MX12_act.1.cls ∈ zs_tbl := zs_iq1 11 rfl rfl
set_option maxRecDepth 100000 in
theorem mwX12_act : Cond.instanceMethod MX12_act.1 ∈ zs_tbl := zs_iq5 141 rfl rfl
set_option maxRecDepth 100000 in
theorem ewX12_act : Cond.selects MX12_act.1.cls MX12_act.1 MX12_act.1 ∈ zs_tbl := zs_iq0 54 rfl rfl
abbrev MX12_item : zs_M := (yX12_item, cX12_item, 4, none, { frames := 4, cells := 0, slots := 0, locals := 94 })
set_option maxRecDepth 100000 in
theorem cwX12_item : Cond.code MX12_item.1 MX12_item.2.1 MX12_item.2.2.1 MX12_item.2.2.2.1 ∈ zs_tbl := zs_iq5 115 rfl rfl
set_option maxRecDepth 100000 in
theorem iwX12_item : Cond.initialized MX12_item.1.cls ∈ zs_tbl := zs_iq1 11 rfl rfl
set_option maxRecDepth 100000 in
theorem mwX12_item : Cond.instanceMethod MX12_item.1 ∈ zs_tbl := zs_iq5 114 rfl rfl
set_option maxRecDepth 100000 in
theorem ewX12_item : Cond.selects MX12_item.1.cls MX12_item.1 MX12_item.1 ∈ zs_tbl := zs_iq0 49 rfl rfl
abbrev MX12_goesThrough : zs_M := (yX12_goesThrough, cX12_goesThrough, 4, some .int, { frames := 5, cells := 0, slots := 0, locals := 117 })
set_option maxRecDepth 100000 in
theorem cwX12_goesThrough : Cond.code MX12_goesThrough.1 MX12_goesThrough.2.1 MX12_goesThrough.2.2.1 MX12_goesThrough.2.2.2.1 ∈ zs_tbl := zs_iq5 99 rfl rfl
set_option maxRecDepth 100000 in
theorem iwX12_goesThrough : Cond.initialized MX12_goesThrough.1.cls ∈ zs_tbl := zs_iq1 11 rfl rfl
set_option maxRecDepth 100000 in
theorem mwX12_goesThrough : Cond.instanceMethod MX12_goesThrough.1 ∈ zs_tbl := zs_iq5 98 rfl rfl
set_option maxRecDepth 100000 in
theorem ewX12_goesThrough : Cond.selects MX12_goesThrough.1.cls MX12_goesThrough.1 MX12_goesThrough.1 ∈ zs_tbl := zs_iq0 46 rfl rfl
abbrev MX12_read : zs_M := (yX12_read, cX12_read, 1, some .int, { frames := 6, cells := 0, slots := 0, locals := 140 })
set_option maxRecDepth 100000 in
theorem cwX12_read : Cond.code MX12_read.1 MX12_read.2.1 MX12_read.2.2.1 MX12_read.2.2.2.1 ∈ zs_tbl := zs_iq5 95 rfl rfl
set_option maxRecDepth 100000 in
theorem iwX12_read : Cond.initialized MX12_read.1.cls ∈ zs_tbl := zs_iq1 11 rfl rfl
set_option maxRecDepth 100000 in
theorem mwX12_read : Cond.instanceMethod MX12_read.1 ∈ zs_tbl := zs_iq5 93 rfl rfl
set_option maxRecDepth 100000 in
theorem ewX12_read : Cond.selects MX12_read.1.cls MX12_read.1 MX12_read.1 ∈ zs_tbl := zs_iq5 94 rfl rfl
abbrev MX12_flash : zs_M := (yX12_flash, cX12_flash, 7, none, { frames := 2, cells := 0, slots := 0, locals := 44 })
set_option maxRecDepth 100000 in
theorem cwX12_flash : Cond.code MX12_flash.1 MX12_flash.2.1 MX12_flash.2.2.1 MX12_flash.2.2.2.1 ∈ zs_tbl := zs_iq5 148 rfl rfl
set_option maxRecDepth 100000 in
theorem iwX12_flash : Cond.initialized MX12_flash.1.cls ∈ zs_tbl := zs_iq1 11 rfl rfl
set_option maxRecDepth 100000 in
theorem mwX12_flash : Cond.instanceMethod MX12_flash.1 ∈ zs_tbl := zs_iq5 147 rfl rfl
set_option maxRecDepth 100000 in
theorem ewX12_flash : Cond.selects MX12_flash.1.cls MX12_flash.1 MX12_flash.1 ∈ zs_tbl := zs_iq0 55 rfl rfl
abbrev MX12_copies : zs_M := (yX12_copies, cX12_copies, 4, none, { frames := 0, cells := 0, slots := 0, locals := 0 })
set_option maxRecDepth 100000 in
theorem cwX12_copies : Cond.code MX12_copies.1 MX12_copies.2.1 MX12_copies.2.2.1 MX12_copies.2.2.2.1 ∈ zs_tbl := zs_iq5 170 rfl rfl
set_option maxRecDepth 100000 in
theorem iwX12_copies : Cond.initialized MX12_copies.1.cls ∈ zs_tbl := zs_iq1 11 rfl rfl
set_option maxRecDepth 100000 in
theorem mwX12_copies : Cond.instanceMethod MX12_copies.1 ∈ zs_tbl := zs_iq5 169 rfl rfl
set_option maxRecDepth 100000 in
theorem ewX12_copies : Cond.selects MX12_copies.1.cls MX12_copies.1 MX12_copies.1 ∈ zs_tbl := zs_iq0 57 rfl rfl
abbrev MX12_known : zs_M := (yX12_known, cX12_known, 2, none, { frames := 1, cells := 0, slots := 0, locals := 23 })
set_option maxRecDepth 100000 in
theorem cwX12_known : Cond.code MX12_known.1 MX12_known.2.1 MX12_known.2.2.1 MX12_known.2.2.2.1 ∈ zs_tbl := zs_iq5 166 rfl rfl
set_option maxRecDepth 100000 in
theorem iwX12_known : Cond.initialized MX12_known.1.cls ∈ zs_tbl := zs_iq1 11 rfl rfl
set_option maxRecDepth 100000 in
theorem mwX12_known : Cond.instanceMethod MX12_known.1 ∈ zs_tbl := zs_iq5 165 rfl rfl
set_option maxRecDepth 100000 in
theorem ewX12_known : Cond.selects MX12_known.1.cls MX12_known.1 MX12_known.1 ∈ zs_tbl := zs_iq0 56 rfl rfl
abbrev MX12_spins : zs_M := (yX12_spins, cX12_spins, 3, some .int, { frames := 3, cells := 0, slots := 0, locals := 70 })
set_option maxRecDepth 100000 in
theorem cwX12_spins : Cond.code MX12_spins.1 MX12_spins.2.1 MX12_spins.2.2.1 MX12_spins.2.2.2.1 ∈ zs_tbl := zs_iq5 161 rfl rfl
set_option maxRecDepth 100000 in
theorem iwX12_spins : Cond.initialized MX12_spins.1.cls ∈ zs_tbl := zs_iq1 11 rfl rfl
set_option maxRecDepth 100000 in
theorem mwX12_spins : Cond.instanceMethod MX12_spins.1 ∈ zs_tbl := zs_iq5 159 rfl rfl
set_option maxRecDepth 100000 in
theorem ewX12_spins : Cond.selects MX12_spins.1.cls MX12_spins.1 MX12_spins.1 ∈ zs_tbl := zs_iq5 160 rfl rfl
abbrev MX12_steps : zs_M := (yX12_steps, cX12_steps, 3, some .int, { frames := 2, cells := 0, slots := 0, locals := 44 })
set_option maxRecDepth 100000 in
theorem cwX12_steps : Cond.code MX12_steps.1 MX12_steps.2.1 MX12_steps.2.2.1 MX12_steps.2.2.2.1 ∈ zs_tbl := zs_iq5 174 rfl rfl
set_option maxRecDepth 100000 in
theorem iwX12_steps : Cond.initialized MX12_steps.1.cls ∈ zs_tbl := zs_iq1 11 rfl rfl
set_option maxRecDepth 100000 in
theorem mwX12_steps : Cond.instanceMethod MX12_steps.1 ∈ zs_tbl := zs_iq5 172 rfl rfl
set_option maxRecDepth 100000 in
theorem ewX12_steps : Cond.selects MX12_steps.1.cls MX12_steps.1 MX12_steps.1 ∈ zs_tbl := zs_iq5 173 rfl rfl
abbrev MX12_isFrame : zs_M := (yX12_isFrame, cX12_isFrame, 2, some .boolean, { frames := 1, cells := 0, slots := 0, locals := 25 })
set_option maxRecDepth 100000 in
theorem cwX12_isFrame : Cond.code MX12_isFrame.1 MX12_isFrame.2.1 MX12_isFrame.2.2.1 MX12_isFrame.2.2.2.1 ∈ zs_tbl := zs_iq5 186 rfl rfl
set_option maxRecDepth 100000 in
theorem iwX12_isFrame : Cond.initialized MX12_isFrame.1.cls ∈ zs_tbl := zs_iq1 11 rfl rfl
set_option maxRecDepth 100000 in
theorem mwX12_isFrame : Cond.instanceMethod MX12_isFrame.1 ∈ zs_tbl := zs_iq5 185 rfl rfl
set_option maxRecDepth 100000 in
theorem ewX12_isFrame : Cond.selects MX12_isFrame.1.cls MX12_isFrame.1 MX12_isFrame.1 ∈ zs_tbl := zs_iq0 59 rfl rfl
abbrev MX12_isEye : zs_M := (yX12_isEye, cX12_isEye, 2, some .boolean, { frames := 1, cells := 0, slots := 0, locals := 25 })
set_option maxRecDepth 100000 in
theorem cwX12_isEye : Cond.code MX12_isEye.1 MX12_isEye.2.1 MX12_isEye.2.2.1 MX12_isEye.2.2.2.1 ∈ zs_tbl := zs_iq5 198 rfl rfl
set_option maxRecDepth 100000 in
theorem iwX12_isEye : Cond.initialized MX12_isEye.1.cls ∈ zs_tbl := zs_iq1 11 rfl rfl
set_option maxRecDepth 100000 in
theorem mwX12_isEye : Cond.instanceMethod MX12_isEye.1 ∈ zs_tbl := zs_iq5 197 rfl rfl
set_option maxRecDepth 100000 in
theorem ewX12_isEye : Cond.selects MX12_isEye.1.cls MX12_isEye.1 MX12_isEye.1 ∈ zs_tbl := zs_iq0 60 rfl rfl
abbrev MX12_draws : zs_M := (yX12_draws, cX12_draws, 4, some .int, { frames := 2, cells := 0, slots := 0, locals := 46 })
set_option maxRecDepth 100000 in
theorem cwX12_draws : Cond.code MX12_draws.1 MX12_draws.2.1 MX12_draws.2.2.1 MX12_draws.2.2.2.1 ∈ zs_tbl := zs_iq5 182 rfl rfl
set_option maxRecDepth 100000 in
theorem iwX12_draws : Cond.initialized MX12_draws.1.cls ∈ zs_tbl := zs_iq1 11 rfl rfl
set_option maxRecDepth 100000 in
theorem mwX12_draws : Cond.instanceMethod MX12_draws.1 ∈ zs_tbl := zs_iq5 180 rfl rfl
set_option maxRecDepth 100000 in
theorem ewX12_draws : Cond.selects MX12_draws.1.cls MX12_draws.1 MX12_draws.1 ∈ zs_tbl := zs_iq5 181 rfl rfl
abbrev MX12_undo : zs_M := (yX12_undo, cX12_undo, 1, some .int, { frames := 1, cells := 0, slots := 0, locals := 23 })
set_option maxRecDepth 100000 in
theorem cwX12_undo : Cond.code MX12_undo.1 MX12_undo.2.1 MX12_undo.2.2.1 MX12_undo.2.2.2.1 ∈ zs_tbl := zs_iq5 190 rfl rfl
set_option maxRecDepth 100000 in
theorem iwX12_undo : Cond.initialized MX12_undo.1.cls ∈ zs_tbl := zs_iq1 11 rfl rfl
set_option maxRecDepth 100000 in
theorem mwX12_undo : Cond.instanceMethod MX12_undo.1 ∈ zs_tbl := zs_iq5 188 rfl rfl
set_option maxRecDepth 100000 in
theorem ewX12_undo : Cond.selects MX12_undo.1.cls MX12_undo.1 MX12_undo.1 ∈ zs_tbl := zs_iq5 189 rfl rfl
abbrev MX12_of : zs_M := (yX12_of, cX12_of, 3, some .int, { frames := 2, cells := 0, slots := 0, locals := 46 })
set_option maxRecDepth 100000 in
theorem cwX12_of : Cond.code MX12_of.1 MX12_of.2.1 MX12_of.2.2.1 MX12_of.2.2.2.1 ∈ zs_tbl := zs_iq5 194 rfl rfl
set_option maxRecDepth 100000 in
theorem iwX12_of : Cond.initialized MX12_of.1.cls ∈ zs_tbl := zs_iq1 11 rfl rfl
set_option maxRecDepth 100000 in
theorem mwX12_of : Cond.instanceMethod MX12_of.1 ∈ zs_tbl := zs_iq5 192 rfl rfl
set_option maxRecDepth 100000 in
theorem ewX12_of : Cond.selects MX12_of.1.cls MX12_of.1 MX12_of.1 ∈ zs_tbl := zs_iq5 193 rfl rfl
abbrev MX12_drawn : zs_M := (yX12_drawn, cX12_drawn, 2, some .int, { frames := 2, cells := 0, slots := 0, locals := 46 })
set_option maxRecDepth 100000 in
theorem cwX12_drawn : Cond.code MX12_drawn.1 MX12_drawn.2.1 MX12_drawn.2.2.1 MX12_drawn.2.2.2.1 ∈ zs_tbl := zs_iq5 202 rfl rfl
set_option maxRecDepth 100000 in
theorem iwX12_drawn : Cond.initialized MX12_drawn.1.cls ∈ zs_tbl := zs_iq1 11 rfl rfl
set_option maxRecDepth 100000 in
theorem mwX12_drawn : Cond.instanceMethod MX12_drawn.1 ∈ zs_tbl := zs_iq5 200 rfl rfl
set_option maxRecDepth 100000 in
theorem ewX12_drawn : Cond.selects MX12_drawn.1.cls MX12_drawn.1 MX12_drawn.1 ∈ zs_tbl := zs_iq5 201 rfl rfl
abbrev MX12_tries : zs_M := (yX12_tries, cX12_tries, 2, none, { frames := 1, cells := 0, slots := 0, locals := 23 })
set_option maxRecDepth 100000 in
theorem cwX12_tries : Cond.code MX12_tries.1 MX12_tries.2.1 MX12_tries.2.2.1 MX12_tries.2.2.2.1 ∈ zs_tbl := zs_iq5 210 rfl rfl
set_option maxRecDepth 100000 in
theorem iwX12_tries : Cond.initialized MX12_tries.1.cls ∈ zs_tbl := zs_iq1 11 rfl rfl
set_option maxRecDepth 100000 in
theorem mwX12_tries : Cond.instanceMethod MX12_tries.1 ∈ zs_tbl := zs_iq5 209 rfl rfl
set_option maxRecDepth 100000 in
theorem ewX12_tries : Cond.selects MX12_tries.1.cls MX12_tries.1 MX12_tries.1 ∈ zs_tbl := zs_iq0 61 rfl rfl
abbrev MX12_flashes : zs_M := (yX12_flashes, cX12_flashes, 4, none, { frames := 3, cells := 0, slots := 0, locals := 70 })
set_option maxRecDepth 100000 in
theorem cwX12_flashes : Cond.code MX12_flashes.1 MX12_flashes.2.1 MX12_flashes.2.2.1 MX12_flashes.2.2.2.1 ∈ zs_tbl := zs_iq5 214 rfl rfl
set_option maxRecDepth 100000 in
theorem iwX12_flashes : Cond.initialized MX12_flashes.1.cls ∈ zs_tbl := zs_iq1 11 rfl rfl
set_option maxRecDepth 100000 in
theorem mwX12_flashes : Cond.instanceMethod MX12_flashes.1 ∈ zs_tbl := zs_iq5 213 rfl rfl
set_option maxRecDepth 100000 in
theorem ewX12_flashes : Cond.selects MX12_flashes.1.cls MX12_flashes.1 MX12_flashes.1 ∈ zs_tbl := zs_iq0 62 rfl rfl
abbrev MX12_at : zs_M := (yX12_at, cX12_at, 2, some .int, { frames := 4, cells := 0, slots := 0, locals := 93 })
set_option maxRecDepth 100000 in
theorem cwX12_at : Cond.code MX12_at.1 MX12_at.2.1 MX12_at.2.2.1 MX12_at.2.2.2.1 ∈ zs_tbl := zs_iq5 206 rfl rfl
set_option maxRecDepth 100000 in
theorem iwX12_at : Cond.initialized MX12_at.1.cls ∈ zs_tbl := zs_iq1 11 rfl rfl
set_option maxRecDepth 100000 in
theorem mwX12_at : Cond.instanceMethod MX12_at.1 ∈ zs_tbl := zs_iq5 204 rfl rfl
set_option maxRecDepth 100000 in
theorem ewX12_at : Cond.selects MX12_at.1.cls MX12_at.1 MX12_at.1 ∈ zs_tbl := zs_iq5 205 rfl rfl
abbrev MX12_sees : zs_M := (yX12_sees, cX12_sees, 3, some .int, { frames := 4, cells := 0, slots := 0, locals := 93 })
set_option maxRecDepth 100000 in
theorem cwX12_sees : Cond.code MX12_sees.1 MX12_sees.2.1 MX12_sees.2.2.1 MX12_sees.2.2.2.1 ∈ zs_tbl := zs_iq5 218 rfl rfl
set_option maxRecDepth 100000 in
theorem iwX12_sees : Cond.initialized MX12_sees.1.cls ∈ zs_tbl := zs_iq1 11 rfl rfl
set_option maxRecDepth 100000 in
theorem mwX12_sees : Cond.instanceMethod MX12_sees.1 ∈ zs_tbl := zs_iq5 216 rfl rfl
set_option maxRecDepth 100000 in
theorem ewX12_sees : Cond.selects MX12_sees.1.cls MX12_sees.1 MX12_sees.1 ∈ zs_tbl := zs_iq5 217 rfl rfl
abbrev MX12_round : zs_M := (yX12_round, cX12_round, 4, some .int, { frames := 4, cells := 0, slots := 0, locals := 93 })
set_option maxRecDepth 100000 in
theorem cwX12_round : Cond.code MX12_round.1 MX12_round.2.1 MX12_round.2.2.1 MX12_round.2.2.2.1 ∈ zs_tbl := zs_iq5 222 rfl rfl
set_option maxRecDepth 100000 in
theorem iwX12_round : Cond.initialized MX12_round.1.cls ∈ zs_tbl := zs_iq1 11 rfl rfl
set_option maxRecDepth 100000 in
theorem mwX12_round : Cond.instanceMethod MX12_round.1 ∈ zs_tbl := zs_iq5 220 rfl rfl
set_option maxRecDepth 100000 in
theorem ewX12_round : Cond.selects MX12_round.1.cls MX12_round.1 MX12_round.1 ∈ zs_tbl := zs_iq5 221 rfl rfl
abbrev MX12_still : zs_M := (yX12_still, cX12_still, 6, some .int, { frames := 4, cells := 0, slots := 0, locals := 93 })
set_option maxRecDepth 100000 in
theorem cwX12_still : Cond.code MX12_still.1 MX12_still.2.1 MX12_still.2.2.1 MX12_still.2.2.2.1 ∈ zs_tbl := zs_iq5 226 rfl rfl
set_option maxRecDepth 100000 in
theorem iwX12_still : Cond.initialized MX12_still.1.cls ∈ zs_tbl := zs_iq1 11 rfl rfl
set_option maxRecDepth 100000 in
theorem mwX12_still : Cond.instanceMethod MX12_still.1 ∈ zs_tbl := zs_iq5 224 rfl rfl
set_option maxRecDepth 100000 in
theorem ewX12_still : Cond.selects MX12_still.1.cls MX12_still.1 MX12_still.1 ∈ zs_tbl := zs_iq5 225 rfl rfl
abbrev MX12_most : zs_M := (yX12_most, cX12_most, 8, some .int, { frames := 4, cells := 0, slots := 0, locals := 93 })
set_option maxRecDepth 100000 in
theorem cwX12_most : Cond.code MX12_most.1 MX12_most.2.1 MX12_most.2.2.1 MX12_most.2.2.2.1 ∈ zs_tbl := zs_iq5 230 rfl rfl
set_option maxRecDepth 100000 in
theorem iwX12_most : Cond.initialized MX12_most.1.cls ∈ zs_tbl := zs_iq1 11 rfl rfl
set_option maxRecDepth 100000 in
theorem mwX12_most : Cond.instanceMethod MX12_most.1 ∈ zs_tbl := zs_iq5 228 rfl rfl
set_option maxRecDepth 100000 in
theorem ewX12_most : Cond.selects MX12_most.1.cls MX12_most.1 MX12_most.1 ∈ zs_tbl := zs_iq5 229 rfl rfl
abbrev MX12_costOf : zs_M := (yX12_costOf, cX12_costOf, 7, some .int, { frames := 1, cells := 0, slots := 0, locals := 21 })
set_option maxRecDepth 100000 in
theorem cwX12_costOf : Cond.code MX12_costOf.1 MX12_costOf.2.1 MX12_costOf.2.2.1 MX12_costOf.2.2.2.1 ∈ zs_tbl := zs_iq6 3 rfl rfl
set_option maxRecDepth 100000 in
theorem iwX12_costOf : Cond.initialized MX12_costOf.1.cls ∈ zs_tbl := zs_iq1 11 rfl rfl
set_option maxRecDepth 100000 in
theorem mwX12_costOf : Cond.instanceMethod MX12_costOf.1 ∈ zs_tbl := zs_iq6 2 rfl rfl
set_option maxRecDepth 100000 in
theorem ewX12_costOf : Cond.selects MX12_costOf.1.cls MX12_costOf.1 MX12_costOf.1 ∈ zs_tbl := zs_iq0 64 rfl rfl
abbrev MX12_smooth : zs_M := (yX12_smooth, cX12_smooth, 8, some .int, { frames := 2, cells := 0, slots := 0, locals := 47 })
set_option maxRecDepth 100000 in
theorem cwX12_smooth : Cond.code MX12_smooth.1 MX12_smooth.2.1 MX12_smooth.2.2.1 MX12_smooth.2.2.2.1 ∈ zs_tbl := zs_iq5 234 rfl rfl
set_option maxRecDepth 100000 in
theorem iwX12_smooth : Cond.initialized MX12_smooth.1.cls ∈ zs_tbl := zs_iq1 11 rfl rfl
set_option maxRecDepth 100000 in
theorem mwX12_smooth : Cond.instanceMethod MX12_smooth.1 ∈ zs_tbl := zs_iq5 232 rfl rfl
set_option maxRecDepth 100000 in
theorem ewX12_smooth : Cond.selects MX12_smooth.1.cls MX12_smooth.1 MX12_smooth.1 ∈ zs_tbl := zs_iq5 233 rfl rfl
abbrev MX12_seen : zs_M := (yX12_seen, cX12_seen, 4, some .int, { frames := 1, cells := 0, slots := 0, locals := 25 })
set_option maxRecDepth 100000 in
theorem cwX12_seen : Cond.code MX12_seen.1 MX12_seen.2.1 MX12_seen.2.2.1 MX12_seen.2.2.2.1 ∈ zs_tbl := zs_iq6 7 rfl rfl
set_option maxRecDepth 100000 in
theorem iwX12_seen : Cond.initialized MX12_seen.1.cls ∈ zs_tbl := zs_iq1 11 rfl rfl
set_option maxRecDepth 100000 in
theorem mwX12_seen : Cond.instanceMethod MX12_seen.1 ∈ zs_tbl := zs_iq6 5 rfl rfl
set_option maxRecDepth 100000 in
theorem ewX12_seen : Cond.selects MX12_seen.1.cls MX12_seen.1 MX12_seen.1 ∈ zs_tbl := zs_iq6 6 rfl rfl
abbrev MX12_shown : zs_M := (yX12_shown, cX12_shown, 5, some .int, { frames := 1, cells := 0, slots := 0, locals := 23 })
set_option maxRecDepth 100000 in
theorem cwX12_shown : Cond.code MX12_shown.1 MX12_shown.2.1 MX12_shown.2.2.1 MX12_shown.2.2.2.1 ∈ zs_tbl := zs_iq6 20 rfl rfl
set_option maxRecDepth 100000 in
theorem iwX12_shown : Cond.initialized MX12_shown.1.cls ∈ zs_tbl := zs_iq1 11 rfl rfl
set_option maxRecDepth 100000 in
theorem mwX12_shown : Cond.instanceMethod MX12_shown.1 ∈ zs_tbl := zs_iq6 19 rfl rfl
set_option maxRecDepth 100000 in
theorem ewX12_shown : Cond.selects MX12_shown.1.cls MX12_shown.1 MX12_shown.1 ∈ zs_tbl := zs_iq0 66 rfl rfl
abbrev MX12_isSo : zs_M := (yX12_isSo, cX12_isSo, 4, some .boolean, { frames := 2, cells := 0, slots := 0, locals := 47 })
set_option maxRecDepth 100000 in
theorem cwX12_isSo : Cond.code MX12_isSo.1 MX12_isSo.2.1 MX12_isSo.2.2.1 MX12_isSo.2.2.2.1 ∈ zs_tbl := zs_iq6 16 rfl rfl
set_option maxRecDepth 100000 in
theorem iwX12_isSo : Cond.initialized MX12_isSo.1.cls ∈ zs_tbl := zs_iq1 11 rfl rfl
set_option maxRecDepth 100000 in
theorem mwX12_isSo : Cond.instanceMethod MX12_isSo.1 ∈ zs_tbl := zs_iq6 15 rfl rfl
set_option maxRecDepth 100000 in
theorem ewX12_isSo : Cond.selects MX12_isSo.1.cls MX12_isSo.1 MX12_isSo.1 ∈ zs_tbl := zs_iq0 65 rfl rfl
abbrev MX12_began : zs_M := (yX12_began, cX12_began, 4, some .int, { frames := 3, cells := 0, slots := 0, locals := 70 })
set_option maxRecDepth 100000 in
theorem cwX12_began : Cond.code MX12_began.1 MX12_began.2.1 MX12_began.2.2.1 MX12_began.2.2.2.1 ∈ zs_tbl := zs_iq6 12 rfl rfl
set_option maxRecDepth 100000 in
theorem iwX12_began : Cond.initialized MX12_began.1.cls ∈ zs_tbl := zs_iq1 11 rfl rfl
set_option maxRecDepth 100000 in
theorem mwX12_began : Cond.instanceMethod MX12_began.1 ∈ zs_tbl := zs_iq6 10 rfl rfl
set_option maxRecDepth 100000 in
theorem ewX12_began : Cond.selects MX12_began.1.cls MX12_began.1 MX12_began.1 ∈ zs_tbl := zs_iq6 11 rfl rfl
abbrev MX12_tell : zs_M := (yX12_tell, cX12_tell, 7, some .int, { frames := 3, cells := 0, slots := 0, locals := 70 })
set_option maxRecDepth 100000 in
theorem cwX12_tell : Cond.code MX12_tell.1 MX12_tell.2.1 MX12_tell.2.2.1 MX12_tell.2.2.2.1 ∈ zs_tbl := zs_iq6 24 rfl rfl
set_option maxRecDepth 100000 in
theorem iwX12_tell : Cond.initialized MX12_tell.1.cls ∈ zs_tbl := zs_iq1 11 rfl rfl
set_option maxRecDepth 100000 in
theorem mwX12_tell : Cond.instanceMethod MX12_tell.1 ∈ zs_tbl := zs_iq6 22 rfl rfl
set_option maxRecDepth 100000 in
theorem ewX12_tell : Cond.selects MX12_tell.1.cls MX12_tell.1 MX12_tell.1 ∈ zs_tbl := zs_iq6 23 rfl rfl
abbrev MX12_note : zs_M := (yX12_note, cX12_note, 6, some .int, { frames := 2, cells := 0, slots := 0, locals := 46 })
set_option maxRecDepth 100000 in
theorem cwX12_note : Cond.code MX12_note.1 MX12_note.2.1 MX12_note.2.2.1 MX12_note.2.2.2.1 ∈ zs_tbl := zs_iq6 28 rfl rfl
set_option maxRecDepth 100000 in
theorem iwX12_note : Cond.initialized MX12_note.1.cls ∈ zs_tbl := zs_iq1 11 rfl rfl
set_option maxRecDepth 100000 in
theorem mwX12_note : Cond.instanceMethod MX12_note.1 ∈ zs_tbl := zs_iq6 26 rfl rfl
set_option maxRecDepth 100000 in
theorem ewX12_note : Cond.selects MX12_note.1.cls MX12_note.1 MX12_note.1 ∈ zs_tbl := zs_iq6 27 rfl rfl
abbrev MX12_mark : zs_M := (yX12_mark, cX12_mark, 5, some .int, { frames := 1, cells := 0, slots := 0, locals := 25 })
set_option maxRecDepth 100000 in
theorem cwX12_mark : Cond.code MX12_mark.1 MX12_mark.2.1 MX12_mark.2.2.1 MX12_mark.2.2.2.1 ∈ zs_tbl := zs_iq6 32 rfl rfl
set_option maxRecDepth 100000 in
theorem iwX12_mark : Cond.initialized MX12_mark.1.cls ∈ zs_tbl := zs_iq1 11 rfl rfl
set_option maxRecDepth 100000 in
theorem mwX12_mark : Cond.instanceMethod MX12_mark.1 ∈ zs_tbl := zs_iq6 30 rfl rfl
set_option maxRecDepth 100000 in
theorem ewX12_mark : Cond.selects MX12_mark.1.cls MX12_mark.1 MX12_mark.1 ∈ zs_tbl := zs_iq6 31 rfl rfl
abbrev MX12_forget : zs_M := (yX12_forget, cX12_forget, 4, some .int, { frames := 1, cells := 0, slots := 0, locals := 25 })
set_option maxRecDepth 100000 in
theorem cwX12_forget : Cond.code MX12_forget.1 MX12_forget.2.1 MX12_forget.2.2.1 MX12_forget.2.2.2.1 ∈ zs_tbl := zs_iq6 37 rfl rfl
set_option maxRecDepth 100000 in
theorem iwX12_forget : Cond.initialized MX12_forget.1.cls ∈ zs_tbl := zs_iq1 11 rfl rfl
set_option maxRecDepth 100000 in
theorem mwX12_forget : Cond.instanceMethod MX12_forget.1 ∈ zs_tbl := zs_iq6 35 rfl rfl
set_option maxRecDepth 100000 in
theorem ewX12_forget : Cond.selects MX12_forget.1.cls MX12_forget.1 MX12_forget.1 ∈ zs_tbl := zs_iq6 36 rfl rfl
abbrev MX12_eyesThat : zs_M := (yX12_eyesThat, cX12_eyesThat, 6, some .int, { frames := 2, cells := 0, slots := 0, locals := 44 })
set_option maxRecDepth 100000 in
theorem cwX12_eyesThat : Cond.code MX12_eyesThat.1 MX12_eyesThat.2.1 MX12_eyesThat.2.2.1 MX12_eyesThat.2.2.2.1 ∈ zs_tbl := zs_iq6 45 rfl rfl
set_option maxRecDepth 100000 in
theorem iwX12_eyesThat : Cond.initialized MX12_eyesThat.1.cls ∈ zs_tbl := zs_iq1 11 rfl rfl
set_option maxRecDepth 100000 in
theorem mwX12_eyesThat : Cond.instanceMethod MX12_eyesThat.1 ∈ zs_tbl := zs_iq6 44 rfl rfl
set_option maxRecDepth 100000 in
theorem ewX12_eyesThat : Cond.selects MX12_eyesThat.1.cls MX12_eyesThat.1 MX12_eyesThat.1 ∈ zs_tbl := zs_iq0 67 rfl rfl
abbrev MX12_is : zs_M := (yX12_is, cX12_is, 2, some .int, { frames := 3, cells := 0, slots := 0, locals := 69 })
set_option maxRecDepth 100000 in
theorem cwX12_is : Cond.code MX12_is.1 MX12_is.2.1 MX12_is.2.2.1 MX12_is.2.2.2.1 ∈ zs_tbl := zs_iq6 41 rfl rfl
set_option maxRecDepth 100000 in
theorem iwX12_is : Cond.initialized MX12_is.1.cls ∈ zs_tbl := zs_iq1 11 rfl rfl
set_option maxRecDepth 100000 in
theorem mwX12_is : Cond.instanceMethod MX12_is.1 ∈ zs_tbl := zs_iq6 39 rfl rfl
set_option maxRecDepth 100000 in
theorem ewX12_is : Cond.selects MX12_is.1.cls MX12_is.1 MX12_is.1 ∈ zs_tbl := zs_iq6 40 rfl rfl
abbrev MX12_look : zs_M := (yX12_look, cX12_look, 10, some .int, { frames := 3, cells := 0, slots := 0, locals := 69 })
set_option maxRecDepth 100000 in
theorem cwX12_look : Cond.code MX12_look.1 MX12_look.2.1 MX12_look.2.2.1 MX12_look.2.2.2.1 ∈ zs_tbl := zs_iq6 49 rfl rfl
set_option maxRecDepth 100000 in
theorem iwX12_look : Cond.initialized MX12_look.1.cls ∈ zs_tbl := zs_iq1 11 rfl rfl
set_option maxRecDepth 100000 in
theorem mwX12_look : Cond.instanceMethod MX12_look.1 ∈ zs_tbl := zs_iq6 47 rfl rfl
set_option maxRecDepth 100000 in
theorem ewX12_look : Cond.selects MX12_look.1.cls MX12_look.1 MX12_look.1 ∈ zs_tbl := zs_iq6 48 rfl rfl
abbrev MX12_kinds : zs_M := (yX12_kinds, cX12_kinds, 5, some .int, { frames := 1, cells := 0, slots := 0, locals := 23 })
set_option maxRecDepth 100000 in
theorem cwX12_kinds : Cond.code MX12_kinds.1 MX12_kinds.2.1 MX12_kinds.2.2.1 MX12_kinds.2.2.2.1 ∈ zs_tbl := zs_iq6 56 rfl rfl
set_option maxRecDepth 100000 in
theorem iwX12_kinds : Cond.initialized MX12_kinds.1.cls ∈ zs_tbl := zs_iq1 11 rfl rfl
set_option maxRecDepth 100000 in
theorem mwX12_kinds : Cond.instanceMethod MX12_kinds.1 ∈ zs_tbl := zs_iq6 54 rfl rfl
set_option maxRecDepth 100000 in
theorem ewX12_kinds : Cond.selects MX12_kinds.1.cls MX12_kinds.1 MX12_kinds.1 ∈ zs_tbl := zs_iq6 55 rfl rfl
abbrev MX12_ask : zs_M := (yX12_ask, cX12_ask, 11, some .int, { frames := 2, cells := 0, slots := 0, locals := 47 })
set_option maxRecDepth 100000 in
theorem cwX12_ask : Cond.code MX12_ask.1 MX12_ask.2.1 MX12_ask.2.2.1 MX12_ask.2.2.2.1 ∈ zs_tbl := zs_iq6 60 rfl rfl
set_option maxRecDepth 100000 in
theorem iwX12_ask : Cond.initialized MX12_ask.1.cls ∈ zs_tbl := zs_iq1 11 rfl rfl
set_option maxRecDepth 100000 in
theorem mwX12_ask : Cond.instanceMethod MX12_ask.1 ∈ zs_tbl := zs_iq6 58 rfl rfl
set_option maxRecDepth 100000 in
theorem ewX12_ask : Cond.selects MX12_ask.1.cls MX12_ask.1 MX12_ask.1 ∈ zs_tbl := zs_iq6 59 rfl rfl
abbrev MX12_rests : zs_M := (yX12_rests, cX12_rests, 5, some .boolean, { frames := 0, cells := 0, slots := 0, locals := 0 })
set_option maxRecDepth 100000 in
theorem cwX12_rests : Cond.code MX12_rests.1 MX12_rests.2.1 MX12_rests.2.2.1 MX12_rests.2.2.2.1 ∈ zs_tbl := zs_iq6 69 rfl rfl
set_option maxRecDepth 100000 in
theorem iwX12_rests : Cond.initialized MX12_rests.1.cls ∈ zs_tbl := zs_iq1 11 rfl rfl
set_option maxRecDepth 100000 in
theorem mwX12_rests : Cond.instanceMethod MX12_rests.1 ∈ zs_tbl := zs_iq6 68 rfl rfl
set_option maxRecDepth 100000 in
theorem ewX12_rests : Cond.selects MX12_rests.1.cls MX12_rests.1 MX12_rests.1 ∈ zs_tbl := zs_iq0 68 rfl rfl
abbrev MX12_hands : zs_M := (yX12_hands, cX12_hands, 6, some .int, { frames := 4, cells := 0, slots := 0, locals := 93 })
set_option maxRecDepth 100000 in
theorem cwX12_hands : Cond.code MX12_hands.1 MX12_hands.2.1 MX12_hands.2.2.1 MX12_hands.2.2.2.1 ∈ zs_tbl := zs_iq6 65 rfl rfl
set_option maxRecDepth 100000 in
theorem iwX12_hands : Cond.initialized MX12_hands.1.cls ∈ zs_tbl := zs_iq1 11 rfl rfl
set_option maxRecDepth 100000 in
theorem mwX12_hands : Cond.instanceMethod MX12_hands.1 ∈ zs_tbl := zs_iq6 63 rfl rfl
set_option maxRecDepth 100000 in
theorem ewX12_hands : Cond.selects MX12_hands.1.cls MX12_hands.1 MX12_hands.1 ∈ zs_tbl := zs_iq6 64 rfl rfl
abbrev MX12_smear : zs_M := (yX12_smear, cX12_smear, 15, some .int, { frames := 3, cells := 0, slots := 0, locals := 70 })
set_option maxRecDepth 100000 in
theorem cwX12_smear : Cond.code MX12_smear.1 MX12_smear.2.1 MX12_smear.2.2.1 MX12_smear.2.2.2.1 ∈ zs_tbl := zs_iq6 73 rfl rfl
set_option maxRecDepth 100000 in
theorem iwX12_smear : Cond.initialized MX12_smear.1.cls ∈ zs_tbl := zs_iq1 11 rfl rfl
set_option maxRecDepth 100000 in
theorem mwX12_smear : Cond.instanceMethod MX12_smear.1 ∈ zs_tbl := zs_iq6 71 rfl rfl
set_option maxRecDepth 100000 in
theorem ewX12_smear : Cond.selects MX12_smear.1.cls MX12_smear.1 MX12_smear.1 ∈ zs_tbl := zs_iq6 72 rfl rfl
abbrev MX12_nights : zs_M := (yX12_nights, cX12_nights, 6, some .int, { frames := 3, cells := 0, slots := 0, locals := 70 })
set_option maxRecDepth 100000 in
theorem cwX12_nights : Cond.code MX12_nights.1 MX12_nights.2.1 MX12_nights.2.2.1 MX12_nights.2.2.2.1 ∈ zs_tbl := zs_iq6 79 rfl rfl
set_option maxRecDepth 100000 in
theorem iwX12_nights : Cond.initialized MX12_nights.1.cls ∈ zs_tbl := zs_iq1 11 rfl rfl
set_option maxRecDepth 100000 in
theorem mwX12_nights : Cond.instanceMethod MX12_nights.1 ∈ zs_tbl := zs_iq6 77 rfl rfl
set_option maxRecDepth 100000 in
theorem ewX12_nights : Cond.selects MX12_nights.1.cls MX12_nights.1 MX12_nights.1 ∈ zs_tbl := zs_iq6 78 rfl rfl
abbrev MX12_movesOf : zs_M := (yX12_movesOf, cX12_movesOf, 4, some .int, { frames := 0, cells := 0, slots := 0, locals := 0 })
set_option maxRecDepth 100000 in
theorem cwX12_movesOf : Cond.code MX12_movesOf.1 MX12_movesOf.2.1 MX12_movesOf.2.2.1 MX12_movesOf.2.2.2.1 ∈ zs_tbl := zs_iq6 88 rfl rfl
set_option maxRecDepth 100000 in
theorem iwX12_movesOf : Cond.initialized MX12_movesOf.1.cls ∈ zs_tbl := zs_iq1 11 rfl rfl
set_option maxRecDepth 100000 in
theorem mwX12_movesOf : Cond.instanceMethod MX12_movesOf.1 ∈ zs_tbl := zs_iq6 87 rfl rfl
set_option maxRecDepth 100000 in
theorem ewX12_movesOf : Cond.selects MX12_movesOf.1.cls MX12_movesOf.1 MX12_movesOf.1 ∈ zs_tbl := zs_iq0 69 rfl rfl
abbrev MX12_part : zs_M := (yX12_part, cX12_part, 2, some .long, { frames := 1, cells := 0, slots := 0, locals := 25 })
set_option maxRecDepth 100000 in
theorem cwX12_part : Cond.code MX12_part.1 MX12_part.2.1 MX12_part.2.2.1 MX12_part.2.2.2.1 ∈ zs_tbl := zs_iq6 92 rfl rfl
set_option maxRecDepth 100000 in
theorem iwX12_part : Cond.initialized MX12_part.1.cls ∈ zs_tbl := zs_iq1 11 rfl rfl
set_option maxRecDepth 100000 in
theorem mwX12_part : Cond.instanceMethod MX12_part.1 ∈ zs_tbl := zs_iq6 90 rfl rfl
set_option maxRecDepth 100000 in
theorem ewX12_part : Cond.selects MX12_part.1.cls MX12_part.1 MX12_part.1 ∈ zs_tbl := zs_iq6 91 rfl rfl
abbrev MX12_carries : zs_M := (yX12_carries, cX12_carries, 6, none, { frames := 0, cells := 0, slots := 0, locals := 0 })
set_option maxRecDepth 100000 in
theorem cwX12_carries : Cond.code MX12_carries.1 MX12_carries.2.1 MX12_carries.2.2.1 MX12_carries.2.2.2.1 ∈ zs_tbl := zs_iq6 100 rfl rfl
set_option maxRecDepth 100000 in
theorem iwX12_carries : Cond.initialized MX12_carries.1.cls ∈ zs_tbl := zs_iq1 11 rfl rfl
set_option maxRecDepth 100000 in
theorem mwX12_carries : Cond.instanceMethod MX12_carries.1 ∈ zs_tbl := zs_iq6 99 rfl rfl
set_option maxRecDepth 100000 in
theorem ewX12_carries : Cond.selects MX12_carries.1.cls MX12_carries.1 MX12_carries.1 ∈ zs_tbl := zs_iq0 70 rfl rfl
abbrev MX12_image : zs_M := (yX12_image, cX12_image, 2, some .int, { frames := 1, cells := 0, slots := 0, locals := 25 })
set_option maxRecDepth 100000 in
theorem cwX12_image : Cond.code MX12_image.1 MX12_image.2.1 MX12_image.2.2.1 MX12_image.2.2.2.1 ∈ zs_tbl := zs_iq6 96 rfl rfl
set_option maxRecDepth 100000 in
theorem iwX12_image : Cond.initialized MX12_image.1.cls ∈ zs_tbl := zs_iq1 11 rfl rfl
set_option maxRecDepth 100000 in
theorem mwX12_image : Cond.instanceMethod MX12_image.1 ∈ zs_tbl := zs_iq6 94 rfl rfl
set_option maxRecDepth 100000 in
theorem ewX12_image : Cond.selects MX12_image.1.cls MX12_image.1 MX12_image.1 ∈ zs_tbl := zs_iq6 95 rfl rfl
abbrev MX12_from : zs_M := (yX12_from, cX12_from, 2, some .int, { frames := 1, cells := 0, slots := 0, locals := 25 })
set_option maxRecDepth 100000 in
theorem cwX12_from : Cond.code MX12_from.1 MX12_from.2.1 MX12_from.2.2.1 MX12_from.2.2.2.1 ∈ zs_tbl := zs_iq6 104 rfl rfl
set_option maxRecDepth 100000 in
theorem iwX12_from : Cond.initialized MX12_from.1.cls ∈ zs_tbl := zs_iq1 11 rfl rfl
set_option maxRecDepth 100000 in
theorem mwX12_from : Cond.instanceMethod MX12_from.1 ∈ zs_tbl := zs_iq6 102 rfl rfl
set_option maxRecDepth 100000 in
theorem ewX12_from : Cond.selects MX12_from.1.cls MX12_from.1 MX12_from.1 ∈ zs_tbl := zs_iq6 103 rfl rfl
abbrev MX12_status : zs_M := (yX12_status, cX12_status, 2, some .int, { frames := 1, cells := 0, slots := 0, locals := 25 })
set_option maxRecDepth 100000 in
theorem cwX12_status : Cond.code MX12_status.1 MX12_status.2.1 MX12_status.2.2.1 MX12_status.2.2.2.1 ∈ zs_tbl := zs_iq6 108 rfl rfl
set_option maxRecDepth 100000 in
theorem iwX12_status : Cond.initialized MX12_status.1.cls ∈ zs_tbl := zs_iq1 11 rfl rfl
set_option maxRecDepth 100000 in
theorem mwX12_status : Cond.instanceMethod MX12_status.1 ∈ zs_tbl := zs_iq6 106 rfl rfl
set_option maxRecDepth 100000 in
theorem ewX12_status : Cond.selects MX12_status.1.cls MX12_status.1 MX12_status.1 ∈ zs_tbl := zs_iq6 107 rfl rfl
abbrev MX12_countOf : zs_M := (yX12_countOf, cX12_countOf, 2, some .int, { frames := 1, cells := 0, slots := 0, locals := 23 })
set_option maxRecDepth 100000 in
theorem cwX12_countOf : Cond.code MX12_countOf.1 MX12_countOf.2.1 MX12_countOf.2.2.1 MX12_countOf.2.2.2.1 ∈ zs_tbl := zs_iq6 116 rfl rfl
set_option maxRecDepth 100000 in
theorem iwX12_countOf : Cond.initialized MX12_countOf.1.cls ∈ zs_tbl := zs_iq1 11 rfl rfl
set_option maxRecDepth 100000 in
theorem mwX12_countOf : Cond.instanceMethod MX12_countOf.1 ∈ zs_tbl := zs_iq6 115 rfl rfl
set_option maxRecDepth 100000 in
theorem ewX12_countOf : Cond.selects MX12_countOf.1.cls MX12_countOf.1 MX12_countOf.1 ∈ zs_tbl := zs_iq0 71 rfl rfl
abbrev MX12_count : zs_M := (yX12_count, cX12_count, 2, some .int, { frames := 2, cells := 0, slots := 0, locals := 44 })
set_option maxRecDepth 100000 in
theorem cwX12_count : Cond.code MX12_count.1 MX12_count.2.1 MX12_count.2.2.1 MX12_count.2.2.2.1 ∈ zs_tbl := zs_iq6 112 rfl rfl
set_option maxRecDepth 100000 in
theorem iwX12_count : Cond.initialized MX12_count.1.cls ∈ zs_tbl := zs_iq1 11 rfl rfl
set_option maxRecDepth 100000 in
theorem mwX12_count : Cond.instanceMethod MX12_count.1 ∈ zs_tbl := zs_iq6 110 rfl rfl
set_option maxRecDepth 100000 in
theorem ewX12_count : Cond.selects MX12_count.1.cls MX12_count.1 MX12_count.1 ∈ zs_tbl := zs_iq6 111 rfl rfl
abbrev MX12_digest : zs_M := (yX12_digest, cX12_digest, 4, some .long, { frames := 2, cells := 0, slots := 0, locals := 44 })
set_option maxRecDepth 100000 in
theorem cwX12_digest : Cond.code MX12_digest.1 MX12_digest.2.1 MX12_digest.2.2.1 MX12_digest.2.2.2.1 ∈ zs_tbl := zs_iq6 120 rfl rfl
set_option maxRecDepth 100000 in
theorem iwX12_digest : Cond.initialized MX12_digest.1.cls ∈ zs_tbl := zs_iq1 11 rfl rfl
set_option maxRecDepth 100000 in
theorem mwX12_digest : Cond.instanceMethod MX12_digest.1 ∈ zs_tbl := zs_iq6 118 rfl rfl
set_option maxRecDepth 100000 in
theorem ewX12_digest : Cond.selects MX12_digest.1.cls MX12_digest.1 MX12_digest.1 ∈ zs_tbl := zs_iq6 119 rfl rfl
abbrev MJ9_floorMod_7cf53 : zs_M := (yJ9_floorMod_7cf53, cJ9_floorMod_7cf53, 3, some .int, { frames := 0, cells := 0, slots := 0, locals := 0 })
set_option maxRecDepth 100000 in
theorem cwJ9_floorMod_7cf53 : Cond.code MJ9_floorMod_7cf53.1 MJ9_floorMod_7cf53.2.1 MJ9_floorMod_7cf53.2.2.1 MJ9_floorMod_7cf53.2.2.2.1 ∈ zs_tbl := zs_iq3 54 rfl rfl
set_option maxRecDepth 100000 in
theorem iwJ9_floorMod_7cf53 : Cond.initialized MJ9_floorMod_7cf53.1.cls ∈ zs_tbl := zs_iq1 17 rfl rfl
set_option maxRecDepth 100000 in
theorem swJ9_floorMod_7cf53 : Cond.static MJ9_floorMod_7cf53.1 ∈ zs_tbl := zs_iq3 53 rfl rfl
abbrev MJ9_abs_0f7a4 : zs_M := (yJ9_abs_0f7a4, cJ9_abs_0f7a4, 1, some .int, { frames := 0, cells := 0, slots := 0, locals := 0 })
set_option maxRecDepth 100000 in
theorem cwJ9_abs_0f7a4 : Cond.code MJ9_abs_0f7a4.1 MJ9_abs_0f7a4.2.1 MJ9_abs_0f7a4.2.2.1 MJ9_abs_0f7a4.2.2.2.1 ∈ zs_tbl := zs_iq3 71 rfl rfl
set_option maxRecDepth 100000 in
theorem iwJ9_abs_0f7a4 : Cond.initialized MJ9_abs_0f7a4.1.cls ∈ zs_tbl := zs_iq1 17 rfl rfl
set_option maxRecDepth 100000 in
theorem swJ9_abs_0f7a4 : Cond.static MJ9_abs_0f7a4.1 ∈ zs_tbl := zs_iq3 70 rfl rfl
abbrev MJ9_max_7cf53 : zs_M := (yJ9_max_7cf53, cJ9_max_7cf53, 2, some .int, { frames := 0, cells := 0, slots := 0, locals := 0 })
set_option maxRecDepth 100000 in
theorem cwJ9_max_7cf53 : Cond.code MJ9_max_7cf53.1 MJ9_max_7cf53.2.1 MJ9_max_7cf53.2.2.1 MJ9_max_7cf53.2.2.2.1 ∈ zs_tbl := zs_iq3 48 rfl rfl
set_option maxRecDepth 100000 in
theorem iwJ9_max_7cf53 : Cond.initialized MJ9_max_7cf53.1.cls ∈ zs_tbl := zs_iq1 17 rfl rfl
set_option maxRecDepth 100000 in
theorem swJ9_max_7cf53 : Cond.static MJ9_max_7cf53.1 ∈ zs_tbl := zs_iq3 47 rfl rfl
abbrev MJ9_min_7cf53 : zs_M := (yJ9_min_7cf53, cJ9_min_7cf53, 2, some .int, { frames := 0, cells := 0, slots := 0, locals := 0 })
set_option maxRecDepth 100000 in
theorem cwJ9_min_7cf53 : Cond.code MJ9_min_7cf53.1 MJ9_min_7cf53.2.1 MJ9_min_7cf53.2.2.1 MJ9_min_7cf53.2.2.2.1 ∈ zs_tbl := zs_iq3 77 rfl rfl
set_option maxRecDepth 100000 in
theorem iwJ9_min_7cf53 : Cond.initialized MJ9_min_7cf53.1.cls ∈ zs_tbl := zs_iq1 17 rfl rfl
set_option maxRecDepth 100000 in
theorem swJ9_min_7cf53 : Cond.static MJ9_min_7cf53.1 ∈ zs_tbl := zs_iq3 76 rfl rfl
abbrev MJ0_length_8abf5 : zs_M := (yJ0_length_8abf5, cJ0_length_8abf5, 1, some .int, { frames := 1, cells := 0, slots := 0, locals := 20 })
set_option maxRecDepth 100000 in
theorem cwJ0_length_8abf5 : Cond.code MJ0_length_8abf5.1 MJ0_length_8abf5.2.1 MJ0_length_8abf5.2.2.1 MJ0_length_8abf5.2.2.2.1 ∈ zs_tbl := zs_iq2 181 rfl rfl
set_option maxRecDepth 100000 in
theorem iwJ0_length_8abf5 : Cond.initialized MJ0_length_8abf5.1.cls ∈ zs_tbl := zs_iq1 12 rfl rfl
set_option maxRecDepth 100000 in
theorem mwJ0_length_8abf5 : Cond.instanceMethod MJ0_length_8abf5.1 ∈ zs_tbl := zs_iq2 179 rfl rfl
set_option maxRecDepth 100000 in
theorem ewJ0_length_8abf5 : Cond.selects MJ0_length_8abf5.1.cls MJ0_length_8abf5.1 MJ0_length_8abf5.1 ∈ zs_tbl := zs_iq2 180 rfl rfl
abbrev MJ0_charAt_5068e : zs_M := (yJ0_charAt_5068e, cJ0_charAt_5068e, 2, some .char, { frames := 4, cells := 0, slots := 0, locals := 85 })
set_option maxRecDepth 100000 in
theorem cwJ0_charAt_5068e : Cond.code MJ0_charAt_5068e.1 MJ0_charAt_5068e.2.1 MJ0_charAt_5068e.2.2.1 MJ0_charAt_5068e.2.2.2.1 ∈ zs_tbl := zs_iq2 191 rfl rfl
set_option maxRecDepth 100000 in
theorem iwJ0_charAt_5068e : Cond.initialized MJ0_charAt_5068e.1.cls ∈ zs_tbl := zs_iq1 12 rfl rfl
set_option maxRecDepth 100000 in
theorem mwJ0_charAt_5068e : Cond.instanceMethod MJ0_charAt_5068e.1 ∈ zs_tbl := zs_iq2 189 rfl rfl
set_option maxRecDepth 100000 in
theorem ewJ0_charAt_5068e : Cond.selects MJ0_charAt_5068e.1.cls MJ0_charAt_5068e.1 MJ0_charAt_5068e.1 ∈ zs_tbl := zs_iq2 190 rfl rfl
abbrev MJ0_coder_7d493 : zs_M := (yJ0_coder_7d493, cJ0_coder_7d493, 1, some .byte, { frames := 0, cells := 0, slots := 0, locals := 0 })
set_option maxRecDepth 100000 in
theorem cwJ0_coder_7d493 : Cond.code MJ0_coder_7d493.1 MJ0_coder_7d493.2.1 MJ0_coder_7d493.2.2.1 MJ0_coder_7d493.2.2.2.1 ∈ zs_tbl := zs_iq2 185 rfl rfl
set_option maxRecDepth 100000 in
theorem iwJ0_coder_7d493 : Cond.initialized MJ0_coder_7d493.1.cls ∈ zs_tbl := zs_iq1 12 rfl rfl
set_option maxRecDepth 100000 in
theorem mwJ0_coder_7d493 : Cond.instanceMethod MJ0_coder_7d493.1 ∈ zs_tbl := zs_iq2 183 rfl rfl
set_option maxRecDepth 100000 in
theorem ewJ0_coder_7d493 : Cond.selects MJ0_coder_7d493.1.cls MJ0_coder_7d493.1 MJ0_coder_7d493.1 ∈ zs_tbl := zs_iq2 184 rfl rfl
abbrev MJ0_isLatin1_aae02 : zs_M := (yJ0_isLatin1_aae02, cJ0_isLatin1_aae02, 1, some .boolean, { frames := 0, cells := 0, slots := 0, locals := 0 })
set_option maxRecDepth 100000 in
theorem cwJ0_isLatin1_aae02 : Cond.code MJ0_isLatin1_aae02.1 MJ0_isLatin1_aae02.2.1 MJ0_isLatin1_aae02.2.2.1 MJ0_isLatin1_aae02.2.2.2.1 ∈ zs_tbl := zs_iq2 195 rfl rfl
set_option maxRecDepth 100000 in
theorem iwJ0_isLatin1_aae02 : Cond.initialized MJ0_isLatin1_aae02.1.cls ∈ zs_tbl := zs_iq1 12 rfl rfl
set_option maxRecDepth 100000 in
theorem mwJ0_isLatin1_aae02 : Cond.instanceMethod MJ0_isLatin1_aae02.1 ∈ zs_tbl := zs_iq2 193 rfl rfl
set_option maxRecDepth 100000 in
theorem ewJ0_isLatin1_aae02 : Cond.selects MJ0_isLatin1_aae02.1.cls MJ0_isLatin1_aae02.1 MJ0_isLatin1_aae02.1 ∈ zs_tbl := zs_iq2 194 rfl rfl
abbrev MJ0_checkIndex_df160 : zs_M := (yJ0_checkIndex_df160, cJ0_checkIndex_df160, 2, none, { frames := 1, cells := 0, slots := 0, locals := 22 })
set_option maxRecDepth 100000 in
theorem cwJ0_checkIndex_df160 : Cond.code MJ0_checkIndex_df160.1 MJ0_checkIndex_df160.2.1 MJ0_checkIndex_df160.2.2.1 MJ0_checkIndex_df160.2.2.2.1 ∈ zs_tbl := zs_iq2 201 rfl rfl
set_option maxRecDepth 100000 in
theorem iwJ0_checkIndex_df160 : Cond.initialized MJ0_checkIndex_df160.1.cls ∈ zs_tbl := zs_iq1 12 rfl rfl
set_option maxRecDepth 100000 in
theorem swJ0_checkIndex_df160 : Cond.static MJ0_checkIndex_df160.1 ∈ zs_tbl := zs_iq2 200 rfl rfl
abbrev MJ1_charAt_3b067 : zs_M := (yJ1_charAt_3b067, cJ1_charAt_3b067, 2, some .char, { frames := 2, cells := 0, slots := 0, locals := 43 })
set_option maxRecDepth 100000 in
theorem cwJ1_charAt_3b067 : Cond.code MJ1_charAt_3b067.1 MJ1_charAt_3b067.2.1 MJ1_charAt_3b067.2.2.1 MJ1_charAt_3b067.2.2.2.1 ∈ zs_tbl := zs_iq2 198 rfl rfl
set_option maxRecDepth 100000 in
theorem iwJ1_charAt_3b067 : Cond.initialized MJ1_charAt_3b067.1.cls ∈ zs_tbl := zs_iq1 13 rfl rfl
set_option maxRecDepth 100000 in
theorem swJ1_charAt_3b067 : Cond.static MJ1_charAt_3b067.1 ∈ zs_tbl := zs_iq2 197 rfl rfl
abbrev MJ3_checkIndex_8e157 : zs_M := (yJ3_checkIndex_8e157, cJ3_checkIndex_8e157, 3, some .int, { frames := 0, cells := 0, slots := 0, locals := 0 })
set_option maxRecDepth 100000 in
theorem cwJ3_checkIndex_8e157 : Cond.code MJ3_checkIndex_8e157.1 MJ3_checkIndex_8e157.2.1 MJ3_checkIndex_8e157.2.2.1 MJ3_checkIndex_8e157.2.2.2.1 ∈ zs_tbl := zs_iq2 206 rfl rfl
set_option maxRecDepth 100000 in
theorem iwJ3_checkIndex_8e157 : Cond.initialized MJ3_checkIndex_8e157.1.cls ∈ zs_tbl := zs_iq1 14 rfl rfl
set_option maxRecDepth 100000 in
theorem swJ3_checkIndex_8e157 : Cond.static MJ3_checkIndex_8e157.1 ∈ zs_tbl := zs_iq2 205 rfl rfl
theorem kk_X0_gather_X0_fillPassed : zs_K MX0_gather MX0_fillPassed 1 := ⟨⟨rfl, rfl, Nat.le_of_ble_eq_true rfl, Nat.le_of_ble_eq_true rfl⟩, cwX0_fillPassed, iwX0_fillPassed, ⟨by decide, by decide⟩, by decide +kernel⟩
theorem kk_X0_gather_X0_fits : zs_K MX0_gather MX0_fits 2 := ⟨⟨rfl, rfl, Nat.le_of_ble_eq_true rfl, Nat.le_of_ble_eq_true rfl⟩, cwX0_fits, iwX0_fits, ⟨by decide, by decide⟩, by decide +kernel⟩
theorem kk_X0_gather_X11_put : zs_K MX0_gather MX11_put 3 := ⟨⟨rfl, rfl, Nat.le_of_ble_eq_true rfl, Nat.le_of_ble_eq_true rfl⟩, cwX11_put, iwX11_put, ⟨by decide, by decide⟩, by decide +kernel⟩
theorem kk_X0_tallyAt_X9_begin : zs_K MX0_tallyAt MX9_begin 0 := ⟨⟨rfl, rfl, Nat.le_of_ble_eq_true rfl, Nat.le_of_ble_eq_true rfl⟩, cwX9_begin, iwX9_begin, ⟨by decide, by decide⟩, by decide +kernel⟩
theorem kk_X0_tallyAt_X11_cell : zs_K MX0_tallyAt MX11_cell 2 := ⟨⟨rfl, rfl, Nat.le_of_ble_eq_true rfl, Nat.le_of_ble_eq_true rfl⟩, cwX11_cell, iwX11_cell, ⟨by decide, by decide⟩, by decide +kernel⟩
theorem kk_X0_tallyAt_X0_drawingAt : zs_K MX0_tallyAt MX0_drawingAt 3 := ⟨⟨rfl, rfl, Nat.le_of_ble_eq_true rfl, Nat.le_of_ble_eq_true rfl⟩, cwX0_drawingAt, iwX0_drawingAt, ⟨by decide, by decide⟩, by decide +kernel⟩
theorem kk_X0_tallyAt_X9_add : zs_K MX0_tallyAt MX9_add 1 := ⟨⟨rfl, rfl, Nat.le_of_ble_eq_true rfl, Nat.le_of_ble_eq_true rfl⟩, cwX9_add, iwX9_add, ⟨by decide, by decide⟩, by decide +kernel⟩
theorem kk_X0_fillPassed_X2_passing : zs_K MX0_fillPassed MX2_passing 3 := ⟨⟨rfl, rfl, Nat.le_of_ble_eq_true rfl, Nat.le_of_ble_eq_true rfl⟩, cwX2_passing, iwX2_passing, ⟨by decide, by decide⟩, by decide +kernel⟩
theorem kk_X0_fillPassed_X11_put : zs_K MX0_fillPassed MX11_put 3 := ⟨⟨rfl, rfl, Nat.le_of_ble_eq_true rfl, Nat.le_of_ble_eq_true rfl⟩, cwX11_put, iwX11_put, ⟨by decide, by decide⟩, by decide +kernel⟩
theorem kk_X0_fits_X5_value : zs_K MX0_fits MX5_value 2 := ⟨⟨rfl, rfl, Nat.le_of_ble_eq_true rfl, Nat.le_of_ble_eq_true rfl⟩, cwX5_value, iwX5_value, ⟨by decide, by decide⟩, by decide +kernel⟩
theorem kk_X0_fits_X0_drawingAt : zs_K MX0_fits MX0_drawingAt 3 := ⟨⟨rfl, rfl, Nat.le_of_ble_eq_true rfl, Nat.le_of_ble_eq_true rfl⟩, cwX0_drawingAt, iwX0_drawingAt, ⟨by decide, by decide⟩, by decide +kernel⟩
theorem kk_X0_drawingAt_X11_cell : zs_K MX0_drawingAt MX11_cell 2 := ⟨⟨rfl, rfl, Nat.le_of_ble_eq_true rfl, Nat.le_of_ble_eq_true rfl⟩, cwX11_cell, iwX11_cell, ⟨by decide, by decide⟩, by decide +kernel⟩
theorem kk_X0_drawingAt_X11_wrap : zs_K MX0_drawingAt MX11_wrap 2 := ⟨⟨rfl, rfl, Nat.le_of_ble_eq_true rfl, Nat.le_of_ble_eq_true rfl⟩, cwX11_wrap, iwX11_wrap, ⟨by decide, by decide⟩, by decide +kernel⟩
theorem kk_X1_sight_X1_lazy : zs_K MX1_sight MX1_lazy 2 := ⟨⟨rfl, rfl, Nat.le_of_ble_eq_true rfl, Nat.le_of_ble_eq_true rfl⟩, cwX1_lazy, iwX1_lazy, ⟨by decide, by decide⟩, by decide +kernel⟩
theorem kk_X1_sight_X1_sharp : zs_K MX1_sight MX1_sharp 2 := ⟨⟨rfl, rfl, Nat.le_of_ble_eq_true rfl, Nat.le_of_ble_eq_true rfl⟩, cwX1_sharp, iwX1_sharp, ⟨by decide, by decide⟩, by decide +kernel⟩
theorem kk_X1_sight_X1_child : zs_K MX1_sight MX1_child 2 := ⟨⟨rfl, rfl, Nat.le_of_ble_eq_true rfl, Nat.le_of_ble_eq_true rfl⟩, cwX1_child, iwX1_child, ⟨by decide, by decide⟩, by decide +kernel⟩
theorem kk_X1_sharp_J9_abs_0f7a4 : zs_K MX1_sharp MJ9_abs_0f7a4 1 := ⟨⟨rfl, rfl, Nat.le_of_ble_eq_true rfl, Nat.le_of_ble_eq_true rfl⟩, cwJ9_abs_0f7a4, iwJ9_abs_0f7a4, ⟨by decide, by decide⟩, by decide +kernel⟩
theorem kk_X1_child_J9_min_7cf53 : zs_K MX1_child MJ9_min_7cf53 2 := ⟨⟨rfl, rfl, Nat.le_of_ble_eq_true rfl, Nat.le_of_ble_eq_true rfl⟩, cwJ9_min_7cf53, iwJ9_min_7cf53, ⟨by decide, by decide⟩, by decide +kernel⟩
theorem kk_X2_passing_X2_twice : zs_K MX2_passing MX2_twice 1 := ⟨⟨rfl, rfl, Nat.le_of_ble_eq_true rfl, Nat.le_of_ble_eq_true rfl⟩, cwX2_twice, iwX2_twice, ⟨by decide, by decide⟩, by decide +kernel⟩
theorem kk_X2_passing_X2_jerk : zs_K MX2_passing MX2_jerk 2 := ⟨⟨rfl, rfl, Nat.le_of_ble_eq_true rfl, Nat.le_of_ble_eq_true rfl⟩, cwX2_jerk, iwX2_jerk, ⟨by decide, by decide⟩, by decide +kernel⟩
theorem kk_X2_passing_J9_max_7cf53 : zs_K MX2_passing MJ9_max_7cf53 2 := ⟨⟨rfl, rfl, Nat.le_of_ble_eq_true rfl, Nat.le_of_ble_eq_true rfl⟩, cwJ9_max_7cf53, iwJ9_max_7cf53, ⟨by decide, by decide⟩, by decide +kernel⟩
theorem kk_X3_begin_X11_fill : zs_K MX3_begin MX11_fill 2 := ⟨⟨rfl, rfl, Nat.le_of_ble_eq_true rfl, Nat.le_of_ble_eq_true rfl⟩, cwX11_fill, iwX11_fill, ⟨by decide, by decide⟩, by decide +kernel⟩
theorem kk_X3_become_X11_copyRow : zs_K MX3_become MX11_copyRow 2 := ⟨⟨rfl, rfl, Nat.le_of_ble_eq_true rfl, Nat.le_of_ble_eq_true rfl⟩, cwX11_copyRow, iwX11_copyRow, ⟨by decide, by decide⟩, by decide +kernel⟩
theorem kk_X3_writeTo_X11_put : zs_K MX3_writeTo MX11_put 3 := ⟨⟨rfl, rfl, Nat.le_of_ble_eq_true rfl, Nat.le_of_ble_eq_true rfl⟩, cwX11_put, iwX11_put, ⟨by decide, by decide⟩, by decide +kernel⟩
theorem kk_X3_writeTo_X11_cell : zs_K MX3_writeTo MX11_cell 2 := ⟨⟨rfl, rfl, Nat.le_of_ble_eq_true rfl, Nat.le_of_ble_eq_true rfl⟩, cwX11_cell, iwX11_cell, ⟨by decide, by decide⟩, by decide +kernel⟩
theorem kk_X3_takeFrom_X11_cell : zs_K MX3_takeFrom MX11_cell 2 := ⟨⟨rfl, rfl, Nat.le_of_ble_eq_true rfl, Nat.le_of_ble_eq_true rfl⟩, cwX11_cell, iwX11_cell, ⟨by decide, by decide⟩, by decide +kernel⟩
theorem kk_X3_takeFrom_X11_put : zs_K MX3_takeFrom MX11_put 3 := ⟨⟨rfl, rfl, Nat.le_of_ble_eq_true rfl, Nat.le_of_ble_eq_true rfl⟩, cwX11_put, iwX11_put, ⟨by decide, by decide⟩, by decide +kernel⟩
theorem kk_X4_push_X4_dropOldest : zs_K MX4_push MX4_dropOldest 0 := ⟨⟨rfl, rfl, Nat.le_of_ble_eq_true rfl, Nat.le_of_ble_eq_true rfl⟩, cwX4_dropOldest, iwX4_dropOldest, ⟨by decide, by decide⟩, by decide +kernel⟩
theorem kk_X4_push_X3_writeTo : zs_K MX4_push MX3_writeTo 2 := ⟨⟨rfl, rfl, Nat.le_of_ble_eq_true rfl, Nat.le_of_ble_eq_true rfl⟩, cwX3_writeTo, iwX3_writeTo, ⟨by decide, by decide⟩, by decide +kernel⟩
theorem kk_X4_pop_X3_takeFrom : zs_K MX4_pop MX3_takeFrom 2 := ⟨⟨rfl, rfl, Nat.le_of_ble_eq_true rfl, Nat.le_of_ble_eq_true rfl⟩, cwX3_takeFrom, iwX3_takeFrom, ⟨by decide, by decide⟩, by decide +kernel⟩
theorem kk_X4_become_X11_copyRow : zs_K MX4_become MX11_copyRow 2 := ⟨⟨rfl, rfl, Nat.le_of_ble_eq_true rfl, Nat.le_of_ble_eq_true rfl⟩, cwX11_copyRow, iwX11_copyRow, ⟨by decide, by decide⟩, by decide +kernel⟩
theorem kk_X4_dropOldest_X11_cell : zs_K MX4_dropOldest MX11_cell 2 := ⟨⟨rfl, rfl, Nat.le_of_ble_eq_true rfl, Nat.le_of_ble_eq_true rfl⟩, cwX11_cell, iwX11_cell, ⟨by decide, by decide⟩, by decide +kernel⟩
theorem kk_X4_dropOldest_X11_put : zs_K MX4_dropOldest MX11_put 3 := ⟨⟨rfl, rfl, Nat.le_of_ble_eq_true rfl, Nat.le_of_ble_eq_true rfl⟩, cwX11_put, iwX11_put, ⟨by decide, by decide⟩, by decide +kernel⟩
theorem kk_X5_add_X11_put : zs_K MX5_add MX11_put 3 := ⟨⟨rfl, rfl, Nat.le_of_ble_eq_true rfl, Nat.le_of_ble_eq_true rfl⟩, cwX11_put, iwX11_put, ⟨by decide, by decide⟩, by decide +kernel⟩
theorem kk_X5_value_X11_cell : zs_K MX5_value MX11_cell 2 := ⟨⟨rfl, rfl, Nat.le_of_ble_eq_true rfl, Nat.le_of_ble_eq_true rfl⟩, cwX11_cell, iwX11_cell, ⟨by decide, by decide⟩, by decide +kernel⟩
theorem kk_X5_become_X11_copyRow : zs_K MX5_become MX11_copyRow 2 := ⟨⟨rfl, rfl, Nat.le_of_ble_eq_true rfl, Nat.le_of_ble_eq_true rfl⟩, cwX11_copyRow, iwX11_copyRow, ⟨by decide, by decide⟩, by decide +kernel⟩
theorem kk_X5_digestOnto_X5_value : zs_K MX5_digestOnto MX5_value 2 := ⟨⟨rfl, rfl, Nat.le_of_ble_eq_true rfl, Nat.le_of_ble_eq_true rfl⟩, cwX5_value, iwX5_value, ⟨by decide, by decide⟩, by decide +kernel⟩
theorem kk_X6_begin_X11_fill : zs_K MX6_begin MX11_fill 2 := ⟨⟨rfl, rfl, Nat.le_of_ble_eq_true rfl, Nat.le_of_ble_eq_true rfl⟩, cwX11_fill, iwX11_fill, ⟨by decide, by decide⟩, by decide +kernel⟩
theorem kk_X6_begin_X3_begin : zs_K MX6_begin MX3_begin 1 := ⟨⟨rfl, rfl, Nat.le_of_ble_eq_true rfl, Nat.le_of_ble_eq_true rfl⟩, cwX3_begin, iwX3_begin, ⟨by decide, by decide⟩, by decide +kernel⟩
theorem kk_X6_begin_X4_empty : zs_K MX6_begin MX4_empty 0 := ⟨⟨rfl, rfl, Nat.le_of_ble_eq_true rfl, Nat.le_of_ble_eq_true rfl⟩, cwX4_empty, iwX4_empty, ⟨by decide, by decide⟩, by decide +kernel⟩
theorem kk_X6_begin_X5_empty : zs_K MX6_begin MX5_empty 0 := ⟨⟨rfl, rfl, Nat.le_of_ble_eq_true rfl, Nat.le_of_ble_eq_true rfl⟩, cwX5_empty, iwX5_empty, ⟨by decide, by decide⟩, by decide +kernel⟩
theorem kk_X6_become_X11_copyRow : zs_K MX6_become MX11_copyRow 2 := ⟨⟨rfl, rfl, Nat.le_of_ble_eq_true rfl, Nat.le_of_ble_eq_true rfl⟩, cwX11_copyRow, iwX11_copyRow, ⟨by decide, by decide⟩, by decide +kernel⟩
theorem kk_X6_become_X3_become : zs_K MX6_become MX3_become 1 := ⟨⟨rfl, rfl, Nat.le_of_ble_eq_true rfl, Nat.le_of_ble_eq_true rfl⟩, cwX3_become, iwX3_become, ⟨by decide, by decide⟩, by decide +kernel⟩
theorem kk_X6_become_X4_become : zs_K MX6_become MX4_become 1 := ⟨⟨rfl, rfl, Nat.le_of_ble_eq_true rfl, Nat.le_of_ble_eq_true rfl⟩, cwX4_become, iwX4_become, ⟨by decide, by decide⟩, by decide +kernel⟩
theorem kk_X6_become_X5_become : zs_K MX6_become MX5_become 1 := ⟨⟨rfl, rfl, Nat.le_of_ble_eq_true rfl, Nat.le_of_ble_eq_true rfl⟩, cwX5_become, iwX5_become, ⟨by decide, by decide⟩, by decide +kernel⟩
theorem kk_X6_addEye_X11_put : zs_K MX6_addEye MX11_put 3 := ⟨⟨rfl, rfl, Nat.le_of_ble_eq_true rfl, Nat.le_of_ble_eq_true rfl⟩, cwX11_put, iwX11_put, ⟨by decide, by decide⟩, by decide +kernel⟩
theorem kk_X6_turn_X6_flash : zs_K MX6_turn MX6_flash 1 := ⟨⟨rfl, rfl, Nat.le_of_ble_eq_true rfl, Nat.le_of_ble_eq_true rfl⟩, cwX6_flash, iwX6_flash, ⟨by decide, by decide⟩, by decide +kernel⟩
theorem kk_X6_flash_X2_passing : zs_K MX6_flash MX2_passing 3 := ⟨⟨rfl, rfl, Nat.le_of_ble_eq_true rfl, Nat.le_of_ble_eq_true rfl⟩, cwX2_passing, iwX2_passing, ⟨by decide, by decide⟩, by decide +kernel⟩
theorem kk_X6_flash_X11_wrap : zs_K MX6_flash MX11_wrap 2 := ⟨⟨rfl, rfl, Nat.le_of_ble_eq_true rfl, Nat.le_of_ble_eq_true rfl⟩, cwX11_wrap, iwX11_wrap, ⟨by decide, by decide⟩, by decide +kernel⟩
theorem kk_X6_flash_X6_drawingAtHand : zs_K MX6_flash MX6_drawingAtHand 1 := ⟨⟨rfl, rfl, Nat.le_of_ble_eq_true rfl, Nat.le_of_ble_eq_true rfl⟩, cwX6_drawingAtHand, iwX6_drawingAtHand, ⟨by decide, by decide⟩, by decide +kernel⟩
theorem kk_X6_flash_X11_cell : zs_K MX6_flash MX11_cell 2 := ⟨⟨rfl, rfl, Nat.le_of_ble_eq_true rfl, Nat.le_of_ble_eq_true rfl⟩, cwX11_cell, iwX11_cell, ⟨by decide, by decide⟩, by decide +kernel⟩
theorem kk_X6_flash_X1_sight : zs_K MX6_flash MX1_sight 3 := ⟨⟨rfl, rfl, Nat.le_of_ble_eq_true rfl, Nat.le_of_ble_eq_true rfl⟩, cwX1_sight, iwX1_sight, ⟨by decide, by decide⟩, by decide +kernel⟩
theorem kk_X6_flash_J9_min_7cf53 : zs_K MX6_flash MJ9_min_7cf53 2 := ⟨⟨rfl, rfl, Nat.le_of_ble_eq_true rfl, Nat.le_of_ble_eq_true rfl⟩, cwJ9_min_7cf53, iwJ9_min_7cf53, ⟨by decide, by decide⟩, by decide +kernel⟩
theorem kk_X6_flash_X11_put : zs_K MX6_flash MX11_put 3 := ⟨⟨rfl, rfl, Nat.le_of_ble_eq_true rfl, Nat.le_of_ble_eq_true rfl⟩, cwX11_put, iwX11_put, ⟨by decide, by decide⟩, by decide +kernel⟩
theorem kk_X6_drawingAtHand_X11_cell : zs_K MX6_drawingAtHand MX11_cell 2 := ⟨⟨rfl, rfl, Nat.le_of_ble_eq_true rfl, Nat.le_of_ble_eq_true rfl⟩, cwX11_cell, iwX11_cell, ⟨by decide, by decide⟩, by decide +kernel⟩
theorem kk_X6_movesTogether_X11_cell : zs_K MX6_movesTogether MX11_cell 2 := ⟨⟨rfl, rfl, Nat.le_of_ble_eq_true rfl, Nat.le_of_ble_eq_true rfl⟩, cwX11_cell, iwX11_cell, ⟨by decide, by decide⟩, by decide +kernel⟩
theorem kk_X7_begin_X11_fill : zs_K MX7_begin MX11_fill 2 := ⟨⟨rfl, rfl, Nat.le_of_ble_eq_true rfl, Nat.le_of_ble_eq_true rfl⟩, cwX11_fill, iwX11_fill, ⟨by decide, by decide⟩, by decide +kernel⟩
theorem kk_X7_begin_X11_put : zs_K MX7_begin MX11_put 3 := ⟨⟨rfl, rfl, Nat.le_of_ble_eq_true rfl, Nat.le_of_ble_eq_true rfl⟩, cwX11_put, iwX11_put, ⟨by decide, by decide⟩, by decide +kernel⟩
theorem kk_X7_flash_X11_copyRow : zs_K MX7_flash MX11_copyRow 2 := ⟨⟨rfl, rfl, Nat.le_of_ble_eq_true rfl, Nat.le_of_ble_eq_true rfl⟩, cwX11_copyRow, iwX11_copyRow, ⟨by decide, by decide⟩, by decide +kernel⟩
theorem kk_X7_flash_X11_fill : zs_K MX7_flash MX11_fill 2 := ⟨⟨rfl, rfl, Nat.le_of_ble_eq_true rfl, Nat.le_of_ble_eq_true rfl⟩, cwX11_fill, iwX11_fill, ⟨by decide, by decide⟩, by decide +kernel⟩
theorem kk_X7_flash_X11_cell : zs_K MX7_flash MX11_cell 2 := ⟨⟨rfl, rfl, Nat.le_of_ble_eq_true rfl, Nat.le_of_ble_eq_true rfl⟩, cwX11_cell, iwX11_cell, ⟨by decide, by decide⟩, by decide +kernel⟩
theorem kk_X7_flash_X7_add : zs_K MX7_flash MX7_add 2 := ⟨⟨rfl, rfl, Nat.le_of_ble_eq_true rfl, Nat.le_of_ble_eq_true rfl⟩, cwX7_add, iwX7_add, ⟨by decide, by decide⟩, by decide +kernel⟩
theorem kk_X7_flash_X1_sight : zs_K MX7_flash MX1_sight 3 := ⟨⟨rfl, rfl, Nat.le_of_ble_eq_true rfl, Nat.le_of_ble_eq_true rfl⟩, cwX1_sight, iwX1_sight, ⟨by decide, by decide⟩, by decide +kernel⟩
theorem kk_X7_weightOf_X11_cell : zs_K MX7_weightOf MX11_cell 2 := ⟨⟨rfl, rfl, Nat.le_of_ble_eq_true rfl, Nat.le_of_ble_eq_true rfl⟩, cwX11_cell, iwX11_cell, ⟨by decide, by decide⟩, by decide +kernel⟩
theorem kk_X7_add_X7_weightOf : zs_K MX7_add MX7_weightOf 1 := ⟨⟨rfl, rfl, Nat.le_of_ble_eq_true rfl, Nat.le_of_ble_eq_true rfl⟩, cwX7_weightOf, iwX7_weightOf, ⟨by decide, by decide⟩, by decide +kernel⟩
theorem kk_X7_add_X11_put : zs_K MX7_add MX11_put 3 := ⟨⟨rfl, rfl, Nat.le_of_ble_eq_true rfl, Nat.le_of_ble_eq_true rfl⟩, cwX11_put, iwX11_put, ⟨by decide, by decide⟩, by decide +kernel⟩
theorem kk_X8_plan_X8_fillCosts : zs_K MX8_plan MX8_fillCosts 3 := ⟨⟨rfl, rfl, Nat.le_of_ble_eq_true rfl, Nat.le_of_ble_eq_true rfl⟩, cwX8_fillCosts, iwX8_fillCosts, ⟨by decide, by decide⟩, by decide +kernel⟩
theorem kk_X8_plan_X8_cost : zs_K MX8_plan MX8_cost 2 := ⟨⟨rfl, rfl, Nat.le_of_ble_eq_true rfl, Nat.le_of_ble_eq_true rfl⟩, cwX8_cost, iwX8_cost, ⟨by decide, by decide⟩, by decide +kernel⟩
theorem kk_X8_plan_X11_put : zs_K MX8_plan MX11_put 3 := ⟨⟨rfl, rfl, Nat.le_of_ble_eq_true rfl, Nat.le_of_ble_eq_true rfl⟩, cwX11_put, iwX11_put, ⟨by decide, by decide⟩, by decide +kernel⟩
theorem kk_X8_plan_X11_cell : zs_K MX8_plan MX11_cell 2 := ⟨⟨rfl, rfl, Nat.le_of_ble_eq_true rfl, Nat.le_of_ble_eq_true rfl⟩, cwX11_cell, iwX11_cell, ⟨by decide, by decide⟩, by decide +kernel⟩
theorem kk_X8_plan_X8_bestBeside : zs_K MX8_plan MX8_bestBeside 2 := ⟨⟨rfl, rfl, Nat.le_of_ble_eq_true rfl, Nat.le_of_ble_eq_true rfl⟩, cwX8_bestBeside, iwX8_bestBeside, ⟨by decide, by decide⟩, by decide +kernel⟩
theorem kk_X8_fillCosts_X11_cell : zs_K MX8_fillCosts MX11_cell 2 := ⟨⟨rfl, rfl, Nat.le_of_ble_eq_true rfl, Nat.le_of_ble_eq_true rfl⟩, cwX11_cell, iwX11_cell, ⟨by decide, by decide⟩, by decide +kernel⟩
theorem kk_X8_fillCosts_X8_closing : zs_K MX8_fillCosts MX8_closing 2 := ⟨⟨rfl, rfl, Nat.le_of_ble_eq_true rfl, Nat.le_of_ble_eq_true rfl⟩, cwX8_closing, iwX8_closing, ⟨by decide, by decide⟩, by decide +kernel⟩
theorem kk_X8_fillCosts_X8_bestBeside : zs_K MX8_fillCosts MX8_bestBeside 2 := ⟨⟨rfl, rfl, Nat.le_of_ble_eq_true rfl, Nat.le_of_ble_eq_true rfl⟩, cwX8_bestBeside, iwX8_bestBeside, ⟨by decide, by decide⟩, by decide +kernel⟩
theorem kk_X8_fillCosts_X8_cost : zs_K MX8_fillCosts MX8_cost 2 := ⟨⟨rfl, rfl, Nat.le_of_ble_eq_true rfl, Nat.le_of_ble_eq_true rfl⟩, cwX8_cost, iwX8_cost, ⟨by decide, by decide⟩, by decide +kernel⟩
theorem kk_X8_fillCosts_J9_min_7cf53 : zs_K MX8_fillCosts MJ9_min_7cf53 2 := ⟨⟨rfl, rfl, Nat.le_of_ble_eq_true rfl, Nat.le_of_ble_eq_true rfl⟩, cwJ9_min_7cf53, iwJ9_min_7cf53, ⟨by decide, by decide⟩, by decide +kernel⟩
theorem kk_X8_fillCosts_X11_put : zs_K MX8_fillCosts MX11_put 3 := ⟨⟨rfl, rfl, Nat.le_of_ble_eq_true rfl, Nat.le_of_ble_eq_true rfl⟩, cwX11_put, iwX11_put, ⟨by decide, by decide⟩, by decide +kernel⟩
theorem kk_X8_closing_J9_abs_0f7a4 : zs_K MX8_closing MJ9_abs_0f7a4 1 := ⟨⟨rfl, rfl, Nat.le_of_ble_eq_true rfl, Nat.le_of_ble_eq_true rfl⟩, cwJ9_abs_0f7a4, iwJ9_abs_0f7a4, ⟨by decide, by decide⟩, by decide +kernel⟩
theorem kk_X8_bestBeside_J9_max_7cf53 : zs_K MX8_bestBeside MJ9_max_7cf53 2 := ⟨⟨rfl, rfl, Nat.le_of_ble_eq_true rfl, Nat.le_of_ble_eq_true rfl⟩, cwJ9_max_7cf53, iwJ9_max_7cf53, ⟨by decide, by decide⟩, by decide +kernel⟩
theorem kk_X8_bestBeside_X8_cost : zs_K MX8_bestBeside MX8_cost 2 := ⟨⟨rfl, rfl, Nat.le_of_ble_eq_true rfl, Nat.le_of_ble_eq_true rfl⟩, cwX8_cost, iwX8_cost, ⟨by decide, by decide⟩, by decide +kernel⟩
theorem kk_X8_cost_X11_cell : zs_K MX8_cost MX11_cell 2 := ⟨⟨rfl, rfl, Nat.le_of_ble_eq_true rfl, Nat.le_of_ble_eq_true rfl⟩, cwX11_cell, iwX11_cell, ⟨by decide, by decide⟩, by decide +kernel⟩
theorem kk_X9_begin_X11_fill : zs_K MX9_begin MX11_fill 2 := ⟨⟨rfl, rfl, Nat.le_of_ble_eq_true rfl, Nat.le_of_ble_eq_true rfl⟩, cwX11_fill, iwX11_fill, ⟨by decide, by decide⟩, by decide +kernel⟩
theorem kk_X9_add_X11_cell : zs_K MX9_add MX11_cell 2 := ⟨⟨rfl, rfl, Nat.le_of_ble_eq_true rfl, Nat.le_of_ble_eq_true rfl⟩, cwX11_cell, iwX11_cell, ⟨by decide, by decide⟩, by decide +kernel⟩
theorem kk_X9_add_X11_put : zs_K MX9_add MX11_put 3 := ⟨⟨rfl, rfl, Nat.le_of_ble_eq_true rfl, Nat.le_of_ble_eq_true rfl⟩, cwX11_put, iwX11_put, ⟨by decide, by decide⟩, by decide +kernel⟩
theorem kk_X9_add_J9_max_7cf53 : zs_K MX9_add MJ9_max_7cf53 2 := ⟨⟨rfl, rfl, Nat.le_of_ble_eq_true rfl, Nat.le_of_ble_eq_true rfl⟩, cwJ9_max_7cf53, iwJ9_max_7cf53, ⟨by decide, by decide⟩, by decide +kernel⟩
theorem kk_X10_add_X11_put : zs_K MX10_add MX11_put 3 := ⟨⟨rfl, rfl, Nat.le_of_ble_eq_true rfl, Nat.le_of_ble_eq_true rfl⟩, cwX11_put, iwX11_put, ⟨by decide, by decide⟩, by decide +kernel⟩
theorem kk_X10_readDraft_X10_splitTokens : zs_K MX10_readDraft MX10_splitTokens 0 := ⟨⟨rfl, rfl, Nat.le_of_ble_eq_true rfl, Nat.le_of_ble_eq_true rfl⟩, cwX10_splitTokens, iwX10_splitTokens, ⟨by decide, by decide⟩, by decide +kernel⟩
theorem kk_X10_readDraft_X10_nameTokens : zs_K MX10_readDraft MX10_nameTokens 1 := ⟨⟨rfl, rfl, Nat.le_of_ble_eq_true rfl, Nat.le_of_ble_eq_true rfl⟩, cwX10_nameTokens, iwX10_nameTokens, ⟨by decide, by decide⟩, by decide +kernel⟩
theorem kk_X10_readDraft_X10_token : zs_K MX10_readDraft MX10_token 0 := ⟨⟨rfl, rfl, Nat.le_of_ble_eq_true rfl, Nat.le_of_ble_eq_true rfl⟩, cwX10_token, iwX10_token, ⟨by decide, by decide⟩, by decide +kernel⟩
theorem kk_X10_readDraft_X10_takeDrum : zs_K MX10_readDraft MX10_takeDrum 0 := ⟨⟨rfl, rfl, Nat.le_of_ble_eq_true rfl, Nat.le_of_ble_eq_true rfl⟩, cwX10_takeDrum, iwX10_takeDrum, ⟨by decide, by decide⟩, by decide +kernel⟩
theorem kk_X10_readDraft_X10_fault : zs_K MX10_readDraft MX10_fault 0 := ⟨⟨rfl, rfl, Nat.le_of_ble_eq_true rfl, Nat.le_of_ble_eq_true rfl⟩, cwX10_fault, iwX10_fault, ⟨by decide, by decide⟩, by decide +kernel⟩
theorem kk_X10_readDraft_X10_takeItem : zs_K MX10_readDraft MX10_takeItem 0 := ⟨⟨rfl, rfl, Nat.le_of_ble_eq_true rfl, Nat.le_of_ble_eq_true rfl⟩, cwX10_takeItem, iwX10_takeItem, ⟨by decide, by decide⟩, by decide +kernel⟩
theorem kk_X10_fault_X11_cell : zs_K MX10_fault MX11_cell 2 := ⟨⟨rfl, rfl, Nat.le_of_ble_eq_true rfl, Nat.le_of_ble_eq_true rfl⟩, cwX11_cell, iwX11_cell, ⟨by decide, by decide⟩, by decide +kernel⟩
theorem kk_X10_takeDrum_X10_takeNumber : zs_K MX10_takeDrum MX10_takeNumber 2 := ⟨⟨rfl, rfl, Nat.le_of_ble_eq_true rfl, Nat.le_of_ble_eq_true rfl⟩, cwX10_takeNumber, iwX10_takeNumber, ⟨by decide, by decide⟩, by decide +kernel⟩
theorem kk_X10_takeDrum_X10_value : zs_K MX10_takeDrum MX10_value 0 := ⟨⟨rfl, rfl, Nat.le_of_ble_eq_true rfl, Nat.le_of_ble_eq_true rfl⟩, cwX10_value, iwX10_value, ⟨by decide, by decide⟩, by decide +kernel⟩
theorem kk_X10_takeDrum_X6_begin : zs_K MX10_takeDrum MX6_begin 3 := ⟨⟨rfl, rfl, Nat.le_of_ble_eq_true rfl, Nat.le_of_ble_eq_true rfl⟩, cwX6_begin, iwX6_begin, ⟨by decide, by decide⟩, by decide +kernel⟩
theorem kk_X10_takeDrum_X10_takeStop : zs_K MX10_takeDrum MX10_takeStop 0 := ⟨⟨rfl, rfl, Nat.le_of_ble_eq_true rfl, Nat.le_of_ble_eq_true rfl⟩, cwX10_takeStop, iwX10_takeStop, ⟨by decide, by decide⟩, by decide +kernel⟩
theorem kk_X10_takeItem_X10_token : zs_K MX10_takeItem MX10_token 0 := ⟨⟨rfl, rfl, Nat.le_of_ble_eq_true rfl, Nat.le_of_ble_eq_true rfl⟩, cwX10_token, iwX10_token, ⟨by decide, by decide⟩, by decide +kernel⟩
theorem kk_X10_takeItem_X10_takeDraw : zs_K MX10_takeItem MX10_takeDraw 0 := ⟨⟨rfl, rfl, Nat.le_of_ble_eq_true rfl, Nat.le_of_ble_eq_true rfl⟩, cwX10_takeDraw, iwX10_takeDraw, ⟨by decide, by decide⟩, by decide +kernel⟩
theorem kk_X10_takeItem_X10_takeNumber : zs_K MX10_takeItem MX10_takeNumber 2 := ⟨⟨rfl, rfl, Nat.le_of_ble_eq_true rfl, Nat.le_of_ble_eq_true rfl⟩, cwX10_takeNumber, iwX10_takeNumber, ⟨by decide, by decide⟩, by decide +kernel⟩
theorem kk_X10_takeItem_X10_value : zs_K MX10_takeItem MX10_value 0 := ⟨⟨rfl, rfl, Nat.le_of_ble_eq_true rfl, Nat.le_of_ble_eq_true rfl⟩, cwX10_value, iwX10_value, ⟨by decide, by decide⟩, by decide +kernel⟩
theorem kk_X10_takeItem_X6_addEye : zs_K MX10_takeItem MX6_addEye 1 := ⟨⟨rfl, rfl, Nat.le_of_ble_eq_true rfl, Nat.le_of_ble_eq_true rfl⟩, cwX6_addEye, iwX6_addEye, ⟨by decide, by decide⟩, by decide +kernel⟩
theorem kk_X10_takeItem_X10_takeStop : zs_K MX10_takeItem MX10_takeStop 0 := ⟨⟨rfl, rfl, Nat.le_of_ble_eq_true rfl, Nat.le_of_ble_eq_true rfl⟩, cwX10_takeStop, iwX10_takeStop, ⟨by decide, by decide⟩, by decide +kernel⟩
theorem kk_X10_takeItem_X6_turn : zs_K MX10_takeItem MX6_turn 1 := ⟨⟨rfl, rfl, Nat.le_of_ble_eq_true rfl, Nat.le_of_ble_eq_true rfl⟩, cwX6_turn, iwX6_turn, ⟨by decide, by decide⟩, by decide +kernel⟩
theorem kk_X10_takeDraw_X10_takeNumber : zs_K MX10_takeDraw MX10_takeNumber 2 := ⟨⟨rfl, rfl, Nat.le_of_ble_eq_true rfl, Nat.le_of_ble_eq_true rfl⟩, cwX10_takeNumber, iwX10_takeNumber, ⟨by decide, by decide⟩, by decide +kernel⟩
theorem kk_X10_takeDraw_X10_token : zs_K MX10_takeDraw MX10_token 0 := ⟨⟨rfl, rfl, Nat.le_of_ble_eq_true rfl, Nat.le_of_ble_eq_true rfl⟩, cwX10_token, iwX10_token, ⟨by decide, by decide⟩, by decide +kernel⟩
theorem kk_X10_takeDraw_X10_value : zs_K MX10_takeDraw MX10_value 0 := ⟨⟨rfl, rfl, Nat.le_of_ble_eq_true rfl, Nat.le_of_ble_eq_true rfl⟩, cwX10_value, iwX10_value, ⟨by decide, by decide⟩, by decide +kernel⟩
theorem kk_X10_takeDraw_X11_put : zs_K MX10_takeDraw MX11_put 3 := ⟨⟨rfl, rfl, Nat.le_of_ble_eq_true rfl, Nat.le_of_ble_eq_true rfl⟩, cwX11_put, iwX11_put, ⟨by decide, by decide⟩, by decide +kernel⟩
theorem kk_X10_takeDraw_X10_takeStop : zs_K MX10_takeDraw MX10_takeStop 0 := ⟨⟨rfl, rfl, Nat.le_of_ble_eq_true rfl, Nat.le_of_ble_eq_true rfl⟩, cwX10_takeStop, iwX10_takeStop, ⟨by decide, by decide⟩, by decide +kernel⟩
theorem kk_X10_takeNumber_X10_token : zs_K MX10_takeNumber MX10_token 0 := ⟨⟨rfl, rfl, Nat.le_of_ble_eq_true rfl, Nat.le_of_ble_eq_true rfl⟩, cwX10_token, iwX10_token, ⟨by decide, by decide⟩, by decide +kernel⟩
theorem kk_X10_takeNumber_X10_value : zs_K MX10_takeNumber MX10_value 0 := ⟨⟨rfl, rfl, Nat.le_of_ble_eq_true rfl, Nat.le_of_ble_eq_true rfl⟩, cwX10_value, iwX10_value, ⟨by decide, by decide⟩, by decide +kernel⟩
theorem kk_X10_takeNumber_X11_within : zs_K MX10_takeNumber MX11_within 3 := ⟨⟨rfl, rfl, Nat.le_of_ble_eq_true rfl, Nat.le_of_ble_eq_true rfl⟩, cwX11_within, iwX11_within, ⟨by decide, by decide⟩, by decide +kernel⟩
theorem kk_X10_takeStop_X10_token : zs_K MX10_takeStop MX10_token 0 := ⟨⟨rfl, rfl, Nat.le_of_ble_eq_true rfl, Nat.le_of_ble_eq_true rfl⟩, cwX10_token, iwX10_token, ⟨by decide, by decide⟩, by decide +kernel⟩
theorem kk_X10_token_X11_cell : zs_K MX10_token MX11_cell 2 := ⟨⟨rfl, rfl, Nat.le_of_ble_eq_true rfl, Nat.le_of_ble_eq_true rfl⟩, cwX11_cell, iwX11_cell, ⟨by decide, by decide⟩, by decide +kernel⟩
theorem kk_X10_value_X11_cell : zs_K MX10_value MX11_cell 2 := ⟨⟨rfl, rfl, Nat.le_of_ble_eq_true rfl, Nat.le_of_ble_eq_true rfl⟩, cwX11_cell, iwX11_cell, ⟨by decide, by decide⟩, by decide +kernel⟩
theorem kk_X10_splitTokens_X11_cell : zs_K MX10_splitTokens MX11_cell 2 := ⟨⟨rfl, rfl, Nat.le_of_ble_eq_true rfl, Nat.le_of_ble_eq_true rfl⟩, cwX11_cell, iwX11_cell, ⟨by decide, by decide⟩, by decide +kernel⟩
theorem kk_X10_splitTokens_X10_sortOf : zs_K MX10_splitTokens MX10_sortOf 1 := ⟨⟨rfl, rfl, Nat.le_of_ble_eq_true rfl, Nat.le_of_ble_eq_true rfl⟩, cwX10_sortOf, iwX10_sortOf, ⟨by decide, by decide⟩, by decide +kernel⟩
theorem kk_X10_splitTokens_X11_put : zs_K MX10_splitTokens MX11_put 3 := ⟨⟨rfl, rfl, Nat.le_of_ble_eq_true rfl, Nat.le_of_ble_eq_true rfl⟩, cwX11_put, iwX11_put, ⟨by decide, by decide⟩, by decide +kernel⟩
theorem kk_X10_nameTokens_X11_cell : zs_K MX10_nameTokens MX11_cell 2 := ⟨⟨rfl, rfl, Nat.le_of_ble_eq_true rfl, Nat.le_of_ble_eq_true rfl⟩, cwX11_cell, iwX11_cell, ⟨by decide, by decide⟩, by decide +kernel⟩
theorem kk_X10_nameTokens_X10_tokenFrom : zs_K MX10_nameTokens MX10_tokenFrom 2 := ⟨⟨rfl, rfl, Nat.le_of_ble_eq_true rfl, Nat.le_of_ble_eq_true rfl⟩, cwX10_tokenFrom, iwX10_tokenFrom, ⟨by decide, by decide⟩, by decide +kernel⟩
theorem kk_X10_nameTokens_X11_put : zs_K MX10_nameTokens MX11_put 3 := ⟨⟨rfl, rfl, Nat.le_of_ble_eq_true rfl, Nat.le_of_ble_eq_true rfl⟩, cwX11_put, iwX11_put, ⟨by decide, by decide⟩, by decide +kernel⟩
theorem kk_X10_nameTokens_X10_numberFrom : zs_K MX10_nameTokens MX10_numberFrom 2 := ⟨⟨rfl, rfl, Nat.le_of_ble_eq_true rfl, Nat.le_of_ble_eq_true rfl⟩, cwX10_numberFrom, iwX10_numberFrom, ⟨by decide, by decide⟩, by decide +kernel⟩
theorem kk_X10_tokenFrom_X11_cell : zs_K MX10_tokenFrom MX11_cell 2 := ⟨⟨rfl, rfl, Nat.le_of_ble_eq_true rfl, Nat.le_of_ble_eq_true rfl⟩, cwX11_cell, iwX11_cell, ⟨by decide, by decide⟩, by decide +kernel⟩
theorem kk_X10_tokenFrom_X10_sortOf : zs_K MX10_tokenFrom MX10_sortOf 1 := ⟨⟨rfl, rfl, Nat.le_of_ble_eq_true rfl, Nat.le_of_ble_eq_true rfl⟩, cwX10_sortOf, iwX10_sortOf, ⟨by decide, by decide⟩, by decide +kernel⟩
theorem kk_X10_tokenFrom_X10_wordFrom : zs_K MX10_tokenFrom MX10_wordFrom 2 := ⟨⟨rfl, rfl, Nat.le_of_ble_eq_true rfl, Nat.le_of_ble_eq_true rfl⟩, cwX10_wordFrom, iwX10_wordFrom, ⟨by decide, by decide⟩, by decide +kernel⟩
theorem kk_X10_wordFrom_X10_isWord : zs_K MX10_wordFrom MX10_isWord 3 := ⟨⟨rfl, rfl, Nat.le_of_ble_eq_true rfl, Nat.le_of_ble_eq_true rfl⟩, cwX10_isWord, iwX10_isWord, ⟨by decide, by decide⟩, by decide +kernel⟩
theorem kk_X10_isWord_J0_length_8abf5 : zs_K MX10_isWord MJ0_length_8abf5 0 := ⟨⟨rfl, rfl, Nat.le_of_ble_eq_true rfl, Nat.le_of_ble_eq_true rfl⟩, cwJ0_length_8abf5, iwJ0_length_8abf5, ⟨by decide, by decide⟩, by decide +kernel⟩
theorem kk_X10_isWord_X11_cell : zs_K MX10_isWord MX11_cell 2 := ⟨⟨rfl, rfl, Nat.le_of_ble_eq_true rfl, Nat.le_of_ble_eq_true rfl⟩, cwX11_cell, iwX11_cell, ⟨by decide, by decide⟩, by decide +kernel⟩
theorem kk_X10_isWord_J0_charAt_5068e : zs_K MX10_isWord MJ0_charAt_5068e 1 := ⟨⟨rfl, rfl, Nat.le_of_ble_eq_true rfl, Nat.le_of_ble_eq_true rfl⟩, cwJ0_charAt_5068e, iwJ0_charAt_5068e, ⟨by decide, by decide⟩, by decide +kernel⟩
theorem kk_X10_numberFrom_X11_cell : zs_K MX10_numberFrom MX11_cell 2 := ⟨⟨rfl, rfl, Nat.le_of_ble_eq_true rfl, Nat.le_of_ble_eq_true rfl⟩, cwX11_cell, iwX11_cell, ⟨by decide, by decide⟩, by decide +kernel⟩
theorem kk_X11_drum_X11_within : zs_K MX11_drum MX11_within 3 := ⟨⟨rfl, rfl, Nat.le_of_ble_eq_true rfl, Nat.le_of_ble_eq_true rfl⟩, cwX11_within, iwX11_within, ⟨by decide, by decide⟩, by decide +kernel⟩
theorem kk_X11_drum_X11_isKind : zs_K MX11_drum MX11_isKind 1 := ⟨⟨rfl, rfl, Nat.le_of_ble_eq_true rfl, Nat.le_of_ble_eq_true rfl⟩, cwX11_isKind, iwX11_isKind, ⟨by decide, by decide⟩, by decide +kernel⟩
theorem kk_X11_drum_X11_isStep : zs_K MX11_drum MX11_isStep 1 := ⟨⟨rfl, rfl, Nat.le_of_ble_eq_true rfl, Nat.le_of_ble_eq_true rfl⟩, cwX11_isStep, iwX11_isStep, ⟨by decide, by decide⟩, by decide +kernel⟩
theorem kk_X11_drum_X11_refuseBad : zs_K MX11_drum MX11_refuseBad 1 := ⟨⟨rfl, rfl, Nat.le_of_ble_eq_true rfl, Nat.le_of_ble_eq_true rfl⟩, cwX11_refuseBad, iwX11_refuseBad, ⟨by decide, by decide⟩, by decide +kernel⟩
theorem kk_X11_drum_X6_begin : zs_K MX11_drum MX6_begin 3 := ⟨⟨rfl, rfl, Nat.le_of_ble_eq_true rfl, Nat.le_of_ble_eq_true rfl⟩, cwX6_begin, iwX6_begin, ⟨by decide, by decide⟩, by decide +kernel⟩
theorem kk_X11_lamp_X11_isKind : zs_K MX11_lamp MX11_isKind 1 := ⟨⟨rfl, rfl, Nat.le_of_ble_eq_true rfl, Nat.le_of_ble_eq_true rfl⟩, cwX11_isKind, iwX11_isKind, ⟨by decide, by decide⟩, by decide +kernel⟩
theorem kk_X11_lamp_X11_refuseBad : zs_K MX11_lamp MX11_refuseBad 1 := ⟨⟨rfl, rfl, Nat.le_of_ble_eq_true rfl, Nat.le_of_ble_eq_true rfl⟩, cwX11_refuseBad, iwX11_refuseBad, ⟨by decide, by decide⟩, by decide +kernel⟩
theorem kk_X11_lamp_X4_empty : zs_K MX11_lamp MX4_empty 0 := ⟨⟨rfl, rfl, Nat.le_of_ble_eq_true rfl, Nat.le_of_ble_eq_true rfl⟩, cwX4_empty, iwX4_empty, ⟨by decide, by decide⟩, by decide +kernel⟩
theorem kk_X11_eye_X11_isKind : zs_K MX11_eye MX11_isKind 1 := ⟨⟨rfl, rfl, Nat.le_of_ble_eq_true rfl, Nat.le_of_ble_eq_true rfl⟩, cwX11_isKind, iwX11_isKind, ⟨by decide, by decide⟩, by decide +kernel⟩
theorem kk_X11_eye_X11_refuseBad : zs_K MX11_eye MX11_refuseBad 1 := ⟨⟨rfl, rfl, Nat.le_of_ble_eq_true rfl, Nat.le_of_ble_eq_true rfl⟩, cwX11_refuseBad, iwX11_refuseBad, ⟨by decide, by decide⟩, by decide +kernel⟩
theorem kk_X11_eye_X11_refuseFull : zs_K MX11_eye MX11_refuseFull 0 := ⟨⟨rfl, rfl, Nat.le_of_ble_eq_true rfl, Nat.le_of_ble_eq_true rfl⟩, cwX11_refuseFull, iwX11_refuseFull, ⟨by decide, by decide⟩, by decide +kernel⟩
theorem kk_X11_eye_X6_addEye : zs_K MX11_eye MX6_addEye 1 := ⟨⟨rfl, rfl, Nat.le_of_ble_eq_true rfl, Nat.le_of_ble_eq_true rfl⟩, cwX6_addEye, iwX6_addEye, ⟨by decide, by decide⟩, by decide +kernel⟩
theorem kk_X11_eye_X4_empty : zs_K MX11_eye MX4_empty 0 := ⟨⟨rfl, rfl, Nat.le_of_ble_eq_true rfl, Nat.le_of_ble_eq_true rfl⟩, cwX4_empty, iwX4_empty, ⟨by decide, by decide⟩, by decide +kernel⟩
theorem kk_X11_type_X11_within : zs_K MX11_type MX11_within 3 := ⟨⟨rfl, rfl, Nat.le_of_ble_eq_true rfl, Nat.le_of_ble_eq_true rfl⟩, cwX11_within, iwX11_within, ⟨by decide, by decide⟩, by decide +kernel⟩
theorem kk_X11_type_X11_refuseBad : zs_K MX11_type MX11_refuseBad 1 := ⟨⟨rfl, rfl, Nat.le_of_ble_eq_true rfl, Nat.le_of_ble_eq_true rfl⟩, cwX11_refuseBad, iwX11_refuseBad, ⟨by decide, by decide⟩, by decide +kernel⟩
theorem kk_X11_type_X10_isFull : zs_K MX11_type MX10_isFull 0 := ⟨⟨rfl, rfl, Nat.le_of_ble_eq_true rfl, Nat.le_of_ble_eq_true rfl⟩, cwX10_isFull, iwX10_isFull, ⟨by decide, by decide⟩, by decide +kernel⟩
theorem kk_X11_type_X11_refuseFull : zs_K MX11_type MX11_refuseFull 0 := ⟨⟨rfl, rfl, Nat.le_of_ble_eq_true rfl, Nat.le_of_ble_eq_true rfl⟩, cwX11_refuseFull, iwX11_refuseFull, ⟨by decide, by decide⟩, by decide +kernel⟩
theorem kk_X11_type_X10_add : zs_K MX11_type MX10_add 1 := ⟨⟨rfl, rfl, Nat.le_of_ble_eq_true rfl, Nat.le_of_ble_eq_true rfl⟩, cwX10_add, iwX10_add, ⟨by decide, by decide⟩, by decide +kernel⟩
theorem kk_X11_clear_X10_empty : zs_K MX11_clear MX10_empty 0 := ⟨⟨rfl, rfl, Nat.le_of_ble_eq_true rfl, Nat.le_of_ble_eq_true rfl⟩, cwX10_empty, iwX10_empty, ⟨by decide, by decide⟩, by decide +kernel⟩
theorem kk_X11_read_X10_readDraft : zs_K MX11_read MX10_readDraft 0 := ⟨⟨rfl, rfl, Nat.le_of_ble_eq_true rfl, Nat.le_of_ble_eq_true rfl⟩, cwX10_readDraft, iwX10_readDraft, ⟨by decide, by decide⟩, by decide +kernel⟩
theorem kk_X11_read_X6_become : zs_K MX11_read MX6_become 1 := ⟨⟨rfl, rfl, Nat.le_of_ble_eq_true rfl, Nat.le_of_ble_eq_true rfl⟩, cwX6_become, iwX6_become, ⟨by decide, by decide⟩, by decide +kernel⟩
theorem kk_X11_spins_X11_within : zs_K MX11_spins MX11_within 3 := ⟨⟨rfl, rfl, Nat.le_of_ble_eq_true rfl, Nat.le_of_ble_eq_true rfl⟩, cwX11_within, iwX11_within, ⟨by decide, by decide⟩, by decide +kernel⟩
theorem kk_X11_spins_X11_refuseBad : zs_K MX11_spins MX11_refuseBad 1 := ⟨⟨rfl, rfl, Nat.le_of_ble_eq_true rfl, Nat.le_of_ble_eq_true rfl⟩, cwX11_refuseBad, iwX11_refuseBad, ⟨by decide, by decide⟩, by decide +kernel⟩
theorem kk_X11_spins_X4_push : zs_K MX11_spins MX4_push 1 := ⟨⟨rfl, rfl, Nat.le_of_ble_eq_true rfl, Nat.le_of_ble_eq_true rfl⟩, cwX4_push, iwX4_push, ⟨by decide, by decide⟩, by decide +kernel⟩
theorem kk_X11_spins_X6_turn : zs_K MX11_spins MX6_turn 1 := ⟨⟨rfl, rfl, Nat.le_of_ble_eq_true rfl, Nat.le_of_ble_eq_true rfl⟩, cwX6_turn, iwX6_turn, ⟨by decide, by decide⟩, by decide +kernel⟩
theorem kk_X11_steps_X11_isStep : zs_K MX11_steps MX11_isStep 1 := ⟨⟨rfl, rfl, Nat.le_of_ble_eq_true rfl, Nat.le_of_ble_eq_true rfl⟩, cwX11_isStep, iwX11_isStep, ⟨by decide, by decide⟩, by decide +kernel⟩
theorem kk_X11_steps_X11_refuseBad : zs_K MX11_steps MX11_refuseBad 1 := ⟨⟨rfl, rfl, Nat.le_of_ble_eq_true rfl, Nat.le_of_ble_eq_true rfl⟩, cwX11_refuseBad, iwX11_refuseBad, ⟨by decide, by decide⟩, by decide +kernel⟩
theorem kk_X11_steps_X11_refuseNo : zs_K MX11_steps MX11_refuseNo 0 := ⟨⟨rfl, rfl, Nat.le_of_ble_eq_true rfl, Nat.le_of_ble_eq_true rfl⟩, cwX11_refuseNo, iwX11_refuseNo, ⟨by decide, by decide⟩, by decide +kernel⟩
theorem kk_X11_steps_X4_push : zs_K MX11_steps MX4_push 1 := ⟨⟨rfl, rfl, Nat.le_of_ble_eq_true rfl, Nat.le_of_ble_eq_true rfl⟩, cwX4_push, iwX4_push, ⟨by decide, by decide⟩, by decide +kernel⟩
theorem kk_X11_draws_X11_isFrame : zs_K MX11_draws MX11_isFrame 1 := ⟨⟨rfl, rfl, Nat.le_of_ble_eq_true rfl, Nat.le_of_ble_eq_true rfl⟩, cwX11_isFrame, iwX11_isFrame, ⟨by decide, by decide⟩, by decide +kernel⟩
theorem kk_X11_draws_X11_isDrawing : zs_K MX11_draws MX11_isDrawing 1 := ⟨⟨rfl, rfl, Nat.le_of_ble_eq_true rfl, Nat.le_of_ble_eq_true rfl⟩, cwX11_isDrawing, iwX11_isDrawing, ⟨by decide, by decide⟩, by decide +kernel⟩
theorem kk_X11_draws_X11_refuseBad : zs_K MX11_draws MX11_refuseBad 1 := ⟨⟨rfl, rfl, Nat.le_of_ble_eq_true rfl, Nat.le_of_ble_eq_true rfl⟩, cwX11_refuseBad, iwX11_refuseBad, ⟨by decide, by decide⟩, by decide +kernel⟩
theorem kk_X11_draws_X11_cell : zs_K MX11_draws MX11_cell 2 := ⟨⟨rfl, rfl, Nat.le_of_ble_eq_true rfl, Nat.le_of_ble_eq_true rfl⟩, cwX11_cell, iwX11_cell, ⟨by decide, by decide⟩, by decide +kernel⟩
theorem kk_X11_draws_X11_refuseNo : zs_K MX11_draws MX11_refuseNo 0 := ⟨⟨rfl, rfl, Nat.le_of_ble_eq_true rfl, Nat.le_of_ble_eq_true rfl⟩, cwX11_refuseNo, iwX11_refuseNo, ⟨by decide, by decide⟩, by decide +kernel⟩
theorem kk_X11_draws_X4_push : zs_K MX11_draws MX4_push 1 := ⟨⟨rfl, rfl, Nat.le_of_ble_eq_true rfl, Nat.le_of_ble_eq_true rfl⟩, cwX4_push, iwX4_push, ⟨by decide, by decide⟩, by decide +kernel⟩
theorem kk_X11_draws_X11_put : zs_K MX11_draws MX11_put 3 := ⟨⟨rfl, rfl, Nat.le_of_ble_eq_true rfl, Nat.le_of_ble_eq_true rfl⟩, cwX11_put, iwX11_put, ⟨by decide, by decide⟩, by decide +kernel⟩
theorem kk_X11_undo_X11_refuseNo : zs_K MX11_undo MX11_refuseNo 0 := ⟨⟨rfl, rfl, Nat.le_of_ble_eq_true rfl, Nat.le_of_ble_eq_true rfl⟩, cwX11_refuseNo, iwX11_refuseNo, ⟨by decide, by decide⟩, by decide +kernel⟩
theorem kk_X11_undo_X4_pop : zs_K MX11_undo MX4_pop 1 := ⟨⟨rfl, rfl, Nat.le_of_ble_eq_true rfl, Nat.le_of_ble_eq_true rfl⟩, cwX4_pop, iwX4_pop, ⟨by decide, by decide⟩, by decide +kernel⟩
theorem kk_X11_of_X11_isEye : zs_K MX11_of MX11_isEye 1 := ⟨⟨rfl, rfl, Nat.le_of_ble_eq_true rfl, Nat.le_of_ble_eq_true rfl⟩, cwX11_isEye, iwX11_isEye, ⟨by decide, by decide⟩, by decide +kernel⟩
theorem kk_X11_of_X11_refuseBad : zs_K MX11_of MX11_refuseBad 1 := ⟨⟨rfl, rfl, Nat.le_of_ble_eq_true rfl, Nat.le_of_ble_eq_true rfl⟩, cwX11_refuseBad, iwX11_refuseBad, ⟨by decide, by decide⟩, by decide +kernel⟩
theorem kk_X11_of_X11_cell : zs_K MX11_of MX11_cell 2 := ⟨⟨rfl, rfl, Nat.le_of_ble_eq_true rfl, Nat.le_of_ble_eq_true rfl⟩, cwX11_cell, iwX11_cell, ⟨by decide, by decide⟩, by decide +kernel⟩
theorem kk_X11_drawn_X11_isFrame : zs_K MX11_drawn MX11_isFrame 1 := ⟨⟨rfl, rfl, Nat.le_of_ble_eq_true rfl, Nat.le_of_ble_eq_true rfl⟩, cwX11_isFrame, iwX11_isFrame, ⟨by decide, by decide⟩, by decide +kernel⟩
theorem kk_X11_drawn_X11_cell : zs_K MX11_drawn MX11_cell 2 := ⟨⟨rfl, rfl, Nat.le_of_ble_eq_true rfl, Nat.le_of_ble_eq_true rfl⟩, cwX11_cell, iwX11_cell, ⟨by decide, by decide⟩, by decide +kernel⟩
theorem kk_X11_drawn_X11_refuseBad : zs_K MX11_drawn MX11_refuseBad 1 := ⟨⟨rfl, rfl, Nat.le_of_ble_eq_true rfl, Nat.le_of_ble_eq_true rfl⟩, cwX11_refuseBad, iwX11_refuseBad, ⟨by decide, by decide⟩, by decide +kernel⟩
theorem kk_X11_at_X11_within : zs_K MX11_at MX11_within 3 := ⟨⟨rfl, rfl, Nat.le_of_ble_eq_true rfl, Nat.le_of_ble_eq_true rfl⟩, cwX11_within, iwX11_within, ⟨by decide, by decide⟩, by decide +kernel⟩
theorem kk_X11_at_X11_refuseBad : zs_K MX11_at MX11_refuseBad 1 := ⟨⟨rfl, rfl, Nat.le_of_ble_eq_true rfl, Nat.le_of_ble_eq_true rfl⟩, cwX11_refuseBad, iwX11_refuseBad, ⟨by decide, by decide⟩, by decide +kernel⟩
theorem kk_X11_at_X11_tryFlashes : zs_K MX11_at MX11_tryFlashes 2 := ⟨⟨rfl, rfl, Nat.le_of_ble_eq_true rfl, Nat.le_of_ble_eq_true rfl⟩, cwX11_tryFlashes, iwX11_tryFlashes, ⟨by decide, by decide⟩, by decide +kernel⟩
theorem kk_X11_sees_X11_isEye : zs_K MX11_sees MX11_isEye 1 := ⟨⟨rfl, rfl, Nat.le_of_ble_eq_true rfl, Nat.le_of_ble_eq_true rfl⟩, cwX11_isEye, iwX11_isEye, ⟨by decide, by decide⟩, by decide +kernel⟩
theorem kk_X11_sees_X11_within : zs_K MX11_sees MX11_within 3 := ⟨⟨rfl, rfl, Nat.le_of_ble_eq_true rfl, Nat.le_of_ble_eq_true rfl⟩, cwX11_within, iwX11_within, ⟨by decide, by decide⟩, by decide +kernel⟩
theorem kk_X11_sees_X11_refuseBad : zs_K MX11_sees MX11_refuseBad 1 := ⟨⟨rfl, rfl, Nat.le_of_ble_eq_true rfl, Nat.le_of_ble_eq_true rfl⟩, cwX11_refuseBad, iwX11_refuseBad, ⟨by decide, by decide⟩, by decide +kernel⟩
theorem kk_X11_sees_X11_tryFlashes : zs_K MX11_sees MX11_tryFlashes 2 := ⟨⟨rfl, rfl, Nat.le_of_ble_eq_true rfl, Nat.le_of_ble_eq_true rfl⟩, cwX11_tryFlashes, iwX11_tryFlashes, ⟨by decide, by decide⟩, by decide +kernel⟩
theorem kk_X11_sees_X11_cell : zs_K MX11_sees MX11_cell 2 := ⟨⟨rfl, rfl, Nat.le_of_ble_eq_true rfl, Nat.le_of_ble_eq_true rfl⟩, cwX11_cell, iwX11_cell, ⟨by decide, by decide⟩, by decide +kernel⟩
theorem kk_X11_round_X11_startTrial : zs_K MX11_round MX11_startTrial 1 := ⟨⟨rfl, rfl, Nat.le_of_ble_eq_true rfl, Nat.le_of_ble_eq_true rfl⟩, cwX11_startTrial, iwX11_startTrial, ⟨by decide, by decide⟩, by decide +kernel⟩
theorem kk_X11_round_X6_flash : zs_K MX11_round MX6_flash 1 := ⟨⟨rfl, rfl, Nat.le_of_ble_eq_true rfl, Nat.le_of_ble_eq_true rfl⟩, cwX6_flash, iwX6_flash, ⟨by decide, by decide⟩, by decide +kernel⟩
theorem kk_X11_round_X11_trialIsAsNow : zs_K MX11_round MX11_trialIsAsNow 0 := ⟨⟨rfl, rfl, Nat.le_of_ble_eq_true rfl, Nat.le_of_ble_eq_true rfl⟩, cwX11_trialIsAsNow, iwX11_trialIsAsNow, ⟨by decide, by decide⟩, by decide +kernel⟩
theorem kk_X11_still_X11_within : zs_K MX11_still MX11_within 3 := ⟨⟨rfl, rfl, Nat.le_of_ble_eq_true rfl, Nat.le_of_ble_eq_true rfl⟩, cwX11_within, iwX11_within, ⟨by decide, by decide⟩, by decide +kernel⟩
theorem kk_X11_still_X11_refuseBad : zs_K MX11_still MX11_refuseBad 1 := ⟨⟨rfl, rfl, Nat.le_of_ble_eq_true rfl, Nat.le_of_ble_eq_true rfl⟩, cwX11_refuseBad, iwX11_refuseBad, ⟨by decide, by decide⟩, by decide +kernel⟩
theorem kk_X11_still_X11_standsStill : zs_K MX11_still MX11_standsStill 2 := ⟨⟨rfl, rfl, Nat.le_of_ble_eq_true rfl, Nat.le_of_ble_eq_true rfl⟩, cwX11_standsStill, iwX11_standsStill, ⟨by decide, by decide⟩, by decide +kernel⟩
theorem kk_X11_most_X11_isEye : zs_K MX11_most MX11_isEye 1 := ⟨⟨rfl, rfl, Nat.le_of_ble_eq_true rfl, Nat.le_of_ble_eq_true rfl⟩, cwX11_isEye, iwX11_isEye, ⟨by decide, by decide⟩, by decide +kernel⟩
theorem kk_X11_most_X11_within : zs_K MX11_most MX11_within 3 := ⟨⟨rfl, rfl, Nat.le_of_ble_eq_true rfl, Nat.le_of_ble_eq_true rfl⟩, cwX11_within, iwX11_within, ⟨by decide, by decide⟩, by decide +kernel⟩
theorem kk_X11_most_X11_refuseBad : zs_K MX11_most MX11_refuseBad 1 := ⟨⟨rfl, rfl, Nat.le_of_ble_eq_true rfl, Nat.le_of_ble_eq_true rfl⟩, cwX11_refuseBad, iwX11_refuseBad, ⟨by decide, by decide⟩, by decide +kernel⟩
theorem kk_X11_most_X11_tryFlashes : zs_K MX11_most MX11_tryFlashes 2 := ⟨⟨rfl, rfl, Nat.le_of_ble_eq_true rfl, Nat.le_of_ble_eq_true rfl⟩, cwX11_tryFlashes, iwX11_tryFlashes, ⟨by decide, by decide⟩, by decide +kernel⟩
theorem kk_X11_most_X11_cell : zs_K MX11_most MX11_cell 2 := ⟨⟨rfl, rfl, Nat.le_of_ble_eq_true rfl, Nat.le_of_ble_eq_true rfl⟩, cwX11_cell, iwX11_cell, ⟨by decide, by decide⟩, by decide +kernel⟩
theorem kk_X11_smooth_X11_isFrame : zs_K MX11_smooth MX11_isFrame 1 := ⟨⟨rfl, rfl, Nat.le_of_ble_eq_true rfl, Nat.le_of_ble_eq_true rfl⟩, cwX11_isFrame, iwX11_isFrame, ⟨by decide, by decide⟩, by decide +kernel⟩
theorem kk_X11_smooth_X11_refuseBad : zs_K MX11_smooth MX11_refuseBad 1 := ⟨⟨rfl, rfl, Nat.le_of_ble_eq_true rfl, Nat.le_of_ble_eq_true rfl⟩, cwX11_refuseBad, iwX11_refuseBad, ⟨by decide, by decide⟩, by decide +kernel⟩
theorem kk_X11_smooth_X8_plan : zs_K MX11_smooth MX8_plan 2 := ⟨⟨rfl, rfl, Nat.le_of_ble_eq_true rfl, Nat.le_of_ble_eq_true rfl⟩, cwX8_plan, iwX8_plan, ⟨by decide, by decide⟩, by decide +kernel⟩
theorem kk_X11_smooth_X11_cell : zs_K MX11_smooth MX11_cell 2 := ⟨⟨rfl, rfl, Nat.le_of_ble_eq_true rfl, Nat.le_of_ble_eq_true rfl⟩, cwX11_cell, iwX11_cell, ⟨by decide, by decide⟩, by decide +kernel⟩
theorem kk_X11_seen_X11_within : zs_K MX11_seen MX11_within 3 := ⟨⟨rfl, rfl, Nat.le_of_ble_eq_true rfl, Nat.le_of_ble_eq_true rfl⟩, cwX11_within, iwX11_within, ⟨by decide, by decide⟩, by decide +kernel⟩
theorem kk_X11_seen_X11_isDrawing : zs_K MX11_seen MX11_isDrawing 1 := ⟨⟨rfl, rfl, Nat.le_of_ble_eq_true rfl, Nat.le_of_ble_eq_true rfl⟩, cwX11_isDrawing, iwX11_isDrawing, ⟨by decide, by decide⟩, by decide +kernel⟩
theorem kk_X11_seen_X11_refuseBad : zs_K MX11_seen MX11_refuseBad 1 := ⟨⟨rfl, rfl, Nat.le_of_ble_eq_true rfl, Nat.le_of_ble_eq_true rfl⟩, cwX11_refuseBad, iwX11_refuseBad, ⟨by decide, by decide⟩, by decide +kernel⟩
theorem kk_X11_seen_X5_isFull : zs_K MX11_seen MX5_isFull 0 := ⟨⟨rfl, rfl, Nat.le_of_ble_eq_true rfl, Nat.le_of_ble_eq_true rfl⟩, cwX5_isFull, iwX5_isFull, ⟨by decide, by decide⟩, by decide +kernel⟩
theorem kk_X11_seen_X11_refuseFull : zs_K MX11_seen MX11_refuseFull 0 := ⟨⟨rfl, rfl, Nat.le_of_ble_eq_true rfl, Nat.le_of_ble_eq_true rfl⟩, cwX11_refuseFull, iwX11_refuseFull, ⟨by decide, by decide⟩, by decide +kernel⟩
theorem kk_X11_seen_X5_add : zs_K MX11_seen MX5_add 4 := ⟨⟨rfl, rfl, Nat.le_of_ble_eq_true rfl, Nat.le_of_ble_eq_true rfl⟩, cwX5_add, iwX5_add, ⟨by decide, by decide⟩, by decide +kernel⟩
theorem kk_X11_began_X11_refuseBad : zs_K MX11_began MX11_refuseBad 1 := ⟨⟨rfl, rfl, Nat.le_of_ble_eq_true rfl, Nat.le_of_ble_eq_true rfl⟩, cwX11_refuseBad, iwX11_refuseBad, ⟨by decide, by decide⟩, by decide +kernel⟩
theorem kk_X11_began_X0_gather : zs_K MX11_began MX0_gather 1 := ⟨⟨rfl, rfl, Nat.le_of_ble_eq_true rfl, Nat.le_of_ble_eq_true rfl⟩, cwX0_gather, iwX0_gather, ⟨by decide, by decide⟩, by decide +kernel⟩
theorem kk_X11_began_X11_cell : zs_K MX11_began MX11_cell 2 := ⟨⟨rfl, rfl, Nat.le_of_ble_eq_true rfl, Nat.le_of_ble_eq_true rfl⟩, cwX11_cell, iwX11_cell, ⟨by decide, by decide⟩, by decide +kernel⟩
theorem kk_X11_tell_X0_gather : zs_K MX11_tell MX0_gather 1 := ⟨⟨rfl, rfl, Nat.le_of_ble_eq_true rfl, Nat.le_of_ble_eq_true rfl⟩, cwX0_gather, iwX0_gather, ⟨by decide, by decide⟩, by decide +kernel⟩
theorem kk_X11_tell_X0_tallyAt : zs_K MX11_tell MX0_tallyAt 3 := ⟨⟨rfl, rfl, Nat.le_of_ble_eq_true rfl, Nat.le_of_ble_eq_true rfl⟩, cwX0_tallyAt, iwX0_tallyAt, ⟨by decide, by decide⟩, by decide +kernel⟩
theorem kk_X11_note_X11_isEye : zs_K MX11_note MX11_isEye 1 := ⟨⟨rfl, rfl, Nat.le_of_ble_eq_true rfl, Nat.le_of_ble_eq_true rfl⟩, cwX11_isEye, iwX11_isEye, ⟨by decide, by decide⟩, by decide +kernel⟩
theorem kk_X11_note_X11_isDrawing : zs_K MX11_note MX11_isDrawing 1 := ⟨⟨rfl, rfl, Nat.le_of_ble_eq_true rfl, Nat.le_of_ble_eq_true rfl⟩, cwX11_isDrawing, iwX11_isDrawing, ⟨by decide, by decide⟩, by decide +kernel⟩
theorem kk_X11_note_X11_refuseBad : zs_K MX11_note MX11_refuseBad 1 := ⟨⟨rfl, rfl, Nat.le_of_ble_eq_true rfl, Nat.le_of_ble_eq_true rfl⟩, cwX11_refuseBad, iwX11_refuseBad, ⟨by decide, by decide⟩, by decide +kernel⟩
theorem kk_X11_note_X5_isFull : zs_K MX11_note MX5_isFull 0 := ⟨⟨rfl, rfl, Nat.le_of_ble_eq_true rfl, Nat.le_of_ble_eq_true rfl⟩, cwX5_isFull, iwX5_isFull, ⟨by decide, by decide⟩, by decide +kernel⟩
theorem kk_X11_note_X11_refuseFull : zs_K MX11_note MX11_refuseFull 0 := ⟨⟨rfl, rfl, Nat.le_of_ble_eq_true rfl, Nat.le_of_ble_eq_true rfl⟩, cwX11_refuseFull, iwX11_refuseFull, ⟨by decide, by decide⟩, by decide +kernel⟩
theorem kk_X11_note_X5_add : zs_K MX11_note MX5_add 4 := ⟨⟨rfl, rfl, Nat.le_of_ble_eq_true rfl, Nat.le_of_ble_eq_true rfl⟩, cwX5_add, iwX5_add, ⟨by decide, by decide⟩, by decide +kernel⟩
theorem kk_X11_mark_X11_isStep : zs_K MX11_mark MX11_isStep 1 := ⟨⟨rfl, rfl, Nat.le_of_ble_eq_true rfl, Nat.le_of_ble_eq_true rfl⟩, cwX11_isStep, iwX11_isStep, ⟨by decide, by decide⟩, by decide +kernel⟩
theorem kk_X11_mark_X11_within : zs_K MX11_mark MX11_within 3 := ⟨⟨rfl, rfl, Nat.le_of_ble_eq_true rfl, Nat.le_of_ble_eq_true rfl⟩, cwX11_within, iwX11_within, ⟨by decide, by decide⟩, by decide +kernel⟩
theorem kk_X11_mark_X11_refuseBad : zs_K MX11_mark MX11_refuseBad 1 := ⟨⟨rfl, rfl, Nat.le_of_ble_eq_true rfl, Nat.le_of_ble_eq_true rfl⟩, cwX11_refuseBad, iwX11_refuseBad, ⟨by decide, by decide⟩, by decide +kernel⟩
theorem kk_X11_mark_X5_isFull : zs_K MX11_mark MX5_isFull 0 := ⟨⟨rfl, rfl, Nat.le_of_ble_eq_true rfl, Nat.le_of_ble_eq_true rfl⟩, cwX5_isFull, iwX5_isFull, ⟨by decide, by decide⟩, by decide +kernel⟩
theorem kk_X11_mark_X11_refuseFull : zs_K MX11_mark MX11_refuseFull 0 := ⟨⟨rfl, rfl, Nat.le_of_ble_eq_true rfl, Nat.le_of_ble_eq_true rfl⟩, cwX11_refuseFull, iwX11_refuseFull, ⟨by decide, by decide⟩, by decide +kernel⟩
theorem kk_X11_mark_X5_add : zs_K MX11_mark MX5_add 4 := ⟨⟨rfl, rfl, Nat.le_of_ble_eq_true rfl, Nat.le_of_ble_eq_true rfl⟩, cwX5_add, iwX5_add, ⟨by decide, by decide⟩, by decide +kernel⟩
theorem kk_X11_forget_X5_empty : zs_K MX11_forget MX5_empty 0 := ⟨⟨rfl, rfl, Nat.le_of_ble_eq_true rfl, Nat.le_of_ble_eq_true rfl⟩, cwX5_empty, iwX5_empty, ⟨by decide, by decide⟩, by decide +kernel⟩
theorem kk_X11_forget_X11_refuseBad : zs_K MX11_forget MX11_refuseBad 1 := ⟨⟨rfl, rfl, Nat.le_of_ble_eq_true rfl, Nat.le_of_ble_eq_true rfl⟩, cwX11_refuseBad, iwX11_refuseBad, ⟨by decide, by decide⟩, by decide +kernel⟩
theorem kk_X11_is_X11_isEye : zs_K MX11_is MX11_isEye 1 := ⟨⟨rfl, rfl, Nat.le_of_ble_eq_true rfl, Nat.le_of_ble_eq_true rfl⟩, cwX11_isEye, iwX11_isEye, ⟨by decide, by decide⟩, by decide +kernel⟩
theorem kk_X11_is_X11_eyeKinds : zs_K MX11_is MX11_eyeKinds 1 := ⟨⟨rfl, rfl, Nat.le_of_ble_eq_true rfl, Nat.le_of_ble_eq_true rfl⟩, cwX11_eyeKinds, iwX11_eyeKinds, ⟨by decide, by decide⟩, by decide +kernel⟩
theorem kk_X11_is_X11_refuseBad : zs_K MX11_is MX11_refuseBad 1 := ⟨⟨rfl, rfl, Nat.le_of_ble_eq_true rfl, Nat.le_of_ble_eq_true rfl⟩, cwX11_refuseBad, iwX11_refuseBad, ⟨by decide, by decide⟩, by decide +kernel⟩
theorem kk_X11_look_X11_isEye : zs_K MX11_look MX11_isEye 1 := ⟨⟨rfl, rfl, Nat.le_of_ble_eq_true rfl, Nat.le_of_ble_eq_true rfl⟩, cwX11_isEye, iwX11_isEye, ⟨by decide, by decide⟩, by decide +kernel⟩
theorem kk_X11_look_X11_refuseBad : zs_K MX11_look MX11_refuseBad 1 := ⟨⟨rfl, rfl, Nat.le_of_ble_eq_true rfl, Nat.le_of_ble_eq_true rfl⟩, cwX11_refuseBad, iwX11_refuseBad, ⟨by decide, by decide⟩, by decide +kernel⟩
theorem kk_X11_look_X11_eyeKinds : zs_K MX11_look MX11_eyeKinds 1 := ⟨⟨rfl, rfl, Nat.le_of_ble_eq_true rfl, Nat.le_of_ble_eq_true rfl⟩, cwX11_eyeKinds, iwX11_eyeKinds, ⟨by decide, by decide⟩, by decide +kernel⟩
theorem kk_X11_look_X11_bestLook : zs_K MX11_look MX11_bestLook 1 := ⟨⟨rfl, rfl, Nat.le_of_ble_eq_true rfl, Nat.le_of_ble_eq_true rfl⟩, cwX11_bestLook, iwX11_bestLook, ⟨by decide, by decide⟩, by decide +kernel⟩
theorem kk_X11_kinds_X11_lampKinds : zs_K MX11_kinds MX11_lampKinds 0 := ⟨⟨rfl, rfl, Nat.le_of_ble_eq_true rfl, Nat.le_of_ble_eq_true rfl⟩, cwX11_lampKinds, iwX11_lampKinds, ⟨by decide, by decide⟩, by decide +kernel⟩
theorem kk_X11_ask_X11_lampKinds : zs_K MX11_ask MX11_lampKinds 0 := ⟨⟨rfl, rfl, Nat.le_of_ble_eq_true rfl, Nat.le_of_ble_eq_true rfl⟩, cwX11_lampKinds, iwX11_lampKinds, ⟨by decide, by decide⟩, by decide +kernel⟩
theorem kk_X11_ask_X11_bestAsk : zs_K MX11_ask MX11_bestAsk 1 := ⟨⟨rfl, rfl, Nat.le_of_ble_eq_true rfl, Nat.le_of_ble_eq_true rfl⟩, cwX11_bestAsk, iwX11_bestAsk, ⟨by decide, by decide⟩, by decide +kernel⟩
theorem kk_X11_hands_X11_isEye : zs_K MX11_hands MX11_isEye 1 := ⟨⟨rfl, rfl, Nat.le_of_ble_eq_true rfl, Nat.le_of_ble_eq_true rfl⟩, cwX11_isEye, iwX11_isEye, ⟨by decide, by decide⟩, by decide +kernel⟩
theorem kk_X11_hands_X11_refuseBad : zs_K MX11_hands MX11_refuseBad 1 := ⟨⟨rfl, rfl, Nat.le_of_ble_eq_true rfl, Nat.le_of_ble_eq_true rfl⟩, cwX11_refuseBad, iwX11_refuseBad, ⟨by decide, by decide⟩, by decide +kernel⟩
theorem kk_X11_hands_X11_fillGains : zs_K MX11_hands MX11_fillGains 2 := ⟨⟨rfl, rfl, Nat.le_of_ble_eq_true rfl, Nat.le_of_ble_eq_true rfl⟩, cwX11_fillGains, iwX11_fillGains, ⟨by decide, by decide⟩, by decide +kernel⟩
theorem kk_X11_hands_X11_rests : zs_K MX11_hands MX11_rests 2 := ⟨⟨rfl, rfl, Nat.le_of_ble_eq_true rfl, Nat.le_of_ble_eq_true rfl⟩, cwX11_rests, iwX11_rests, ⟨by decide, by decide⟩, by decide +kernel⟩
theorem kk_X11_smear_X11_isEye : zs_K MX11_smear MX11_isEye 1 := ⟨⟨rfl, rfl, Nat.le_of_ble_eq_true rfl, Nat.le_of_ble_eq_true rfl⟩, cwX11_isEye, iwX11_isEye, ⟨by decide, by decide⟩, by decide +kernel⟩
theorem kk_X11_smear_X11_isDrawing : zs_K MX11_smear MX11_isDrawing 1 := ⟨⟨rfl, rfl, Nat.le_of_ble_eq_true rfl, Nat.le_of_ble_eq_true rfl⟩, cwX11_isDrawing, iwX11_isDrawing, ⟨by decide, by decide⟩, by decide +kernel⟩
theorem kk_X11_smear_X11_within : zs_K MX11_smear MX11_within 3 := ⟨⟨rfl, rfl, Nat.le_of_ble_eq_true rfl, Nat.le_of_ble_eq_true rfl⟩, cwX11_within, iwX11_within, ⟨by decide, by decide⟩, by decide +kernel⟩
theorem kk_X11_smear_X11_refuseBad : zs_K MX11_smear MX11_refuseBad 1 := ⟨⟨rfl, rfl, Nat.le_of_ble_eq_true rfl, Nat.le_of_ble_eq_true rfl⟩, cwX11_refuseBad, iwX11_refuseBad, ⟨by decide, by decide⟩, by decide +kernel⟩
theorem kk_X11_smear_X11_startTrial : zs_K MX11_smear MX11_startTrial 1 := ⟨⟨rfl, rfl, Nat.le_of_ble_eq_true rfl, Nat.le_of_ble_eq_true rfl⟩, cwX11_startTrial, iwX11_startTrial, ⟨by decide, by decide⟩, by decide +kernel⟩
theorem kk_X11_smear_X11_cell : zs_K MX11_smear MX11_cell 2 := ⟨⟨rfl, rfl, Nat.le_of_ble_eq_true rfl, Nat.le_of_ble_eq_true rfl⟩, cwX11_cell, iwX11_cell, ⟨by decide, by decide⟩, by decide +kernel⟩
theorem kk_X11_smear_X7_begin : zs_K MX11_smear MX7_begin 1 := ⟨⟨rfl, rfl, Nat.le_of_ble_eq_true rfl, Nat.le_of_ble_eq_true rfl⟩, cwX7_begin, iwX7_begin, ⟨by decide, by decide⟩, by decide +kernel⟩
theorem kk_X11_smear_X6_flash : zs_K MX11_smear MX6_flash 1 := ⟨⟨rfl, rfl, Nat.le_of_ble_eq_true rfl, Nat.le_of_ble_eq_true rfl⟩, cwX6_flash, iwX6_flash, ⟨by decide, by decide⟩, by decide +kernel⟩
theorem kk_X11_smear_X6_drawingAtHand : zs_K MX11_smear MX6_drawingAtHand 1 := ⟨⟨rfl, rfl, Nat.le_of_ble_eq_true rfl, Nat.le_of_ble_eq_true rfl⟩, cwX6_drawingAtHand, iwX6_drawingAtHand, ⟨by decide, by decide⟩, by decide +kernel⟩
theorem kk_X11_smear_X7_flash : zs_K MX11_smear MX7_flash 3 := ⟨⟨rfl, rfl, Nat.le_of_ble_eq_true rfl, Nat.le_of_ble_eq_true rfl⟩, cwX7_flash, iwX7_flash, ⟨by decide, by decide⟩, by decide +kernel⟩
theorem kk_X11_smear_X7_weightOf : zs_K MX11_smear MX7_weightOf 1 := ⟨⟨rfl, rfl, Nat.le_of_ble_eq_true rfl, Nat.le_of_ble_eq_true rfl⟩, cwX7_weightOf, iwX7_weightOf, ⟨by decide, by decide⟩, by decide +kernel⟩
theorem kk_X11_smear_X11_keepFraction : zs_K MX11_smear MX11_keepFraction 2 := ⟨⟨rfl, rfl, Nat.le_of_ble_eq_true rfl, Nat.le_of_ble_eq_true rfl⟩, cwX11_keepFraction, iwX11_keepFraction, ⟨by decide, by decide⟩, by decide +kernel⟩
theorem kk_X11_nights_X11_within : zs_K MX11_nights MX11_within 3 := ⟨⟨rfl, rfl, Nat.le_of_ble_eq_true rfl, Nat.le_of_ble_eq_true rfl⟩, cwX11_within, iwX11_within, ⟨by decide, by decide⟩, by decide +kernel⟩
theorem kk_X11_nights_X11_refuseBad : zs_K MX11_nights MX11_refuseBad 1 := ⟨⟨rfl, rfl, Nat.le_of_ble_eq_true rfl, Nat.le_of_ble_eq_true rfl⟩, cwX11_refuseBad, iwX11_refuseBad, ⟨by decide, by decide⟩, by decide +kernel⟩
theorem kk_X11_nights_X11_startTrial : zs_K MX11_nights MX11_startTrial 1 := ⟨⟨rfl, rfl, Nat.le_of_ble_eq_true rfl, Nat.le_of_ble_eq_true rfl⟩, cwX11_startTrial, iwX11_startTrial, ⟨by decide, by decide⟩, by decide +kernel⟩
theorem kk_X11_nights_X6_flash : zs_K MX11_nights MX6_flash 1 := ⟨⟨rfl, rfl, Nat.le_of_ble_eq_true rfl, Nat.le_of_ble_eq_true rfl⟩, cwX6_flash, iwX6_flash, ⟨by decide, by decide⟩, by decide +kernel⟩
theorem kk_X11_nights_X6_movesTogether : zs_K MX11_nights MX6_movesTogether 1 := ⟨⟨rfl, rfl, Nat.le_of_ble_eq_true rfl, Nat.le_of_ble_eq_true rfl⟩, cwX6_movesTogether, iwX6_movesTogether, ⟨by decide, by decide⟩, by decide +kernel⟩
theorem kk_X11_part_X11_refuseBad : zs_K MX11_part MX11_refuseBad 1 := ⟨⟨rfl, rfl, Nat.le_of_ble_eq_true rfl, Nat.le_of_ble_eq_true rfl⟩, cwX11_refuseBad, iwX11_refuseBad, ⟨by decide, by decide⟩, by decide +kernel⟩
theorem kk_X11_image_X11_within : zs_K MX11_image MX11_within 3 := ⟨⟨rfl, rfl, Nat.le_of_ble_eq_true rfl, Nat.le_of_ble_eq_true rfl⟩, cwX11_within, iwX11_within, ⟨by decide, by decide⟩, by decide +kernel⟩
theorem kk_X11_image_X11_refuseBad : zs_K MX11_image MX11_refuseBad 1 := ⟨⟨rfl, rfl, Nat.le_of_ble_eq_true rfl, Nat.le_of_ble_eq_true rfl⟩, cwX11_refuseBad, iwX11_refuseBad, ⟨by decide, by decide⟩, by decide +kernel⟩
theorem kk_X11_image_X6_become : zs_K MX11_image MX6_become 1 := ⟨⟨rfl, rfl, Nat.le_of_ble_eq_true rfl, Nat.le_of_ble_eq_true rfl⟩, cwX6_become, iwX6_become, ⟨by decide, by decide⟩, by decide +kernel⟩
theorem kk_X11_from_X11_within : zs_K MX11_from MX11_within 3 := ⟨⟨rfl, rfl, Nat.le_of_ble_eq_true rfl, Nat.le_of_ble_eq_true rfl⟩, cwX11_within, iwX11_within, ⟨by decide, by decide⟩, by decide +kernel⟩
theorem kk_X11_from_X11_refuseBad : zs_K MX11_from MX11_refuseBad 1 := ⟨⟨rfl, rfl, Nat.le_of_ble_eq_true rfl, Nat.le_of_ble_eq_true rfl⟩, cwX11_refuseBad, iwX11_refuseBad, ⟨by decide, by decide⟩, by decide +kernel⟩
theorem kk_X11_from_X11_refuseNo : zs_K MX11_from MX11_refuseNo 0 := ⟨⟨rfl, rfl, Nat.le_of_ble_eq_true rfl, Nat.le_of_ble_eq_true rfl⟩, cwX11_refuseNo, iwX11_refuseNo, ⟨by decide, by decide⟩, by decide +kernel⟩
theorem kk_X11_from_X6_become : zs_K MX11_from MX6_become 1 := ⟨⟨rfl, rfl, Nat.le_of_ble_eq_true rfl, Nat.le_of_ble_eq_true rfl⟩, cwX6_become, iwX6_become, ⟨by decide, by decide⟩, by decide +kernel⟩
theorem kk_X11_status_X11_refuseBad : zs_K MX11_status MX11_refuseBad 1 := ⟨⟨rfl, rfl, Nat.le_of_ble_eq_true rfl, Nat.le_of_ble_eq_true rfl⟩, cwX11_refuseBad, iwX11_refuseBad, ⟨by decide, by decide⟩, by decide +kernel⟩
theorem kk_X11_count_X11_within : zs_K MX11_count MX11_within 3 := ⟨⟨rfl, rfl, Nat.le_of_ble_eq_true rfl, Nat.le_of_ble_eq_true rfl⟩, cwX11_within, iwX11_within, ⟨by decide, by decide⟩, by decide +kernel⟩
theorem kk_X11_count_X11_countOf : zs_K MX11_count MX11_countOf 1 := ⟨⟨rfl, rfl, Nat.le_of_ble_eq_true rfl, Nat.le_of_ble_eq_true rfl⟩, cwX11_countOf, iwX11_countOf, ⟨by decide, by decide⟩, by decide +kernel⟩
theorem kk_X11_count_X11_refuseBad : zs_K MX11_count MX11_refuseBad 1 := ⟨⟨rfl, rfl, Nat.le_of_ble_eq_true rfl, Nat.le_of_ble_eq_true rfl⟩, cwX11_refuseBad, iwX11_refuseBad, ⟨by decide, by decide⟩, by decide +kernel⟩
theorem kk_X11_digest_X11_countOf : zs_K MX11_digest MX11_countOf 1 := ⟨⟨rfl, rfl, Nat.le_of_ble_eq_true rfl, Nat.le_of_ble_eq_true rfl⟩, cwX11_countOf, iwX11_countOf, ⟨by decide, by decide⟩, by decide +kernel⟩
theorem kk_X11_digest_X11_cell : zs_K MX11_digest MX11_cell 2 := ⟨⟨rfl, rfl, Nat.le_of_ble_eq_true rfl, Nat.le_of_ble_eq_true rfl⟩, cwX11_cell, iwX11_cell, ⟨by decide, by decide⟩, by decide +kernel⟩
theorem kk_X11_digest_X5_digestOnto : zs_K MX11_digest MX5_digestOnto 1 := ⟨⟨rfl, rfl, Nat.le_of_ble_eq_true rfl, Nat.le_of_ble_eq_true rfl⟩, cwX5_digestOnto, iwX5_digestOnto, ⟨by decide, by decide⟩, by decide +kernel⟩
theorem kk_X11_isKind_X11_within : zs_K MX11_isKind MX11_within 3 := ⟨⟨rfl, rfl, Nat.le_of_ble_eq_true rfl, Nat.le_of_ble_eq_true rfl⟩, cwX11_within, iwX11_within, ⟨by decide, by decide⟩, by decide +kernel⟩
theorem kk_X11_isStep_X11_within : zs_K MX11_isStep MX11_within 3 := ⟨⟨rfl, rfl, Nat.le_of_ble_eq_true rfl, Nat.le_of_ble_eq_true rfl⟩, cwX11_within, iwX11_within, ⟨by decide, by decide⟩, by decide +kernel⟩
theorem kk_X11_isDrawing_X11_within : zs_K MX11_isDrawing MX11_within 3 := ⟨⟨rfl, rfl, Nat.le_of_ble_eq_true rfl, Nat.le_of_ble_eq_true rfl⟩, cwX11_within, iwX11_within, ⟨by decide, by decide⟩, by decide +kernel⟩
theorem kk_X11_isFrame_X11_within : zs_K MX11_isFrame MX11_within 3 := ⟨⟨rfl, rfl, Nat.le_of_ble_eq_true rfl, Nat.le_of_ble_eq_true rfl⟩, cwX11_within, iwX11_within, ⟨by decide, by decide⟩, by decide +kernel⟩
theorem kk_X11_isEye_X11_within : zs_K MX11_isEye MX11_within 3 := ⟨⟨rfl, rfl, Nat.le_of_ble_eq_true rfl, Nat.le_of_ble_eq_true rfl⟩, cwX11_within, iwX11_within, ⟨by decide, by decide⟩, by decide +kernel⟩
theorem kk_X11_wrap_J9_floorMod_7cf53 : zs_K MX11_wrap MJ9_floorMod_7cf53 2 := ⟨⟨rfl, rfl, Nat.le_of_ble_eq_true rfl, Nat.le_of_ble_eq_true rfl⟩, cwJ9_floorMod_7cf53, iwJ9_floorMod_7cf53, ⟨by decide, by decide⟩, by decide +kernel⟩
theorem kk_X11_startTrial_X3_become : zs_K MX11_startTrial MX3_become 1 := ⟨⟨rfl, rfl, Nat.le_of_ble_eq_true rfl, Nat.le_of_ble_eq_true rfl⟩, cwX3_become, iwX3_become, ⟨by decide, by decide⟩, by decide +kernel⟩
theorem kk_X11_startTrial_X11_fill : zs_K MX11_startTrial MX11_fill 2 := ⟨⟨rfl, rfl, Nat.le_of_ble_eq_true rfl, Nat.le_of_ble_eq_true rfl⟩, cwX11_fill, iwX11_fill, ⟨by decide, by decide⟩, by decide +kernel⟩
theorem kk_X11_tryFlashes_X11_startTrial : zs_K MX11_tryFlashes MX11_startTrial 1 := ⟨⟨rfl, rfl, Nat.le_of_ble_eq_true rfl, Nat.le_of_ble_eq_true rfl⟩, cwX11_startTrial, iwX11_startTrial, ⟨by decide, by decide⟩, by decide +kernel⟩
theorem kk_X11_tryFlashes_X6_flash : zs_K MX11_tryFlashes MX6_flash 1 := ⟨⟨rfl, rfl, Nat.le_of_ble_eq_true rfl, Nat.le_of_ble_eq_true rfl⟩, cwX6_flash, iwX6_flash, ⟨by decide, by decide⟩, by decide +kernel⟩
theorem kk_X11_trialIsAsNow_X11_cell : zs_K MX11_trialIsAsNow MX11_cell 2 := ⟨⟨rfl, rfl, Nat.le_of_ble_eq_true rfl, Nat.le_of_ble_eq_true rfl⟩, cwX11_cell, iwX11_cell, ⟨by decide, by decide⟩, by decide +kernel⟩
theorem kk_X11_standsStill_X6_drawingAtHand : zs_K MX11_standsStill MX6_drawingAtHand 1 := ⟨⟨rfl, rfl, Nat.le_of_ble_eq_true rfl, Nat.le_of_ble_eq_true rfl⟩, cwX6_drawingAtHand, iwX6_drawingAtHand, ⟨by decide, by decide⟩, by decide +kernel⟩
theorem kk_X11_standsStill_X11_startTrial : zs_K MX11_standsStill MX11_startTrial 1 := ⟨⟨rfl, rfl, Nat.le_of_ble_eq_true rfl, Nat.le_of_ble_eq_true rfl⟩, cwX11_startTrial, iwX11_startTrial, ⟨by decide, by decide⟩, by decide +kernel⟩
theorem kk_X11_standsStill_X6_flash : zs_K MX11_standsStill MX6_flash 1 := ⟨⟨rfl, rfl, Nat.le_of_ble_eq_true rfl, Nat.le_of_ble_eq_true rfl⟩, cwX6_flash, iwX6_flash, ⟨by decide, by decide⟩, by decide +kernel⟩
theorem kk_X11_eyeKinds_X11_eyeFits : zs_K MX11_eyeKinds MX11_eyeFits 2 := ⟨⟨rfl, rfl, Nat.le_of_ble_eq_true rfl, Nat.le_of_ble_eq_true rfl⟩, cwX11_eyeFits, iwX11_eyeFits, ⟨by decide, by decide⟩, by decide +kernel⟩
theorem kk_X11_eyeFits_X5_value : zs_K MX11_eyeFits MX5_value 2 := ⟨⟨rfl, rfl, Nat.le_of_ble_eq_true rfl, Nat.le_of_ble_eq_true rfl⟩, cwX5_value, iwX5_value, ⟨by decide, by decide⟩, by decide +kernel⟩
theorem kk_X11_eyeFits_X1_sight : zs_K MX11_eyeFits MX1_sight 3 := ⟨⟨rfl, rfl, Nat.le_of_ble_eq_true rfl, Nat.le_of_ble_eq_true rfl⟩, cwX1_sight, iwX1_sight, ⟨by decide, by decide⟩, by decide +kernel⟩
theorem kk_X11_bestLook_X9_begin : zs_K MX11_bestLook MX9_begin 0 := ⟨⟨rfl, rfl, Nat.le_of_ble_eq_true rfl, Nat.le_of_ble_eq_true rfl⟩, cwX9_begin, iwX9_begin, ⟨by decide, by decide⟩, by decide +kernel⟩
theorem kk_X11_bestLook_X11_hasBit : zs_K MX11_bestLook MX11_hasBit 2 := ⟨⟨rfl, rfl, Nat.le_of_ble_eq_true rfl, Nat.le_of_ble_eq_true rfl⟩, cwX11_hasBit, iwX11_hasBit, ⟨by decide, by decide⟩, by decide +kernel⟩
theorem kk_X11_bestLook_X1_sight : zs_K MX11_bestLook MX1_sight 3 := ⟨⟨rfl, rfl, Nat.le_of_ble_eq_true rfl, Nat.le_of_ble_eq_true rfl⟩, cwX1_sight, iwX1_sight, ⟨by decide, by decide⟩, by decide +kernel⟩
theorem kk_X11_bestLook_X9_add : zs_K MX11_bestLook MX9_add 1 := ⟨⟨rfl, rfl, Nat.le_of_ble_eq_true rfl, Nat.le_of_ble_eq_true rfl⟩, cwX9_add, iwX9_add, ⟨by decide, by decide⟩, by decide +kernel⟩
theorem kk_X11_lampKinds_X11_lampFits : zs_K MX11_lampKinds MX11_lampFits 1 := ⟨⟨rfl, rfl, Nat.le_of_ble_eq_true rfl, Nat.le_of_ble_eq_true rfl⟩, cwX11_lampFits, iwX11_lampFits, ⟨by decide, by decide⟩, by decide +kernel⟩
theorem kk_X11_lampFits_X5_value : zs_K MX11_lampFits MX5_value 2 := ⟨⟨rfl, rfl, Nat.le_of_ble_eq_true rfl, Nat.le_of_ble_eq_true rfl⟩, cwX5_value, iwX5_value, ⟨by decide, by decide⟩, by decide +kernel⟩
theorem kk_X11_lampFits_X2_passing : zs_K MX11_lampFits MX2_passing 3 := ⟨⟨rfl, rfl, Nat.le_of_ble_eq_true rfl, Nat.le_of_ble_eq_true rfl⟩, cwX2_passing, iwX2_passing, ⟨by decide, by decide⟩, by decide +kernel⟩
theorem kk_X11_bestAsk_X11_tallyPassing : zs_K MX11_bestAsk MX11_tallyPassing 3 := ⟨⟨rfl, rfl, Nat.le_of_ble_eq_true rfl, Nat.le_of_ble_eq_true rfl⟩, cwX11_tallyPassing, iwX11_tallyPassing, ⟨by decide, by decide⟩, by decide +kernel⟩
theorem kk_X11_tallyPassing_X9_begin : zs_K MX11_tallyPassing MX9_begin 0 := ⟨⟨rfl, rfl, Nat.le_of_ble_eq_true rfl, Nat.le_of_ble_eq_true rfl⟩, cwX9_begin, iwX9_begin, ⟨by decide, by decide⟩, by decide +kernel⟩
theorem kk_X11_tallyPassing_X11_hasBit : zs_K MX11_tallyPassing MX11_hasBit 2 := ⟨⟨rfl, rfl, Nat.le_of_ble_eq_true rfl, Nat.le_of_ble_eq_true rfl⟩, cwX11_hasBit, iwX11_hasBit, ⟨by decide, by decide⟩, by decide +kernel⟩
theorem kk_X11_tallyPassing_X2_passing : zs_K MX11_tallyPassing MX2_passing 3 := ⟨⟨rfl, rfl, Nat.le_of_ble_eq_true rfl, Nat.le_of_ble_eq_true rfl⟩, cwX2_passing, iwX2_passing, ⟨by decide, by decide⟩, by decide +kernel⟩
theorem kk_X11_tallyPassing_X9_add : zs_K MX11_tallyPassing MX9_add 1 := ⟨⟨rfl, rfl, Nat.le_of_ble_eq_true rfl, Nat.le_of_ble_eq_true rfl⟩, cwX9_add, iwX9_add, ⟨by decide, by decide⟩, by decide +kernel⟩
theorem kk_X11_fillGains_X11_tryFlashes : zs_K MX11_fillGains MX11_tryFlashes 2 := ⟨⟨rfl, rfl, Nat.le_of_ble_eq_true rfl, Nat.le_of_ble_eq_true rfl⟩, cwX11_tryFlashes, iwX11_tryFlashes, ⟨by decide, by decide⟩, by decide +kernel⟩
theorem kk_X11_fillGains_X11_cell : zs_K MX11_fillGains MX11_cell 2 := ⟨⟨rfl, rfl, Nat.le_of_ble_eq_true rfl, Nat.le_of_ble_eq_true rfl⟩, cwX11_cell, iwX11_cell, ⟨by decide, by decide⟩, by decide +kernel⟩
theorem kk_X11_fillGains_X11_put : zs_K MX11_fillGains MX11_put 3 := ⟨⟨rfl, rfl, Nat.le_of_ble_eq_true rfl, Nat.le_of_ble_eq_true rfl⟩, cwX11_put, iwX11_put, ⟨by decide, by decide⟩, by decide +kernel⟩
theorem kk_X11_gain_X11_cell : zs_K MX11_gain MX11_cell 2 := ⟨⟨rfl, rfl, Nat.le_of_ble_eq_true rfl, Nat.le_of_ble_eq_true rfl⟩, cwX11_cell, iwX11_cell, ⟨by decide, by decide⟩, by decide +kernel⟩
theorem kk_X11_rests_X11_gain : zs_K MX11_rests MX11_gain 3 := ⟨⟨rfl, rfl, Nat.le_of_ble_eq_true rfl, Nat.le_of_ble_eq_true rfl⟩, cwX11_gain, iwX11_gain, ⟨by decide, by decide⟩, by decide +kernel⟩
theorem kk_X11_keepFraction_X11_greatestDivisor : zs_K MX11_keepFraction MX11_greatestDivisor 2 := ⟨⟨rfl, rfl, Nat.le_of_ble_eq_true rfl, Nat.le_of_ble_eq_true rfl⟩, cwX11_greatestDivisor, iwX11_greatestDivisor, ⟨by decide, by decide⟩, by decide +kernel⟩
theorem kk_X11_countOf_X6_movesTogether : zs_K MX11_countOf MX6_movesTogether 1 := ⟨⟨rfl, rfl, Nat.le_of_ble_eq_true rfl, Nat.le_of_ble_eq_true rfl⟩, cwX6_movesTogether, iwX6_movesTogether, ⟨by decide, by decide⟩, by decide +kernel⟩
theorem kk_X12_looks_X12_apart : zs_K MX12_looks MX12_apart 2 := ⟨⟨rfl, rfl, Nat.le_of_ble_eq_true rfl, Nat.le_of_ble_eq_true rfl⟩, cwX12_apart, iwX12_apart, ⟨by decide, by decide⟩, by decide +kernel⟩
theorem kk_X12_drum_X12_in : zs_K MX12_drum MX12_in 3 := ⟨⟨rfl, rfl, Nat.le_of_ble_eq_true rfl, Nat.le_of_ble_eq_true rfl⟩, cwX12_in, iwX12_in, ⟨by decide, by decide⟩, by decide +kernel⟩
theorem kk_X12_drum_X12_bad : zs_K MX12_drum MX12_bad 0 := ⟨⟨rfl, rfl, Nat.le_of_ble_eq_true rfl, Nat.le_of_ble_eq_true rfl⟩, cwX12_bad, iwX12_bad, ⟨by decide, by decide⟩, by decide +kernel⟩
theorem kk_X12_drum_X12_begins : zs_K MX12_drum MX12_begins 3 := ⟨⟨rfl, rfl, Nat.le_of_ble_eq_true rfl, Nat.le_of_ble_eq_true rfl⟩, cwX12_begins, iwX12_begins, ⟨by decide, by decide⟩, by decide +kernel⟩
theorem kk_X12_lamp_X12_in : zs_K MX12_lamp MX12_in 3 := ⟨⟨rfl, rfl, Nat.le_of_ble_eq_true rfl, Nat.le_of_ble_eq_true rfl⟩, cwX12_in, iwX12_in, ⟨by decide, by decide⟩, by decide +kernel⟩
theorem kk_X12_lamp_X12_bad : zs_K MX12_lamp MX12_bad 0 := ⟨⟨rfl, rfl, Nat.le_of_ble_eq_true rfl, Nat.le_of_ble_eq_true rfl⟩, cwX12_bad, iwX12_bad, ⟨by decide, by decide⟩, by decide +kernel⟩
theorem kk_X12_eye_X12_in : zs_K MX12_eye MX12_in 3 := ⟨⟨rfl, rfl, Nat.le_of_ble_eq_true rfl, Nat.le_of_ble_eq_true rfl⟩, cwX12_in, iwX12_in, ⟨by decide, by decide⟩, by decide +kernel⟩
theorem kk_X12_eye_X12_bad : zs_K MX12_eye MX12_bad 0 := ⟨⟨rfl, rfl, Nat.le_of_ble_eq_true rfl, Nat.le_of_ble_eq_true rfl⟩, cwX12_bad, iwX12_bad, ⟨by decide, by decide⟩, by decide +kernel⟩
theorem kk_X12_eye_X12_full : zs_K MX12_eye MX12_full 0 := ⟨⟨rfl, rfl, Nat.le_of_ble_eq_true rfl, Nat.le_of_ble_eq_true rfl⟩, cwX12_full, iwX12_full, ⟨by decide, by decide⟩, by decide +kernel⟩
theorem kk_X12_eye_X12_comes : zs_K MX12_eye MX12_comes 1 := ⟨⟨rfl, rfl, Nat.le_of_ble_eq_true rfl, Nat.le_of_ble_eq_true rfl⟩, cwX12_comes, iwX12_comes, ⟨by decide, by decide⟩, by decide +kernel⟩
theorem kk_X12_type_X12_in : zs_K MX12_type MX12_in 3 := ⟨⟨rfl, rfl, Nat.le_of_ble_eq_true rfl, Nat.le_of_ble_eq_true rfl⟩, cwX12_in, iwX12_in, ⟨by decide, by decide⟩, by decide +kernel⟩
theorem kk_X12_type_X12_bad : zs_K MX12_type MX12_bad 0 := ⟨⟨rfl, rfl, Nat.le_of_ble_eq_true rfl, Nat.le_of_ble_eq_true rfl⟩, cwX12_bad, iwX12_bad, ⟨by decide, by decide⟩, by decide +kernel⟩
theorem kk_X12_type_X12_full : zs_K MX12_type MX12_full 0 := ⟨⟨rfl, rfl, Nat.le_of_ble_eq_true rfl, Nat.le_of_ble_eq_true rfl⟩, cwX12_full, iwX12_full, ⟨by decide, by decide⟩, by decide +kernel⟩
theorem kk_X12_token_X12_byteAt : zs_K MX12_token MX12_byteAt 1 := ⟨⟨rfl, rfl, Nat.le_of_ble_eq_true rfl, Nat.le_of_ble_eq_true rfl⟩, cwX12_byteAt, iwX12_byteAt, ⟨by decide, by decide⟩, by decide +kernel⟩
theorem kk_X12_token_X12_in : zs_K MX12_token MX12_in 3 := ⟨⟨rfl, rfl, Nat.le_of_ble_eq_true rfl, Nat.le_of_ble_eq_true rfl⟩, cwX12_in, iwX12_in, ⟨by decide, by decide⟩, by decide +kernel⟩
theorem kk_X12_word_X12_byteAt : zs_K MX12_word MX12_byteAt 1 := ⟨⟨rfl, rfl, Nat.le_of_ble_eq_true rfl, Nat.le_of_ble_eq_true rfl⟩, cwX12_byteAt, iwX12_byteAt, ⟨by decide, by decide⟩, by decide +kernel⟩
theorem kk_X12_wants_X12_token : zs_K MX12_wants MX12_token 0 := ⟨⟨rfl, rfl, Nat.le_of_ble_eq_true rfl, Nat.le_of_ble_eq_true rfl⟩, cwX12_token, iwX12_token, ⟨by decide, by decide⟩, by decide +kernel⟩
theorem kk_X12_wants_X12_in : zs_K MX12_wants MX12_in 3 := ⟨⟨rfl, rfl, Nat.le_of_ble_eq_true rfl, Nat.le_of_ble_eq_true rfl⟩, cwX12_in, iwX12_in, ⟨by decide, by decide⟩, by decide +kernel⟩
theorem kk_X12_drumItem_X12_wants : zs_K MX12_drumItem MX12_wants 2 := ⟨⟨rfl, rfl, Nat.le_of_ble_eq_true rfl, Nat.le_of_ble_eq_true rfl⟩, cwX12_wants, iwX12_wants, ⟨by decide, by decide⟩, by decide +kernel⟩
theorem kk_X12_drumItem_X12_begins : zs_K MX12_drumItem MX12_begins 3 := ⟨⟨rfl, rfl, Nat.le_of_ble_eq_true rfl, Nat.le_of_ble_eq_true rfl⟩, cwX12_begins, iwX12_begins, ⟨by decide, by decide⟩, by decide +kernel⟩
theorem kk_X12_drawItem_X12_token : zs_K MX12_drawItem MX12_token 0 := ⟨⟨rfl, rfl, Nat.le_of_ble_eq_true rfl, Nat.le_of_ble_eq_true rfl⟩, cwX12_token, iwX12_token, ⟨by decide, by decide⟩, by decide +kernel⟩
theorem kk_X12_drawItem_X12_in : zs_K MX12_drawItem MX12_in 3 := ⟨⟨rfl, rfl, Nat.le_of_ble_eq_true rfl, Nat.le_of_ble_eq_true rfl⟩, cwX12_in, iwX12_in, ⟨by decide, by decide⟩, by decide +kernel⟩
theorem kk_X12_act_X12_wants : zs_K MX12_act MX12_wants 2 := ⟨⟨rfl, rfl, Nat.le_of_ble_eq_true rfl, Nat.le_of_ble_eq_true rfl⟩, cwX12_wants, iwX12_wants, ⟨by decide, by decide⟩, by decide +kernel⟩
theorem kk_X12_act_X12_comes : zs_K MX12_act MX12_comes 1 := ⟨⟨rfl, rfl, Nat.le_of_ble_eq_true rfl, Nat.le_of_ble_eq_true rfl⟩, cwX12_comes, iwX12_comes, ⟨by decide, by decide⟩, by decide +kernel⟩
theorem kk_X12_act_X12_flash : zs_K MX12_act MX12_flash 3 := ⟨⟨rfl, rfl, Nat.le_of_ble_eq_true rfl, Nat.le_of_ble_eq_true rfl⟩, cwX12_flash, iwX12_flash, ⟨by decide, by decide⟩, by decide +kernel⟩
theorem kk_X12_item_X12_word : zs_K MX12_item MX12_word 0 := ⟨⟨rfl, rfl, Nat.le_of_ble_eq_true rfl, Nat.le_of_ble_eq_true rfl⟩, cwX12_word, iwX12_word, ⟨by decide, by decide⟩, by decide +kernel⟩
theorem kk_X12_item_X12_drawItem : zs_K MX12_item MX12_drawItem 0 := ⟨⟨rfl, rfl, Nat.le_of_ble_eq_true rfl, Nat.le_of_ble_eq_true rfl⟩, cwX12_drawItem, iwX12_drawItem, ⟨by decide, by decide⟩, by decide +kernel⟩
theorem kk_X12_item_X12_drumItem : zs_K MX12_item MX12_drumItem 0 := ⟨⟨rfl, rfl, Nat.le_of_ble_eq_true rfl, Nat.le_of_ble_eq_true rfl⟩, cwX12_drumItem, iwX12_drumItem, ⟨by decide, by decide⟩, by decide +kernel⟩
theorem kk_X12_item_X12_act : zs_K MX12_item MX12_act 1 := ⟨⟨rfl, rfl, Nat.le_of_ble_eq_true rfl, Nat.le_of_ble_eq_true rfl⟩, cwX12_act, iwX12_act, ⟨by decide, by decide⟩, by decide +kernel⟩
theorem kk_X12_item_X12_token : zs_K MX12_item MX12_token 0 := ⟨⟨rfl, rfl, Nat.le_of_ble_eq_true rfl, Nat.le_of_ble_eq_true rfl⟩, cwX12_token, iwX12_token, ⟨by decide, by decide⟩, by decide +kernel⟩
theorem kk_X12_goesThrough_X12_token : zs_K MX12_goesThrough MX12_token 0 := ⟨⟨rfl, rfl, Nat.le_of_ble_eq_true rfl, Nat.le_of_ble_eq_true rfl⟩, cwX12_token, iwX12_token, ⟨by decide, by decide⟩, by decide +kernel⟩
theorem kk_X12_goesThrough_X12_item : zs_K MX12_goesThrough MX12_item 1 := ⟨⟨rfl, rfl, Nat.le_of_ble_eq_true rfl, Nat.le_of_ble_eq_true rfl⟩, cwX12_item, iwX12_item, ⟨by decide, by decide⟩, by decide +kernel⟩
theorem kk_X12_read_X12_goesThrough : zs_K MX12_read MX12_goesThrough 1 := ⟨⟨rfl, rfl, Nat.le_of_ble_eq_true rfl, Nat.le_of_ble_eq_true rfl⟩, cwX12_goesThrough, iwX12_goesThrough, ⟨by decide, by decide⟩, by decide +kernel⟩
theorem kk_X12_flash_X12_passes : zs_K MX12_flash MX12_passes 3 := ⟨⟨rfl, rfl, Nat.le_of_ble_eq_true rfl, Nat.le_of_ble_eq_true rfl⟩, cwX12_passes, iwX12_passes, ⟨by decide, by decide⟩, by decide +kernel⟩
theorem kk_X12_flash_X12_looks : zs_K MX12_flash MX12_looks 3 := ⟨⟨rfl, rfl, Nat.le_of_ble_eq_true rfl, Nat.le_of_ble_eq_true rfl⟩, cwX12_looks, iwX12_looks, ⟨by decide, by decide⟩, by decide +kernel⟩
theorem kk_X12_known_X12_copies : zs_K MX12_known MX12_copies 2 := ⟨⟨rfl, rfl, Nat.le_of_ble_eq_true rfl, Nat.le_of_ble_eq_true rfl⟩, cwX12_copies, iwX12_copies, ⟨by decide, by decide⟩, by decide +kernel⟩
theorem kk_X12_spins_X12_in : zs_K MX12_spins MX12_in 3 := ⟨⟨rfl, rfl, Nat.le_of_ble_eq_true rfl, Nat.le_of_ble_eq_true rfl⟩, cwX12_in, iwX12_in, ⟨by decide, by decide⟩, by decide +kernel⟩
theorem kk_X12_spins_X12_bad : zs_K MX12_spins MX12_bad 0 := ⟨⟨rfl, rfl, Nat.le_of_ble_eq_true rfl, Nat.le_of_ble_eq_true rfl⟩, cwX12_bad, iwX12_bad, ⟨by decide, by decide⟩, by decide +kernel⟩
theorem kk_X12_spins_X12_known : zs_K MX12_spins MX12_known 0 := ⟨⟨rfl, rfl, Nat.le_of_ble_eq_true rfl, Nat.le_of_ble_eq_true rfl⟩, cwX12_known, iwX12_known, ⟨by decide, by decide⟩, by decide +kernel⟩
theorem kk_X12_spins_X12_flash : zs_K MX12_spins MX12_flash 3 := ⟨⟨rfl, rfl, Nat.le_of_ble_eq_true rfl, Nat.le_of_ble_eq_true rfl⟩, cwX12_flash, iwX12_flash, ⟨by decide, by decide⟩, by decide +kernel⟩
theorem kk_X12_steps_X12_in : zs_K MX12_steps MX12_in 3 := ⟨⟨rfl, rfl, Nat.le_of_ble_eq_true rfl, Nat.le_of_ble_eq_true rfl⟩, cwX12_in, iwX12_in, ⟨by decide, by decide⟩, by decide +kernel⟩
theorem kk_X12_steps_X12_bad : zs_K MX12_steps MX12_bad 0 := ⟨⟨rfl, rfl, Nat.le_of_ble_eq_true rfl, Nat.le_of_ble_eq_true rfl⟩, cwX12_bad, iwX12_bad, ⟨by decide, by decide⟩, by decide +kernel⟩
theorem kk_X12_steps_X12_no : zs_K MX12_steps MX12_no 0 := ⟨⟨rfl, rfl, Nat.le_of_ble_eq_true rfl, Nat.le_of_ble_eq_true rfl⟩, cwX12_no, iwX12_no, ⟨by decide, by decide⟩, by decide +kernel⟩
theorem kk_X12_steps_X12_known : zs_K MX12_steps MX12_known 0 := ⟨⟨rfl, rfl, Nat.le_of_ble_eq_true rfl, Nat.le_of_ble_eq_true rfl⟩, cwX12_known, iwX12_known, ⟨by decide, by decide⟩, by decide +kernel⟩
theorem kk_X12_isFrame_X12_in : zs_K MX12_isFrame MX12_in 3 := ⟨⟨rfl, rfl, Nat.le_of_ble_eq_true rfl, Nat.le_of_ble_eq_true rfl⟩, cwX12_in, iwX12_in, ⟨by decide, by decide⟩, by decide +kernel⟩
theorem kk_X12_isEye_X12_in : zs_K MX12_isEye MX12_in 3 := ⟨⟨rfl, rfl, Nat.le_of_ble_eq_true rfl, Nat.le_of_ble_eq_true rfl⟩, cwX12_in, iwX12_in, ⟨by decide, by decide⟩, by decide +kernel⟩
theorem kk_X12_draws_X12_isFrame : zs_K MX12_draws MX12_isFrame 1 := ⟨⟨rfl, rfl, Nat.le_of_ble_eq_true rfl, Nat.le_of_ble_eq_true rfl⟩, cwX12_isFrame, iwX12_isFrame, ⟨by decide, by decide⟩, by decide +kernel⟩
theorem kk_X12_draws_X12_in : zs_K MX12_draws MX12_in 3 := ⟨⟨rfl, rfl, Nat.le_of_ble_eq_true rfl, Nat.le_of_ble_eq_true rfl⟩, cwX12_in, iwX12_in, ⟨by decide, by decide⟩, by decide +kernel⟩
theorem kk_X12_draws_X12_bad : zs_K MX12_draws MX12_bad 0 := ⟨⟨rfl, rfl, Nat.le_of_ble_eq_true rfl, Nat.le_of_ble_eq_true rfl⟩, cwX12_bad, iwX12_bad, ⟨by decide, by decide⟩, by decide +kernel⟩
theorem kk_X12_draws_X12_no : zs_K MX12_draws MX12_no 0 := ⟨⟨rfl, rfl, Nat.le_of_ble_eq_true rfl, Nat.le_of_ble_eq_true rfl⟩, cwX12_no, iwX12_no, ⟨by decide, by decide⟩, by decide +kernel⟩
theorem kk_X12_draws_X12_known : zs_K MX12_draws MX12_known 0 := ⟨⟨rfl, rfl, Nat.le_of_ble_eq_true rfl, Nat.le_of_ble_eq_true rfl⟩, cwX12_known, iwX12_known, ⟨by decide, by decide⟩, by decide +kernel⟩
theorem kk_X12_undo_X12_no : zs_K MX12_undo MX12_no 0 := ⟨⟨rfl, rfl, Nat.le_of_ble_eq_true rfl, Nat.le_of_ble_eq_true rfl⟩, cwX12_no, iwX12_no, ⟨by decide, by decide⟩, by decide +kernel⟩
theorem kk_X12_undo_X12_copies : zs_K MX12_undo MX12_copies 2 := ⟨⟨rfl, rfl, Nat.le_of_ble_eq_true rfl, Nat.le_of_ble_eq_true rfl⟩, cwX12_copies, iwX12_copies, ⟨by decide, by decide⟩, by decide +kernel⟩
theorem kk_X12_of_X12_isEye : zs_K MX12_of MX12_isEye 1 := ⟨⟨rfl, rfl, Nat.le_of_ble_eq_true rfl, Nat.le_of_ble_eq_true rfl⟩, cwX12_isEye, iwX12_isEye, ⟨by decide, by decide⟩, by decide +kernel⟩
theorem kk_X12_of_X12_in : zs_K MX12_of MX12_in 3 := ⟨⟨rfl, rfl, Nat.le_of_ble_eq_true rfl, Nat.le_of_ble_eq_true rfl⟩, cwX12_in, iwX12_in, ⟨by decide, by decide⟩, by decide +kernel⟩
theorem kk_X12_of_X12_bad : zs_K MX12_of MX12_bad 0 := ⟨⟨rfl, rfl, Nat.le_of_ble_eq_true rfl, Nat.le_of_ble_eq_true rfl⟩, cwX12_bad, iwX12_bad, ⟨by decide, by decide⟩, by decide +kernel⟩
theorem kk_X12_drawn_X12_isFrame : zs_K MX12_drawn MX12_isFrame 1 := ⟨⟨rfl, rfl, Nat.le_of_ble_eq_true rfl, Nat.le_of_ble_eq_true rfl⟩, cwX12_isFrame, iwX12_isFrame, ⟨by decide, by decide⟩, by decide +kernel⟩
theorem kk_X12_drawn_X12_bad : zs_K MX12_drawn MX12_bad 0 := ⟨⟨rfl, rfl, Nat.le_of_ble_eq_true rfl, Nat.le_of_ble_eq_true rfl⟩, cwX12_bad, iwX12_bad, ⟨by decide, by decide⟩, by decide +kernel⟩
theorem kk_X12_tries_X12_copies : zs_K MX12_tries MX12_copies 2 := ⟨⟨rfl, rfl, Nat.le_of_ble_eq_true rfl, Nat.le_of_ble_eq_true rfl⟩, cwX12_copies, iwX12_copies, ⟨by decide, by decide⟩, by decide +kernel⟩
theorem kk_X12_flashes_X12_flash : zs_K MX12_flashes MX12_flash 3 := ⟨⟨rfl, rfl, Nat.le_of_ble_eq_true rfl, Nat.le_of_ble_eq_true rfl⟩, cwX12_flash, iwX12_flash, ⟨by decide, by decide⟩, by decide +kernel⟩
theorem kk_X12_at_X12_in : zs_K MX12_at MX12_in 3 := ⟨⟨rfl, rfl, Nat.le_of_ble_eq_true rfl, Nat.le_of_ble_eq_true rfl⟩, cwX12_in, iwX12_in, ⟨by decide, by decide⟩, by decide +kernel⟩
theorem kk_X12_at_X12_bad : zs_K MX12_at MX12_bad 0 := ⟨⟨rfl, rfl, Nat.le_of_ble_eq_true rfl, Nat.le_of_ble_eq_true rfl⟩, cwX12_bad, iwX12_bad, ⟨by decide, by decide⟩, by decide +kernel⟩
theorem kk_X12_at_X12_tries : zs_K MX12_at MX12_tries 0 := ⟨⟨rfl, rfl, Nat.le_of_ble_eq_true rfl, Nat.le_of_ble_eq_true rfl⟩, cwX12_tries, iwX12_tries, ⟨by decide, by decide⟩, by decide +kernel⟩
theorem kk_X12_at_X12_flashes : zs_K MX12_at MX12_flashes 2 := ⟨⟨rfl, rfl, Nat.le_of_ble_eq_true rfl, Nat.le_of_ble_eq_true rfl⟩, cwX12_flashes, iwX12_flashes, ⟨by decide, by decide⟩, by decide +kernel⟩
theorem kk_X12_sees_X12_isEye : zs_K MX12_sees MX12_isEye 1 := ⟨⟨rfl, rfl, Nat.le_of_ble_eq_true rfl, Nat.le_of_ble_eq_true rfl⟩, cwX12_isEye, iwX12_isEye, ⟨by decide, by decide⟩, by decide +kernel⟩
theorem kk_X12_sees_X12_in : zs_K MX12_sees MX12_in 3 := ⟨⟨rfl, rfl, Nat.le_of_ble_eq_true rfl, Nat.le_of_ble_eq_true rfl⟩, cwX12_in, iwX12_in, ⟨by decide, by decide⟩, by decide +kernel⟩
theorem kk_X12_sees_X12_bad : zs_K MX12_sees MX12_bad 0 := ⟨⟨rfl, rfl, Nat.le_of_ble_eq_true rfl, Nat.le_of_ble_eq_true rfl⟩, cwX12_bad, iwX12_bad, ⟨by decide, by decide⟩, by decide +kernel⟩
theorem kk_X12_sees_X12_tries : zs_K MX12_sees MX12_tries 0 := ⟨⟨rfl, rfl, Nat.le_of_ble_eq_true rfl, Nat.le_of_ble_eq_true rfl⟩, cwX12_tries, iwX12_tries, ⟨by decide, by decide⟩, by decide +kernel⟩
theorem kk_X12_sees_X12_flashes : zs_K MX12_sees MX12_flashes 2 := ⟨⟨rfl, rfl, Nat.le_of_ble_eq_true rfl, Nat.le_of_ble_eq_true rfl⟩, cwX12_flashes, iwX12_flashes, ⟨by decide, by decide⟩, by decide +kernel⟩
theorem kk_X12_round_X12_tries : zs_K MX12_round MX12_tries 0 := ⟨⟨rfl, rfl, Nat.le_of_ble_eq_true rfl, Nat.le_of_ble_eq_true rfl⟩, cwX12_tries, iwX12_tries, ⟨by decide, by decide⟩, by decide +kernel⟩
theorem kk_X12_round_X12_flashes : zs_K MX12_round MX12_flashes 2 := ⟨⟨rfl, rfl, Nat.le_of_ble_eq_true rfl, Nat.le_of_ble_eq_true rfl⟩, cwX12_flashes, iwX12_flashes, ⟨by decide, by decide⟩, by decide +kernel⟩
theorem kk_X12_still_X12_in : zs_K MX12_still MX12_in 3 := ⟨⟨rfl, rfl, Nat.le_of_ble_eq_true rfl, Nat.le_of_ble_eq_true rfl⟩, cwX12_in, iwX12_in, ⟨by decide, by decide⟩, by decide +kernel⟩
theorem kk_X12_still_X12_bad : zs_K MX12_still MX12_bad 0 := ⟨⟨rfl, rfl, Nat.le_of_ble_eq_true rfl, Nat.le_of_ble_eq_true rfl⟩, cwX12_bad, iwX12_bad, ⟨by decide, by decide⟩, by decide +kernel⟩
theorem kk_X12_still_X12_tries : zs_K MX12_still MX12_tries 0 := ⟨⟨rfl, rfl, Nat.le_of_ble_eq_true rfl, Nat.le_of_ble_eq_true rfl⟩, cwX12_tries, iwX12_tries, ⟨by decide, by decide⟩, by decide +kernel⟩
theorem kk_X12_still_X12_flashes : zs_K MX12_still MX12_flashes 2 := ⟨⟨rfl, rfl, Nat.le_of_ble_eq_true rfl, Nat.le_of_ble_eq_true rfl⟩, cwX12_flashes, iwX12_flashes, ⟨by decide, by decide⟩, by decide +kernel⟩
theorem kk_X12_most_X12_isEye : zs_K MX12_most MX12_isEye 1 := ⟨⟨rfl, rfl, Nat.le_of_ble_eq_true rfl, Nat.le_of_ble_eq_true rfl⟩, cwX12_isEye, iwX12_isEye, ⟨by decide, by decide⟩, by decide +kernel⟩
theorem kk_X12_most_X12_in : zs_K MX12_most MX12_in 3 := ⟨⟨rfl, rfl, Nat.le_of_ble_eq_true rfl, Nat.le_of_ble_eq_true rfl⟩, cwX12_in, iwX12_in, ⟨by decide, by decide⟩, by decide +kernel⟩
theorem kk_X12_most_X12_bad : zs_K MX12_most MX12_bad 0 := ⟨⟨rfl, rfl, Nat.le_of_ble_eq_true rfl, Nat.le_of_ble_eq_true rfl⟩, cwX12_bad, iwX12_bad, ⟨by decide, by decide⟩, by decide +kernel⟩
theorem kk_X12_most_X12_tries : zs_K MX12_most MX12_tries 0 := ⟨⟨rfl, rfl, Nat.le_of_ble_eq_true rfl, Nat.le_of_ble_eq_true rfl⟩, cwX12_tries, iwX12_tries, ⟨by decide, by decide⟩, by decide +kernel⟩
theorem kk_X12_most_X12_flashes : zs_K MX12_most MX12_flashes 2 := ⟨⟨rfl, rfl, Nat.le_of_ble_eq_true rfl, Nat.le_of_ble_eq_true rfl⟩, cwX12_flashes, iwX12_flashes, ⟨by decide, by decide⟩, by decide +kernel⟩
theorem kk_X12_costOf_X12_apart : zs_K MX12_costOf MX12_apart 2 := ⟨⟨rfl, rfl, Nat.le_of_ble_eq_true rfl, Nat.le_of_ble_eq_true rfl⟩, cwX12_apart, iwX12_apart, ⟨by decide, by decide⟩, by decide +kernel⟩
theorem kk_X12_smooth_X12_in : zs_K MX12_smooth MX12_in 3 := ⟨⟨rfl, rfl, Nat.le_of_ble_eq_true rfl, Nat.le_of_ble_eq_true rfl⟩, cwX12_in, iwX12_in, ⟨by decide, by decide⟩, by decide +kernel⟩
theorem kk_X12_smooth_X12_bad10 : zs_K MX12_smooth MX12_bad10 0 := ⟨⟨rfl, rfl, Nat.le_of_ble_eq_true rfl, Nat.le_of_ble_eq_true rfl⟩, cwX12_bad10, iwX12_bad10, ⟨by decide, by decide⟩, by decide +kernel⟩
theorem kk_X12_smooth_X12_costOf : zs_K MX12_smooth MX12_costOf 1 := ⟨⟨rfl, rfl, Nat.le_of_ble_eq_true rfl, Nat.le_of_ble_eq_true rfl⟩, cwX12_costOf, iwX12_costOf, ⟨by decide, by decide⟩, by decide +kernel⟩
theorem kk_X12_smooth_X12_apart : zs_K MX12_smooth MX12_apart 2 := ⟨⟨rfl, rfl, Nat.le_of_ble_eq_true rfl, Nat.le_of_ble_eq_true rfl⟩, cwX12_apart, iwX12_apart, ⟨by decide, by decide⟩, by decide +kernel⟩
theorem kk_X12_seen_X12_in : zs_K MX12_seen MX12_in 3 := ⟨⟨rfl, rfl, Nat.le_of_ble_eq_true rfl, Nat.le_of_ble_eq_true rfl⟩, cwX12_in, iwX12_in, ⟨by decide, by decide⟩, by decide +kernel⟩
theorem kk_X12_seen_X12_bad : zs_K MX12_seen MX12_bad 0 := ⟨⟨rfl, rfl, Nat.le_of_ble_eq_true rfl, Nat.le_of_ble_eq_true rfl⟩, cwX12_bad, iwX12_bad, ⟨by decide, by decide⟩, by decide +kernel⟩
theorem kk_X12_seen_X12_full : zs_K MX12_seen MX12_full 0 := ⟨⟨rfl, rfl, Nat.le_of_ble_eq_true rfl, Nat.le_of_ble_eq_true rfl⟩, cwX12_full, iwX12_full, ⟨by decide, by decide⟩, by decide +kernel⟩
theorem kk_X12_shown_X12_passes : zs_K MX12_shown MX12_passes 3 := ⟨⟨rfl, rfl, Nat.le_of_ble_eq_true rfl, Nat.le_of_ble_eq_true rfl⟩, cwX12_passes, iwX12_passes, ⟨by decide, by decide⟩, by decide +kernel⟩
theorem kk_X12_isSo_X12_shown : zs_K MX12_isSo MX12_shown 2 := ⟨⟨rfl, rfl, Nat.le_of_ble_eq_true rfl, Nat.le_of_ble_eq_true rfl⟩, cwX12_shown, iwX12_shown, ⟨by decide, by decide⟩, by decide +kernel⟩
theorem kk_X12_began_X12_bad10 : zs_K MX12_began MX12_bad10 0 := ⟨⟨rfl, rfl, Nat.le_of_ble_eq_true rfl, Nat.le_of_ble_eq_true rfl⟩, cwX12_bad10, iwX12_bad10, ⟨by decide, by decide⟩, by decide +kernel⟩
theorem kk_X12_began_X12_isSo : zs_K MX12_began MX12_isSo 1 := ⟨⟨rfl, rfl, Nat.le_of_ble_eq_true rfl, Nat.le_of_ble_eq_true rfl⟩, cwX12_isSo, iwX12_isSo, ⟨by decide, by decide⟩, by decide +kernel⟩
theorem kk_X12_tell_X12_isSo : zs_K MX12_tell MX12_isSo 1 := ⟨⟨rfl, rfl, Nat.le_of_ble_eq_true rfl, Nat.le_of_ble_eq_true rfl⟩, cwX12_isSo, iwX12_isSo, ⟨by decide, by decide⟩, by decide +kernel⟩
theorem kk_X12_tell_X12_shown : zs_K MX12_tell MX12_shown 2 := ⟨⟨rfl, rfl, Nat.le_of_ble_eq_true rfl, Nat.le_of_ble_eq_true rfl⟩, cwX12_shown, iwX12_shown, ⟨by decide, by decide⟩, by decide +kernel⟩
theorem kk_X12_note_X12_isEye : zs_K MX12_note MX12_isEye 1 := ⟨⟨rfl, rfl, Nat.le_of_ble_eq_true rfl, Nat.le_of_ble_eq_true rfl⟩, cwX12_isEye, iwX12_isEye, ⟨by decide, by decide⟩, by decide +kernel⟩
theorem kk_X12_note_X12_in : zs_K MX12_note MX12_in 3 := ⟨⟨rfl, rfl, Nat.le_of_ble_eq_true rfl, Nat.le_of_ble_eq_true rfl⟩, cwX12_in, iwX12_in, ⟨by decide, by decide⟩, by decide +kernel⟩
theorem kk_X12_note_X12_bad : zs_K MX12_note MX12_bad 0 := ⟨⟨rfl, rfl, Nat.le_of_ble_eq_true rfl, Nat.le_of_ble_eq_true rfl⟩, cwX12_bad, iwX12_bad, ⟨by decide, by decide⟩, by decide +kernel⟩
theorem kk_X12_note_X12_full : zs_K MX12_note MX12_full 0 := ⟨⟨rfl, rfl, Nat.le_of_ble_eq_true rfl, Nat.le_of_ble_eq_true rfl⟩, cwX12_full, iwX12_full, ⟨by decide, by decide⟩, by decide +kernel⟩
theorem kk_X12_mark_X12_in : zs_K MX12_mark MX12_in 3 := ⟨⟨rfl, rfl, Nat.le_of_ble_eq_true rfl, Nat.le_of_ble_eq_true rfl⟩, cwX12_in, iwX12_in, ⟨by decide, by decide⟩, by decide +kernel⟩
theorem kk_X12_mark_X12_bad : zs_K MX12_mark MX12_bad 0 := ⟨⟨rfl, rfl, Nat.le_of_ble_eq_true rfl, Nat.le_of_ble_eq_true rfl⟩, cwX12_bad, iwX12_bad, ⟨by decide, by decide⟩, by decide +kernel⟩
theorem kk_X12_mark_X12_full : zs_K MX12_mark MX12_full 0 := ⟨⟨rfl, rfl, Nat.le_of_ble_eq_true rfl, Nat.le_of_ble_eq_true rfl⟩, cwX12_full, iwX12_full, ⟨by decide, by decide⟩, by decide +kernel⟩
theorem kk_X12_forget_X12_in : zs_K MX12_forget MX12_in 3 := ⟨⟨rfl, rfl, Nat.le_of_ble_eq_true rfl, Nat.le_of_ble_eq_true rfl⟩, cwX12_in, iwX12_in, ⟨by decide, by decide⟩, by decide +kernel⟩
theorem kk_X12_forget_X12_bad : zs_K MX12_forget MX12_bad 0 := ⟨⟨rfl, rfl, Nat.le_of_ble_eq_true rfl, Nat.le_of_ble_eq_true rfl⟩, cwX12_bad, iwX12_bad, ⟨by decide, by decide⟩, by decide +kernel⟩
theorem kk_X12_eyesThat_X12_looks : zs_K MX12_eyesThat MX12_looks 3 := ⟨⟨rfl, rfl, Nat.le_of_ble_eq_true rfl, Nat.le_of_ble_eq_true rfl⟩, cwX12_looks, iwX12_looks, ⟨by decide, by decide⟩, by decide +kernel⟩
theorem kk_X12_is_X12_isEye : zs_K MX12_is MX12_isEye 1 := ⟨⟨rfl, rfl, Nat.le_of_ble_eq_true rfl, Nat.le_of_ble_eq_true rfl⟩, cwX12_isEye, iwX12_isEye, ⟨by decide, by decide⟩, by decide +kernel⟩
theorem kk_X12_is_X12_eyesThat : zs_K MX12_is MX12_eyesThat 1 := ⟨⟨rfl, rfl, Nat.le_of_ble_eq_true rfl, Nat.le_of_ble_eq_true rfl⟩, cwX12_eyesThat, iwX12_eyesThat, ⟨by decide, by decide⟩, by decide +kernel⟩
theorem kk_X12_is_X12_bad : zs_K MX12_is MX12_bad 0 := ⟨⟨rfl, rfl, Nat.le_of_ble_eq_true rfl, Nat.le_of_ble_eq_true rfl⟩, cwX12_bad, iwX12_bad, ⟨by decide, by decide⟩, by decide +kernel⟩
theorem kk_X12_look_X12_isEye : zs_K MX12_look MX12_isEye 1 := ⟨⟨rfl, rfl, Nat.le_of_ble_eq_true rfl, Nat.le_of_ble_eq_true rfl⟩, cwX12_isEye, iwX12_isEye, ⟨by decide, by decide⟩, by decide +kernel⟩
theorem kk_X12_look_X12_bad : zs_K MX12_look MX12_bad 0 := ⟨⟨rfl, rfl, Nat.le_of_ble_eq_true rfl, Nat.le_of_ble_eq_true rfl⟩, cwX12_bad, iwX12_bad, ⟨by decide, by decide⟩, by decide +kernel⟩
theorem kk_X12_look_X12_eyesThat : zs_K MX12_look MX12_eyesThat 1 := ⟨⟨rfl, rfl, Nat.le_of_ble_eq_true rfl, Nat.le_of_ble_eq_true rfl⟩, cwX12_eyesThat, iwX12_eyesThat, ⟨by decide, by decide⟩, by decide +kernel⟩
theorem kk_X12_look_X12_has : zs_K MX12_look MX12_has 2 := ⟨⟨rfl, rfl, Nat.le_of_ble_eq_true rfl, Nat.le_of_ble_eq_true rfl⟩, cwX12_has, iwX12_has, ⟨by decide, by decide⟩, by decide +kernel⟩
theorem kk_X12_look_X12_looks : zs_K MX12_look MX12_looks 3 := ⟨⟨rfl, rfl, Nat.le_of_ble_eq_true rfl, Nat.le_of_ble_eq_true rfl⟩, cwX12_looks, iwX12_looks, ⟨by decide, by decide⟩, by decide +kernel⟩
theorem kk_X12_kinds_X12_passes : zs_K MX12_kinds MX12_passes 3 := ⟨⟨rfl, rfl, Nat.le_of_ble_eq_true rfl, Nat.le_of_ble_eq_true rfl⟩, cwX12_passes, iwX12_passes, ⟨by decide, by decide⟩, by decide +kernel⟩
theorem kk_X12_ask_X12_kinds : zs_K MX12_ask MX12_kinds 0 := ⟨⟨rfl, rfl, Nat.le_of_ble_eq_true rfl, Nat.le_of_ble_eq_true rfl⟩, cwX12_kinds, iwX12_kinds, ⟨by decide, by decide⟩, by decide +kernel⟩
theorem kk_X12_ask_X12_has : zs_K MX12_ask MX12_has 2 := ⟨⟨rfl, rfl, Nat.le_of_ble_eq_true rfl, Nat.le_of_ble_eq_true rfl⟩, cwX12_has, iwX12_has, ⟨by decide, by decide⟩, by decide +kernel⟩
theorem kk_X12_ask_X12_passes : zs_K MX12_ask MX12_passes 3 := ⟨⟨rfl, rfl, Nat.le_of_ble_eq_true rfl, Nat.le_of_ble_eq_true rfl⟩, cwX12_passes, iwX12_passes, ⟨by decide, by decide⟩, by decide +kernel⟩
theorem kk_X12_hands_X12_isEye : zs_K MX12_hands MX12_isEye 1 := ⟨⟨rfl, rfl, Nat.le_of_ble_eq_true rfl, Nat.le_of_ble_eq_true rfl⟩, cwX12_isEye, iwX12_isEye, ⟨by decide, by decide⟩, by decide +kernel⟩
theorem kk_X12_hands_X12_bad10 : zs_K MX12_hands MX12_bad10 0 := ⟨⟨rfl, rfl, Nat.le_of_ble_eq_true rfl, Nat.le_of_ble_eq_true rfl⟩, cwX12_bad10, iwX12_bad10, ⟨by decide, by decide⟩, by decide +kernel⟩
theorem kk_X12_hands_X12_tries : zs_K MX12_hands MX12_tries 0 := ⟨⟨rfl, rfl, Nat.le_of_ble_eq_true rfl, Nat.le_of_ble_eq_true rfl⟩, cwX12_tries, iwX12_tries, ⟨by decide, by decide⟩, by decide +kernel⟩
theorem kk_X12_hands_X12_flashes : zs_K MX12_hands MX12_flashes 2 := ⟨⟨rfl, rfl, Nat.le_of_ble_eq_true rfl, Nat.le_of_ble_eq_true rfl⟩, cwX12_flashes, iwX12_flashes, ⟨by decide, by decide⟩, by decide +kernel⟩
theorem kk_X12_hands_X12_rests : zs_K MX12_hands MX12_rests 2 := ⟨⟨rfl, rfl, Nat.le_of_ble_eq_true rfl, Nat.le_of_ble_eq_true rfl⟩, cwX12_rests, iwX12_rests, ⟨by decide, by decide⟩, by decide +kernel⟩
theorem kk_X12_smear_X12_isEye : zs_K MX12_smear MX12_isEye 1 := ⟨⟨rfl, rfl, Nat.le_of_ble_eq_true rfl, Nat.le_of_ble_eq_true rfl⟩, cwX12_isEye, iwX12_isEye, ⟨by decide, by decide⟩, by decide +kernel⟩
theorem kk_X12_smear_X12_in : zs_K MX12_smear MX12_in 3 := ⟨⟨rfl, rfl, Nat.le_of_ble_eq_true rfl, Nat.le_of_ble_eq_true rfl⟩, cwX12_in, iwX12_in, ⟨by decide, by decide⟩, by decide +kernel⟩
theorem kk_X12_smear_X12_bad : zs_K MX12_smear MX12_bad 0 := ⟨⟨rfl, rfl, Nat.le_of_ble_eq_true rfl, Nat.le_of_ble_eq_true rfl⟩, cwX12_bad, iwX12_bad, ⟨by decide, by decide⟩, by decide +kernel⟩
theorem kk_X12_smear_X12_tries : zs_K MX12_smear MX12_tries 0 := ⟨⟨rfl, rfl, Nat.le_of_ble_eq_true rfl, Nat.le_of_ble_eq_true rfl⟩, cwX12_tries, iwX12_tries, ⟨by decide, by decide⟩, by decide +kernel⟩
theorem kk_X12_smear_X12_has : zs_K MX12_smear MX12_has 2 := ⟨⟨rfl, rfl, Nat.le_of_ble_eq_true rfl, Nat.le_of_ble_eq_true rfl⟩, cwX12_has, iwX12_has, ⟨by decide, by decide⟩, by decide +kernel⟩
theorem kk_X12_smear_X12_flash : zs_K MX12_smear MX12_flash 3 := ⟨⟨rfl, rfl, Nat.le_of_ble_eq_true rfl, Nat.le_of_ble_eq_true rfl⟩, cwX12_flash, iwX12_flash, ⟨by decide, by decide⟩, by decide +kernel⟩
theorem kk_X12_nights_X12_in : zs_K MX12_nights MX12_in 3 := ⟨⟨rfl, rfl, Nat.le_of_ble_eq_true rfl, Nat.le_of_ble_eq_true rfl⟩, cwX12_in, iwX12_in, ⟨by decide, by decide⟩, by decide +kernel⟩
theorem kk_X12_nights_X12_bad : zs_K MX12_nights MX12_bad 0 := ⟨⟨rfl, rfl, Nat.le_of_ble_eq_true rfl, Nat.le_of_ble_eq_true rfl⟩, cwX12_bad, iwX12_bad, ⟨by decide, by decide⟩, by decide +kernel⟩
theorem kk_X12_nights_X12_tries : zs_K MX12_nights MX12_tries 0 := ⟨⟨rfl, rfl, Nat.le_of_ble_eq_true rfl, Nat.le_of_ble_eq_true rfl⟩, cwX12_tries, iwX12_tries, ⟨by decide, by decide⟩, by decide +kernel⟩
theorem kk_X12_nights_X12_flash : zs_K MX12_nights MX12_flash 3 := ⟨⟨rfl, rfl, Nat.le_of_ble_eq_true rfl, Nat.le_of_ble_eq_true rfl⟩, cwX12_flash, iwX12_flash, ⟨by decide, by decide⟩, by decide +kernel⟩
theorem kk_X12_nights_X12_movesOf : zs_K MX12_nights MX12_movesOf 1 := ⟨⟨rfl, rfl, Nat.le_of_ble_eq_true rfl, Nat.le_of_ble_eq_true rfl⟩, cwX12_movesOf, iwX12_movesOf, ⟨by decide, by decide⟩, by decide +kernel⟩
theorem kk_X12_part_X12_in : zs_K MX12_part MX12_in 3 := ⟨⟨rfl, rfl, Nat.le_of_ble_eq_true rfl, Nat.le_of_ble_eq_true rfl⟩, cwX12_in, iwX12_in, ⟨by decide, by decide⟩, by decide +kernel⟩
theorem kk_X12_part_X12_bad : zs_K MX12_part MX12_bad 0 := ⟨⟨rfl, rfl, Nat.le_of_ble_eq_true rfl, Nat.le_of_ble_eq_true rfl⟩, cwX12_bad, iwX12_bad, ⟨by decide, by decide⟩, by decide +kernel⟩
theorem kk_X12_image_X12_in : zs_K MX12_image MX12_in 3 := ⟨⟨rfl, rfl, Nat.le_of_ble_eq_true rfl, Nat.le_of_ble_eq_true rfl⟩, cwX12_in, iwX12_in, ⟨by decide, by decide⟩, by decide +kernel⟩
theorem kk_X12_image_X12_bad : zs_K MX12_image MX12_bad 0 := ⟨⟨rfl, rfl, Nat.le_of_ble_eq_true rfl, Nat.le_of_ble_eq_true rfl⟩, cwX12_bad, iwX12_bad, ⟨by decide, by decide⟩, by decide +kernel⟩
theorem kk_X12_image_X12_carries : zs_K MX12_image MX12_carries 4 := ⟨⟨rfl, rfl, Nat.le_of_ble_eq_true rfl, Nat.le_of_ble_eq_true rfl⟩, cwX12_carries, iwX12_carries, ⟨by decide, by decide⟩, by decide +kernel⟩
theorem kk_X12_from_X12_in : zs_K MX12_from MX12_in 3 := ⟨⟨rfl, rfl, Nat.le_of_ble_eq_true rfl, Nat.le_of_ble_eq_true rfl⟩, cwX12_in, iwX12_in, ⟨by decide, by decide⟩, by decide +kernel⟩
theorem kk_X12_from_X12_bad : zs_K MX12_from MX12_bad 0 := ⟨⟨rfl, rfl, Nat.le_of_ble_eq_true rfl, Nat.le_of_ble_eq_true rfl⟩, cwX12_bad, iwX12_bad, ⟨by decide, by decide⟩, by decide +kernel⟩
theorem kk_X12_from_X12_no : zs_K MX12_from MX12_no 0 := ⟨⟨rfl, rfl, Nat.le_of_ble_eq_true rfl, Nat.le_of_ble_eq_true rfl⟩, cwX12_no, iwX12_no, ⟨by decide, by decide⟩, by decide +kernel⟩
theorem kk_X12_from_X12_carries : zs_K MX12_from MX12_carries 4 := ⟨⟨rfl, rfl, Nat.le_of_ble_eq_true rfl, Nat.le_of_ble_eq_true rfl⟩, cwX12_carries, iwX12_carries, ⟨by decide, by decide⟩, by decide +kernel⟩
theorem kk_X12_status_X12_in : zs_K MX12_status MX12_in 3 := ⟨⟨rfl, rfl, Nat.le_of_ble_eq_true rfl, Nat.le_of_ble_eq_true rfl⟩, cwX12_in, iwX12_in, ⟨by decide, by decide⟩, by decide +kernel⟩
theorem kk_X12_countOf_X12_movesOf : zs_K MX12_countOf MX12_movesOf 1 := ⟨⟨rfl, rfl, Nat.le_of_ble_eq_true rfl, Nat.le_of_ble_eq_true rfl⟩, cwX12_movesOf, iwX12_movesOf, ⟨by decide, by decide⟩, by decide +kernel⟩
theorem kk_X12_count_X12_in : zs_K MX12_count MX12_in 3 := ⟨⟨rfl, rfl, Nat.le_of_ble_eq_true rfl, Nat.le_of_ble_eq_true rfl⟩, cwX12_in, iwX12_in, ⟨by decide, by decide⟩, by decide +kernel⟩
theorem kk_X12_count_X12_countOf : zs_K MX12_count MX12_countOf 1 := ⟨⟨rfl, rfl, Nat.le_of_ble_eq_true rfl, Nat.le_of_ble_eq_true rfl⟩, cwX12_countOf, iwX12_countOf, ⟨by decide, by decide⟩, by decide +kernel⟩
theorem kk_X12_count_X12_bad : zs_K MX12_count MX12_bad 0 := ⟨⟨rfl, rfl, Nat.le_of_ble_eq_true rfl, Nat.le_of_ble_eq_true rfl⟩, cwX12_bad, iwX12_bad, ⟨by decide, by decide⟩, by decide +kernel⟩
theorem kk_X12_digest_X12_countOf : zs_K MX12_digest MX12_countOf 1 := ⟨⟨rfl, rfl, Nat.le_of_ble_eq_true rfl, Nat.le_of_ble_eq_true rfl⟩, cwX12_countOf, iwX12_countOf, ⟨by decide, by decide⟩, by decide +kernel⟩
theorem kk_J0_length_8abf5_J0_coder_7d493 : zs_K MJ0_length_8abf5 MJ0_coder_7d493 0 := ⟨⟨rfl, rfl, Nat.le_of_ble_eq_true rfl, Nat.le_of_ble_eq_true rfl⟩, cwJ0_coder_7d493, iwJ0_coder_7d493, ⟨by decide, by decide⟩, by decide +kernel⟩
theorem kk_J0_charAt_5068e_J0_isLatin1_aae02 : zs_K MJ0_charAt_5068e MJ0_isLatin1_aae02 0 := ⟨⟨rfl, rfl, Nat.le_of_ble_eq_true rfl, Nat.le_of_ble_eq_true rfl⟩, cwJ0_isLatin1_aae02, iwJ0_isLatin1_aae02, ⟨by decide, by decide⟩, by decide +kernel⟩
theorem kk_J0_charAt_5068e_J1_charAt_3b067 : zs_K MJ0_charAt_5068e MJ1_charAt_3b067 2 := ⟨⟨rfl, rfl, Nat.le_of_ble_eq_true rfl, Nat.le_of_ble_eq_true rfl⟩, cwJ1_charAt_3b067, iwJ1_charAt_3b067, ⟨by decide, by decide⟩, by decide +kernel⟩
theorem kk_J0_checkIndex_df160_J3_checkIndex_8e157 : zs_K MJ0_checkIndex_df160 MJ3_checkIndex_8e157 3 := ⟨⟨rfl, rfl, Nat.le_of_ble_eq_true rfl, Nat.le_of_ble_eq_true rfl⟩, cwJ3_checkIndex_8e157, iwJ3_checkIndex_8e157, ⟨by decide, by decide⟩, by decide +kernel⟩
theorem kk_J1_charAt_3b067_J0_checkIndex_df160 : zs_K MJ1_charAt_3b067 MJ0_checkIndex_df160 2 := ⟨⟨rfl, rfl, Nat.le_of_ble_eq_true rfl, Nat.le_of_ble_eq_true rfl⟩, cwJ0_checkIndex_df160, iwJ0_checkIndex_df160, ⟨by decide, by decide⟩, by decide +kernel⟩
set_option maxRecDepth 100000 in
theorem ml_RX0_24 : Cond.methodLink RX0 24 MX0_fillPassed.1 ∈ zs_tbl := zs_iq4 18 rfl rfl
set_option maxRecDepth 100000 in
theorem ml_RX0_34 : Cond.methodLink RX0 34 MX0_fits.1 ∈ zs_tbl := zs_iq4 24 rfl rfl
theorem nl_RX0_38 : (RX0, 38, MX11_put.1, "ZoeStrips") ∈ zs_nst := List.mem_of_getElem? (i := 29) rfl
set_option maxRecDepth 100000 in
theorem fl_RX0_18 : Cond.fieldLink RX0 18 (TX6 1).1 (TX6 1).2.1 (TX6 1).2.2.1 ∈ zs_tbl := zs_iq1 110 rfl rfl
set_option maxRecDepth 100000 in
theorem fl_RX0_28 : Cond.fieldLink RX0 28 (TX0 2).1 (TX0 2).2.1 (TX0 2).2.2.1 ∈ zs_tbl := zs_iq1 214 rfl rfl
set_option maxRecDepth 100000 in
theorem fl_RX0_31 : Cond.fieldLink RX0 31 (TX6 0).1 (TX6 0).2.1 (TX6 0).2.2.1 ∈ zs_tbl := zs_iq1 107 rfl rfl
set_option maxRecDepth 100000 in
theorem fl_RX0_15 : Cond.fieldLink RX0 15 (TX0 1).1 (TX0 1).2.1 (TX0 1).2.2.1 ∈ zs_tbl := zs_iq1 212 rfl rfl
set_option maxRecDepth 100000 in
theorem ml_RX0_42 : Cond.methodLink RX0 42 MX9_begin.1 ∈ zs_tbl := zs_iq4 48 rfl rfl
theorem nl_RX0_47 : (RX0, 47, MX11_cell.1, "ZoeStrips") ∈ zs_nst := List.mem_of_getElem? (i := 31) rfl
set_option maxRecDepth 100000 in
theorem ml_RX0_51 : Cond.methodLink RX0 51 MX0_drawingAt.1 ∈ zs_tbl := zs_iq4 33 rfl rfl
set_option maxRecDepth 100000 in
theorem ml_RX0_55 : Cond.methodLink RX0 55 MX9_add.1 ∈ zs_tbl := zs_iq4 53 rfl rfl
set_option maxRecDepth 100000 in
theorem ml_RX0_58 : Cond.methodLink RX0 58 MX2_passing.1 ∈ zs_tbl := zs_iq4 22 rfl rfl
set_option maxRecDepth 100000 in
theorem fl_RX0_9 : Cond.fieldLink RX0 9 (TX0 0).1 (TX0 0).2.1 (TX0 0).2.2.1 ∈ zs_tbl := zs_iq1 211 rfl rfl
set_option maxRecDepth 100000 in
theorem ml_RX0_71 : Cond.methodLink RX0 71 MX5_value.1 ∈ zs_tbl := zs_iq4 28 rfl rfl
set_option maxRecDepth 100000 in
theorem fl_RX0_64 : Cond.fieldLink RX0 64 (TX6 6).1 (TX6 6).2.1 (TX6 6).2.2.1 ∈ zs_tbl := zs_iq1 125 rfl rfl
set_option maxRecDepth 100000 in
theorem fl_RX0_68 : Cond.fieldLink RX0 68 (TX5 2).1 (TX5 2).2.1 (TX5 2).2.2.1 ∈ zs_tbl := zs_iq1 97 rfl rfl
theorem nl_RX0_84 : (RX0, 84, MX11_wrap.1, "ZoeStrips") ∈ zs_nst := List.mem_of_getElem? (i := 32) rfl
set_option maxRecDepth 100000 in
theorem fl_RX0_75 : Cond.fieldLink RX0 75 (TX6 4).1 (TX6 4).2.1 (TX6 4).2.2.1 ∈ zs_tbl := zs_iq1 119 rfl rfl
set_option maxRecDepth 100000 in
theorem fl_RX0_79 : Cond.fieldLink RX0 79 (TX3 3).1 (TX3 3).2.1 (TX3 3).2.2.1 ∈ zs_tbl := zs_iq1 50 rfl rfl
set_option maxRecDepth 100000 in
theorem ml_RX1_9 : Cond.methodLink RX1 9 MX1_lazy.1 ∈ zs_tbl := zs_iq3 63 rfl rfl
set_option maxRecDepth 100000 in
theorem ml_RX1_15 : Cond.methodLink RX1 15 MX1_sharp.1 ∈ zs_tbl := zs_iq3 66 rfl rfl
set_option maxRecDepth 100000 in
theorem ml_RX1_18 : Cond.methodLink RX1 18 MX1_child.1 ∈ zs_tbl := zs_iq3 72 rfl rfl
set_option maxRecDepth 100000 in
theorem ml_RX1_21 : Cond.methodLink RX1 21 MJ9_abs_0f7a4.1 ∈ zs_tbl := zs_iq3 69 rfl rfl
set_option maxRecDepth 100000 in
theorem ml_RX1_27 : Cond.methodLink RX1 27 MJ9_min_7cf53.1 ∈ zs_tbl := zs_iq3 75 rfl rfl
set_option maxRecDepth 100000 in
theorem ml_RX2_7 : Cond.methodLink RX2 7 MX2_twice.1 ∈ zs_tbl := zs_iq3 40 rfl rfl
set_option maxRecDepth 100000 in
theorem ml_RX2_13 : Cond.methodLink RX2 13 MX2_jerk.1 ∈ zs_tbl := zs_iq3 43 rfl rfl
set_option maxRecDepth 100000 in
theorem ml_RX2_17 : Cond.methodLink RX2 17 MJ9_max_7cf53.1 ∈ zs_tbl := zs_iq3 46 rfl rfl
theorem nl_RX3_31 : (RX3, 31, MX11_fill.1, "ZoeStrips") ∈ zs_nst := List.mem_of_getElem? (i := 11) rfl
set_option maxRecDepth 100000 in
theorem fl_RX3_25 : Cond.fieldLink RX3 25 (TX3 0).1 (TX3 0).2.1 (TX3 0).2.2.1 ∈ zs_tbl := zs_iq1 39 rfl rfl
set_option maxRecDepth 100000 in
theorem fl_RX3_28 : Cond.fieldLink RX3 28 (TX3 1).1 (TX3 1).2.1 (TX3 1).2.2.1 ∈ zs_tbl := zs_iq1 42 rfl rfl
set_option maxRecDepth 100000 in
theorem fl_RX3_9 : Cond.fieldLink RX3 9 (TX3 2).1 (TX3 2).2.1 (TX3 2).2.2.1 ∈ zs_tbl := zs_iq1 45 rfl rfl
set_option maxRecDepth 100000 in
theorem fl_RX3_15 : Cond.fieldLink RX3 15 (TX3 3).1 (TX3 3).2.1 (TX3 3).2.2.1 ∈ zs_tbl := zs_iq1 49 rfl rfl
set_option maxRecDepth 100000 in
theorem fl_RX3_19 : Cond.fieldLink RX3 19 (TX3 4).1 (TX3 4).2.1 (TX3 4).2.2.1 ∈ zs_tbl := zs_iq1 54 rfl rfl
set_option maxRecDepth 100000 in
theorem fl_RX3_22 : Cond.fieldLink RX3 22 (TX3 5).1 (TX3 5).2.1 (TX3 5).2.2.1 ∈ zs_tbl := zs_iq1 57 rfl rfl
theorem nl_RX3_35 : (RX3, 35, MX11_copyRow.1, "ZoeStrips") ∈ zs_nst := List.mem_of_getElem? (i := 19) rfl
theorem nl_RX3_39 : (RX3, 39, MX11_put.1, "ZoeStrips") ∈ zs_nst := List.mem_of_getElem? (i := 24) rfl
theorem nl_RX3_43 : (RX3, 43, MX11_cell.1, "ZoeStrips") ∈ zs_nst := List.mem_of_getElem? (i := 25) rfl
set_option maxRecDepth 100000 in
theorem fl_RX4_17 : Cond.fieldLink RX4 17 (TX4 1).1 (TX4 1).2.1 (TX4 1).2.2.1 ∈ zs_tbl := zs_iq1 81 rfl rfl
set_option maxRecDepth 100000 in
theorem ml_RX4_21 : Cond.methodLink RX4 21 MX4_dropOldest.1 ∈ zs_tbl := zs_iq3 110 rfl rfl
set_option maxRecDepth 100000 in
theorem ml_RX4_24 : Cond.methodLink RX4 24 MX3_writeTo.1 ∈ zs_tbl := zs_iq3 116 rfl rfl
set_option maxRecDepth 100000 in
theorem fl_RX4_11 : Cond.fieldLink RX4 11 (TX4 0).1 (TX4 0).2.1 (TX4 0).2.2.1 ∈ zs_tbl := zs_iq1 80 rfl rfl
set_option maxRecDepth 100000 in
theorem ml_RX4_28 : Cond.methodLink RX4 28 MX3_takeFrom.1 ∈ zs_tbl := zs_iq3 152 rfl rfl
theorem nl_RX4_31 : (RX4, 31, MX11_copyRow.1, "ZoeStrips") ∈ zs_nst := List.mem_of_getElem? (i := 20) rfl
theorem nl_RX4_35 : (RX4, 35, MX11_cell.1, "ZoeStrips") ∈ zs_nst := List.mem_of_getElem? (i := 22) rfl
theorem nl_RX4_39 : (RX4, 39, MX11_put.1, "ZoeStrips") ∈ zs_nst := List.mem_of_getElem? (i := 23) rfl
set_option maxRecDepth 100000 in
theorem fl_RX5_19 : Cond.fieldLink RX5 19 (TX5 2).1 (TX5 2).2.1 (TX5 2).2.2.1 ∈ zs_tbl := zs_iq1 96 rfl rfl
theorem nl_RX5_22 : (RX5, 22, MX11_put.1, "ZoeStrips") ∈ zs_nst := List.mem_of_getElem? (i := 28) rfl
set_option maxRecDepth 100000 in
theorem fl_RX5_9 : Cond.fieldLink RX5 9 (TX5 1).1 (TX5 1).2.1 (TX5 1).2.2.1 ∈ zs_tbl := zs_iq1 95 rfl rfl
theorem nl_RX5_26 : (RX5, 26, MX11_cell.1, "ZoeStrips") ∈ zs_nst := List.mem_of_getElem? (i := 30) rfl
theorem nl_RX5_30 : (RX5, 30, MX11_copyRow.1, "ZoeStrips") ∈ zs_nst := List.mem_of_getElem? (i := 21) rfl
set_option maxRecDepth 100000 in
theorem ml_RX5_36 : Cond.methodLink RX5 36 MX5_value.1 ∈ zs_tbl := zs_iq4 223 rfl rfl
set_option maxRecDepth 100000 in
theorem fl_RX5_15 : Cond.fieldLink RX5 15 (TX5 0).1 (TX5 0).2.1 (TX5 0).2.2.1 ∈ zs_tbl := zs_iq1 94 rfl rfl
set_option maxRecDepth 100000 in
theorem cl_RX5_34 : Cond.constantLong RX5 34 (31) ∈ zs_tbl := zs_iq4 222 rfl rfl
theorem nl_RX6_54 : (RX6, 54, MX11_fill.1, "ZoeStrips") ∈ zs_nst := List.mem_of_getElem? (i := 10) rfl
set_option maxRecDepth 100000 in
theorem ml_RX6_58 : Cond.methodLink RX6 58 MX3_begin.1 ∈ zs_tbl := zs_iq2 89 rfl rfl
set_option maxRecDepth 100000 in
theorem ml_RX6_61 : Cond.methodLink RX6 61 MX4_empty.1 ∈ zs_tbl := zs_iq2 94 rfl rfl
set_option maxRecDepth 100000 in
theorem ml_RX6_64 : Cond.methodLink RX6 64 MX5_empty.1 ∈ zs_tbl := zs_iq2 98 rfl rfl
set_option maxRecDepth 100000 in
theorem fl_RX6_9 : Cond.fieldLink RX6 9 (TX6 0).1 (TX6 0).2.1 (TX6 0).2.2.1 ∈ zs_tbl := zs_iq1 106 rfl rfl
set_option maxRecDepth 100000 in
theorem fl_RX6_48 : Cond.fieldLink RX6 48 (TX6 1).1 (TX6 1).2.1 (TX6 1).2.2.1 ∈ zs_tbl := zs_iq1 111 rfl rfl
set_option maxRecDepth 100000 in
theorem fl_RX6_51 : Cond.fieldLink RX6 51 (TX6 2).1 (TX6 2).2.1 (TX6 2).2.2.1 ∈ zs_tbl := zs_iq1 113 rfl rfl
set_option maxRecDepth 100000 in
theorem fl_RX6_15 : Cond.fieldLink RX6 15 (TX6 3).1 (TX6 3).2.1 (TX6 3).2.2.1 ∈ zs_tbl := zs_iq1 116 rfl rfl
set_option maxRecDepth 100000 in
theorem fl_RX6_22 : Cond.fieldLink RX6 22 (TX6 4).1 (TX6 4).2.1 (TX6 4).2.2.1 ∈ zs_tbl := zs_iq1 118 rfl rfl
set_option maxRecDepth 100000 in
theorem fl_RX6_29 : Cond.fieldLink RX6 29 (TX6 5).1 (TX6 5).2.1 (TX6 5).2.2.1 ∈ zs_tbl := zs_iq1 122 rfl rfl
set_option maxRecDepth 100000 in
theorem fl_RX6_38 : Cond.fieldLink RX6 38 (TX6 6).1 (TX6 6).2.1 (TX6 6).2.2.1 ∈ zs_tbl := zs_iq1 124 rfl rfl
set_option maxRecDepth 100000 in
theorem fl_RX6_42 : Cond.fieldLink RX6 42 (TX6 7).1 (TX6 7).2.1 (TX6 7).2.2.1 ∈ zs_tbl := zs_iq1 127 rfl rfl
set_option maxRecDepth 100000 in
theorem fl_RX6_45 : Cond.fieldLink RX6 45 (TX6 8).1 (TX6 8).2.1 (TX6 8).2.2.1 ∈ zs_tbl := zs_iq1 129 rfl rfl
theorem nl_RX6_67 : (RX6, 67, MX11_copyRow.1, "ZoeStrips") ∈ zs_nst := List.mem_of_getElem? (i := 18) rfl
set_option maxRecDepth 100000 in
theorem ml_RX6_71 : Cond.methodLink RX6 71 MX3_become.1 ∈ zs_tbl := zs_iq3 86 rfl rfl
set_option maxRecDepth 100000 in
theorem ml_RX6_75 : Cond.methodLink RX6 75 MX4_become.1 ∈ zs_tbl := zs_iq3 91 rfl rfl
set_option maxRecDepth 100000 in
theorem ml_RX6_78 : Cond.methodLink RX6 78 MX5_become.1 ∈ zs_tbl := zs_iq3 96 rfl rfl
theorem nl_RX6_81 : (RX6, 81, MX11_put.1, "ZoeStrips") ∈ zs_nst := List.mem_of_getElem? (i := 12) rfl
set_option maxRecDepth 100000 in
theorem fl_RX6_85 : Cond.fieldLink RX6 85 (TX3 4).1 (TX3 4).2.1 (TX3 4).2.2.1 ∈ zs_tbl := zs_iq1 55 rfl rfl
set_option maxRecDepth 100000 in
theorem fl_RX6_88 : Cond.fieldLink RX6 88 (TX3 5).1 (TX3 5).2.1 (TX3 5).2.2.1 ∈ zs_tbl := zs_iq1 58 rfl rfl
set_option maxRecDepth 100000 in
theorem ml_RX6_94 : Cond.methodLink RX6 94 MX6_flash.1 ∈ zs_tbl := zs_iq3 33 rfl rfl
set_option maxRecDepth 100000 in
theorem fl_RX6_91 : Cond.fieldLink RX6 91 (TX3 1).1 (TX3 1).2.1 (TX3 1).2.2.1 ∈ zs_tbl := zs_iq1 43 rfl rfl
set_option maxRecDepth 100000 in
theorem ml_RX6_102 : Cond.methodLink RX6 102 MX2_passing.1 ∈ zs_tbl := zs_iq3 37 rfl rfl
theorem nl_RX6_108 : (RX6, 108, MX11_wrap.1, "ZoeStrips") ∈ zs_nst := List.mem_of_getElem? (i := 16) rfl
set_option maxRecDepth 100000 in
theorem ml_RX6_112 : Cond.methodLink RX6 112 MX6_drawingAtHand.1 ∈ zs_tbl := zs_iq3 55 rfl rfl
theorem nl_RX6_116 : (RX6, 116, MX11_cell.1, "ZoeStrips") ∈ zs_nst := List.mem_of_getElem? (i := 17) rfl
set_option maxRecDepth 100000 in
theorem ml_RX6_120 : Cond.methodLink RX6 120 MX1_sight.1 ∈ zs_tbl := zs_iq3 60 rfl rfl
set_option maxRecDepth 100000 in
theorem ml_RX6_125 : Cond.methodLink RX6 125 MJ9_min_7cf53.1 ∈ zs_tbl := zs_iq3 78 rfl rfl
set_option maxRecDepth 100000 in
theorem fl_RX6_96 : Cond.fieldLink RX6 96 (TX3 0).1 (TX3 0).2.1 (TX3 0).2.2.1 ∈ zs_tbl := zs_iq1 40 rfl rfl
set_option maxRecDepth 100000 in
theorem fl_RX6_99 : Cond.fieldLink RX6 99 (TX3 2).1 (TX3 2).2.1 (TX3 2).2.2.1 ∈ zs_tbl := zs_iq1 46 rfl rfl
set_option maxRecDepth 100000 in
theorem fl_RX6_130 : Cond.fieldLink RX6 130 (TX3 3).1 (TX3 3).2.1 (TX3 3).2.2.1 ∈ zs_tbl := zs_iq1 51 rfl rfl
theorem nl_RX7_18 : (RX7, 18, MX11_fill.1, "ZoeStrips") ∈ zs_nst := List.mem_of_getElem? (i := 36) rfl
theorem nl_RX7_22 : (RX7, 22, MX11_put.1, "ZoeStrips") ∈ zs_nst := List.mem_of_getElem? (i := 37) rfl
set_option maxRecDepth 100000 in
theorem fl_RX7_9 : Cond.fieldLink RX7 9 (TX7 0).1 (TX7 0).2.1 (TX7 0).2.2.1 ∈ zs_tbl := zs_iq2 3 rfl rfl
theorem nl_RX7_26 : (RX7, 26, MX11_copyRow.1, "ZoeStrips") ∈ zs_nst := List.mem_of_getElem? (i := 38) rfl
theorem nl_RX7_30 : (RX7, 30, MX11_cell.1, "ZoeStrips") ∈ zs_nst := List.mem_of_getElem? (i := 39) rfl
set_option maxRecDepth 100000 in
theorem ml_RX7_34 : Cond.methodLink RX7 34 MX7_add.1 ∈ zs_tbl := zs_iq4 156 rfl rfl
set_option maxRecDepth 100000 in
theorem ml_RX7_38 : Cond.methodLink RX7 38 MX1_sight.1 ∈ zs_tbl := zs_iq4 164 rfl rfl
set_option maxRecDepth 100000 in
theorem fl_RX7_15 : Cond.fieldLink RX7 15 (TX7 1).1 (TX7 1).2.1 (TX7 1).2.2.1 ∈ zs_tbl := zs_iq2 4 rfl rfl
set_option maxRecDepth 100000 in
theorem ml_RX7_44 : Cond.methodLink RX7 44 MX7_weightOf.1 ∈ zs_tbl := zs_iq4 160 rfl rfl
set_option maxRecDepth 100000 in
theorem ml_RX8_23 : Cond.methodLink RX8 23 MX8_fillCosts.1 ∈ zs_tbl := zs_iq3 217 rfl rfl
set_option maxRecDepth 100000 in
theorem ml_RX8_27 : Cond.methodLink RX8 27 MX8_cost.1 ∈ zs_tbl := zs_iq3 231 rfl rfl
theorem nl_RX8_31 : (RX8, 31, MX11_put.1, "ZoeStrips") ∈ zs_nst := List.mem_of_getElem? (i := 27) rfl
theorem nl_RX8_34 : (RX8, 34, MX11_cell.1, "ZoeStrips") ∈ zs_nst := List.mem_of_getElem? (i := 26) rfl
set_option maxRecDepth 100000 in
theorem ml_RX8_38 : Cond.methodLink RX8 38 MX8_bestBeside.1 ∈ zs_tbl := zs_iq3 226 rfl rfl
set_option maxRecDepth 100000 in
theorem cl_RX8_18 : Cond.constant RX8 18 (1000000) ∈ zs_tbl := zs_iq3 216 rfl rfl
set_option maxRecDepth 100000 in
theorem fl_RX8_19 : Cond.fieldLink RX8 19 (TX8 2).1 (TX8 2).2.1 (TX8 2).2.2.1 ∈ zs_tbl := zs_iq1 196 rfl rfl
set_option maxRecDepth 100000 in
theorem fl_RX8_15 : Cond.fieldLink RX8 15 (TX8 1).1 (TX8 1).2.1 (TX8 1).2.2.1 ∈ zs_tbl := zs_iq1 194 rfl rfl
set_option maxRecDepth 100000 in
theorem ml_RX8_41 : Cond.methodLink RX8 41 MX8_closing.1 ∈ zs_tbl := zs_iq3 222 rfl rfl
set_option maxRecDepth 100000 in
theorem ml_RX8_44 : Cond.methodLink RX8 44 MJ9_min_7cf53.1 ∈ zs_tbl := zs_iq3 235 rfl rfl
set_option maxRecDepth 100000 in
theorem fl_RX8_9 : Cond.fieldLink RX8 9 (TX8 0).1 (TX8 0).2.1 (TX8 0).2.2.1 ∈ zs_tbl := zs_iq1 193 rfl rfl
set_option maxRecDepth 100000 in
theorem ml_RX8_49 : Cond.methodLink RX8 49 MJ9_abs_0f7a4.1 ∈ zs_tbl := zs_iq3 225 rfl rfl
set_option maxRecDepth 100000 in
theorem ml_RX8_53 : Cond.methodLink RX8 53 MJ9_max_7cf53.1 ∈ zs_tbl := zs_iq3 230 rfl rfl
theorem nl_RX9_13 : (RX9, 13, MX11_fill.1, "ZoeStrips") ∈ zs_nst := List.mem_of_getElem? (i := 33) rfl
set_option maxRecDepth 100000 in
theorem fl_RX9_7 : Cond.fieldLink RX9 7 (TX9 0).1 (TX9 0).2.1 (TX9 0).2.2.1 ∈ zs_tbl := zs_iq1 229 rfl rfl
set_option maxRecDepth 100000 in
theorem fl_RX9_19 : Cond.fieldLink RX9 19 (TX9 1).1 (TX9 1).2.1 (TX9 1).2.2.1 ∈ zs_tbl := zs_iq1 230 rfl rfl
theorem nl_RX9_23 : (RX9, 23, MX11_cell.1, "ZoeStrips") ∈ zs_nst := List.mem_of_getElem? (i := 34) rfl
theorem nl_RX9_27 : (RX9, 27, MX11_put.1, "ZoeStrips") ∈ zs_nst := List.mem_of_getElem? (i := 35) rfl
set_option maxRecDepth 100000 in
theorem ml_RX9_31 : Cond.methodLink RX9 31 MJ9_max_7cf53.1 ∈ zs_tbl := zs_iq4 59 rfl rfl
set_option maxRecDepth 100000 in
theorem fl_RX10_34 : Cond.fieldLink RX10 34 (TX10 1).1 (TX10 1).2.1 (TX10 1).2.2.1 ∈ zs_tbl := zs_iq1 159 rfl rfl
theorem nl_RX10_38 : (RX10, 38, MX11_put.1, "ZoeStrips") ∈ zs_nst := List.mem_of_getElem? (i := 13) rfl
set_option maxRecDepth 100000 in
theorem fl_RX10_9 : Cond.fieldLink RX10 9 (TX10 0).1 (TX10 0).2.1 (TX10 0).2.2.1 ∈ zs_tbl := zs_iq1 158 rfl rfl
set_option maxRecDepth 100000 in
theorem ml_RX10_42 : Cond.methodLink RX10 42 MX10_splitTokens.1 ∈ zs_tbl := zs_iq2 151 rfl rfl
set_option maxRecDepth 100000 in
theorem ml_RX10_46 : Cond.methodLink RX10 46 MX10_nameTokens.1 ∈ zs_tbl := zs_iq2 161 rfl rfl
set_option maxRecDepth 100000 in
theorem ml_RX10_53 : Cond.methodLink RX10 53 MX10_token.1 ∈ zs_tbl := zs_iq2 234 rfl rfl
set_option maxRecDepth 100000 in
theorem ml_RX10_56 : Cond.methodLink RX10 56 MX10_takeDrum.1 ∈ zs_tbl := zs_iq2 238 rfl rfl
set_option maxRecDepth 100000 in
theorem ml_RX10_60 : Cond.methodLink RX10 60 MX10_fault.1 ∈ zs_tbl := zs_iq3 16 rfl rfl
set_option maxRecDepth 100000 in
theorem ml_RX10_63 : Cond.methodLink RX10 63 MX10_takeItem.1 ∈ zs_tbl := zs_iq3 20 rfl rfl
set_option maxRecDepth 100000 in
theorem fl_RX10_50 : Cond.fieldLink RX10 50 (TX10 7).1 (TX10 7).2.1 (TX10 7).2.2.1 ∈ zs_tbl := zs_iq1 167 rfl rfl
theorem nl_RX10_66 : (RX10, 66, MX11_cell.1, "ZoeStrips") ∈ zs_nst := List.mem_of_getElem? (i := 14) rfl
set_option maxRecDepth 100000 in
theorem fl_RX10_22 : Cond.fieldLink RX10 22 (TX10 3).1 (TX10 3).2.1 (TX10 3).2.2.1 ∈ zs_tbl := zs_iq1 163 rfl rfl
set_option maxRecDepth 100000 in
theorem ml_RX10_70 : Cond.methodLink RX10 70 MX10_takeNumber.1 ∈ zs_tbl := zs_iq3 2 rfl rfl
set_option maxRecDepth 100000 in
theorem ml_RX10_74 : Cond.methodLink RX10 74 MX10_value.1 ∈ zs_tbl := zs_iq3 6 rfl rfl
set_option maxRecDepth 100000 in
theorem ml_RX10_77 : Cond.methodLink RX10 77 MX6_begin.1 ∈ zs_tbl := zs_iq3 11 rfl rfl
set_option maxRecDepth 100000 in
theorem ml_RX10_81 : Cond.methodLink RX10 81 MX10_takeStop.1 ∈ zs_tbl := zs_iq3 12 rfl rfl
set_option maxRecDepth 100000 in
theorem fl_RX10_18 : Cond.fieldLink RX10 18 (TX10 2).1 (TX10 2).2.1 (TX10 2).2.2.1 ∈ zs_tbl := zs_iq1 161 rfl rfl
set_option maxRecDepth 100000 in
theorem ml_RX10_84 : Cond.methodLink RX10 84 MX10_takeDraw.1 ∈ zs_tbl := zs_iq3 24 rfl rfl
set_option maxRecDepth 100000 in
theorem ml_RX10_90 : Cond.methodLink RX10 90 MX6_addEye.1 ∈ zs_tbl := zs_iq3 28 rfl rfl
set_option maxRecDepth 100000 in
theorem ml_RX10_102 : Cond.methodLink RX10 102 MX6_turn.1 ∈ zs_tbl := zs_iq3 29 rfl rfl
set_option maxRecDepth 100000 in
theorem fl_RX10_87 : Cond.fieldLink RX10 87 (TX6 2).1 (TX6 2).2.1 (TX6 2).2.2.1 ∈ zs_tbl := zs_iq1 115 rfl rfl
set_option maxRecDepth 100000 in
theorem fl_RX10_93 : Cond.fieldLink RX10 93 (TX6 4).1 (TX6 4).2.1 (TX6 4).2.2.1 ∈ zs_tbl := zs_iq1 121 rfl rfl
set_option maxRecDepth 100000 in
theorem fl_RX10_97 : Cond.fieldLink RX10 97 (TX3 2).1 (TX3 2).2.1 (TX3 2).2.2.1 ∈ zs_tbl := zs_iq1 47 rfl rfl
set_option maxRecDepth 100000 in
theorem fl_RX10_105 : Cond.fieldLink RX10 105 (TX6 0).1 (TX6 0).2.1 (TX6 0).2.2.1 ∈ zs_tbl := zs_iq1 108 rfl rfl
set_option maxRecDepth 100000 in
theorem fl_RX10_108 : Cond.fieldLink RX10 108 (TX3 3).1 (TX3 3).2.1 (TX3 3).2.2.1 ∈ zs_tbl := zs_iq1 52 rfl rfl
theorem nl_RX10_111 : (RX10, 111, MX11_within.1, "ZoeStrips") ∈ zs_nst := List.mem_of_getElem? (i := 15) rfl
set_option maxRecDepth 100000 in
theorem fl_RX10_28 : Cond.fieldLink RX10 28 (TX10 5).1 (TX10 5).2.1 (TX10 5).2.2.1 ∈ zs_tbl := zs_iq1 165 rfl rfl
set_option maxRecDepth 100000 in
theorem fl_RX10_31 : Cond.fieldLink RX10 31 (TX10 6).1 (TX10 6).2.1 (TX10 6).2.2.1 ∈ zs_tbl := zs_iq1 166 rfl rfl
set_option maxRecDepth 100000 in
theorem ml_RX10_115 : Cond.methodLink RX10 115 MX10_sortOf.1 ∈ zs_tbl := zs_iq2 158 rfl rfl
set_option maxRecDepth 100000 in
theorem fl_RX10_25 : Cond.fieldLink RX10 25 (TX10 4).1 (TX10 4).2.1 (TX10 4).2.2.1 ∈ zs_tbl := zs_iq1 164 rfl rfl
set_option maxRecDepth 100000 in
theorem ml_RX10_119 : Cond.methodLink RX10 119 MX10_tokenFrom.1 ∈ zs_tbl := zs_iq2 165 rfl rfl
set_option maxRecDepth 100000 in
theorem ml_RX10_123 : Cond.methodLink RX10 123 MX10_numberFrom.1 ∈ zs_tbl := zs_iq2 230 rfl rfl
set_option maxRecDepth 100000 in
theorem ml_RX10_126 : Cond.methodLink RX10 126 MX10_wordFrom.1 ∈ zs_tbl := zs_iq2 169 rfl rfl
set_option maxRecDepth 100000 in
theorem ml_RX10_131 : Cond.methodLink RX10 131 MX10_isWord.1 ∈ zs_tbl := zs_iq2 174 rfl rfl
set_option maxRecDepth 100000 in
theorem ml_RX10_141 : Cond.methodLink RX10 141 MJ0_length_8abf5.1 ∈ zs_tbl := zs_iq2 178 rfl rfl
set_option maxRecDepth 100000 in
theorem ml_RX10_145 : Cond.methodLink RX10 145 MJ0_charAt_5068e.1 ∈ zs_tbl := zs_iq2 188 rfl rfl
set_option maxRecDepth 100000 in
theorem ml_RX11_75 : Cond.methodLink RX11 75 MX11_within.1 ∈ zs_tbl := zs_iq2 69 rfl rfl
set_option maxRecDepth 100000 in
theorem ml_RX11_79 : Cond.methodLink RX11 79 MX11_isKind.1 ∈ zs_tbl := zs_iq2 72 rfl rfl
set_option maxRecDepth 100000 in
theorem ml_RX11_83 : Cond.methodLink RX11 83 MX11_isStep.1 ∈ zs_tbl := zs_iq2 75 rfl rfl
set_option maxRecDepth 100000 in
theorem ml_RX11_86 : Cond.methodLink RX11 86 MX11_refuseBad.1 ∈ zs_tbl := zs_iq2 78 rfl rfl
set_option maxRecDepth 100000 in
theorem ml_RX11_94 : Cond.methodLink RX11 94 MX6_begin.1 ∈ zs_tbl := zs_iq2 82 rfl rfl
set_option maxRecDepth 100000 in
theorem fl_RX11_10 : Cond.fieldLink RX11 10 (TX11 0).1 (TX11 0).2.1 (TX11 0).2.2.1 ∈ zs_tbl := zs_iq2 10 rfl rfl
set_option maxRecDepth 100000 in
theorem fl_RX11_90 : Cond.fieldLink RX11 90 (TX6 2).1 (TX6 2).2.1 (TX6 2).2.2.1 ∈ zs_tbl := zs_iq1 114 rfl rfl
set_option maxRecDepth 100000 in
theorem ml_RX11_105 : Cond.methodLink RX11 105 MX4_empty.1 ∈ zs_tbl := zs_iq2 106 rfl rfl
set_option maxRecDepth 100000 in
theorem fl_RX11_98 : Cond.fieldLink RX11 98 (TX6 1).1 (TX6 1).2.1 (TX6 1).2.2.1 ∈ zs_tbl := zs_iq1 112 rfl rfl
set_option maxRecDepth 100000 in
theorem fl_RX11_101 : Cond.fieldLink RX11 101 (TX6 5).1 (TX6 5).2.1 (TX6 5).2.2.1 ∈ zs_tbl := zs_iq1 123 rfl rfl
set_option maxRecDepth 100000 in
theorem ml_RX11_110 : Cond.methodLink RX11 110 MX11_refuseFull.1 ∈ zs_tbl := zs_iq2 111 rfl rfl
set_option maxRecDepth 100000 in
theorem ml_RX11_114 : Cond.methodLink RX11 114 MX6_addEye.1 ∈ zs_tbl := zs_iq2 115 rfl rfl
set_option maxRecDepth 100000 in
theorem ml_RX11_118 : Cond.methodLink RX11 118 MX10_isFull.1 ∈ zs_tbl := zs_iq2 126 rfl rfl
set_option maxRecDepth 100000 in
theorem ml_RX11_122 : Cond.methodLink RX11 122 MX10_add.1 ∈ zs_tbl := zs_iq2 130 rfl rfl
set_option maxRecDepth 100000 in
theorem fl_RX11_25 : Cond.fieldLink RX11 25 (TX11 5).1 (TX11 5).2.1 (TX11 5).2.2.1 ∈ zs_tbl := zs_iq2 15 rfl rfl
set_option maxRecDepth 100000 in
theorem ml_RX11_125 : Cond.methodLink RX11 125 MX10_empty.1 ∈ zs_tbl := zs_iq2 139 rfl rfl
set_option maxRecDepth 100000 in
theorem ml_RX11_127 : Cond.methodLink RX11 127 MX10_readDraft.1 ∈ zs_tbl := zs_iq2 147 rfl rfl
set_option maxRecDepth 100000 in
theorem ml_RX11_133 : Cond.methodLink RX11 133 MX6_become.1 ∈ zs_tbl := zs_iq3 79 rfl rfl
set_option maxRecDepth 100000 in
theorem fl_RX11_130 : Cond.fieldLink RX11 130 (TX10 2).1 (TX10 2).2.1 (TX10 2).2.2.1 ∈ zs_tbl := zs_iq1 162 rfl rfl
set_option maxRecDepth 100000 in
theorem ml_RX11_143 : Cond.methodLink RX11 143 MX4_push.1 ∈ zs_tbl := zs_iq3 106 rfl rfl
set_option maxRecDepth 100000 in
theorem ml_RX11_147 : Cond.methodLink RX11 147 MX6_turn.1 ∈ zs_tbl := zs_iq3 122 rfl rfl
set_option maxRecDepth 100000 in
theorem fl_RX11_137 : Cond.fieldLink RX11 137 (TX6 4).1 (TX6 4).2.1 (TX6 4).2.2.1 ∈ zs_tbl := zs_iq1 120 rfl rfl
set_option maxRecDepth 100000 in
theorem fl_RX11_140 : Cond.fieldLink RX11 140 (TX3 1).1 (TX3 1).2.1 (TX3 1).2.2.1 ∈ zs_tbl := zs_iq1 44 rfl rfl
set_option maxRecDepth 100000 in
theorem fl_RX11_150 : Cond.fieldLink RX11 150 (TX3 0).1 (TX3 0).2.1 (TX3 0).2.2.1 ∈ zs_tbl := zs_iq1 41 rfl rfl
set_option maxRecDepth 100000 in
theorem ml_RX11_156 : Cond.methodLink RX11 156 MX11_refuseNo.1 ∈ zs_tbl := zs_iq3 127 rfl rfl
set_option maxRecDepth 100000 in
theorem fl_RX11_153 : Cond.fieldLink RX11 153 (TX3 2).1 (TX3 2).2.1 (TX3 2).2.2.1 ∈ zs_tbl := zs_iq1 48 rfl rfl
set_option maxRecDepth 100000 in
theorem ml_RX11_159 : Cond.methodLink RX11 159 MX11_isFrame.1 ∈ zs_tbl := zs_iq3 135 rfl rfl
set_option maxRecDepth 100000 in
theorem ml_RX11_162 : Cond.methodLink RX11 162 MX11_isDrawing.1 ∈ zs_tbl := zs_iq3 139 rfl rfl
set_option maxRecDepth 100000 in
theorem ml_RX11_168 : Cond.methodLink RX11 168 MX11_cell.1 ∈ zs_tbl := zs_iq3 142 rfl rfl
set_option maxRecDepth 100000 in
theorem ml_RX11_172 : Cond.methodLink RX11 172 MX11_put.1 ∈ zs_tbl := zs_iq3 143 rfl rfl
set_option maxRecDepth 100000 in
theorem fl_RX11_165 : Cond.fieldLink RX11 165 (TX3 3).1 (TX3 3).2.1 (TX3 3).2.2.1 ∈ zs_tbl := zs_iq1 53 rfl rfl
set_option maxRecDepth 100000 in
theorem ml_RX11_179 : Cond.methodLink RX11 179 MX4_pop.1 ∈ zs_tbl := zs_iq3 148 rfl rfl
set_option maxRecDepth 100000 in
theorem fl_RX11_176 : Cond.fieldLink RX11 176 (TX4 1).1 (TX4 1).2.1 (TX4 1).2.2.1 ∈ zs_tbl := zs_iq1 82 rfl rfl
set_option maxRecDepth 100000 in
theorem ml_RX11_182 : Cond.methodLink RX11 182 MX11_isEye.1 ∈ zs_tbl := zs_iq3 160 rfl rfl
set_option maxRecDepth 100000 in
theorem fl_RX11_185 : Cond.fieldLink RX11 185 (TX6 3).1 (TX6 3).2.1 (TX6 3).2.2.1 ∈ zs_tbl := zs_iq1 117 rfl rfl
set_option maxRecDepth 100000 in
theorem fl_RX11_188 : Cond.fieldLink RX11 188 (TX3 4).1 (TX3 4).2.1 (TX3 4).2.2.1 ∈ zs_tbl := zs_iq1 56 rfl rfl
set_option maxRecDepth 100000 in
theorem fl_RX11_191 : Cond.fieldLink RX11 191 (TX3 5).1 (TX3 5).2.1 (TX3 5).2.2.1 ∈ zs_tbl := zs_iq1 59 rfl rfl
set_option maxRecDepth 100000 in
theorem ml_RX11_194 : Cond.methodLink RX11 194 MX11_tryFlashes.1 ∈ zs_tbl := zs_iq3 172 rfl rfl
set_option maxRecDepth 100000 in
theorem fl_RX11_36 : Cond.fieldLink RX11 36 (TX11 11).1 (TX11 11).2.1 (TX11 11).2.2.1 ∈ zs_tbl := zs_iq2 21 rfl rfl
set_option maxRecDepth 100000 in
theorem ml_RX11_198 : Cond.methodLink RX11 198 MX11_startTrial.1 ∈ zs_tbl := zs_iq3 176 rfl rfl
set_option maxRecDepth 100000 in
theorem ml_RX11_201 : Cond.methodLink RX11 201 MX6_flash.1 ∈ zs_tbl := zs_iq3 182 rfl rfl
set_option maxRecDepth 100000 in
theorem ml_RX11_203 : Cond.methodLink RX11 203 MX11_trialIsAsNow.1 ∈ zs_tbl := zs_iq3 191 rfl rfl
set_option maxRecDepth 100000 in
theorem ml_RX11_206 : Cond.methodLink RX11 206 MX11_standsStill.1 ∈ zs_tbl := zs_iq3 199 rfl rfl
set_option maxRecDepth 100000 in
theorem ml_RX11_213 : Cond.methodLink RX11 213 MX8_plan.1 ∈ zs_tbl := zs_iq3 212 rfl rfl
set_option maxRecDepth 100000 in
theorem fl_RX11_43 : Cond.fieldLink RX11 43 (TX11 12).1 (TX11 12).2.1 (TX11 12).2.2.1 ∈ zs_tbl := zs_iq2 22 rfl rfl
set_option maxRecDepth 100000 in
theorem fl_RX11_210 : Cond.fieldLink RX11 210 (TX6 0).1 (TX6 0).2.1 (TX6 0).2.2.1 ∈ zs_tbl := zs_iq1 109 rfl rfl
set_option maxRecDepth 100000 in
theorem fl_RX11_217 : Cond.fieldLink RX11 217 (TX8 2).1 (TX8 2).2.1 (TX8 2).2.2.1 ∈ zs_tbl := zs_iq1 197 rfl rfl
set_option maxRecDepth 100000 in
theorem fl_RX11_220 : Cond.fieldLink RX11 220 (TX8 1).1 (TX8 1).2.1 (TX8 1).2.2.1 ∈ zs_tbl := zs_iq1 195 rfl rfl
set_option maxRecDepth 100000 in
theorem ml_RX11_227 : Cond.methodLink RX11 227 MX5_isFull.1 ∈ zs_tbl := zs_iq4 1 rfl rfl
set_option maxRecDepth 100000 in
theorem ml_RX11_230 : Cond.methodLink RX11 230 MX5_add.1 ∈ zs_tbl := zs_iq4 5 rfl rfl
set_option maxRecDepth 100000 in
theorem fl_RX11_223 : Cond.fieldLink RX11 223 (TX6 6).1 (TX6 6).2.1 (TX6 6).2.2.1 ∈ zs_tbl := zs_iq1 126 rfl rfl
set_option maxRecDepth 100000 in
theorem ml_RX11_233 : Cond.methodLink RX11 233 MX0_gather.1 ∈ zs_tbl := zs_iq4 14 rfl rfl
set_option maxRecDepth 100000 in
theorem fl_RX11_50 : Cond.fieldLink RX11 50 (TX11 13).1 (TX11 13).2.1 (TX11 13).2.2.1 ∈ zs_tbl := zs_iq2 23 rfl rfl
set_option maxRecDepth 100000 in
theorem fl_RX11_236 : Cond.fieldLink RX11 236 (TX0 2).1 (TX0 2).2.1 (TX0 2).2.2.1 ∈ zs_tbl := zs_iq1 215 rfl rfl
set_option maxRecDepth 100000 in
theorem fl_RX11_237 : Cond.fieldLink RX11 237 (TX0 1).1 (TX0 1).2.1 (TX0 1).2.2.1 ∈ zs_tbl := zs_iq1 213 rfl rfl
set_option maxRecDepth 100000 in
theorem ml_RX11_241 : Cond.methodLink RX11 241 MX0_tallyAt.1 ∈ zs_tbl := zs_iq4 44 rfl rfl
set_option maxRecDepth 100000 in
theorem cl_RX11_240 : Cond.constant RX11 240 (1000000) ∈ zs_tbl := zs_iq4 43 rfl rfl
set_option maxRecDepth 100000 in
theorem fl_RX11_57 : Cond.fieldLink RX11 57 (TX11 14).1 (TX11 14).2.1 (TX11 14).2.2.1 ∈ zs_tbl := zs_iq2 24 rfl rfl
set_option maxRecDepth 100000 in
theorem fl_RX11_245 : Cond.fieldLink RX11 245 (TX9 1).1 (TX9 1).2.1 (TX9 1).2.2.1 ∈ zs_tbl := zs_iq1 231 rfl rfl
set_option maxRecDepth 100000 in
theorem fl_RX11_248 : Cond.fieldLink RX11 248 (TX6 7).1 (TX6 7).2.1 (TX6 7).2.2.1 ∈ zs_tbl := zs_iq1 128 rfl rfl
set_option maxRecDepth 100000 in
theorem fl_RX11_251 : Cond.fieldLink RX11 251 (TX6 8).1 (TX6 8).2.1 (TX6 8).2.2.1 ∈ zs_tbl := zs_iq1 130 rfl rfl
set_option maxRecDepth 100000 in
theorem ml_RX11_254 : Cond.methodLink RX11 254 MX5_empty.1 ∈ zs_tbl := zs_iq4 72 rfl rfl
set_option maxRecDepth 100000 in
theorem ml_RX11_255 : Cond.methodLink RX11 255 MX11_eyeKinds.1 ∈ zs_tbl := zs_iq4 77 rfl rfl
set_option maxRecDepth 100000 in
theorem ml_RX11_258 : Cond.methodLink RX11 258 MX11_bestLook.1 ∈ zs_tbl := zs_iq4 91 rfl rfl
set_option maxRecDepth 100000 in
theorem ml_RX11_261 : Cond.methodLink RX11 261 MX11_lampKinds.1 ∈ zs_tbl := zs_iq4 104 rfl rfl
set_option maxRecDepth 100000 in
theorem ml_RX11_264 : Cond.methodLink RX11 264 MX11_bestAsk.1 ∈ zs_tbl := zs_iq4 117 rfl rfl
set_option maxRecDepth 100000 in
theorem ml_RX11_267 : Cond.methodLink RX11 267 MX11_fillGains.1 ∈ zs_tbl := zs_iq4 129 rfl rfl
set_option maxRecDepth 100000 in
theorem ml_RX11_270 : Cond.methodLink RX11 270 MX11_rests.1 ∈ zs_tbl := zs_iq4 133 rfl rfl
set_option maxRecDepth 100000 in
theorem ml_RX11_273 : Cond.methodLink RX11 273 MX7_begin.1 ∈ zs_tbl := zs_iq4 144 rfl rfl
set_option maxRecDepth 100000 in
theorem ml_RX11_275 : Cond.methodLink RX11 275 MX6_drawingAtHand.1 ∈ zs_tbl := zs_iq3 203 rfl rfl
set_option maxRecDepth 100000 in
theorem ml_RX11_279 : Cond.methodLink RX11 279 MX7_flash.1 ∈ zs_tbl := zs_iq4 150 rfl rfl
set_option maxRecDepth 100000 in
theorem ml_RX11_283 : Cond.methodLink RX11 283 MX7_weightOf.1 ∈ zs_tbl := zs_iq4 166 rfl rfl
set_option maxRecDepth 100000 in
theorem ml_RX11_286 : Cond.methodLink RX11 286 MX11_keepFraction.1 ∈ zs_tbl := zs_iq4 167 rfl rfl
set_option maxRecDepth 100000 in
theorem fl_RX11_64 : Cond.fieldLink RX11 64 (TX11 15).1 (TX11 15).2.1 (TX11 15).2.2.1 ∈ zs_tbl := zs_iq2 25 rfl rfl
set_option maxRecDepth 100000 in
theorem cl_RX11_281 : Cond.constantLong RX11 281 (10) ∈ zs_tbl := zs_iq4 165 rfl rfl
set_option maxRecDepth 100000 in
theorem ml_RX11_301 : Cond.methodLink RX11 301 MX6_movesTogether.1 ∈ zs_tbl := zs_iq4 184 rfl rfl
set_option maxRecDepth 100000 in
theorem cl_RX11_291 : Cond.constantLong RX11 291 (1103515245) ∈ zs_tbl := zs_iq4 179 rfl rfl
set_option maxRecDepth 100000 in
theorem cl_RX11_293 : Cond.constantLong RX11 293 (12345) ∈ zs_tbl := zs_iq4 180 rfl rfl
set_option maxRecDepth 100000 in
theorem cl_RX11_295 : Cond.constantLong RX11 295 (2147483648) ∈ zs_tbl := zs_iq4 181 rfl rfl
set_option maxRecDepth 100000 in
theorem cl_RX11_297 : Cond.constantLong RX11 297 (65536) ∈ zs_tbl := zs_iq4 182 rfl rfl
set_option maxRecDepth 100000 in
theorem cl_RX11_299 : Cond.constantLong RX11 299 (12) ∈ zs_tbl := zs_iq4 183 rfl rfl
set_option maxRecDepth 100000 in
theorem fl_RX11_304 : Cond.fieldLink RX11 304 (TX11 6).1 (TX11 6).2.1 (TX11 6).2.2.1 ∈ zs_tbl := zs_iq2 16 rfl rfl
set_option maxRecDepth 100000 in
theorem fl_RX11_29 : Cond.fieldLink RX11 29 (TX11 7).1 (TX11 7).2.1 (TX11 7).2.2.1 ∈ zs_tbl := zs_iq2 17 rfl rfl
set_option maxRecDepth 100000 in
theorem fl_RX11_16 : Cond.fieldLink RX11 16 (TX11 1).1 (TX11 1).2.1 (TX11 1).2.2.1 ∈ zs_tbl := zs_iq2 11 rfl rfl
set_option maxRecDepth 100000 in
theorem fl_RX11_307 : Cond.fieldLink RX11 307 (TX11 3).1 (TX11 3).2.1 (TX11 3).2.2.1 ∈ zs_tbl := zs_iq2 13 rfl rfl
set_option maxRecDepth 100000 in
theorem fl_RX11_19 : Cond.fieldLink RX11 19 (TX11 2).1 (TX11 2).2.1 (TX11 2).2.2.1 ∈ zs_tbl := zs_iq2 12 rfl rfl
set_option maxRecDepth 100000 in
theorem fl_RX11_311 : Cond.fieldLink RX11 311 (TX11 4).1 (TX11 4).2.1 (TX11 4).2.2.1 ∈ zs_tbl := zs_iq2 14 rfl rfl
set_option maxRecDepth 100000 in
theorem fl_RX11_314 : Cond.fieldLink RX11 314 (TX11 8).1 (TX11 8).2.1 (TX11 8).2.2.1 ∈ zs_tbl := zs_iq2 18 rfl rfl
set_option maxRecDepth 100000 in
theorem fl_RX11_317 : Cond.fieldLink RX11 317 (TX11 9).1 (TX11 9).2.1 (TX11 9).2.2.1 ∈ zs_tbl := zs_iq2 19 rfl rfl
set_option maxRecDepth 100000 in
theorem fl_RX11_320 : Cond.fieldLink RX11 320 (TX11 10).1 (TX11 10).2.1 (TX11 10).2.2.1 ∈ zs_tbl := zs_iq2 20 rfl rfl
set_option maxRecDepth 100000 in
theorem ml_RX11_323 : Cond.methodLink RX11 323 MX11_countOf.1 ∈ zs_tbl := zs_iq4 208 rfl rfl
set_option maxRecDepth 100000 in
theorem ml_RX11_330 : Cond.methodLink RX11 330 MX5_digestOnto.1 ∈ zs_tbl := zs_iq4 218 rfl rfl
set_option maxRecDepth 100000 in
theorem cl_RX11_326 : Cond.constantLong RX11 326 (1787) ∈ zs_tbl := zs_iq4 216 rfl rfl
set_option maxRecDepth 100000 in
theorem cl_RX11_328 : Cond.constantLong RX11 328 (31) ∈ zs_tbl := zs_iq4 217 rfl rfl
set_option maxRecDepth 100000 in
theorem ml_RX11_334 : Cond.methodLink RX11 334 MJ9_floorMod_7cf53.1 ∈ zs_tbl := zs_iq3 52 rfl rfl
set_option maxRecDepth 100000 in
theorem ml_RX11_340 : Cond.methodLink RX11 340 MX3_become.1 ∈ zs_tbl := zs_iq3 180 rfl rfl
set_option maxRecDepth 100000 in
theorem ml_RX11_342 : Cond.methodLink RX11 342 MX11_fill.1 ∈ zs_tbl := zs_iq3 181 rfl rfl
set_option maxRecDepth 100000 in
theorem ml_RX11_345 : Cond.methodLink RX11 345 MX11_eyeFits.1 ∈ zs_tbl := zs_iq4 81 rfl rfl
set_option maxRecDepth 100000 in
theorem ml_RX11_349 : Cond.methodLink RX11 349 MX5_value.1 ∈ zs_tbl := zs_iq4 85 rfl rfl
set_option maxRecDepth 100000 in
theorem ml_RX11_352 : Cond.methodLink RX11 352 MX1_sight.1 ∈ zs_tbl := zs_iq4 86 rfl rfl
set_option maxRecDepth 100000 in
theorem fl_RX11_348 : Cond.fieldLink RX11 348 (TX5 2).1 (TX5 2).2.1 (TX5 2).2.2.1 ∈ zs_tbl := zs_iq1 98 rfl rfl
set_option maxRecDepth 100000 in
theorem ml_RX11_358 : Cond.methodLink RX11 358 MX9_begin.1 ∈ zs_tbl := zs_iq4 95 rfl rfl
set_option maxRecDepth 100000 in
theorem ml_RX11_360 : Cond.methodLink RX11 360 MX11_hasBit.1 ∈ zs_tbl := zs_iq4 96 rfl rfl
set_option maxRecDepth 100000 in
theorem ml_RX11_363 : Cond.methodLink RX11 363 MX9_add.1 ∈ zs_tbl := zs_iq4 99 rfl rfl
set_option maxRecDepth 100000 in
theorem ml_RX11_365 : Cond.methodLink RX11 365 MX11_lampFits.1 ∈ zs_tbl := zs_iq4 108 rfl rfl
set_option maxRecDepth 100000 in
theorem ml_RX11_368 : Cond.methodLink RX11 368 MX2_passing.1 ∈ zs_tbl := zs_iq4 112 rfl rfl
set_option maxRecDepth 100000 in
theorem ml_RX11_373 : Cond.methodLink RX11 373 MX11_tallyPassing.1 ∈ zs_tbl := zs_iq4 121 rfl rfl
set_option maxRecDepth 100000 in
theorem fl_RX11_68 : Cond.fieldLink RX11 68 (TX11 16).1 (TX11 16).2.1 (TX11 16).2.2.1 ∈ zs_tbl := zs_iq2 26 rfl rfl
set_option maxRecDepth 100000 in
theorem fl_RX11_72 : Cond.fieldLink RX11 72 (TX11 17).1 (TX11 17).2.1 (TX11 17).2.2.1 ∈ zs_tbl := zs_iq2 27 rfl rfl
set_option maxRecDepth 100000 in
theorem ml_RX11_376 : Cond.methodLink RX11 376 MX11_gain.1 ∈ zs_tbl := zs_iq4 137 rfl rfl
set_option maxRecDepth 100000 in
theorem ml_RX11_380 : Cond.methodLink RX11 380 MX11_greatestDivisor.1 ∈ zs_tbl := zs_iq4 171 rfl rfl
set_option maxRecDepth 100000 in
theorem fl_RX11_384 : Cond.fieldLink RX11 384 (TX10 1).1 (TX10 1).2.1 (TX10 1).2.2.1 ∈ zs_tbl := zs_iq1 160 rfl rfl
set_option maxRecDepth 100000 in
theorem fl_RX12_27 : Cond.fieldLink RX12 27 (TX12 14).1 (TX12 14).2.1 (TX12 14).2.2.1 ∈ zs_tbl := zs_iq5 8 rfl rfl
set_option maxRecDepth 100000 in
theorem fl_RX12_7 : Cond.fieldLink RX12 7 (TX12 0).1 (TX12 0).2.1 (TX12 0).2.2.1 ∈ zs_tbl := zs_iq4 234 rfl rfl
set_option maxRecDepth 100000 in
theorem fl_RX12_13 : Cond.fieldLink RX12 13 (TX12 1).1 (TX12 1).2.1 (TX12 1).2.2.1 ∈ zs_tbl := zs_iq4 235 rfl rfl
set_option maxRecDepth 100000 in
theorem ml_RX12_46 : Cond.methodLink RX12 46 MX12_apart.1 ∈ zs_tbl := zs_iq5 155 rfl rfl
set_option maxRecDepth 100000 in
theorem ml_RX12_54 : Cond.methodLink RX12 54 MX12_in.1 ∈ zs_tbl := zs_iq5 58 rfl rfl
set_option maxRecDepth 100000 in
theorem ml_RX12_62 : Cond.methodLink RX12 62 MX12_bad.1 ∈ zs_tbl := zs_iq5 63 rfl rfl
set_option maxRecDepth 100000 in
theorem ml_RX12_42 : Cond.methodLink RX12 42 MX12_begins.1 ∈ zs_tbl := zs_iq4 230 rfl rfl
set_option maxRecDepth 100000 in
theorem cl_RX12_50 : Cond.constantLong RX12 50 (2) ∈ zs_tbl := zs_iq5 56 rfl rfl
set_option maxRecDepth 100000 in
theorem cl_RX12_52 : Cond.constantLong RX12 52 (12) ∈ zs_tbl := zs_iq5 57 rfl rfl
set_option maxRecDepth 100000 in
theorem cl_RX12_58 : Cond.constantLong RX12 58 (5) ∈ zs_tbl := zs_iq5 61 rfl rfl
set_option maxRecDepth 100000 in
theorem cl_RX12_60 : Cond.constantLong RX12 60 (11) ∈ zs_tbl := zs_iq5 62 rfl rfl
set_option maxRecDepth 100000 in
theorem ml_RX12_66 : Cond.methodLink RX12 66 MX12_full.1 ∈ zs_tbl := zs_iq5 75 rfl rfl
set_option maxRecDepth 100000 in
theorem ml_RX12_69 : Cond.methodLink RX12 69 MX12_comes.1 ∈ zs_tbl := zs_iq5 79 rfl rfl
set_option maxRecDepth 100000 in
theorem cl_RX12_73 : Cond.constantLong RX12 73 (127) ∈ zs_tbl := zs_iq5 87 rfl rfl
set_option maxRecDepth 100000 in
theorem fl_RX12_75 : Cond.fieldLink RX12 75 (TX12 3).1 (TX12 3).2.1 (TX12 3).2.2.1 ∈ zs_tbl := zs_iq4 237 rfl rfl
set_option maxRecDepth 100000 in
theorem fl_RX12_19 : Cond.fieldLink RX12 19 (TX12 4).1 (TX12 4).2.1 (TX12 4).2.2.1 ∈ zs_tbl := zs_iq4 238 rfl rfl
set_option maxRecDepth 100000 in
theorem ml_RX12_82 : Cond.methodLink RX12 82 MX12_byteAt.1 ∈ zs_tbl := zs_iq5 104 rfl rfl
set_option maxRecDepth 100000 in
theorem fl_RX12_79 : Cond.fieldLink RX12 79 (TX12 5).1 (TX12 5).2.1 (TX12 5).2.2.1 ∈ zs_tbl := zs_iq4 239 rfl rfl
set_option maxRecDepth 100000 in
theorem fl_RX12_85 : Cond.fieldLink RX12 85 (TX12 6).1 (TX12 6).2.1 (TX12 6).2.2.1 ∈ zs_tbl := zs_iq5 0 rfl rfl
set_option maxRecDepth 100000 in
theorem cl_RX12_88 : Cond.constantLong RX12 88 (97) ∈ zs_tbl := zs_iq5 108 rfl rfl
set_option maxRecDepth 100000 in
theorem cl_RX12_90 : Cond.constantLong RX12 90 (122) ∈ zs_tbl := zs_iq5 109 rfl rfl
set_option maxRecDepth 100000 in
theorem cl_RX12_92 : Cond.constantLong RX12 92 (48) ∈ zs_tbl := zs_iq5 110 rfl rfl
set_option maxRecDepth 100000 in
theorem cl_RX12_94 : Cond.constantLong RX12 94 (57) ∈ zs_tbl := zs_iq5 111 rfl rfl
set_option maxRecDepth 100000 in
theorem fl_RX12_96 : Cond.fieldLink RX12 96 (TX12 11).1 (TX12 11).2.1 (TX12 11).2.2.1 ∈ zs_tbl := zs_iq5 5 rfl rfl
set_option maxRecDepth 100000 in
theorem cl_RX12_99 : Cond.constantLong RX12 99 (1000000000) ∈ zs_tbl := zs_iq5 120 rfl rfl
set_option maxRecDepth 100000 in
theorem cl_RX12_101 : Cond.constantLong RX12 101 (32) ∈ zs_tbl := zs_iq5 121 rfl rfl
set_option maxRecDepth 100000 in
theorem cl_RX12_103 : Cond.constantLong RX12 103 (96) ∈ zs_tbl := zs_iq5 122 rfl rfl
set_option maxRecDepth 100000 in
theorem ml_RX12_109 : Cond.methodLink RX12 109 MX12_token.1 ∈ zs_tbl := zs_iq5 100 rfl rfl
set_option maxRecDepth 100000 in
theorem fl_RX12_105 : Cond.fieldLink RX12 105 (TX12 7).1 (TX12 7).2.1 (TX12 7).2.2.1 ∈ zs_tbl := zs_iq5 1 rfl rfl
set_option maxRecDepth 100000 in
theorem ml_RX12_112 : Cond.methodLink RX12 112 MX12_wants.1 ∈ zs_tbl := zs_iq5 135 rfl rfl
set_option maxRecDepth 100000 in
theorem fl_RX12_115 : Cond.fieldLink RX12 115 (TX12 10).1 (TX12 10).2.1 (TX12 10).2.2.1 ∈ zs_tbl := zs_iq5 4 rfl rfl
set_option maxRecDepth 100000 in
theorem fl_RX12_118 : Cond.fieldLink RX12 118 (TX12 8).1 (TX12 8).2.1 (TX12 8).2.2.1 ∈ zs_tbl := zs_iq5 2 rfl rfl
set_option maxRecDepth 100000 in
theorem cl_RX12_121 : Cond.constantLong RX12 121 (9) ∈ zs_tbl := zs_iq5 130 rfl rfl
set_option maxRecDepth 100000 in
theorem ml_RX12_132 : Cond.methodLink RX12 132 MX12_flash.1 ∈ zs_tbl := zs_iq5 145 rfl rfl
set_option maxRecDepth 100000 in
theorem cl_RX12_123 : Cond.constantLong RX12 123 (5925) ∈ zs_tbl := zs_iq5 124 rfl rfl
set_option maxRecDepth 100000 in
theorem fl_RX12_125 : Cond.fieldLink RX12 125 (TX12 9).1 (TX12 9).2.1 (TX12 9).2.2.1 ∈ zs_tbl := zs_iq5 3 rfl rfl
set_option maxRecDepth 100000 in
theorem cl_RX12_128 : Cond.constantLong RX12 128 (643248) ∈ zs_tbl := zs_iq5 143 rfl rfl
set_option maxRecDepth 100000 in
theorem cl_RX12_130 : Cond.constantLong RX12 130 (677454) ∈ zs_tbl := zs_iq5 144 rfl rfl
set_option maxRecDepth 100000 in
theorem ml_RX12_136 : Cond.methodLink RX12 136 MX12_word.1 ∈ zs_tbl := zs_iq5 116 rfl rfl
set_option maxRecDepth 100000 in
theorem ml_RX12_144 : Cond.methodLink RX12 144 MX12_drawItem.1 ∈ zs_tbl := zs_iq5 126 rfl rfl
set_option maxRecDepth 100000 in
theorem ml_RX12_147 : Cond.methodLink RX12 147 MX12_drumItem.1 ∈ zs_tbl := zs_iq5 131 rfl rfl
set_option maxRecDepth 100000 in
theorem ml_RX12_150 : Cond.methodLink RX12 150 MX12_act.1 ∈ zs_tbl := zs_iq5 139 rfl rfl
set_option maxRecDepth 100000 in
theorem cl_RX12_140 : Cond.constantLong RX12 140 (150189) ∈ zs_tbl := zs_iq5 123 rfl rfl
set_option maxRecDepth 100000 in
theorem cl_RX12_142 : Cond.constantLong RX12 142 (149559) ∈ zs_tbl := zs_iq5 125 rfl rfl
set_option maxRecDepth 100000 in
theorem ml_RX12_154 : Cond.methodLink RX12 154 MX12_item.1 ∈ zs_tbl := zs_iq5 112 rfl rfl
set_option maxRecDepth 100000 in
theorem ml_RX12_158 : Cond.methodLink RX12 158 MX12_goesThrough.1 ∈ zs_tbl := zs_iq5 96 rfl rfl
set_option maxRecDepth 100000 in
theorem ml_RX12_162 : Cond.methodLink RX12 162 MX12_passes.1 ∈ zs_tbl := zs_iq5 149 rfl rfl
set_option maxRecDepth 100000 in
theorem ml_RX12_166 : Cond.methodLink RX12 166 MX12_looks.1 ∈ zs_tbl := zs_iq5 152 rfl rfl
set_option maxRecDepth 100000 in
theorem ml_RX12_169 : Cond.methodLink RX12 169 MX12_copies.1 ∈ zs_tbl := zs_iq5 167 rfl rfl
set_option maxRecDepth 100000 in
theorem ml_RX12_175 : Cond.methodLink RX12 175 MX12_known.1 ∈ zs_tbl := zs_iq5 163 rfl rfl
set_option maxRecDepth 100000 in
theorem cl_RX12_173 : Cond.constantLong RX12 173 (60) ∈ zs_tbl := zs_iq5 162 rfl rfl
set_option maxRecDepth 100000 in
theorem ml_RX12_178 : Cond.methodLink RX12 178 MX12_no.1 ∈ zs_tbl := zs_iq5 175 rfl rfl
set_option maxRecDepth 100000 in
theorem ml_RX12_181 : Cond.methodLink RX12 181 MX12_isFrame.1 ∈ zs_tbl := zs_iq5 183 rfl rfl
set_option maxRecDepth 100000 in
theorem ml_RX12_185 : Cond.methodLink RX12 185 MX12_isEye.1 ∈ zs_tbl := zs_iq5 195 rfl rfl
set_option maxRecDepth 100000 in
theorem ml_RX12_188 : Cond.methodLink RX12 188 MX12_tries.1 ∈ zs_tbl := zs_iq5 207 rfl rfl
set_option maxRecDepth 100000 in
theorem ml_RX12_191 : Cond.methodLink RX12 191 MX12_flashes.1 ∈ zs_tbl := zs_iq5 211 rfl rfl
set_option maxRecDepth 100000 in
theorem fl_RX12_30 : Cond.fieldLink RX12 30 (TX12 15).1 (TX12 15).2.1 (TX12 15).2.2.1 ∈ zs_tbl := zs_iq5 9 rfl rfl
set_option maxRecDepth 100000 in
theorem ml_RX12_196 : Cond.methodLink RX12 196 MX12_bad10.1 ∈ zs_tbl := zs_iq5 236 rfl rfl
set_option maxRecDepth 100000 in
theorem ml_RX12_199 : Cond.methodLink RX12 199 MX12_costOf.1 ∈ zs_tbl := zs_iq6 0 rfl rfl
set_option maxRecDepth 100000 in
theorem cl_RX12_194 : Cond.constantLong RX12 194 (-1) ∈ zs_tbl := zs_iq5 235 rfl rfl
set_option maxRecDepth 100000 in
theorem cl_RX12_202 : Cond.constantLong RX12 202 (30) ∈ zs_tbl := zs_iq6 8 rfl rfl
set_option maxRecDepth 100000 in
theorem ml_RX12_204 : Cond.methodLink RX12 204 MX12_shown.1 ∈ zs_tbl := zs_iq6 17 rfl rfl
set_option maxRecDepth 100000 in
theorem ml_RX12_207 : Cond.methodLink RX12 207 MX12_isSo.1 ∈ zs_tbl := zs_iq6 13 rfl rfl
set_option maxRecDepth 100000 in
theorem fl_RX12_33 : Cond.fieldLink RX12 33 (TX12 16).1 (TX12 16).2.1 (TX12 16).2.2.1 ∈ zs_tbl := zs_iq5 10 rfl rfl
set_option maxRecDepth 100000 in
theorem cl_RX12_210 : Cond.constantLong RX12 210 (99) ∈ zs_tbl := zs_iq6 33 rfl rfl
set_option maxRecDepth 100000 in
theorem ml_RX12_212 : Cond.methodLink RX12 212 MX12_eyesThat.1 ∈ zs_tbl := zs_iq6 42 rfl rfl
set_option maxRecDepth 100000 in
theorem ml_RX12_215 : Cond.methodLink RX12 215 MX12_has.1 ∈ zs_tbl := zs_iq6 50 rfl rfl
set_option maxRecDepth 100000 in
theorem ml_RX12_219 : Cond.methodLink RX12 219 MX12_kinds.1 ∈ zs_tbl := zs_iq6 61 rfl rfl
set_option maxRecDepth 100000 in
theorem fl_RX12_36 : Cond.fieldLink RX12 36 (TX12 17).1 (TX12 17).2.1 (TX12 17).2.2.1 ∈ zs_tbl := zs_iq5 11 rfl rfl
set_option maxRecDepth 100000 in
theorem fl_RX12_39 : Cond.fieldLink RX12 39 (TX12 18).1 (TX12 18).2.1 (TX12 18).2.2.1 ∈ zs_tbl := zs_iq5 12 rfl rfl
set_option maxRecDepth 100000 in
theorem ml_RX12_222 : Cond.methodLink RX12 222 MX12_rests.1 ∈ zs_tbl := zs_iq6 66 rfl rfl
set_option maxRecDepth 100000 in
theorem cl_RX12_225 : Cond.constantLong RX12 225 (6) ∈ zs_tbl := zs_iq6 74 rfl rfl
set_option maxRecDepth 100000 in
theorem cl_RX12_227 : Cond.constantLong RX12 227 (10) ∈ zs_tbl := zs_iq6 75 rfl rfl
set_option maxRecDepth 100000 in
theorem fl_RX12_229 : Cond.fieldLink RX12 229 (TX12 12).1 (TX12 12).2.1 (TX12 12).2.2.1 ∈ zs_tbl := zs_iq5 6 rfl rfl
set_option maxRecDepth 100000 in
theorem fl_RX12_23 : Cond.fieldLink RX12 23 (TX12 13).1 (TX12 13).2.1 (TX12 13).2.2.1 ∈ zs_tbl := zs_iq5 7 rfl rfl
set_option maxRecDepth 100000 in
theorem ml_RX12_242 : Cond.methodLink RX12 242 MX12_movesOf.1 ∈ zs_tbl := zs_iq6 85 rfl rfl
set_option maxRecDepth 100000 in
theorem cl_RX12_232 : Cond.constantLong RX12 232 (999999) ∈ zs_tbl := zs_iq6 80 rfl rfl
set_option maxRecDepth 100000 in
theorem cl_RX12_234 : Cond.constantLong RX12 234 (1103515245) ∈ zs_tbl := zs_iq6 81 rfl rfl
set_option maxRecDepth 100000 in
theorem cl_RX12_236 : Cond.constantLong RX12 236 (12345) ∈ zs_tbl := zs_iq6 82 rfl rfl
set_option maxRecDepth 100000 in
theorem cl_RX12_238 : Cond.constantLong RX12 238 (2147483648) ∈ zs_tbl := zs_iq6 83 rfl rfl
set_option maxRecDepth 100000 in
theorem cl_RX12_240 : Cond.constantLong RX12 240 (65536) ∈ zs_tbl := zs_iq6 84 rfl rfl
set_option maxRecDepth 100000 in
theorem ml_RX12_245 : Cond.methodLink RX12 245 MX12_carries.1 ∈ zs_tbl := zs_iq6 97 rfl rfl
set_option maxRecDepth 100000 in
theorem fl_RX12_16 : Cond.fieldLink RX12 16 (TX12 2).1 (TX12 2).2.1 (TX12 2).2.2.1 ∈ zs_tbl := zs_iq4 236 rfl rfl
set_option maxRecDepth 100000 in
theorem ml_RX12_249 : Cond.methodLink RX12 249 MX12_countOf.1 ∈ zs_tbl := zs_iq6 113 rfl rfl
set_option maxRecDepth 100000 in
theorem cl_RX12_252 : Cond.constantLong RX12 252 (1787) ∈ zs_tbl := zs_iq6 121 rfl rfl
set_option maxRecDepth 100000 in
theorem cl_RX12_254 : Cond.constantLong RX12 254 (31) ∈ zs_tbl := zs_iq6 122 rfl rfl
set_option maxRecDepth 100000 in
theorem ml_RJ0_335 : Cond.methodLink RJ0 335 MJ0_coder_7d493.1 ∈ zs_tbl := zs_iq2 182 rfl rfl
set_option maxRecDepth 100000 in
theorem fs_RJ0_9 : Cond.fieldLink RJ0 9 "java/lang/String" "value" "[B" ∈ zs_tbl := zs_iq6 123 rfl rfl
set_option maxRecDepth 100000 in
theorem ml_RJ0_492 : Cond.methodLink RJ0 492 MJ0_isLatin1_aae02.1 ∈ zs_tbl := zs_iq2 192 rfl rfl
set_option maxRecDepth 100000 in
theorem ml_RJ0_495 : Cond.methodLink RJ0 495 MJ1_charAt_3b067.1 ∈ zs_tbl := zs_iq2 196 rfl rfl
set_option maxRecDepth 100000 in
theorem fs_RJ0_38 : Cond.fieldLink RJ0 38 "java/lang/String" "COMPACT_STRINGS" "Z" ∈ zs_tbl := zs_iq2 186 rfl rfl
set_option maxRecDepth 100000 in
theorem fs_RJ0_15 : Cond.fieldLink RJ0 15 "java/lang/String" "coder" "B" ∈ zs_tbl := zs_iq6 124 rfl rfl
set_option maxRecDepth 100000 in
theorem ml_RJ0_1059 : Cond.methodLink RJ0 1059 MJ3_checkIndex_8e157.1 ∈ zs_tbl := zs_iq2 204 rfl rfl
set_option maxRecDepth 100000 in
theorem fs_RJ0_1053 : Cond.fieldLink RJ0 1053 "jdk/internal/util/Preconditions" "SIOOBE_FORMATTER" "Ljava/util/function/BiFunction;" ∈ zs_tbl := zs_iq2 202 rfl rfl
set_option maxRecDepth 100000 in
theorem ml_RJ1_9 : Cond.methodLink RJ1 9 MJ0_checkIndex_df160.1 ∈ zs_tbl := zs_iq2 199 rfl rfl
