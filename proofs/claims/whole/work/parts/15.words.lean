theorem mT0 {w : Cond} (i : Nat) (h : (k2_sels lw_privs)[i]? = some w) (hg : goodWord w = true) : w ∈ TT := List.mem_filter.mpr ⟨List.mem_append_left _ (List.mem_of_getElem? h), hg⟩
theorem mT1 {w : Cond} (i : Nat) (h : tables_1_1[i]? = some w) (hg : goodWord w = true) : w ∈ TT := List.mem_filter.mpr ⟨List.mem_append_right _ (List.mem_append_left _ (List.mem_of_getElem? h)), hg⟩
theorem mT2 {w : Cond} (i : Nat) (h : tables_1_2[i]? = some w) (hg : goodWord w = true) : w ∈ TT := List.mem_filter.mpr ⟨List.mem_append_right _ (List.mem_append_right _ (List.mem_append_left _ (List.mem_of_getElem? h))), hg⟩
theorem mT3 {w : Cond} (i : Nat) (h : tables_1_3[i]? = some w) (hg : goodWord w = true) : w ∈ TT := List.mem_filter.mpr ⟨List.mem_append_right _ (List.mem_append_right _ (List.mem_append_right _ (List.mem_append_left _ (List.mem_of_getElem? h)))), hg⟩
theorem mT4 {w : Cond} (i : Nat) (h : tables_1_4[i]? = some w) (hg : goodWord w = true) : w ∈ TT := List.mem_filter.mpr ⟨List.mem_append_right _ (List.mem_append_right _ (List.mem_append_right _ (List.mem_append_right _ (List.mem_append_left _ (List.mem_of_getElem? h))))), hg⟩
theorem mT5 {w : Cond} (i : Nat) (h : tables_1_5[i]? = some w) (hg : goodWord w = true) : w ∈ TT := List.mem_filter.mpr ⟨List.mem_append_right _ (List.mem_append_right _ (List.mem_append_right _ (List.mem_append_right _ (List.mem_append_right _ (List.mem_append_left _ (List.mem_of_getElem? h)))))), hg⟩
theorem mT6 {w : Cond} (i : Nat) (h : tables_1_6[i]? = some w) (hg : goodWord w = true) : w ∈ TT := List.mem_filter.mpr ⟨List.mem_append_right _ (List.mem_append_right _ (List.mem_append_right _ (List.mem_append_right _ (List.mem_append_right _ (List.mem_append_right _ (List.mem_append_left _ (List.mem_of_getElem? h))))))), hg⟩
theorem mT7 {w : Cond} (i : Nat) (h : tables_1_7[i]? = some w) (hg : goodWord w = true) : w ∈ TT := List.mem_filter.mpr ⟨List.mem_append_right _ (List.mem_append_right _ (List.mem_append_right _ (List.mem_append_right _ (List.mem_append_right _ (List.mem_append_right _ (List.mem_append_right _ (List.mem_append_left _ (List.mem_of_getElem? h)))))))), hg⟩
theorem mT8 {w : Cond} (i : Nat) (h : tables_1_8[i]? = some w) (hg : goodWord w = true) : w ∈ TT := List.mem_filter.mpr ⟨List.mem_append_right _ (List.mem_append_right _ (List.mem_append_right _ (List.mem_append_right _ (List.mem_append_right _ (List.mem_append_right _ (List.mem_append_right _ (List.mem_append_right _ (List.mem_of_getElem? h)))))))), hg⟩
abbrev kX11_init : MI := (yX11_init, cX11_init, 7, none)
set_option maxRecDepth 20000 in
theorem mkX11_init : MkI kX11_init 0 := ⟨mT1 25 rfl rfl, mT1 1 rfl rfl, mT1 26 rfl rfl, rfl, rfl, (by decide +kernel)⟩
abbrev kX4_init : MI := (yX4_init, cX4_init, 1, none)
set_option maxRecDepth 20000 in
theorem mkX4_init : MkI kX4_init 0 := ⟨mT1 35 rfl rfl, mT1 2 rfl rfl, mT1 36 rfl rfl, rfl, rfl, (by decide +kernel)⟩
abbrev kX8_init : MI := (yX8_init, cX8_init, 1, none)
set_option maxRecDepth 20000 in
theorem mkX8_init : MkI kX8_init 0 := ⟨mT1 63 rfl rfl, mT1 3 rfl rfl, mT1 64 rfl rfl, rfl, rfl, (by decide +kernel)⟩
abbrev kX5_init : MI := (yX5_init, cX5_init, 1, none)
set_option maxRecDepth 20000 in
theorem mkX5_init : MkI kX5_init 0 := ⟨mT1 98 rfl rfl, mT1 4 rfl rfl, mT1 99 rfl rfl, rfl, rfl, (by decide +kernel)⟩
abbrev kX7_init : MI := (yX7_init, cX7_init, 3, none)
set_option maxRecDepth 20000 in
theorem mkX7_init : MkI kX7_init 2 := ⟨mT1 155 rfl rfl, mT1 5 rfl rfl, mT1 156 rfl rfl, rfl, rfl, (by decide +kernel)⟩
abbrev kJ7_copyOf_59c91 : MI := (yJ7_copyOf_59c91, cJ7_copyOf_59c91, 3, (some (FieldType.array FieldType.int)))
set_option maxRecDepth 20000 in
theorem mkJ7_copyOf_59c91 : MkS kJ7_copyOf_59c91 2 := ⟨mT1 159 rfl rfl, mT1 6 rfl rfl, mT1 160 rfl rfl, (by decide +kernel)⟩
abbrev kJ9_min_7cf53 : MI := (yJ9_min_7cf53, cJ9_min_7cf53, 2, (some FieldType.int))
set_option maxRecDepth 20000 in
theorem mkJ9_min_7cf53 : MkS kJ9_min_7cf53 2 := ⟨mT1 169 rfl rfl, mT1 7 rfl rfl, mT1 170 rfl rfl, (by decide +kernel)⟩
abbrev kX10_init : MI := (yX10_init, cX10_init, 3, none)
set_option maxRecDepth 20000 in
theorem mkX10_init : MkI kX10_init 1 := ⟨mT1 204 rfl rfl, mT1 9 rfl rfl, mT1 205 rfl rfl, rfl, rfl, (by decide +kernel)⟩
abbrev kX9_init : MI := (yX9_init, cX9_init, 1, none)
set_option maxRecDepth 20000 in
theorem mkX9_init : MkI kX9_init 0 := ⟨mT1 210 rfl rfl, mT1 10 rfl rfl, mT1 211 rfl rfl, rfl, rfl, (by decide +kernel)⟩
abbrev kJ7_fill_53178 : MI := (yJ7_fill_53178, cJ7_fill_53178, 4, none)
set_option maxRecDepth 20000 in
theorem mkJ7_fill_53178 : MkS kJ7_fill_53178 2 := ⟨mT1 214 rfl rfl, mT1 6 rfl rfl, mT1 215 rfl rfl, (by decide +kernel)⟩
abbrev kX6_init : MI := (yX6_init, cX6_init, 1, none)
set_option maxRecDepth 20000 in
theorem mkX6_init : MkI kX6_init 0 := ⟨mT2 85 rfl rfl, mT1 11 rfl rfl, mT2 86 rfl rfl, rfl, rfl, (by decide +kernel)⟩
abbrev kX3_init : MI := (yX3_init, cX3_init, 2, none)
set_option maxRecDepth 20000 in
theorem mkX3_init : MkI kX3_init 1 := ⟨mT2 95 rfl rfl, mT1 12 rfl rfl, mT2 96 rfl rfl, rfl, rfl, (by decide +kernel)⟩
abbrev kX0_init : MI := (yX0_init, cX0_init, 4, none)
set_option maxRecDepth 20000 in
theorem mkX0_init : MkI kX0_init 3 := ⟨mT2 108 rfl rfl, mT1 13 rfl rfl, mT2 109 rfl rfl, rfl, rfl, (by decide +kernel)⟩
abbrev kX2_init : MI := (yX2_init, cX2_init, 2, none)
set_option maxRecDepth 20000 in
theorem mkX2_init : MkI kX2_init 0 := ⟨mT2 114 rfl rfl, mT1 14 rfl rfl, mT2 115 rfl rfl, rfl, rfl, (by decide +kernel)⟩
abbrev kX1_init : MI := (yX1_init, cX1_init, 2, none)
set_option maxRecDepth 20000 in
theorem mkX1_init : MkI kX1_init 1 := ⟨mT2 169 rfl rfl, mT1 15 rfl rfl, mT2 170 rfl rfl, rfl, rfl, (by decide +kernel)⟩
abbrev kX11_box : MI := (yX11_box, cX11_box, 4, (some FieldType.int))
set_option maxRecDepth 20000 in
theorem mkX11_box : MkV kX11_box 1 := ⟨mT3 1 rfl rfl, mT3 2 rfl rfl, mT1 1 rfl rfl, mT3 3 rfl rfl, (by decide +kernel)⟩
abbrev kX11_refuse : MI := (yX11_refuse, cX11_refuse, 2, (some FieldType.int))
set_option maxRecDepth 20000 in
theorem mkX11_refuse : MkV kX11_refuse 1 := ⟨mT3 6 rfl rfl, mT0 0 rfl rfl, mT1 1 rfl rfl, mT3 7 rfl rfl, (by decide +kernel)⟩
abbrev kX2_clear : MI := (yX2_clear, cX2_clear, 1, none)
set_option maxRecDepth 20000 in
theorem mkX2_clear : MkV kX2_clear 0 := ⟨mT3 9 rfl rfl, mT3 10 rfl rfl, mT1 14 rfl rfl, mT3 11 rfl rfl, (by decide +kernel)⟩
abbrev kX11_grant : MI := (yX11_grant, cX11_grant, 2, (some FieldType.int))
set_option maxRecDepth 20000 in
theorem mkX11_grant : MkV kX11_grant 1 := ⟨mT3 14 rfl rfl, mT0 1 rfl rfl, mT1 1 rfl rfl, mT3 15 rfl rfl, (by decide +kernel)⟩
abbrev kX11_of : MI := (yX11_of, cX11_of, 4, (some FieldType.int))
set_option maxRecDepth 20000 in
theorem mkX11_of : MkV kX11_of 2 := ⟨mT3 17 rfl rfl, mT3 18 rfl rfl, mT1 1 rfl rfl, mT3 19 rfl rfl, (by decide +kernel)⟩
abbrev kX9_hasBox : MI := (yX9_hasBox, cX9_hasBox, 2, (some FieldType.boolean))
set_option maxRecDepth 20000 in
theorem mkX9_hasBox : MkV kX9_hasBox 1 := ⟨mT3 21 rfl rfl, mT3 22 rfl rfl, mT1 10 rfl rfl, mT3 23 rfl rfl, (by decide +kernel)⟩
abbrev kX9_notes : MI := (yX9_notes, cX9_notes, 4, (some FieldType.int))
set_option maxRecDepth 20000 in
theorem mkX9_notes : MkV kX9_notes 1 := ⟨mT3 25 rfl rfl, mT3 26 rfl rfl, mT1 10 rfl rfl, mT3 27 rfl rfl, (by decide +kernel)⟩
abbrev kX9_notesAt : MI := (yX9_notesAt, cX9_notesAt, 3, (some FieldType.int))
set_option maxRecDepth 20000 in
theorem mkX9_notesAt : MkV kX9_notesAt 2 := ⟨mT3 29 rfl rfl, mT3 30 rfl rfl, mT1 10 rfl rfl, mT3 31 rfl rfl, (by decide +kernel)⟩
abbrev kJ6_bitCount_0f7a4 : MI := (yJ6_bitCount_0f7a4, cJ6_bitCount_0f7a4, 1, (some FieldType.int))
set_option maxRecDepth 20000 in
theorem mkJ6_bitCount_0f7a4 : MkS kJ6_bitCount_0f7a4 1 := ⟨mT3 33 rfl rfl, mT1 17 rfl rfl, mT3 34 rfl rfl, (by decide +kernel)⟩
abbrev kX10_lawInForce : MI := (yX10_lawInForce, cX10_lawInForce, 1, (some (FieldType.object "DowryBoxes$Text")))
set_option maxRecDepth 20000 in
theorem mkX10_lawInForce : MkV kX10_lawInForce 0 := ⟨mT3 39 rfl rfl, mT3 40 rfl rfl, mT1 9 rfl rfl, mT3 41 rfl rfl, (by decide +kernel)⟩
abbrev kX10_lawNumbered : MI := (yX10_lawNumbered, cX10_lawNumbered, 2, (some (FieldType.object "DowryBoxes$Text")))
set_option maxRecDepth 20000 in
theorem mkX10_lawNumbered : MkV kX10_lawNumbered 1 := ⟨mT3 43 rfl rfl, mT3 44 rfl rfl, mT1 9 rfl rfl, mT3 45 rfl rfl, (by decide +kernel)⟩
abbrev kX10_hasLaw : MI := (yX10_hasLaw, cX10_hasLaw, 2, (some FieldType.boolean))
set_option maxRecDepth 20000 in
theorem mkX10_hasLaw : MkV kX10_hasLaw 1 := ⟨mT3 47 rfl rfl, mT3 48 rfl rfl, mT1 9 rfl rfl, mT3 49 rfl rfl, (by decide +kernel)⟩
abbrev kX3_lasting : MI := (yX3_lasting, cX3_lasting, 5, (some FieldType.int))
set_option maxRecDepth 20000 in
theorem mkX3_lasting : MkV kX3_lasting 3 := ⟨mT3 51 rfl rfl, mT3 52 rfl rfl, mT1 12 rfl rfl, mT3 53 rfl rfl, (by decide +kernel)⟩
abbrev kX3_lookAt : MI := (yX3_lookAt, cX3_lookAt, 3, none)
set_option maxRecDepth 20000 in
theorem mkX3_lookAt : MkV kX3_lookAt 2 := ⟨mT3 56 rfl rfl, mT0 2 rfl rfl, mT1 12 rfl rfl, mT3 57 rfl rfl, (by decide +kernel)⟩
abbrev kX3_told : MI := (yX3_told, cX3_told, 8, (some FieldType.int))
set_option maxRecDepth 20000 in
theorem mkX3_told : MkV kX3_told 4 := ⟨mT3 62 rfl rfl, mT0 3 rfl rfl, mT1 12 rfl rfl, mT3 63 rfl rfl, (by decide +kernel)⟩
abbrev kX6_reckon : MI := (yX6_reckon, cX6_reckon, 9, (some FieldType.int))
set_option maxRecDepth 20000 in
theorem mkX6_reckon : MkV kX6_reckon 3 := ⟨mT3 65 rfl rfl, mT3 66 rfl rfl, mT1 11 rfl rfl, mT3 67 rfl rfl, (by decide +kernel)⟩
abbrev kJ9_max_7cf53 : MI := (yJ9_max_7cf53, cJ9_max_7cf53, 2, (some FieldType.int))
set_option maxRecDepth 20000 in
theorem mkJ9_max_7cf53 : MkS kJ9_max_7cf53 2 := ⟨mT3 70 rfl rfl, mT1 7 rfl rfl, mT3 71 rfl rfl, (by decide +kernel)⟩
abbrev kX6_join : MI := (yX6_join, cX6_join, 7, (some FieldType.int))
set_option maxRecDepth 20000 in
theorem mkX6_join : MkS kX6_join 3 := ⟨mT3 73 rfl rfl, mT1 11 rfl rfl, mT3 74 rfl rfl, (by decide +kernel)⟩
abbrev kX3_losing : MI := (yX3_losing, cX3_losing, 4, (some FieldType.int))
set_option maxRecDepth 20000 in
theorem mkX3_losing : MkV kX3_losing 3 := ⟨mT3 81 rfl rfl, mT3 82 rfl rfl, mT1 12 rfl rfl, mT3 83 rfl rfl, (by decide +kernel)⟩
abbrev kX11_isBar : MI := (yX11_isBar, cX11_isBar, 1, (some FieldType.boolean))
set_option maxRecDepth 20000 in
theorem mkX11_isBar : MkS kX11_isBar 1 := ⟨mT3 85 rfl rfl, mT1 1 rfl rfl, mT3 86 rfl rfl, (by decide +kernel)⟩
abbrev kX11_pins : MI := (yX11_pins, cX11_pins, 6, (some FieldType.int))
set_option maxRecDepth 20000 in
theorem mkX11_pins : MkV kX11_pins 3 := ⟨mT3 88 rfl rfl, mT3 89 rfl rfl, mT1 1 rfl rfl, mT3 90 rfl rfl, (by decide +kernel)⟩
abbrev kX11_suitor : MI := (yX11_suitor, cX11_suitor, 4, (some FieldType.int))
set_option maxRecDepth 20000 in
theorem mkX11_suitor : MkV kX11_suitor 2 := ⟨mT3 92 rfl rfl, mT3 93 rfl rfl, mT1 1 rfl rfl, mT3 94 rfl rfl, (by decide +kernel)⟩
abbrev kX11_isTooth : MI := (yX11_isTooth, cX11_isTooth, 1, (some FieldType.boolean))
set_option maxRecDepth 20000 in
theorem mkX11_isTooth : MkS kX11_isTooth 1 := ⟨mT3 96 rfl rfl, mT1 1 rfl rfl, mT3 97 rfl rfl, (by decide +kernel)⟩
abbrev kX11_isYears : MI := (yX11_isYears, cX11_isYears, 1, (some FieldType.boolean))
set_option maxRecDepth 20000 in
theorem mkX11_isYears : MkS kX11_isYears 1 := ⟨mT3 99 rfl rfl, mT1 1 rfl rfl, mT3 100 rfl rfl, (by decide +kernel)⟩
abbrev kX11_at : MI := (yX11_at, cX11_at, 3, (some FieldType.int))
set_option maxRecDepth 20000 in
theorem mkX11_at : MkV kX11_at 2 := ⟨mT3 102 rfl rfl, mT3 103 rfl rfl, mT1 1 rfl rfl, mT3 104 rfl rfl, (by decide +kernel)⟩
abbrev kX10_hasSuitor : MI := (yX10_hasSuitor, cX10_hasSuitor, 2, (some FieldType.boolean))
set_option maxRecDepth 20000 in
theorem mkX10_hasSuitor : MkV kX10_hasSuitor 1 := ⟨mT3 106 rfl rfl, mT3 107 rfl rfl, mT1 9 rfl rfl, mT3 108 rfl rfl, (by decide +kernel)⟩
abbrev kX9_boxOf : MI := (yX9_boxOf, cX9_boxOf, 3, (some FieldType.int))
set_option maxRecDepth 20000 in
theorem mkX9_boxOf : MkV kX9_boxOf 1 := ⟨mT3 110 rfl rfl, mT3 111 rfl rfl, mT1 10 rfl rfl, mT3 112 rfl rfl, (by decide +kernel)⟩
abbrev kX11_asks : MI := (yX11_asks, cX11_asks, 4, (some FieldType.int))
set_option maxRecDepth 20000 in
theorem mkX11_asks : MkV kX11_asks 3 := ⟨mT3 114 rfl rfl, mT3 115 rfl rfl, mT1 1 rfl rfl, mT3 116 rfl rfl, (by decide +kernel)⟩
abbrev kX9_barsWith : MI := (yX9_barsWith, cX9_barsWith, 5, (some FieldType.int))
set_option maxRecDepth 20000 in
theorem mkX9_barsWith : MkV kX9_barsWith 2 := ⟨mT3 118 rfl rfl, mT3 119 rfl rfl, mT1 10 rfl rfl, mT3 120 rfl rfl, (by decide +kernel)⟩
abbrev kX3_liking : MI := (yX3_liking, cX3_liking, 4, (some FieldType.int))
set_option maxRecDepth 20000 in
theorem mkX3_liking : MkV kX3_liking 3 := ⟨mT3 122 rfl rfl, mT3 123 rfl rfl, mT1 12 rfl rfl, mT3 124 rfl rfl, (by decide +kernel)⟩
abbrev kX3_lookAtBoth : MI := (yX3_lookAtBoth, cX3_lookAtBoth, 4, none)
set_option maxRecDepth 20000 in
theorem mkX3_lookAtBoth : MkV kX3_lookAtBoth 3 := ⟨mT3 127 rfl rfl, mT0 4 rfl rfl, mT1 12 rfl rfl, mT3 128 rfl rfl, (by decide +kernel)⟩
abbrev kX3_isBarred : MI := (yX3_isBarred, cX3_isBarred, 4, (some FieldType.boolean))
set_option maxRecDepth 20000 in
theorem mkX3_isBarred : MkV kX3_isBarred 3 := ⟨mT3 132 rfl rfl, mT3 133 rfl rfl, mT1 12 rfl rfl, mT3 134 rfl rfl, (by decide +kernel)⟩
abbrev kX11_terms : MI := (yX11_terms, cX11_terms, 4, (some FieldType.int))
set_option maxRecDepth 20000 in
theorem mkX11_terms : MkV kX11_terms 2 := ⟨mT3 136 rfl rfl, mT3 137 rfl rfl, mT1 1 rfl rfl, mT3 138 rfl rfl, (by decide +kernel)⟩
abbrev kX11_feed : MI := (yX11_feed, cX11_feed, 6, (some FieldType.int))
set_option maxRecDepth 20000 in
theorem mkX11_feed : MkV kX11_feed 5 := ⟨mT3 142 rfl rfl, mT3 143 rfl rfl, mT1 1 rfl rfl, mT3 144 rfl rfl, (by decide +kernel)⟩
abbrev kX11_feedNumber : MI := (yX11_feedNumber, cX11_feedNumber, 3, none)
set_option maxRecDepth 20000 in
theorem mkX11_feedNumber : MkV kX11_feedNumber 1 := ⟨mT3 147 rfl rfl, mT0 5 rfl rfl, mT1 1 rfl rfl, mT3 148 rfl rfl, (by decide +kernel)⟩
abbrev kX11_end : MI := (yX11_end, cX11_end, 2, (some FieldType.int))
set_option maxRecDepth 20000 in
theorem mkX11_end : MkV kX11_end 1 := ⟨mT3 150 rfl rfl, mT3 151 rfl rfl, mT1 1 rfl rfl, mT3 152 rfl rfl, (by decide +kernel)⟩
abbrev kX11_row : MI := (yX11_row, cX11_row, 3, (some FieldType.int))
set_option maxRecDepth 20000 in
theorem mkX11_row : MkV kX11_row 0 := ⟨mT3 154 rfl rfl, mT3 155 rfl rfl, mT1 1 rfl rfl, mT3 156 rfl rfl, (by decide +kernel)⟩
abbrev kX11_rust : MI := (yX11_rust, cX11_rust, 1, (some FieldType.int))
set_option maxRecDepth 20000 in
theorem mkX11_rust : MkV kX11_rust 0 := ⟨mT3 158 rfl rfl, mT3 159 rfl rfl, mT1 1 rfl rfl, mT3 160 rfl rfl, (by decide +kernel)⟩
abbrev kX11_law : MI := (yX11_law, cX11_law, 4, (some FieldType.int))
set_option maxRecDepth 20000 in
theorem mkX11_law : MkV kX11_law 0 := ⟨mT3 162 rfl rfl, mT3 163 rfl rfl, mT1 1 rfl rfl, mT3 164 rfl rfl, (by decide +kernel)⟩
abbrev kX5_read : MI := (yX5_read, cX5_read, 5, (some (FieldType.object "DowryBoxes$Text")))
set_option maxRecDepth 20000 in
theorem mkX5_read : MkV kX5_read 3 := ⟨mT3 166 rfl rfl, mT3 167 rfl rfl, mT1 4 rfl rfl, mT3 168 rfl rfl, (by decide +kernel)⟩
abbrev kX5_scan : MI := (yX5_scan, cX5_scan, 5, none)
set_option maxRecDepth 20000 in
theorem mkX5_scan : MkV kX5_scan 2 := ⟨mT3 171 rfl rfl, mT0 6 rfl rfl, mT1 4 rfl rfl, mT3 172 rfl rfl, (by decide +kernel)⟩
abbrev kX5_endOfRow : MI := (yX5_endOfRow, cX5_endOfRow, 6, (some FieldType.int))
set_option maxRecDepth 20000 in
theorem mkX5_endOfRow : MkS kX5_endOfRow 3 := ⟨mT3 174 rfl rfl, mT1 4 rfl rfl, mT3 175 rfl rfl, (by decide +kernel)⟩
abbrev kX5_isLetter : MI := (yX5_isLetter, cX5_isLetter, 1, (some FieldType.boolean))
set_option maxRecDepth 20000 in
theorem mkX5_isLetter : MkS kX5_isLetter 1 := ⟨mT3 177 rfl rfl, mT1 4 rfl rfl, mT3 178 rfl rfl, (by decide +kernel)⟩
abbrev kX5_isDigit : MI := (yX5_isDigit, cX5_isDigit, 1, (some FieldType.boolean))
set_option maxRecDepth 20000 in
theorem mkX5_isDigit : MkS kX5_isDigit 1 := ⟨mT3 180 rfl rfl, mT1 4 rfl rfl, mT3 181 rfl rfl, (by decide +kernel)⟩
abbrev kX5_wordAt : MI := (yX5_wordAt, cX5_wordAt, 6, (some FieldType.int))
set_option maxRecDepth 20000 in
theorem mkX5_wordAt : MkS kX5_wordAt 3 := ⟨mT3 183 rfl rfl, mT1 4 rfl rfl, mT3 184 rfl rfl, (by decide +kernel)⟩
abbrev kJ0_length_8abf5 : MI := (yJ0_length_8abf5, cJ0_length_8abf5, 1, (some FieldType.int))
set_option maxRecDepth 20000 in
theorem mkJ0_length_8abf5 : MkV kJ0_length_8abf5 0 := ⟨mT3 187 rfl rfl, mT3 188 rfl rfl, mT1 18 rfl rfl, mT3 189 rfl rfl, (by decide +kernel)⟩
abbrev kJ0_coder_7d493 : MI := (yJ0_coder_7d493, cJ0_coder_7d493, 1, (some FieldType.byte))
set_option maxRecDepth 20000 in
theorem mkJ0_coder_7d493 : MkV kJ0_coder_7d493 0 := ⟨mT3 191 rfl rfl, mT3 192 rfl rfl, mT1 18 rfl rfl, mT3 193 rfl rfl, (by decide +kernel)⟩
abbrev kJ0_charAt_5068e : MI := (yJ0_charAt_5068e, cJ0_charAt_5068e, 2, (some FieldType.char))
set_option maxRecDepth 20000 in
theorem mkJ0_charAt_5068e : MkV kJ0_charAt_5068e 1 := ⟨mT3 197 rfl rfl, mT3 198 rfl rfl, mT1 18 rfl rfl, mT3 199 rfl rfl, (by decide +kernel)⟩
abbrev kJ0_isLatin1_aae02 : MI := (yJ0_isLatin1_aae02, cJ0_isLatin1_aae02, 1, (some FieldType.boolean))
set_option maxRecDepth 20000 in
theorem mkJ0_isLatin1_aae02 : MkV kJ0_isLatin1_aae02 0 := ⟨mT3 201 rfl rfl, mT3 202 rfl rfl, mT1 18 rfl rfl, mT3 203 rfl rfl, (by decide +kernel)⟩
abbrev kJ1_charAt_3b067 : MI := (yJ1_charAt_3b067, cJ1_charAt_3b067, 2, (some FieldType.char))
set_option maxRecDepth 20000 in
theorem mkJ1_charAt_3b067 : MkS kJ1_charAt_3b067 2 := ⟨mT3 205 rfl rfl, mT1 19 rfl rfl, mT3 206 rfl rfl, (by decide +kernel)⟩
abbrev kJ0_checkIndex_df160 : MI := (yJ0_checkIndex_df160, cJ0_checkIndex_df160, 2, none)
set_option maxRecDepth 20000 in
theorem mkJ0_checkIndex_df160 : MkS kJ0_checkIndex_df160 2 := ⟨mT3 208 rfl rfl, mT1 18 rfl rfl, mT3 209 rfl rfl, (by decide +kernel)⟩
abbrev kJ3_checkIndex_8e157 : MI := (yJ3_checkIndex_8e157, cJ3_checkIndex_8e157, 3, (some FieldType.int))
set_option maxRecDepth 20000 in
theorem mkJ3_checkIndex_8e157 : MkS kJ3_checkIndex_8e157 3 := ⟨mT3 213 rfl rfl, mT1 20 rfl rfl, mT3 214 rfl rfl, (by decide +kernel)⟩
abbrev kJ2_charAt_3b067 : MI := (yJ2_charAt_3b067, cJ2_charAt_3b067, 2, (some FieldType.char))
set_option maxRecDepth 20000 in
theorem mkJ2_charAt_3b067 : MkS kJ2_charAt_3b067 2 := ⟨mT3 216 rfl rfl, mT1 21 rfl rfl, mT3 217 rfl rfl, (by decide +kernel)⟩
abbrev kJ2_checkIndex_2214a : MI := (yJ2_checkIndex_2214a, cJ2_checkIndex_2214a, 2, none)
set_option maxRecDepth 20000 in
theorem mkJ2_checkIndex_2214a : MkS kJ2_checkIndex_2214a 2 := ⟨mT3 219 rfl rfl, mT1 21 rfl rfl, mT3 220 rfl rfl, (by decide +kernel)⟩
abbrev kJ2_length_9d52b : MI := (yJ2_length_9d52b, cJ2_length_9d52b, 1, (some FieldType.int))
set_option maxRecDepth 20000 in
theorem mkJ2_length_9d52b : MkS kJ2_length_9d52b 1 := ⟨mT3 222 rfl rfl, mT1 21 rfl rfl, mT3 223 rfl rfl, (by decide +kernel)⟩
abbrev kJ2_getChar_3b067 : MI := (yJ2_getChar_3b067, cJ2_getChar_3b067, 2, (some FieldType.char))
set_option maxRecDepth 20000 in
theorem mkJ2_getChar_3b067 : MkS kJ2_getChar_3b067 2 := ⟨mT3 226 rfl rfl, mT1 21 rfl rfl, mT3 227 rfl rfl, (by decide +kernel)⟩
abbrev kX5_isSame : MI := (yX5_isSame, cX5_isSame, 5, (some FieldType.boolean))
set_option maxRecDepth 20000 in
theorem mkX5_isSame : MkS kX5_isSame 4 := ⟨mT3 235 rfl rfl, mT1 4 rfl rfl, mT3 236 rfl rfl, (by decide +kernel)⟩
abbrev kX5_numberAt : MI := (yX5_numberAt, cX5_numberAt, 5, (some FieldType.int))
set_option maxRecDepth 20000 in
theorem mkX5_numberAt : MkS kX5_numberAt 3 := ⟨mT3 238 rfl rfl, mT1 4 rfl rfl, mT3 239 rfl rfl, (by decide +kernel)⟩
abbrev kX5_readClause : MI := (yX5_readClause, cX5_readClause, 3, (some FieldType.boolean))
set_option maxRecDepth 20000 in
theorem mkX5_readClause : MkV kX5_readClause 1 := ⟨mT4 5 rfl rfl, mT0 7 rfl rfl, mT1 4 rfl rfl, mT4 6 rfl rfl, (by decide +kernel)⟩
abbrev kX5_goOn : MI := (yX5_goOn, cX5_goOn, 1, none)
set_option maxRecDepth 20000 in
theorem mkX5_goOn : MkV kX5_goOn 0 := ⟨mT4 9 rfl rfl, mT0 8 rfl rfl, mT1 4 rfl rfl, mT4 10 rfl rfl, (by decide +kernel)⟩
abbrev kX5_readSums : MI := (yX5_readSums, cX5_readSums, 4, (some FieldType.boolean))
set_option maxRecDepth 20000 in
theorem mkX5_readSums : MkV kX5_readSums 1 := ⟨mT4 13 rfl rfl, mT0 9 rfl rfl, mT1 4 rfl rfl, mT4 14 rfl rfl, (by decide +kernel)⟩
abbrev kX5_sumsOf : MI := (yX5_sumsOf, cX5_sumsOf, 2, (some FieldType.int))
set_option maxRecDepth 20000 in
theorem mkX5_sumsOf : MkV kX5_sumsOf 1 := ⟨mT4 17 rfl rfl, mT0 10 rfl rfl, mT1 4 rfl rfl, mT4 18 rfl rfl, (by decide +kernel)⟩
abbrev kX5_wordAhead : MI := (yX5_wordAhead, cX5_wordAhead, 2, (some FieldType.int))
set_option maxRecDepth 20000 in
theorem mkX5_wordAhead : MkS kX5_wordAhead 2 := ⟨mT4 20 rfl rfl, mT1 4 rfl rfl, mT4 21 rfl rfl, (by decide +kernel)⟩
abbrev kX5_readSum : MI := (yX5_readSum, cX5_readSum, 6, (some FieldType.boolean))
set_option maxRecDepth 20000 in
theorem mkX5_readSum : MkV kX5_readSum 2 := ⟨mT4 24 rfl rfl, mT0 11 rfl rfl, mT1 4 rfl rfl, mT4 25 rfl rfl, (by decide +kernel)⟩
abbrev kX5_readPart : MI := (yX5_readPart, cX5_readPart, 5, (some FieldType.boolean))
set_option maxRecDepth 20000 in
theorem mkX5_readPart : MkV kX5_readPart 1 := ⟨mT4 28 rfl rfl, mT0 12 rfl rfl, mT1 4 rfl rfl, mT4 29 rfl rfl, (by decide +kernel)⟩
abbrev kX5_isSign : MI := (yX5_isSign, cX5_isSign, 2, (some FieldType.boolean))
set_option maxRecDepth 20000 in
theorem mkX5_isSign : MkV kX5_isSign 1 := ⟨mT4 32 rfl rfl, mT0 13 rfl rfl, mT1 4 rfl rfl, mT4 33 rfl rfl, (by decide +kernel)⟩
abbrev kX5_put : MI := (yX5_put, cX5_put, 3, (some FieldType.boolean))
set_option maxRecDepth 20000 in
theorem mkX5_put : MkV kX5_put 2 := ⟨mT4 36 rfl rfl, mT0 14 rfl rfl, mT1 4 rfl rfl, mT4 37 rfl rfl, (by decide +kernel)⟩
abbrev kX5_standsAlone : MI := (yX5_standsAlone, cX5_standsAlone, 2, (some FieldType.boolean))
set_option maxRecDepth 20000 in
theorem mkX5_standsAlone : MkV kX5_standsAlone 1 := ⟨mT4 40 rfl rfl, mT0 15 rfl rfl, mT1 4 rfl rfl, mT4 41 rfl rfl, (by decide +kernel)⟩
abbrev kX5_joinHere : MI := (yX5_joinHere, cX5_joinHere, 2, (some FieldType.int))
set_option maxRecDepth 20000 in
theorem mkX5_joinHere : MkV kX5_joinHere 1 := ⟨mT4 44 rfl rfl, mT0 16 rfl rfl, mT1 4 rfl rfl, mT4 45 rfl rfl, (by decide +kernel)⟩
abbrev kX5_readTest : MI := (yX5_readTest, cX5_readTest, 6, (some FieldType.boolean))
set_option maxRecDepth 20000 in
theorem mkX5_readTest : MkV kX5_readTest 2 := ⟨mT4 48 rfl rfl, mT0 17 rfl rfl, mT1 4 rfl rfl, mT4 49 rfl rfl, (by decide +kernel)⟩
abbrev kX5_readPlain : MI := (yX5_readPlain, cX5_readPlain, 4, (some FieldType.boolean))
set_option maxRecDepth 20000 in
theorem mkX5_readPlain : MkV kX5_readPlain 1 := ⟨mT4 52 rfl rfl, mT0 18 rfl rfl, mT1 4 rfl rfl, mT4 53 rfl rfl, (by decide +kernel)⟩
abbrev kX5_comparisonHere : MI := (yX5_comparisonHere, cX5_comparisonHere, 1, (some FieldType.int))
set_option maxRecDepth 20000 in
theorem mkX5_comparisonHere : MkV kX5_comparisonHere 0 := ⟨mT4 56 rfl rfl, mT0 19 rfl rfl, mT1 4 rfl rfl, mT4 57 rfl rfl, (by decide +kernel)⟩
abbrev kX11_orders : MI := (yX11_orders, cX11_orders, 5, (some FieldType.int))
set_option maxRecDepth 20000 in
theorem mkX11_orders : MkV kX11_orders 0 := ⟨mT4 62 rfl rfl, mT4 63 rfl rfl, mT1 1 rfl rfl, mT4 64 rfl rfl, (by decide +kernel)⟩
abbrev kX0_beginOrders : MI := (yX0_beginOrders, cX0_beginOrders, 1, none)
set_option maxRecDepth 20000 in
theorem mkX0_beginOrders : MkV kX0_beginOrders 0 := ⟨mT4 66 rfl rfl, mT4 67 rfl rfl, mT1 13 rfl rfl, mT4 68 rfl rfl, (by decide +kernel)⟩
abbrev kX9_copyFrom : MI := (yX9_copyFrom, cX9_copyFrom, 2, none)
set_option maxRecDepth 20000 in
theorem mkX9_copyFrom : MkV kX9_copyFrom 1 := ⟨mT4 70 rfl rfl, mT4 71 rfl rfl, mT1 10 rfl rfl, mT4 72 rfl rfl, (by decide +kernel)⟩
abbrev kX2_copyFrom : MI := (yX2_copyFrom, cX2_copyFrom, 3, none)
set_option maxRecDepth 20000 in
theorem mkX2_copyFrom : MkV kX2_copyFrom 1 := ⟨mT4 75 rfl rfl, mT4 76 rfl rfl, mT1 14 rfl rfl, mT4 77 rfl rfl, (by decide +kernel)⟩
abbrev kX0_runOnce : MI := (yX0_runOnce, cX0_runOnce, 8, (some FieldType.boolean))
set_option maxRecDepth 20000 in
theorem mkX0_runOnce : MkV kX0_runOnce 2 := ⟨mT4 80 rfl rfl, mT4 81 rfl rfl, mT1 13 rfl rfl, mT4 82 rfl rfl, (by decide +kernel)⟩
abbrev kX0_lookAround : MI := (yX0_lookAround, cX0_lookAround, 4, none)
set_option maxRecDepth 20000 in
theorem mkX0_lookAround : MkV kX0_lookAround 0 := ⟨mT4 85 rfl rfl, mT0 20 rfl rfl, mT1 13 rfl rfl, mT4 86 rfl rfl, (by decide +kernel)⟩
abbrev kX9_couples : MI := (yX9_couples, cX9_couples, 3, (some FieldType.int))
set_option maxRecDepth 20000 in
theorem mkX9_couples : MkV kX9_couples 0 := ⟨mT4 88 rfl rfl, mT4 89 rfl rfl, mT1 10 rfl rfl, mT4 90 rfl rfl, (by decide +kernel)⟩
abbrev kX0_pullPin : MI := (yX0_pullPin, cX0_pullPin, 6, (some FieldType.int))
set_option maxRecDepth 20000 in
theorem mkX0_pullPin : MkV kX0_pullPin 3 := ⟨mT4 96 rfl rfl, mT4 97 rfl rfl, mT1 13 rfl rfl, mT4 98 rfl rfl, (by decide +kernel)⟩
abbrev kX2_put : MI := (yX2_put, cX2_put, 4, none)
set_option maxRecDepth 20000 in
theorem mkX2_put : MkV kX2_put 2 := ⟨mT4 102 rfl rfl, mT4 103 rfl rfl, mT1 14 rfl rfl, mT4 104 rfl rfl, (by decide +kernel)⟩
abbrev kX0_snapTooth : MI := (yX0_snapTooth, cX0_snapTooth, 4, (some FieldType.int))
set_option maxRecDepth 20000 in
theorem mkX0_snapTooth : MkV kX0_snapTooth 2 := ⟨mT4 106 rfl rfl, mT4 107 rfl rfl, mT1 13 rfl rfl, mT4 108 rfl rfl, (by decide +kernel)⟩
abbrev kX0_wedBox : MI := (yX0_wedBox, cX0_wedBox, 5, (some FieldType.int))
set_option maxRecDepth 20000 in
theorem mkX0_wedBox : MkV kX0_wedBox 2 := ⟨mT4 110 rfl rfl, mT4 111 rfl rfl, mT1 13 rfl rfl, mT4 112 rfl rfl, (by decide +kernel)⟩
abbrev kX0_passYear : MI := (yX0_passYear, cX0_passYear, 2, (some FieldType.int))
set_option maxRecDepth 20000 in
theorem mkX0_passYear : MkV kX0_passYear 0 := ⟨mT4 119 rfl rfl, mT4 120 rfl rfl, mT1 13 rfl rfl, mT4 121 rfl rfl, (by decide +kernel)⟩
abbrev kX0_liveYear : MI := (yX0_liveYear, cX0_liveYear, 5, (some FieldType.int))
set_option maxRecDepth 20000 in
theorem mkX0_liveYear : MkV kX0_liveYear 2 := ⟨mT4 123 rfl rfl, mT4 124 rfl rfl, mT1 13 rfl rfl, mT4 125 rfl rfl, (by decide +kernel)⟩
abbrev kX0_dropOrders : MI := (yX0_dropOrders, cX0_dropOrders, 1, none)
set_option maxRecDepth 20000 in
theorem mkX0_dropOrders : MkV kX0_dropOrders 0 := ⟨mT4 129 rfl rfl, mT4 130 rfl rfl, mT1 13 rfl rfl, mT4 131 rfl rfl, (by decide +kernel)⟩
abbrev kX11_fault : MI := (yX11_fault, cX11_fault, 1, (some FieldType.int))
set_option maxRecDepth 20000 in
theorem mkX11_fault : MkV kX11_fault 0 := ⟨mT4 133 rfl rfl, mT4 134 rfl rfl, mT1 1 rfl rfl, mT4 135 rfl rfl, (by decide +kernel)⟩
abbrev kX11_stopped : MI := (yX11_stopped, cX11_stopped, 1, (some FieldType.int))
set_option maxRecDepth 20000 in
theorem mkX11_stopped : MkV kX11_stopped 0 := ⟨mT4 137 rfl rfl, mT4 138 rfl rfl, mT1 1 rfl rfl, mT4 139 rfl rfl, (by decide +kernel)⟩
abbrev kX11_force : MI := (yX11_force, cX11_force, 3, (some FieldType.int))
set_option maxRecDepth 20000 in
theorem mkX11_force : MkV kX11_force 1 := ⟨mT4 141 rfl rfl, mT4 142 rfl rfl, mT1 1 rfl rfl, mT4 143 rfl rfl, (by decide +kernel)⟩
abbrev kX11_pull : MI := (yX11_pull, cX11_pull, 4, (some FieldType.int))
set_option maxRecDepth 20000 in
theorem mkX11_pull : MkV kX11_pull 3 := ⟨mT4 146 rfl rfl, mT4 147 rfl rfl, mT1 1 rfl rfl, mT4 148 rfl rfl, (by decide +kernel)⟩
abbrev kX11_settle : MI := (yX11_settle, cX11_settle, 2, (some FieldType.int))
set_option maxRecDepth 20000 in
theorem mkX11_settle : MkV kX11_settle 1 := ⟨mT4 152 rfl rfl, mT0 21 rfl rfl, mT1 1 rfl rfl, mT4 153 rfl rfl, (by decide +kernel)⟩
abbrev kX11_snap : MI := (yX11_snap, cX11_snap, 3, (some FieldType.int))
set_option maxRecDepth 20000 in
theorem mkX11_snap : MkV kX11_snap 2 := ⟨mT4 155 rfl rfl, mT4 156 rfl rfl, mT1 1 rfl rfl, mT4 157 rfl rfl, (by decide +kernel)⟩
abbrev kX11_wed : MI := (yX11_wed, cX11_wed, 3, (some FieldType.int))
set_option maxRecDepth 20000 in
theorem mkX11_wed : MkV kX11_wed 2 := ⟨mT4 160 rfl rfl, mT4 161 rfl rfl, mT1 1 rfl rfl, mT4 162 rfl rfl, (by decide +kernel)⟩
abbrev kX11_pass : MI := (yX11_pass, cX11_pass, 1, (some FieldType.int))
set_option maxRecDepth 20000 in
theorem mkX11_pass : MkV kX11_pass 0 := ⟨mT4 165 rfl rfl, mT4 166 rfl rfl, mT1 1 rfl rfl, mT4 167 rfl rfl, (by decide +kernel)⟩
abbrev kX11_undo : MI := (yX11_undo, cX11_undo, 2, (some FieldType.int))
set_option maxRecDepth 20000 in
theorem mkX11_undo : MkV kX11_undo 0 := ⟨mT4 170 rfl rfl, mT4 171 rfl rfl, mT1 1 rfl rfl, mT4 172 rfl rfl, (by decide +kernel)⟩
abbrev kX2_takeBack : MI := (yX2_takeBack, cX2_takeBack, 3, (some FieldType.int))
set_option maxRecDepth 20000 in
theorem mkX2_takeBack : MkV kX2_takeBack 1 := ⟨mT4 174 rfl rfl, mT4 175 rfl rfl, mT1 14 rfl rfl, mT4 176 rfl rfl, (by decide +kernel)⟩
abbrev kX11_hear : MI := (yX11_hear, cX11_hear, 4, (some FieldType.int))
set_option maxRecDepth 20000 in
theorem mkX11_hear : MkV kX11_hear 3 := ⟨mT4 178 rfl rfl, mT4 179 rfl rfl, mT1 1 rfl rfl, mT4 180 rfl rfl, (by decide +kernel)⟩
abbrev kX11_forget : MI := (yX11_forget, cX11_forget, 2, (some FieldType.int))
set_option maxRecDepth 20000 in
theorem mkX11_forget : MkV kX11_forget 0 := ⟨mT4 182 rfl rfl, mT4 183 rfl rfl, mT1 1 rfl rfl, mT4 184 rfl rfl, (by decide +kernel)⟩
abbrev kX11_which : MI := (yX11_which, cX11_which, 1, (some FieldType.int))
set_option maxRecDepth 20000 in
theorem mkX11_which : MkV kX11_which 0 := ⟨mT4 186 rfl rfl, mT4 187 rfl rfl, mT1 1 rfl rfl, mT4 188 rfl rfl, (by decide +kernel)⟩
abbrev kX10_boxesHeard : MI := (yX10_boxesHeard, cX10_boxesHeard, 5, (some FieldType.int))
set_option maxRecDepth 20000 in
theorem mkX10_boxesHeard : MkV kX10_boxesHeard 0 := ⟨mT4 190 rfl rfl, mT4 191 rfl rfl, mT1 9 rfl rfl, mT4 192 rfl rfl, (by decide +kernel)⟩
abbrev kX9_boxesWith : MI := (yX9_boxesWith, cX9_boxesWith, 5, (some FieldType.int))
set_option maxRecDepth 20000 in
theorem mkX9_boxesWith : MkV kX9_boxesWith 2 := ⟨mT4 194 rfl rfl, mT4 195 rfl rfl, mT1 10 rfl rfl, mT4 196 rfl rfl, (by decide +kernel)⟩
abbrev kX11_listen : MI := (yX11_listen, cX11_listen, 10, (some FieldType.int))
set_option maxRecDepth 20000 in
theorem mkX11_listen : MkV kX11_listen 1 := ⟨mT4 198 rfl rfl, mT4 199 rfl rfl, mT1 1 rfl rfl, mT4 200 rfl rfl, (by decide +kernel)⟩
abbrev kX11_steady : MI := (yX11_steady, cX11_steady, 2, (some FieldType.int))
set_option maxRecDepth 20000 in
theorem mkX11_steady : MkV kX11_steady 1 := ⟨mT4 205 rfl rfl, mT4 206 rfl rfl, mT1 1 rfl rfl, mT4 207 rfl rfl, (by decide +kernel)⟩
abbrev kX4_gather : MI := (yX4_gather, cX4_gather, 8, none)
set_option maxRecDepth 20000 in
theorem mkX4_gather : MkV kX4_gather 2 := ⟨mT4 209 rfl rfl, mT4 210 rfl rfl, mT1 2 rfl rfl, mT4 211 rfl rfl, (by decide +kernel)⟩
abbrev kJ9_abs_0f7a4 : MI := (yJ9_abs_0f7a4, cJ9_abs_0f7a4, 1, (some FieldType.int))
set_option maxRecDepth 20000 in
theorem mkJ9_abs_0f7a4 : MkS kJ9_abs_0f7a4 1 := ⟨mT4 218 rfl rfl, mT1 7 rfl rfl, mT4 219 rfl rfl, (by decide +kernel)⟩
abbrev kX4_askAll : MI := (yX4_askAll, cX4_askAll, 7, none)
set_option maxRecDepth 20000 in
theorem mkX4_askAll : MkV kX4_askAll 1 := ⟨mT4 222 rfl rfl, mT4 223 rfl rfl, mT1 2 rfl rfl, mT4 224 rfl rfl, (by decide +kernel)⟩
abbrev kX4_nextToAsk : MI := (yX4_nextToAsk, cX4_nextToAsk, 6, (some FieldType.int))
set_option maxRecDepth 20000 in
theorem mkX4_nextToAsk : MkV kX4_nextToAsk 1 := ⟨mT4 227 rfl rfl, mT0 22 rfl rfl, mT1 2 rfl rfl, mT4 228 rfl rfl, (by decide +kernel)⟩
abbrev kX4_suitorThatKeeps : MI := (yX4_suitorThatKeeps, cX4_suitorThatKeeps, 3, (some FieldType.int))
set_option maxRecDepth 20000 in
theorem mkX4_suitorThatKeeps : MkV kX4_suitorThatKeeps 1 := ⟨mT4 230 rfl rfl, mT4 231 rfl rfl, mT1 2 rfl rfl, mT4 232 rfl rfl, (by decide +kernel)⟩
abbrev kX4_isLiked : MI := (yX4_isLiked, cX4_isLiked, 6, (some FieldType.boolean))
set_option maxRecDepth 20000 in
theorem mkX4_isLiked : MkV kX4_isLiked 3 := ⟨mT4 235 rfl rfl, mT0 23 rfl rfl, mT1 2 rfl rfl, mT4 236 rfl rfl, (by decide +kernel)⟩
abbrev kX11_about : MI := (yX11_about, cX11_about, 3, (some FieldType.int))
set_option maxRecDepth 20000 in
theorem mkX11_about : MkV kX11_about 2 := ⟨mT4 239 rfl rfl, mT5 0 rfl rfl, mT1 1 rfl rfl, mT5 1 rfl rfl, (by decide +kernel)⟩
abbrev kX4_matchAbout : MI := (yX4_matchAbout, cX4_matchAbout, 7, none)
set_option maxRecDepth 20000 in
theorem mkX4_matchAbout : MkV kX4_matchAbout 2 := ⟨mT5 3 rfl rfl, mT5 4 rfl rfl, mT1 2 rfl rfl, mT5 5 rfl rfl, (by decide +kernel)⟩
abbrev kX4_worthWith : MI := (yX4_worthWith, cX4_worthWith, 6, (some FieldType.int))
set_option maxRecDepth 20000 in
theorem mkX4_worthWith : MkV kX4_worthWith 4 := ⟨mT5 8 rfl rfl, mT0 24 rfl rfl, mT1 2 rfl rfl, mT5 9 rfl rfl, (by decide +kernel)⟩
abbrev kX4_writeRow : MI := (yX4_writeRow, cX4_writeRow, 6, none)
set_option maxRecDepth 20000 in
theorem mkX4_writeRow : MkV kX4_writeRow 2 := ⟨mT5 13 rfl rfl, mT0 25 rfl rfl, mT1 2 rfl rfl, mT5 14 rfl rfl, (by decide +kernel)⟩
abbrev kX4_matched : MI := (yX4_matched, cX4_matched, 1, (some FieldType.int))
set_option maxRecDepth 20000 in
theorem mkX4_matched : MkV kX4_matched 0 := ⟨mT5 16 rfl rfl, mT5 17 rfl rfl, mT1 2 rfl rfl, mT5 18 rfl rfl, (by decide +kernel)⟩
abbrev kX4_differences : MI := (yX4_differences, cX4_differences, 1, (some FieldType.int))
set_option maxRecDepth 20000 in
theorem mkX4_differences : MkV kX4_differences 0 := ⟨mT5 20 rfl rfl, mT5 21 rfl rfl, mT1 2 rfl rfl, mT5 22 rfl rfl, (by decide +kernel)⟩
abbrev kX11_keep : MI := (yX11_keep, cX11_keep, 5, (some FieldType.int))
set_option maxRecDepth 20000 in
theorem mkX11_keep : MkV kX11_keep 3 := ⟨mT5 25 rfl rfl, mT5 26 rfl rfl, mT1 1 rfl rfl, mT5 27 rfl rfl, (by decide +kernel)⟩
abbrev kX8_keepRule : MI := (yX8_keepRule, cX8_keepRule, 8, (some FieldType.int))
set_option maxRecDepth 20000 in
theorem mkX8_keepRule : MkV kX8_keepRule 3 := ⟨mT5 29 rfl rfl, mT5 30 rfl rfl, mT1 3 rfl rfl, mT5 31 rfl rfl, (by decide +kernel)⟩
abbrev kX8_weighSets : MI := (yX8_weighSets, cX8_weighSets, 6, none)
set_option maxRecDepth 20000 in
theorem mkX8_weighSets : MkV kX8_weighSets 3 := ⟨mT5 37 rfl rfl, mT0 26 rfl rfl, mT1 3 rfl rfl, mT5 38 rfl rfl, (by decide +kernel)⟩
abbrev kX8_widen : MI := (yX8_widen, cX8_widen, 5, none)
set_option maxRecDepth 20000 in
theorem mkX8_widen : MkV kX8_widen 1 := ⟨mT5 42 rfl rfl, mT0 27 rfl rfl, mT1 3 rfl rfl, mT5 43 rfl rfl, (by decide +kernel)⟩
abbrev kX8_cheapest : MI := (yX8_cheapest, cX8_cheapest, 7, (some FieldType.int))
set_option maxRecDepth 20000 in
theorem mkX8_cheapest : MkV kX8_cheapest 2 := ⟨mT5 47 rfl rfl, mT0 28 rfl rfl, mT1 3 rfl rfl, mT5 48 rfl rfl, (by decide +kernel)⟩
abbrev kX11_clash : MI := (yX11_clash, cX11_clash, 4, (some FieldType.int))
set_option maxRecDepth 20000 in
theorem mkX11_clash : MkV kX11_clash 3 := ⟨mT5 50 rfl rfl, mT5 51 rfl rfl, mT1 1 rfl rfl, mT5 52 rfl rfl, (by decide +kernel)⟩
abbrev kX11_areTwo : MI := (yX11_areTwo, cX11_areTwo, 3, (some FieldType.boolean))
set_option maxRecDepth 20000 in
theorem mkX11_areTwo : MkV kX11_areTwo 2 := ⟨mT5 55 rfl rfl, mT0 29 rfl rfl, mT1 1 rfl rfl, mT5 56 rfl rfl, (by decide +kernel)⟩
abbrev kX8_clashes : MI := (yX8_clashes, cX8_clashes, 9, (some FieldType.int))
set_option maxRecDepth 20000 in
theorem mkX8_clashes : MkV kX8_clashes 4 := ⟨mT5 58 rfl rfl, mT5 59 rfl rfl, mT1 3 rfl rfl, mT5 60 rfl rfl, (by decide +kernel)⟩
abbrev kX11_best : MI := (yX11_best, cX11_best, 8, (some FieldType.int))
set_option maxRecDepth 20000 in
theorem mkX11_best : MkV kX11_best 3 := ⟨mT5 63 rfl rfl, mT5 64 rfl rfl, mT1 1 rfl rfl, mT5 65 rfl rfl, (by decide +kernel)⟩
abbrev kX11_filed : MI := (yX11_filed, cX11_filed, 5, (some FieldType.int))
set_option maxRecDepth 20000 in
theorem mkX11_filed : MkV kX11_filed 4 := ⟨mT5 67 rfl rfl, mT5 68 rfl rfl, mT1 1 rfl rfl, mT5 69 rfl rfl, (by decide +kernel)⟩
abbrev kX8_file : MI := (yX8_file, cX8_file, 8, none)
set_option maxRecDepth 20000 in
theorem mkX8_file : MkV kX8_file 4 := ⟨mT5 71 rfl rfl, mT5 72 rfl rfl, mT1 3 rfl rfl, mT5 73 rfl rfl, (by decide +kernel)⟩
abbrev kX8_gatherClashes : MI := (yX8_gatherClashes, cX8_gatherClashes, 10, none)
set_option maxRecDepth 20000 in
theorem mkX8_gatherClashes : MkV kX8_gatherClashes 4 := ⟨mT5 76 rfl rfl, mT0 30 rfl rfl, mT1 3 rfl rfl, mT5 77 rfl rfl, (by decide +kernel)⟩
abbrev kX11_again : MI := (yX11_again, cX11_again, 6, (some FieldType.int))
set_option maxRecDepth 20000 in
theorem mkX11_again : MkV kX11_again 2 := ⟨mT5 79 rfl rfl, mT5 80 rfl rfl, mT1 1 rfl rfl, mT5 81 rfl rfl, (by decide +kernel)⟩
abbrev kX11_shares : MI := (yX11_shares, cX11_shares, 9, (some FieldType.int))
set_option maxRecDepth 20000 in
theorem mkX11_shares : MkV kX11_shares 2 := ⟨mT5 84 rfl rfl, mT5 85 rfl rfl, mT1 1 rfl rfl, mT5 86 rfl rfl, (by decide +kernel)⟩
abbrev kX11_gatherLasting : MI := (yX11_gatherLasting, cX11_gatherLasting, 2, none)
set_option maxRecDepth 20000 in
theorem mkX11_gatherLasting : MkV kX11_gatherLasting 0 := ⟨mT5 89 rfl rfl, mT0 31 rfl rfl, mT1 1 rfl rfl, mT5 90 rfl rfl, (by decide +kernel)⟩
abbrev kX11_writeShareRow : MI := (yX11_writeShareRow, cX11_writeShareRow, 5, none)
set_option maxRecDepth 20000 in
theorem mkX11_writeShareRow : MkV kX11_writeShareRow 2 := ⟨mT5 93 rfl rfl, mT0 32 rfl rfl, mT1 1 rfl rfl, mT5 94 rfl rfl, (by decide +kernel)⟩
abbrev kX11_leastShare : MI := (yX11_leastShare, cX11_leastShare, 6, (some FieldType.int))
set_option maxRecDepth 20000 in
theorem mkX11_leastShare : MkV kX11_leastShare 1 := ⟨mT5 97 rfl rfl, mT0 33 rfl rfl, mT1 1 rfl rfl, mT5 98 rfl rfl, (by decide +kernel)⟩
abbrev kX11_ends : MI := (yX11_ends, cX11_ends, 4, (some FieldType.int))
set_option maxRecDepth 20000 in
theorem mkX11_ends : MkV kX11_ends 1 := ⟨mT5 101 rfl rfl, mT5 102 rfl rfl, mT1 1 rfl rfl, mT5 103 rfl rfl, (by decide +kernel)⟩
abbrev kX11_stands : MI := (yX11_stands, cX11_stands, 9, (some FieldType.long))
set_option maxRecDepth 20000 in
theorem mkX11_stands : MkV kX11_stands 2 := ⟨mT5 105 rfl rfl, mT5 106 rfl rfl, mT1 1 rfl rfl, mT5 107 rfl rfl, (by decide +kernel)⟩
abbrev kJ7_fill_d0a16 : MI := (yJ7_fill_d0a16, cJ7_fill_d0a16, 5, none)
set_option maxRecDepth 20000 in
theorem mkJ7_fill_d0a16 : MkS kJ7_fill_d0a16 2 := ⟨mT5 110 rfl rfl, mT1 6 rfl rfl, mT5 111 rfl rfl, (by decide +kernel)⟩
abbrev kX11_compare : MI := (yX11_compare, cX11_compare, 4, (some FieldType.int))
set_option maxRecDepth 20000 in
theorem mkX11_compare : MkV kX11_compare 1 := ⟨mT5 115 rfl rfl, mT5 116 rfl rfl, mT1 1 rfl rfl, mT5 117 rfl rfl, (by decide +kernel)⟩
abbrev kX11_generations : MI := (yX11_generations, cX11_generations, 3, (some FieldType.int))
set_option maxRecDepth 20000 in
theorem mkX11_generations : MkV kX11_generations 2 := ⟨mT5 120 rfl rfl, mT5 121 rfl rfl, mT1 1 rfl rfl, mT5 122 rfl rfl, (by decide +kernel)⟩
abbrev kX1_live : MI := (yX1_live, cX1_live, 9, (some FieldType.int))
set_option maxRecDepth 20000 in
theorem mkX1_live : MkV kX1_live 3 := ⟨mT5 125 rfl rfl, mT5 126 rfl rfl, mT1 15 rfl rfl, mT5 127 rfl rfl, (by decide +kernel)⟩
abbrev kX1_draw : MI := (yX1_draw, cX1_draw, 2, (some FieldType.int))
set_option maxRecDepth 20000 in
theorem mkX1_draw : MkV kX1_draw 1 := ⟨mT5 131 rfl rfl, mT0 34 rfl rfl, mT1 15 rfl rfl, mT5 132 rfl rfl, (by decide +kernel)⟩
abbrev kX1_touch : MI := (yX1_touch, cX1_touch, 5, none)
set_option maxRecDepth 20000 in
theorem mkX1_touch : MkV kX1_touch 4 := ⟨mT5 138 rfl rfl, mT0 35 rfl rfl, mT1 15 rfl rfl, mT5 139 rfl rfl, (by decide +kernel)⟩
abbrev kX11_drawn : MI := (yX11_drawn, cX11_drawn, 3, (some FieldType.int))
set_option maxRecDepth 20000 in
theorem mkX11_drawn : MkV kX11_drawn 2 := ⟨mT5 144 rfl rfl, mT5 145 rfl rfl, mT1 1 rfl rfl, mT5 146 rfl rfl, (by decide +kernel)⟩
abbrev kX11_image : MI := (yX11_image, cX11_image, 2, (some FieldType.int))
set_option maxRecDepth 20000 in
theorem mkX11_image : MkV kX11_image 1 := ⟨mT5 148 rfl rfl, mT5 149 rfl rfl, mT1 1 rfl rfl, mT5 150 rfl rfl, (by decide +kernel)⟩
abbrev kX10_copyFrom : MI := (yX10_copyFrom, cX10_copyFrom, 3, none)
set_option maxRecDepth 20000 in
theorem mkX10_copyFrom : MkV kX10_copyFrom 1 := ⟨mT5 152 rfl rfl, mT5 153 rfl rfl, mT1 9 rfl rfl, mT5 154 rfl rfl, (by decide +kernel)⟩
abbrev kX11_back : MI := (yX11_back, cX11_back, 2, (some FieldType.int))
set_option maxRecDepth 20000 in
theorem mkX11_back : MkV kX11_back 1 := ⟨mT5 158 rfl rfl, mT5 159 rfl rfl, mT1 1 rfl rfl, mT5 160 rfl rfl, (by decide +kernel)⟩
abbrev kX11_count : MI := (yX11_count, cX11_count, 2, (some FieldType.int))
set_option maxRecDepth 20000 in
theorem mkX11_count : MkV kX11_count 1 := ⟨mT5 162 rfl rfl, mT5 163 rfl rfl, mT1 1 rfl rfl, mT5 164 rfl rfl, (by decide +kernel)⟩
abbrev kX11_status : MI := (yX11_status, cX11_status, 1, (some FieldType.int))
set_option maxRecDepth 20000 in
theorem mkX11_status : MkV kX11_status 0 := ⟨mT5 167 rfl rfl, mT5 168 rfl rfl, mT1 1 rfl rfl, mT5 169 rfl rfl, (by decide +kernel)⟩
abbrev kX12_init : MI := (yX12_init, cX12_init, 1, none)
set_option maxRecDepth 20000 in
theorem mkX12_init : MkI kX12_init 0 := ⟨mT5 173 rfl rfl, mT1 16 rfl rfl, mT5 174 rfl rfl, rfl, rfl, (by decide +kernel)⟩
abbrev kX12_undo : MI := (yX12_undo, cX12_undo, 1, (some FieldType.int))
set_option maxRecDepth 20000 in
theorem mkX12_undo : MkV kX12_undo 0 := ⟨mT6 148 rfl rfl, mT6 149 rfl rfl, mT1 16 rfl rfl, mT6 150 rfl rfl, (by decide +kernel)⟩
abbrev kX12_tell : MI := (yX12_tell, cX12_tell, 2, (some FieldType.int))
set_option maxRecDepth 20000 in
theorem mkX12_tell : MkV kX12_tell 1 := ⟨mT6 153 rfl rfl, mT0 36 rfl rfl, mT1 16 rfl rfl, mT6 154 rfl rfl, (by decide +kernel)⟩
abbrev kX12_putBack : MI := (yX12_putBack, cX12_putBack, 3, none)
set_option maxRecDepth 20000 in
theorem mkX12_putBack : MkV kX12_putBack 1 := ⟨mT6 157 rfl rfl, mT0 37 rfl rfl, mT1 16 rfl rfl, mT6 158 rfl rfl, (by decide +kernel)⟩
abbrev kX12_image : MI := (yX12_image, cX12_image, 3, (some FieldType.int))
set_option maxRecDepth 20000 in
theorem mkX12_image : MkV kX12_image 1 := ⟨mT6 160 rfl rfl, mT6 161 rfl rfl, mT1 16 rfl rfl, mT6 162 rfl rfl, (by decide +kernel)⟩
abbrev kX12_in : MI := (yX12_in, cX12_in, 6, (some FieldType.boolean))
set_option maxRecDepth 20000 in
theorem mkX12_in : MkS kX12_in 3 := ⟨mT6 164 rfl rfl, mT1 16 rfl rfl, mT6 165 rfl rfl, (by decide +kernel)⟩
abbrev kX12_back : MI := (yX12_back, cX12_back, 3, (some FieldType.int))
set_option maxRecDepth 20000 in
theorem mkX12_back : MkV kX12_back 1 := ⟨mT6 167 rfl rfl, mT6 168 rfl rfl, mT1 16 rfl rfl, mT6 169 rfl rfl, (by decide +kernel)⟩
abbrev kX12_settled : MI := (yX12_settled, cX12_settled, 2, (some FieldType.int))
set_option maxRecDepth 20000 in
theorem mkX12_settled : MkV kX12_settled 1 := ⟨mT6 172 rfl rfl, mT0 38 rfl rfl, mT1 16 rfl rfl, mT6 173 rfl rfl, (by decide +kernel)⟩
abbrev kX12_box : MI := (yX12_box, cX12_box, 4, (some FieldType.int))
set_option maxRecDepth 20000 in
theorem mkX12_box : MkV kX12_box 1 := ⟨mT6 175 rfl rfl, mT6 176 rfl rfl, mT1 16 rfl rfl, mT6 177 rfl rfl, (by decide +kernel)⟩
abbrev kX12_of : MI := (yX12_of, cX12_of, 3, (some FieldType.int))
set_option maxRecDepth 20000 in
theorem mkX12_of : MkV kX12_of 2 := ⟨mT6 180 rfl rfl, mT6 181 rfl rfl, mT1 16 rfl rfl, mT6 182 rfl rfl, (by decide +kernel)⟩
abbrev kX12_isBox : MI := (yX12_isBox, cX12_isBox, 2, (some FieldType.boolean))
set_option maxRecDepth 20000 in
theorem mkX12_isBox : MkV kX12_isBox 1 := ⟨mT6 185 rfl rfl, mT0 39 rfl rfl, mT1 16 rfl rfl, mT6 186 rfl rfl, (by decide +kernel)⟩
abbrev kX12_notesOf : MI := (yX12_notesOf, cX12_notesOf, 4, (some FieldType.int))
set_option maxRecDepth 20000 in
theorem mkX12_notesOf : MkV kX12_notesOf 1 := ⟨mT6 190 rfl rfl, mT0 40 rfl rfl, mT1 16 rfl rfl, mT6 191 rfl rfl, (by decide +kernel)⟩
abbrev kX12_notesAt : MI := (yX12_notesAt, cX12_notesAt, 3, (some FieldType.int))
set_option maxRecDepth 20000 in
theorem mkX12_notesAt : MkV kX12_notesAt 2 := ⟨mT6 194 rfl rfl, mT0 41 rfl rfl, mT1 16 rfl rfl, mT6 195 rfl rfl, (by decide +kernel)⟩
abbrev kX12_ones : MI := (yX12_ones, cX12_ones, 3, (some FieldType.int))
set_option maxRecDepth 20000 in
theorem mkX12_ones : MkS kX12_ones 1 := ⟨mT6 197 rfl rfl, mT1 16 rfl rfl, mT6 198 rfl rfl, (by decide +kernel)⟩
abbrev kX12_lastsOf : MI := (yX12_lastsOf, cX12_lastsOf, 2, (some FieldType.int))
set_option maxRecDepth 20000 in
theorem mkX12_lastsOf : MkV kX12_lastsOf 1 := ⟨mT6 201 rfl rfl, mT0 42 rfl rfl, mT1 16 rfl rfl, mT6 202 rfl rfl, (by decide +kernel)⟩
abbrev kX12_tells : MI := (yX12_tells, cX12_tells, 10, (some FieldType.long))
set_option maxRecDepth 20000 in
theorem mkX12_tells : MkV kX12_tells 4 := ⟨mT6 205 rfl rfl, mT0 43 rfl rfl, mT1 16 rfl rfl, mT6 206 rfl rfl, (by decide +kernel)⟩
abbrev kX12_earOf : MI := (yX12_earOf, cX12_earOf, 5, (some FieldType.int))
set_option maxRecDepth 20000 in
theorem mkX12_earOf : MkV kX12_earOf 2 := ⟨mT6 210 rfl rfl, mT0 44 rfl rfl, mT1 16 rfl rfl, mT6 211 rfl rfl, (by decide +kernel)⟩
abbrev kX12_isSo : MI := (yX12_isSo, cX12_isSo, 2, (some FieldType.boolean))
set_option maxRecDepth 20000 in
theorem mkX12_isSo : MkV kX12_isSo 1 := ⟨mT6 214 rfl rfl, mT0 45 rfl rfl, mT1 16 rfl rfl, mT6 215 rfl rfl, (by decide +kernel)⟩
abbrev kX12_reckonAll : MI := (yX12_reckonAll, cX12_reckonAll, 7, none)
set_option maxRecDepth 20000 in
theorem mkX12_reckonAll : MkV kX12_reckonAll 2 := ⟨mT6 218 rfl rfl, mT0 46 rfl rfl, mT1 16 rfl rfl, mT6 219 rfl rfl, (by decide +kernel)⟩
abbrev kX12_reckon : MI := (yX12_reckon, cX12_reckon, 6, (some FieldType.long))
set_option maxRecDepth 20000 in
theorem mkX12_reckon : MkV kX12_reckon 3 := ⟨mT6 222 rfl rfl, mT0 47 rfl rfl, mT1 16 rfl rfl, mT6 223 rfl rfl, (by decide +kernel)⟩
abbrev kX12_within : MI := (yX12_within, cX12_within, 4, (some FieldType.int))
set_option maxRecDepth 20000 in
theorem mkX12_within : MkS kX12_within 3 := ⟨mT6 227 rfl rfl, mT1 16 rfl rfl, mT6 228 rfl rfl, (by decide +kernel)⟩
abbrev kX12_losesOf : MI := (yX12_losesOf, cX12_losesOf, 2, (some FieldType.int))
set_option maxRecDepth 20000 in
theorem mkX12_losesOf : MkV kX12_losesOf 1 := ⟨mT6 231 rfl rfl, mT0 48 rfl rfl, mT1 16 rfl rfl, mT6 232 rfl rfl, (by decide +kernel)⟩
abbrev kX12_pins : MI := (yX12_pins, cX12_pins, 4, (some FieldType.int))
set_option maxRecDepth 20000 in
theorem mkX12_pins : MkV kX12_pins 3 := ⟨mT6 234 rfl rfl, mT6 235 rfl rfl, mT1 16 rfl rfl, mT6 236 rfl rfl, (by decide +kernel)⟩
abbrev kX12_isBar : MI := (yX12_isBar, cX12_isBar, 1, (some FieldType.boolean))
set_option maxRecDepth 20000 in
theorem mkX12_isBar : MkS kX12_isBar 1 := ⟨mT6 238 rfl rfl, mT1 16 rfl rfl, mT6 239 rfl rfl, (by decide +kernel)⟩
abbrev kX12_change : MI := (yX12_change, cX12_change, 4, (some FieldType.int))
set_option maxRecDepth 20000 in
theorem mkX12_change : MkV kX12_change 2 := ⟨mT7 4 rfl rfl, mT0 49 rfl rfl, mT1 16 rfl rfl, mT7 5 rfl rfl, (by decide +kernel)⟩
abbrev kX12_suitor : MI := (yX12_suitor, cX12_suitor, 4, (some FieldType.int))
set_option maxRecDepth 20000 in
theorem mkX12_suitor : MkV kX12_suitor 2 := ⟨mT7 7 rfl rfl, mT7 8 rfl rfl, mT1 16 rfl rfl, mT7 9 rfl rfl, (by decide +kernel)⟩
abbrev kX12_isTooth : MI := (yX12_isTooth, cX12_isTooth, 1, (some FieldType.boolean))
set_option maxRecDepth 20000 in
theorem mkX12_isTooth : MkS kX12_isTooth 1 := ⟨mT7 11 rfl rfl, mT1 16 rfl rfl, mT7 12 rfl rfl, (by decide +kernel)⟩
abbrev kX12_at : MI := (yX12_at, cX12_at, 3, (some FieldType.int))
set_option maxRecDepth 20000 in
theorem mkX12_at : MkV kX12_at 2 := ⟨mT7 15 rfl rfl, mT7 16 rfl rfl, mT1 16 rfl rfl, mT7 17 rfl rfl, (by decide +kernel)⟩
abbrev kX12_isSuitor : MI := (yX12_isSuitor, cX12_isSuitor, 2, (some FieldType.boolean))
set_option maxRecDepth 20000 in
theorem mkX12_isSuitor : MkV kX12_isSuitor 1 := ⟨mT7 20 rfl rfl, mT0 50 rfl rfl, mT1 16 rfl rfl, mT7 21 rfl rfl, (by decide +kernel)⟩
abbrev kX12_boxOf : MI := (yX12_boxOf, cX12_boxOf, 4, (some FieldType.int))
set_option maxRecDepth 20000 in
theorem mkX12_boxOf : MkV kX12_boxOf 1 := ⟨mT7 24 rfl rfl, mT0 51 rfl rfl, mT1 16 rfl rfl, mT7 25 rfl rfl, (by decide +kernel)⟩
abbrev kX12_asks : MI := (yX12_asks, cX12_asks, 4, (some FieldType.int))
set_option maxRecDepth 20000 in
theorem mkX12_asks : MkV kX12_asks 3 := ⟨mT7 27 rfl rfl, mT7 28 rfl rfl, mT1 16 rfl rfl, mT7 29 rfl rfl, (by decide +kernel)⟩
abbrev kX12_likesOf : MI := (yX12_likesOf, cX12_likesOf, 3, (some FieldType.int))
set_option maxRecDepth 20000 in
theorem mkX12_likesOf : MkV kX12_likesOf 2 := ⟨mT7 32 rfl rfl, mT0 52 rfl rfl, mT1 16 rfl rfl, mT7 33 rfl rfl, (by decide +kernel)⟩
abbrev kX12_isBarred : MI := (yX12_isBarred, cX12_isBarred, 3, (some FieldType.boolean))
set_option maxRecDepth 20000 in
theorem mkX12_isBarred : MkV kX12_isBarred 2 := ⟨mT7 36 rfl rfl, mT0 53 rfl rfl, mT1 16 rfl rfl, mT7 37 rfl rfl, (by decide +kernel)⟩
abbrev kX12_terms : MI := (yX12_terms, cX12_terms, 4, (some FieldType.int))
set_option maxRecDepth 20000 in
theorem mkX12_terms : MkV kX12_terms 2 := ⟨mT7 39 rfl rfl, mT7 40 rfl rfl, mT1 16 rfl rfl, mT7 41 rfl rfl, (by decide +kernel)⟩
abbrev kX12_row : MI := (yX12_row, cX12_row, 4, (some FieldType.int))
set_option maxRecDepth 20000 in
theorem mkX12_row : MkV kX12_row 0 := ⟨mT7 46 rfl rfl, mT7 47 rfl rfl, mT1 16 rfl rfl, mT7 48 rfl rfl, (by decide +kernel)⟩
abbrev kX12_rust : MI := (yX12_rust, cX12_rust, 1, (some FieldType.int))
set_option maxRecDepth 20000 in
theorem mkX12_rust : MkV kX12_rust 0 := ⟨mT7 50 rfl rfl, mT7 51 rfl rfl, mT1 16 rfl rfl, mT7 52 rfl rfl, (by decide +kernel)⟩
abbrev kX12_feed : MI := (yX12_feed, cX12_feed, 6, (some FieldType.int))
set_option maxRecDepth 20000 in
theorem mkX12_feed : MkV kX12_feed 5 := ⟨mT7 54 rfl rfl, mT7 55 rfl rfl, mT1 16 rfl rfl, mT7 56 rfl rfl, (by decide +kernel)⟩
abbrev kX12_four : MI := (yX12_four, cX12_four, 3, none)
set_option maxRecDepth 20000 in
theorem mkX12_four : MkV kX12_four 1 := ⟨mT7 59 rfl rfl, mT0 54 rfl rfl, mT1 16 rfl rfl, mT7 60 rfl rfl, (by decide +kernel)⟩
abbrev kX12_end : MI := (yX12_end, cX12_end, 2, (some FieldType.int))
set_option maxRecDepth 20000 in
theorem mkX12_end : MkV kX12_end 1 := ⟨mT7 62 rfl rfl, mT7 63 rfl rfl, mT1 16 rfl rfl, mT7 64 rfl rfl, (by decide +kernel)⟩
abbrev kX12_fault : MI := (yX12_fault, cX12_fault, 1, (some FieldType.int))
set_option maxRecDepth 20000 in
theorem mkX12_fault : MkV kX12_fault 0 := ⟨mT7 66 rfl rfl, mT7 67 rfl rfl, mT1 16 rfl rfl, mT7 68 rfl rfl, (by decide +kernel)⟩
abbrev kX12_law : MI := (yX12_law, cX12_law, 3, (some FieldType.int))
set_option maxRecDepth 20000 in
theorem mkX12_law : MkV kX12_law 0 := ⟨mT7 70 rfl rfl, mT7 71 rfl rfl, mT1 16 rfl rfl, mT7 72 rfl rfl, (by decide +kernel)⟩
abbrev kX12_beginText : MI := (yX12_beginText, cX12_beginText, 2, none)
set_option maxRecDepth 20000 in
theorem mkX12_beginText : MkV kX12_beginText 1 := ⟨mT7 75 rfl rfl, mT0 55 rfl rfl, mT1 16 rfl rfl, mT7 76 rfl rfl, (by decide +kernel)⟩
abbrev kX12_begin : MI := (yX12_begin, cX12_begin, 1, none)
set_option maxRecDepth 20000 in
theorem mkX12_begin : MkV kX12_begin 0 := ⟨mT7 79 rfl rfl, mT0 56 rfl rfl, mT1 16 rfl rfl, mT7 80 rfl rfl, (by decide +kernel)⟩
abbrev kX12_next : MI := (yX12_next, cX12_next, 1, none)
set_option maxRecDepth 20000 in
theorem mkX12_next : MkV kX12_next 0 := ⟨mT7 83 rfl rfl, mT0 57 rfl rfl, mT1 16 rfl rfl, mT7 84 rfl rfl, (by decide +kernel)⟩
abbrev kX12_isSmall : MI := (yX12_isSmall, cX12_isSmall, 1, (some FieldType.boolean))
set_option maxRecDepth 20000 in
theorem mkX12_isSmall : MkS kX12_isSmall 1 := ⟨mT7 86 rfl rfl, mT1 16 rfl rfl, mT7 87 rfl rfl, (by decide +kernel)⟩
abbrev kX12_isDigit : MI := (yX12_isDigit, cX12_isDigit, 1, (some FieldType.boolean))
set_option maxRecDepth 20000 in
theorem mkX12_isDigit : MkS kX12_isDigit 1 := ⟨mT7 89 rfl rfl, mT1 16 rfl rfl, mT7 90 rfl rfl, (by decide +kernel)⟩
abbrev kX12_readLaw : MI := (yX12_readLaw, cX12_readLaw, 4, none)
set_option maxRecDepth 20000 in
theorem mkX12_readLaw : MkV kX12_readLaw 0 := ⟨mT7 97 rfl rfl, mT0 58 rfl rfl, mT1 16 rfl rfl, mT7 98 rfl rfl, (by decide +kernel)⟩
abbrev kX12_isWord : MI := (yX12_isWord, cX12_isWord, 3, (some FieldType.boolean))
set_option maxRecDepth 20000 in
theorem mkX12_isWord : MkV kX12_isWord 1 := ⟨mT7 101 rfl rfl, mT0 59 rfl rfl, mT1 16 rfl rfl, mT7 102 rfl rfl, (by decide +kernel)⟩
abbrev kX12_must : MI := (yX12_must, cX12_must, 2, none)
set_option maxRecDepth 20000 in
theorem mkX12_must : MkV kX12_must 1 := ⟨mT7 105 rfl rfl, mT0 60 rfl rfl, mT1 16 rfl rfl, mT7 106 rfl rfl, (by decide +kernel)⟩
abbrev kX12_readExpression : MI := (yX12_readExpression, cX12_readExpression, 3, none)
set_option maxRecDepth 20000 in
theorem mkX12_readExpression : MkV kX12_readExpression 1 := ⟨mT7 109 rfl rfl, mT0 61 rfl rfl, mT1 16 rfl rfl, mT7 110 rfl rfl, (by decide +kernel)⟩
abbrev kX12_readPlain : MI := (yX12_readPlain, cX12_readPlain, 1, (some FieldType.int))
set_option maxRecDepth 20000 in
theorem mkX12_readPlain : MkV kX12_readPlain 0 := ⟨mT7 113 rfl rfl, mT0 62 rfl rfl, mT1 16 rfl rfl, mT7 114 rfl rfl, (by decide +kernel)⟩
abbrev kX12_push : MI := (yX12_push, cX12_push, 3, none)
set_option maxRecDepth 20000 in
theorem mkX12_push : MkV kX12_push 2 := ⟨mT7 118 rfl rfl, mT0 63 rfl rfl, mT1 16 rfl rfl, mT7 119 rfl rfl, (by decide +kernel)⟩
abbrev kX12_isSign : MI := (yX12_isSign, cX12_isSign, 2, (some FieldType.boolean))
set_option maxRecDepth 20000 in
theorem mkX12_isSign : MkV kX12_isSign 1 := ⟨mT7 122 rfl rfl, mT0 64 rfl rfl, mT1 16 rfl rfl, mT7 123 rfl rfl, (by decide +kernel)⟩
abbrev kX12_openBracket : MI := (yX12_openBracket, cX12_openBracket, 2, none)
set_option maxRecDepth 20000 in
theorem mkX12_openBracket : MkV kX12_openBracket 1 := ⟨mT7 126 rfl rfl, mT0 65 rfl rfl, mT1 16 rfl rfl, mT7 127 rfl rfl, (by decide +kernel)⟩
abbrev kX12_readPart : MI := (yX12_readPart, cX12_readPart, 4, (some FieldType.int))
set_option maxRecDepth 20000 in
theorem mkX12_readPart : MkV kX12_readPart 0 := ⟨mT7 130 rfl rfl, mT0 66 rfl rfl, mT1 16 rfl rfl, mT7 131 rfl rfl, (by decide +kernel)⟩
abbrev kX12_orderPartAt : MI := (yX12_orderPartAt, cX12_orderPartAt, 3, (some FieldType.int))
set_option maxRecDepth 20000 in
theorem mkX12_orderPartAt : MkV kX12_orderPartAt 0 := ⟨mT7 134 rfl rfl, mT0 67 rfl rfl, mT1 16 rfl rfl, mT7 135 rfl rfl, (by decide +kernel)⟩
abbrev kX12_partAt : MI := (yX12_partAt, cX12_partAt, 3, (some FieldType.int))
set_option maxRecDepth 20000 in
theorem mkX12_partAt : MkV kX12_partAt 0 := ⟨mT7 138 rfl rfl, mT0 68 rfl rfl, mT1 16 rfl rfl, mT7 139 rfl rfl, (by decide +kernel)⟩
abbrev kX12_leaf : MI := (yX12_leaf, cX12_leaf, 4, none)
set_option maxRecDepth 20000 in
theorem mkX12_leaf : MkV kX12_leaf 3 := ⟨mT7 143 rfl rfl, mT0 69 rfl rfl, mT1 16 rfl rfl, mT7 144 rfl rfl, (by decide +kernel)⟩
abbrev kX12_emit : MI := (yX12_emit, cX12_emit, 3, none)
set_option maxRecDepth 20000 in
theorem mkX12_emit : MkV kX12_emit 2 := ⟨mT7 147 rfl rfl, mT0 70 rfl rfl, mT1 16 rfl rfl, mT7 148 rfl rfl, (by decide +kernel)⟩
abbrev kX12_number : MI := (yX12_number, cX12_number, 6, (some FieldType.int))
set_option maxRecDepth 20000 in
theorem mkX12_number : MkV kX12_number 2 := ⟨mT7 152 rfl rfl, mT0 71 rfl rfl, mT1 16 rfl rfl, mT7 153 rfl rfl, (by decide +kernel)⟩
abbrev kX12_behindSum : MI := (yX12_behindSum, cX12_behindSum, 4, (some FieldType.int))
set_option maxRecDepth 20000 in
theorem mkX12_behindSum : MkV kX12_behindSum 1 := ⟨mT7 156 rfl rfl, mT0 72 rfl rfl, mT1 16 rfl rfl, mT7 157 rfl rfl, (by decide +kernel)⟩
abbrev kX12_binds : MI := (yX12_binds, cX12_binds, 1, (some FieldType.int))
set_option maxRecDepth 20000 in
theorem mkX12_binds : MkS kX12_binds 1 := ⟨mT7 159 rfl rfl, mT1 16 rfl rfl, mT7 160 rfl rfl, (by decide +kernel)⟩
abbrev kX12_settle : MI := (yX12_settle, cX12_settle, 2, none)
set_option maxRecDepth 20000 in
theorem mkX12_settle : MkV kX12_settle 1 := ⟨mT7 163 rfl rfl, mT0 73 rfl rfl, mT1 16 rfl rfl, mT7 164 rfl rfl, (by decide +kernel)⟩
abbrev kX12_inner : MI := (yX12_inner, cX12_inner, 3, (some FieldType.int))
set_option maxRecDepth 20000 in
theorem mkX12_inner : MkV kX12_inner 0 := ⟨mT7 167 rfl rfl, mT0 74 rfl rfl, mT1 16 rfl rfl, mT7 168 rfl rfl, (by decide +kernel)⟩
abbrev kX12_isCompared : MI := (yX12_isCompared, cX12_isCompared, 2, (some FieldType.boolean))
set_option maxRecDepth 20000 in
theorem mkX12_isCompared : MkV kX12_isCompared 0 := ⟨mT7 171 rfl rfl, mT0 75 rfl rfl, mT1 16 rfl rfl, mT7 172 rfl rfl, (by decide +kernel)⟩
abbrev kX12_behindTest : MI := (yX12_behindTest, cX12_behindTest, 2, (some FieldType.int))
set_option maxRecDepth 20000 in
theorem mkX12_behindTest : MkV kX12_behindTest 0 := ⟨mT7 178 rfl rfl, mT0 76 rfl rfl, mT1 16 rfl rfl, mT7 179 rfl rfl, (by decide +kernel)⟩
abbrev kX12_endText : MI := (yX12_endText, cX12_endText, 1, none)
set_option maxRecDepth 20000 in
theorem mkX12_endText : MkV kX12_endText 0 := ⟨mT7 185 rfl rfl, mT0 77 rfl rfl, mT1 16 rfl rfl, mT7 186 rfl rfl, (by decide +kernel)⟩
abbrev kX12_force : MI := (yX12_force, cX12_force, 2, (some FieldType.int))
set_option maxRecDepth 20000 in
theorem mkX12_force : MkV kX12_force 1 := ⟨mT7 188 rfl rfl, mT7 189 rfl rfl, mT1 16 rfl rfl, mT7 190 rfl rfl, (by decide +kernel)⟩
abbrev kX12_isLaw : MI := (yX12_isLaw, cX12_isLaw, 2, (some FieldType.boolean))
set_option maxRecDepth 20000 in
theorem mkX12_isLaw : MkV kX12_isLaw 1 := ⟨mT7 193 rfl rfl, mT0 78 rfl rfl, mT1 16 rfl rfl, mT7 194 rfl rfl, (by decide +kernel)⟩
abbrev kX12_pull : MI := (yX12_pull, cX12_pull, 4, (some FieldType.int))
set_option maxRecDepth 20000 in
theorem mkX12_pull : MkV kX12_pull 3 := ⟨mT7 196 rfl rfl, mT7 197 rfl rfl, mT1 16 rfl rfl, mT7 198 rfl rfl, (by decide +kernel)⟩
abbrev kX12_pullNow : MI := (yX12_pullNow, cX12_pullNow, 4, (some FieldType.int))
set_option maxRecDepth 20000 in
theorem mkX12_pullNow : MkV kX12_pullNow 3 := ⟨mT7 201 rfl rfl, mT0 79 rfl rfl, mT1 16 rfl rfl, mT7 202 rfl rfl, (by decide +kernel)⟩
abbrev kX12_canPull : MI := (yX12_canPull, cX12_canPull, 4, (some FieldType.boolean))
set_option maxRecDepth 20000 in
theorem mkX12_canPull : MkV kX12_canPull 3 := ⟨mT7 205 rfl rfl, mT0 80 rfl rfl, mT1 16 rfl rfl, mT7 206 rfl rfl, (by decide +kernel)⟩
abbrev kX12_is : MI := (yX12_is, cX12_is, 2, (some FieldType.boolean))
set_option maxRecDepth 20000 in
theorem mkX12_is : MkS kX12_is 2 := ⟨mT7 208 rfl rfl, mT1 16 rfl rfl, mT7 209 rfl rfl, (by decide +kernel)⟩
abbrev kX12_remember : MI := (yX12_remember, cX12_remember, 3, none)
set_option maxRecDepth 20000 in
theorem mkX12_remember : MkV kX12_remember 1 := ⟨mT7 212 rfl rfl, mT0 81 rfl rfl, mT1 16 rfl rfl, mT7 213 rfl rfl, (by decide +kernel)⟩
abbrev kX12_keepAll : MI := (yX12_keepAll, cX12_keepAll, 3, none)
set_option maxRecDepth 20000 in
theorem mkX12_keepAll : MkV kX12_keepAll 1 := ⟨mT7 216 rfl rfl, mT0 82 rfl rfl, mT1 16 rfl rfl, mT7 217 rfl rfl, (by decide +kernel)⟩
abbrev kX12_snap : MI := (yX12_snap, cX12_snap, 3, (some FieldType.int))
set_option maxRecDepth 20000 in
theorem mkX12_snap : MkV kX12_snap 2 := ⟨mT7 219 rfl rfl, mT7 220 rfl rfl, mT1 16 rfl rfl, mT7 221 rfl rfl, (by decide +kernel)⟩
abbrev kX12_snapNow : MI := (yX12_snapNow, cX12_snapNow, 3, (some FieldType.int))
set_option maxRecDepth 20000 in
theorem mkX12_snapNow : MkV kX12_snapNow 2 := ⟨mT7 224 rfl rfl, mT0 83 rfl rfl, mT1 16 rfl rfl, mT7 225 rfl rfl, (by decide +kernel)⟩
abbrev kX12_wed : MI := (yX12_wed, cX12_wed, 3, (some FieldType.int))
set_option maxRecDepth 20000 in
theorem mkX12_wed : MkV kX12_wed 2 := ⟨mT7 227 rfl rfl, mT7 228 rfl rfl, mT1 16 rfl rfl, mT7 229 rfl rfl, (by decide +kernel)⟩
abbrev kX12_wedNow : MI := (yX12_wedNow, cX12_wedNow, 4, (some FieldType.int))
set_option maxRecDepth 20000 in
theorem mkX12_wedNow : MkV kX12_wedNow 2 := ⟨mT7 232 rfl rfl, mT0 84 rfl rfl, mT1 16 rfl rfl, mT7 233 rfl rfl, (by decide +kernel)⟩
abbrev kX12_pass : MI := (yX12_pass, cX12_pass, 1, (some FieldType.int))
set_option maxRecDepth 20000 in
theorem mkX12_pass : MkV kX12_pass 0 := ⟨mT7 235 rfl rfl, mT7 236 rfl rfl, mT1 16 rfl rfl, mT7 237 rfl rfl, (by decide +kernel)⟩
abbrev kX12_passNow : MI := (yX12_passNow, cX12_passNow, 1, (some FieldType.int))
set_option maxRecDepth 20000 in
theorem mkX12_passNow : MkV kX12_passNow 0 := ⟨mT8 0 rfl rfl, mT0 85 rfl rfl, mT1 16 rfl rfl, mT8 1 rfl rfl, (by decide +kernel)⟩
abbrev kX12_passIt : MI := (yX12_passIt, cX12_passIt, 3, (some FieldType.int))
set_option maxRecDepth 20000 in
theorem mkX12_passIt : MkV kX12_passIt 0 := ⟨mT8 4 rfl rfl, mT0 86 rfl rfl, mT1 16 rfl rfl, mT8 5 rfl rfl, (by decide +kernel)⟩
abbrev kX12_hear : MI := (yX12_hear, cX12_hear, 5, (some FieldType.int))
set_option maxRecDepth 20000 in
theorem mkX12_hear : MkV kX12_hear 3 := ⟨mT8 7 rfl rfl, mT8 8 rfl rfl, mT1 16 rfl rfl, mT8 9 rfl rfl, (by decide +kernel)⟩
abbrev kX12_forget : MI := (yX12_forget, cX12_forget, 2, (some FieldType.int))
set_option maxRecDepth 20000 in
theorem mkX12_forget : MkV kX12_forget 0 := ⟨mT8 11 rfl rfl, mT8 12 rfl rfl, mT1 16 rfl rfl, mT8 13 rfl rfl, (by decide +kernel)⟩
abbrev kX12_which : MI := (yX12_which, cX12_which, 1, (some FieldType.int))
set_option maxRecDepth 20000 in
theorem mkX12_which : MkV kX12_which 0 := ⟨mT8 15 rfl rfl, mT8 16 rfl rfl, mT1 16 rfl rfl, mT8 17 rfl rfl, (by decide +kernel)⟩
abbrev kX12_whichAre : MI := (yX12_whichAre, cX12_whichAre, 5, (some FieldType.int))
set_option maxRecDepth 20000 in
theorem mkX12_whichAre : MkV kX12_whichAre 0 := ⟨mT8 20 rfl rfl, mT0 87 rfl rfl, mT1 16 rfl rfl, mT8 21 rfl rfl, (by decide +kernel)⟩
abbrev kX12_listen : MI := (yX12_listen, cX12_listen, 8, (some FieldType.int))
set_option maxRecDepth 20000 in
theorem mkX12_listen : MkV kX12_listen 1 := ⟨mT8 23 rfl rfl, mT8 24 rfl rfl, mT1 16 rfl rfl, mT8 25 rfl rfl, (by decide +kernel)⟩
abbrev kX12_steady : MI := (yX12_steady, cX12_steady, 2, (some FieldType.int))
set_option maxRecDepth 20000 in
theorem mkX12_steady : MkV kX12_steady 1 := ⟨mT8 28 rfl rfl, mT8 29 rfl rfl, mT1 16 rfl rfl, mT8 30 rfl rfl, (by decide +kernel)⟩
abbrev kX12_laySteady : MI := (yX12_laySteady, cX12_laySteady, 4, none)
set_option maxRecDepth 20000 in
theorem mkX12_laySteady : MkV kX12_laySteady 0 := ⟨mT8 33 rfl rfl, mT0 88 rfl rfl, mT1 16 rfl rfl, mT8 34 rfl rfl, (by decide +kernel)⟩
abbrev kX12_layTwos : MI := (yX12_layTwos, cX12_layTwos, 5, none)
set_option maxRecDepth 20000 in
theorem mkX12_layTwos : MkV kX12_layTwos 0 := ⟨mT8 37 rfl rfl, mT0 89 rfl rfl, mT1 16 rfl rfl, mT8 38 rfl rfl, (by decide +kernel)⟩
abbrev kX12_nearest : MI := (yX12_nearest, cX12_nearest, 4, (some FieldType.int))
set_option maxRecDepth 20000 in
theorem mkX12_nearest : MkV kX12_nearest 1 := ⟨mT8 41 rfl rfl, mT0 90 rfl rfl, mT1 16 rfl rfl, mT8 42 rfl rfl, (by decide +kernel)⟩
abbrev kX12_keptBy : MI := (yX12_keptBy, cX12_keptBy, 4, (some FieldType.int))
set_option maxRecDepth 20000 in
theorem mkX12_keptBy : MkV kX12_keptBy 1 := ⟨mT8 45 rfl rfl, mT0 91 rfl rfl, mT1 16 rfl rfl, mT8 46 rfl rfl, (by decide +kernel)⟩
abbrev kX12_about : MI := (yX12_about, cX12_about, 8, (some FieldType.int))
set_option maxRecDepth 20000 in
theorem mkX12_about : MkV kX12_about 2 := ⟨mT8 48 rfl rfl, mT8 49 rfl rfl, mT1 16 rfl rfl, mT8 50 rfl rfl, (by decide +kernel)⟩
abbrev kX12_layAbout : MI := (yX12_layAbout, cX12_layAbout, 7, none)
set_option maxRecDepth 20000 in
theorem mkX12_layAbout : MkV kX12_layAbout 1 := ⟨mT8 53 rfl rfl, mT0 92 rfl rfl, mT1 16 rfl rfl, mT8 54 rfl rfl, (by decide +kernel)⟩
abbrev kX12_withSuitor : MI := (yX12_withSuitor, cX12_withSuitor, 6, (some FieldType.int))
set_option maxRecDepth 20000 in
theorem mkX12_withSuitor : MkV kX12_withSuitor 4 := ⟨mT8 57 rfl rfl, mT0 93 rfl rfl, mT1 16 rfl rfl, mT8 58 rfl rfl, (by decide +kernel)⟩
abbrev kX12_keep : MI := (yX12_keep, cX12_keep, 9, (some FieldType.int))
set_option maxRecDepth 20000 in
theorem mkX12_keep : MkV kX12_keep 3 := ⟨mT8 61 rfl rfl, mT8 62 rfl rfl, mT1 16 rfl rfl, mT8 63 rfl rfl, (by decide +kernel)⟩
abbrev kX12_layMore : MI := (yX12_layMore, cX12_layMore, 6, none)
set_option maxRecDepth 20000 in
theorem mkX12_layMore : MkV kX12_layMore 2 := ⟨mT8 67 rfl rfl, mT0 94 rfl rfl, mT1 16 rfl rfl, mT8 68 rfl rfl, (by decide +kernel)⟩
abbrev kX12_leastNext : MI := (yX12_leastNext, cX12_leastNext, 6, (some FieldType.int))
set_option maxRecDepth 20000 in
theorem mkX12_leastNext : MkV kX12_leastNext 3 := ⟨mT8 71 rfl rfl, mT0 95 rfl rfl, mT1 16 rfl rfl, mT8 72 rfl rfl, (by decide +kernel)⟩
abbrev kX12_clash : MI := (yX12_clash, cX12_clash, 4, (some FieldType.int))
set_option maxRecDepth 20000 in
theorem mkX12_clash : MkV kX12_clash 3 := ⟨mT8 74 rfl rfl, mT8 75 rfl rfl, mT1 16 rfl rfl, mT8 76 rfl rfl, (by decide +kernel)⟩
abbrev kX12_areTwo : MI := (yX12_areTwo, cX12_areTwo, 3, (some FieldType.boolean))
set_option maxRecDepth 20000 in
theorem mkX12_areTwo : MkV kX12_areTwo 2 := ⟨mT8 79 rfl rfl, mT0 96 rfl rfl, mT1 16 rfl rfl, mT8 80 rfl rfl, (by decide +kernel)⟩
abbrev kX12_layClash : MI := (yX12_layClash, cX12_layClash, 10, (some FieldType.int))
set_option maxRecDepth 20000 in
theorem mkX12_layClash : MkV kX12_layClash 3 := ⟨mT8 83 rfl rfl, mT0 97 rfl rfl, mT1 16 rfl rfl, mT8 84 rfl rfl, (by decide +kernel)⟩
abbrev kX12_best : MI := (yX12_best, cX12_best, 8, (some FieldType.int))
set_option maxRecDepth 20000 in
theorem mkX12_best : MkV kX12_best 3 := ⟨mT8 86 rfl rfl, mT8 87 rfl rfl, mT1 16 rfl rfl, mT8 88 rfl rfl, (by decide +kernel)⟩
abbrev kX12_filed : MI := (yX12_filed, cX12_filed, 11, (some FieldType.int))
set_option maxRecDepth 20000 in
theorem mkX12_filed : MkV kX12_filed 4 := ⟨mT8 90 rfl rfl, mT8 91 rfl rfl, mT1 16 rfl rfl, mT8 92 rfl rfl, (by decide +kernel)⟩
abbrev kX12_shares : MI := (yX12_shares, cX12_shares, 8, (some FieldType.int))
set_option maxRecDepth 20000 in
theorem mkX12_shares : MkV kX12_shares 2 := ⟨mT8 95 rfl rfl, mT8 96 rfl rfl, mT1 16 rfl rfl, mT8 97 rfl rfl, (by decide +kernel)⟩
abbrev kX12_leastOf : MI := (yX12_leastOf, cX12_leastOf, 5, (some FieldType.int))
set_option maxRecDepth 20000 in
theorem mkX12_leastOf : MkV kX12_leastOf 2 := ⟨mT8 101 rfl rfl, mT0 98 rfl rfl, mT1 16 rfl rfl, mT8 102 rfl rfl, (by decide +kernel)⟩
abbrev kX12_again : MI := (yX12_again, cX12_again, 7, (some FieldType.int))
set_option maxRecDepth 20000 in
theorem mkX12_again : MkV kX12_again 2 := ⟨mT8 104 rfl rfl, mT8 105 rfl rfl, mT1 16 rfl rfl, mT8 106 rfl rfl, (by decide +kernel)⟩
abbrev kX12_ends : MI := (yX12_ends, cX12_ends, 4, (some FieldType.int))
set_option maxRecDepth 20000 in
theorem mkX12_ends : MkV kX12_ends 1 := ⟨mT8 108 rfl rfl, mT8 109 rfl rfl, mT1 16 rfl rfl, mT8 110 rfl rfl, (by decide +kernel)⟩
abbrev kX12_stands : MI := (yX12_stands, cX12_stands, 8, (some FieldType.long))
set_option maxRecDepth 20000 in
theorem mkX12_stands : MkV kX12_stands 2 := ⟨mT8 112 rfl rfl, mT8 113 rfl rfl, mT1 16 rfl rfl, mT8 114 rfl rfl, (by decide +kernel)⟩
abbrev kX12_compare : MI := (yX12_compare, cX12_compare, 5, (some FieldType.int))
set_option maxRecDepth 20000 in
theorem mkX12_compare : MkV kX12_compare 1 := ⟨mT8 117 rfl rfl, mT8 118 rfl rfl, mT1 16 rfl rfl, mT8 119 rfl rfl, (by decide +kernel)⟩
abbrev kX12_orders : MI := (yX12_orders, cX12_orders, 4, (some FieldType.int))
set_option maxRecDepth 20000 in
theorem mkX12_orders : MkV kX12_orders 0 := ⟨mT8 121 rfl rfl, mT8 122 rfl rfl, mT1 16 rfl rfl, mT8 123 rfl rfl, (by decide +kernel)⟩
abbrev kX12_readOrder : MI := (yX12_readOrder, cX12_readOrder, 4, none)
set_option maxRecDepth 20000 in
theorem mkX12_readOrder : MkV kX12_readOrder 0 := ⟨mT8 126 rfl rfl, mT0 99 rfl rfl, mT1 16 rfl rfl, mT8 127 rfl rfl, (by decide +kernel)⟩
abbrev kX12_readSum : MI := (yX12_readSum, cX12_readSum, 2, none)
set_option maxRecDepth 20000 in
theorem mkX12_readSum : MkV kX12_readSum 1 := ⟨mT8 130 rfl rfl, mT0 100 rfl rfl, mT1 16 rfl rfl, mT8 131 rfl rfl, (by decide +kernel)⟩
abbrev kX12_mustJoin : MI := (yX12_mustJoin, cX12_mustJoin, 2, none)
set_option maxRecDepth 20000 in
theorem mkX12_mustJoin : MkV kX12_mustJoin 1 := ⟨mT8 134 rfl rfl, mT0 101 rfl rfl, mT1 16 rfl rfl, mT8 135 rfl rfl, (by decide +kernel)⟩
abbrev kX12_run : MI := (yX12_run, cX12_run, 6, (some FieldType.int))
set_option maxRecDepth 20000 in
theorem mkX12_run : MkV kX12_run 1 := ⟨mT8 139 rfl rfl, mT0 102 rfl rfl, mT1 16 rfl rfl, mT8 140 rfl rfl, (by decide +kernel)⟩
abbrev kX12_couples : MI := (yX12_couples, cX12_couples, 3, (some FieldType.int))
set_option maxRecDepth 20000 in
theorem mkX12_couples : MkV kX12_couples 0 := ⟨mT8 143 rfl rfl, mT0 103 rfl rfl, mT1 16 rfl rfl, mT8 144 rfl rfl, (by decide +kernel)⟩
abbrev kX12_sumOf : MI := (yX12_sumOf, cX12_sumOf, 2, (some FieldType.int))
set_option maxRecDepth 20000 in
theorem mkX12_sumOf : MkV kX12_sumOf 1 := ⟨mT8 147 rfl rfl, mT0 104 rfl rfl, mT1 16 rfl rfl, mT8 148 rfl rfl, (by decide +kernel)⟩
abbrev kX12_act : MI := (yX12_act, cX12_act, 5, (some FieldType.int))
set_option maxRecDepth 20000 in
theorem mkX12_act : MkV kX12_act 4 := ⟨mT8 151 rfl rfl, mT0 105 rfl rfl, mT1 16 rfl rfl, mT8 152 rfl rfl, (by decide +kernel)⟩
abbrev kX12_giveBack : MI := (yX12_giveBack, cX12_giveBack, 3, none)
set_option maxRecDepth 20000 in
theorem mkX12_giveBack : MkV kX12_giveBack 1 := ⟨mT8 155 rfl rfl, mT0 106 rfl rfl, mT1 16 rfl rfl, mT8 156 rfl rfl, (by decide +kernel)⟩
abbrev kX12_stopped : MI := (yX12_stopped, cX12_stopped, 1, (some FieldType.int))
set_option maxRecDepth 20000 in
theorem mkX12_stopped : MkV kX12_stopped 0 := ⟨mT8 158 rfl rfl, mT8 159 rfl rfl, mT1 16 rfl rfl, mT8 160 rfl rfl, (by decide +kernel)⟩
abbrev kX12_generations : MI := (yX12_generations, cX12_generations, 9, (some FieldType.int))
set_option maxRecDepth 20000 in
theorem mkX12_generations : MkV kX12_generations 2 := ⟨mT8 162 rfl rfl, mT8 163 rfl rfl, mT1 16 rfl rfl, mT8 164 rfl rfl, (by decide +kernel)⟩
abbrev kX12_draw : MI := (yX12_draw, cX12_draw, 2, (some FieldType.int))
set_option maxRecDepth 20000 in
theorem mkX12_draw : MkV kX12_draw 1 := ⟨mT8 167 rfl rfl, mT0 107 rfl rfl, mT1 16 rfl rfl, mT8 168 rfl rfl, (by decide +kernel)⟩
abbrev kX12_drawn : MI := (yX12_drawn, cX12_drawn, 3, (some FieldType.int))
set_option maxRecDepth 20000 in
theorem mkX12_drawn : MkV kX12_drawn 2 := ⟨mT8 173 rfl rfl, mT8 174 rfl rfl, mT1 16 rfl rfl, mT8 175 rfl rfl, (by decide +kernel)⟩
abbrev kX12_count : MI := (yX12_count, cX12_count, 2, (some FieldType.int))
set_option maxRecDepth 20000 in
theorem mkX12_count : MkV kX12_count 1 := ⟨mT8 177 rfl rfl, mT8 178 rfl rfl, mT1 16 rfl rfl, mT8 179 rfl rfl, (by decide +kernel)⟩
abbrev kX12_status : MI := (yX12_status, cX12_status, 1, (some FieldType.int))
set_option maxRecDepth 20000 in
theorem mkX12_status : MkV kX12_status 0 := ⟨mT8 183 rfl rfl, mT8 184 rfl rfl, mT1 16 rfl rfl, mT8 185 rfl rfl, (by decide +kernel)⟩
set_option maxRecDepth 20000 in
theorem mlL_9 : Cond.methodLink RL 9 yX11_init ∈ TT := mT1 24 rfl rfl
set_option maxRecDepth 20000 in
theorem mlX11_1 : Cond.methodLink RX11 1 objectInit ∈ TT := mT1 27 rfl rfl
set_option maxRecDepth 20000 in
theorem mlX4_3 : Cond.methodLink RX4 3 objectInit ∈ TT := mT1 37 rfl rfl
set_option maxRecDepth 20000 in
theorem mlX8_3 : Cond.methodLink RX8 3 objectInit ∈ TT := mT1 65 rfl rfl
set_option maxRecDepth 20000 in
theorem mlX5_7 : Cond.methodLink RX5 7 objectInit ∈ TT := mT1 100 rfl rfl
set_option maxRecDepth 20000 in
theorem mlX11_68 : Cond.methodLink RX11 68 yX7_init ∈ TT := mT1 154 rfl rfl
set_option maxRecDepth 20000 in
theorem mlX7_1 : Cond.methodLink RX7 1 objectInit ∈ TT := mT1 157 rfl rfl
set_option maxRecDepth 20000 in
theorem mlX7_19 : Cond.methodLink RX7 19 yJ7_copyOf_59c91 ∈ TT := mT1 158 rfl rfl
set_option maxRecDepth 20000 in
theorem mlJ7_304 : Cond.methodLink RJ7 304 yJ9_min_7cf53 ∈ TT := mT1 168 rfl rfl
set_option maxRecDepth 20000 in
theorem mlJ7_150 : Cond.methodLink RJ7 150 arraycopyName ∈ TT := mT1 171 rfl rfl
set_option maxRecDepth 20000 in
theorem mlX11_71 : Cond.methodLink RX11 71 yX10_init ∈ TT := mT1 203 rfl rfl
set_option maxRecDepth 20000 in
theorem mlX10_3 : Cond.methodLink RX10 3 objectInit ∈ TT := mT1 206 rfl rfl
set_option maxRecDepth 20000 in
theorem mlX10_11 : Cond.methodLink RX10 11 yX9_init ∈ TT := mT1 209 rfl rfl
set_option maxRecDepth 20000 in
theorem mlX9_3 : Cond.methodLink RX9 3 objectInit ∈ TT := mT1 212 rfl rfl
set_option maxRecDepth 20000 in
theorem mlX9_34 : Cond.methodLink RX9 34 yJ7_fill_53178 ∈ TT := mT1 213 rfl rfl
set_option maxRecDepth 20000 in
theorem mlX6_5 : Cond.methodLink RX6 5 objectInit ∈ TT := mT2 87 rfl rfl
set_option maxRecDepth 20000 in
theorem mlX11_79 : Cond.methodLink RX11 79 yX3_init ∈ TT := mT2 94 rfl rfl
set_option maxRecDepth 20000 in
theorem mlX3_3 : Cond.methodLink RX3 3 objectInit ∈ TT := mT2 97 rfl rfl
set_option maxRecDepth 20000 in
theorem mlX11_84 : Cond.methodLink RX11 84 yX0_init ∈ TT := mT2 107 rfl rfl
set_option maxRecDepth 20000 in
theorem mlX0_3 : Cond.methodLink RX0 3 objectInit ∈ TT := mT2 110 rfl rfl
set_option maxRecDepth 20000 in
theorem mlX0_11 : Cond.methodLink RX0 11 yX2_init ∈ TT := mT2 113 rfl rfl
set_option maxRecDepth 20000 in
theorem mlX2_3 : Cond.methodLink RX2 3 objectInit ∈ TT := mT2 116 rfl rfl
set_option maxRecDepth 20000 in
theorem mlX2_28 : Cond.methodLink RX2 28 yX9_init ∈ TT := mT2 119 rfl rfl
set_option maxRecDepth 20000 in
theorem mlX0_26 : Cond.methodLink RX0 26 yX9_init ∈ TT := mT2 135 rfl rfl
set_option maxRecDepth 20000 in
theorem mlX11_105 : Cond.methodLink RX11 105 yX1_init ∈ TT := mT2 168 rfl rfl
set_option maxRecDepth 20000 in
theorem mlX1_3 : Cond.methodLink RX1 3 objectInit ∈ TT := mT2 171 rfl rfl
set_option maxRecDepth 20000 in
theorem mlX1_11 : Cond.methodLink RX1 11 yX9_init ∈ TT := mT2 173 rfl rfl
set_option maxRecDepth 20000 in
theorem mlL_13 : Cond.methodLink RL 13 yX11_box ∈ TT := mT3 0 rfl rfl
set_option maxRecDepth 20000 in
theorem mlX11_112 : Cond.methodLink RX11 112 yX11_refuse ∈ TT := mT3 4 rfl rfl
set_option maxRecDepth 20000 in
theorem mlX11_129 : Cond.methodLink RX11 129 yX2_clear ∈ TT := mT3 8 rfl rfl
set_option maxRecDepth 20000 in
theorem mlX11_137 : Cond.methodLink RX11 137 yX11_grant ∈ TT := mT3 12 rfl rfl
set_option maxRecDepth 20000 in
theorem mlL_18 : Cond.methodLink RL 18 yX11_of ∈ TT := mT3 16 rfl rfl
set_option maxRecDepth 20000 in
theorem mlX11_140 : Cond.methodLink RX11 140 yX9_hasBox ∈ TT := mT3 20 rfl rfl
set_option maxRecDepth 20000 in
theorem mlX11_144 : Cond.methodLink RX11 144 yX9_notes ∈ TT := mT3 24 rfl rfl
set_option maxRecDepth 20000 in
theorem mlX9_46 : Cond.methodLink RX9 46 yX9_notesAt ∈ TT := mT3 28 rfl rfl
set_option maxRecDepth 20000 in
theorem mlX9_50 : Cond.methodLink RX9 50 yJ6_bitCount_0f7a4 ∈ TT := mT3 32 rfl rfl
set_option maxRecDepth 20000 in
theorem mlX11_156 : Cond.methodLink RX11 156 yX10_lawInForce ∈ TT := mT3 38 rfl rfl
set_option maxRecDepth 20000 in
theorem mlX10_71 : Cond.methodLink RX10 71 yX10_lawNumbered ∈ TT := mT3 42 rfl rfl
set_option maxRecDepth 20000 in
theorem mlX10_67 : Cond.methodLink RX10 67 yX10_hasLaw ∈ TT := mT3 46 rfl rfl
set_option maxRecDepth 20000 in
theorem mlX11_160 : Cond.methodLink RX11 160 yX3_lasting ∈ TT := mT3 50 rfl rfl
set_option maxRecDepth 20000 in
theorem mlX3_21 : Cond.methodLink RX3 21 yX3_lookAt ∈ TT := mT3 54 rfl rfl
set_option maxRecDepth 20000 in
theorem mlX3_46 : Cond.methodLink RX3 46 yX9_notes ∈ TT := mT3 58 rfl rfl
set_option maxRecDepth 20000 in
theorem mlX3_53 : Cond.methodLink RX3 53 yJ6_bitCount_0f7a4 ∈ TT := mT3 59 rfl rfl
set_option maxRecDepth 20000 in
theorem mlX3_32 : Cond.methodLink RX3 32 yX3_told ∈ TT := mT3 60 rfl rfl
set_option maxRecDepth 20000 in
theorem mlX3_85 : Cond.methodLink RX3 85 yX6_reckon ∈ TT := mT3 64 rfl rfl
set_option maxRecDepth 20000 in
theorem mlX6_24 : Cond.methodLink RX6 24 yJ9_max_7cf53 ∈ TT := mT3 69 rfl rfl
set_option maxRecDepth 20000 in
theorem mlX6_30 : Cond.methodLink RX6 30 yX6_join ∈ TT := mT3 72 rfl rfl
set_option maxRecDepth 20000 in
theorem mlX3_90 : Cond.methodLink RX3 90 yJ9_min_7cf53 ∈ TT := mT3 78 rfl rfl
set_option maxRecDepth 20000 in
theorem mlX3_95 : Cond.methodLink RX3 95 yJ9_max_7cf53 ∈ TT := mT3 79 rfl rfl
set_option maxRecDepth 20000 in
theorem mlX11_163 : Cond.methodLink RX11 163 yX3_losing ∈ TT := mT3 80 rfl rfl
set_option maxRecDepth 20000 in
theorem mlX11_166 : Cond.methodLink RX11 166 yX11_isBar ∈ TT := mT3 84 rfl rfl
set_option maxRecDepth 20000 in
theorem mlL_23 : Cond.methodLink RL 23 yX11_pins ∈ TT := mT3 87 rfl rfl
set_option maxRecDepth 20000 in
theorem mlL_28 : Cond.methodLink RL 28 yX11_suitor ∈ TT := mT3 91 rfl rfl
set_option maxRecDepth 20000 in
theorem mlX11_172 : Cond.methodLink RX11 172 yX11_isTooth ∈ TT := mT3 95 rfl rfl
set_option maxRecDepth 20000 in
theorem mlX11_175 : Cond.methodLink RX11 175 yX11_isYears ∈ TT := mT3 98 rfl rfl
set_option maxRecDepth 20000 in
theorem mlL_32 : Cond.methodLink RL 32 yX11_at ∈ TT := mT3 101 rfl rfl
set_option maxRecDepth 20000 in
theorem mlX11_187 : Cond.methodLink RX11 187 yX10_hasSuitor ∈ TT := mT3 105 rfl rfl
set_option maxRecDepth 20000 in
theorem mlX11_190 : Cond.methodLink RX11 190 yX9_boxOf ∈ TT := mT3 109 rfl rfl
set_option maxRecDepth 20000 in
theorem mlL_36 : Cond.methodLink RL 36 yX11_asks ∈ TT := mT3 113 rfl rfl
set_option maxRecDepth 20000 in
theorem mlX11_193 : Cond.methodLink RX11 193 yX9_barsWith ∈ TT := mT3 117 rfl rfl
set_option maxRecDepth 20000 in
theorem mlX11_197 : Cond.methodLink RX11 197 yX3_liking ∈ TT := mT3 121 rfl rfl
set_option maxRecDepth 20000 in
theorem mlX3_36 : Cond.methodLink RX3 36 yX3_lookAtBoth ∈ TT := mT3 125 rfl rfl
set_option maxRecDepth 20000 in
theorem mlX3_68 : Cond.methodLink RX3 68 yX9_barsWith ∈ TT := mT3 129 rfl rfl
set_option maxRecDepth 20000 in
theorem mlX3_40 : Cond.methodLink RX3 40 yX10_lawInForce ∈ TT := mT3 130 rfl rfl
set_option maxRecDepth 20000 in
theorem mlX11_201 : Cond.methodLink RX11 201 yX3_isBarred ∈ TT := mT3 131 rfl rfl
set_option maxRecDepth 20000 in
theorem mlL_40 : Cond.methodLink RL 40 yX11_terms ∈ TT := mT3 135 rfl rfl
set_option maxRecDepth 20000 in
theorem mlL_44 : Cond.methodLink RL 44 yX11_feed ∈ TT := mT3 141 rfl rfl
set_option maxRecDepth 20000 in
theorem mlX11_211 : Cond.methodLink RX11 211 yX11_feedNumber ∈ TT := mT3 145 rfl rfl
set_option maxRecDepth 20000 in
theorem mlL_49 : Cond.methodLink RL 49 yX11_end ∈ TT := mT3 149 rfl rfl
set_option maxRecDepth 20000 in
theorem mlL_53 : Cond.methodLink RL 53 yX11_row ∈ TT := mT3 153 rfl rfl
set_option maxRecDepth 20000 in
theorem mlL_58 : Cond.methodLink RL 58 yX11_rust ∈ TT := mT3 157 rfl rfl
set_option maxRecDepth 20000 in
theorem mlL_62 : Cond.methodLink RL 62 yX11_law ∈ TT := mT3 161 rfl rfl
set_option maxRecDepth 20000 in
theorem mlX11_218 : Cond.methodLink RX11 218 yX5_read ∈ TT := mT3 165 rfl rfl
set_option maxRecDepth 20000 in
theorem mlX5_58 : Cond.methodLink RX5 58 yX5_scan ∈ TT := mT3 169 rfl rfl
set_option maxRecDepth 20000 in
theorem mlX5_81 : Cond.methodLink RX5 81 yX5_endOfRow ∈ TT := mT3 173 rfl rfl
set_option maxRecDepth 20000 in
theorem mlX5_85 : Cond.methodLink RX5 85 yX5_isLetter ∈ TT := mT3 176 rfl rfl
set_option maxRecDepth 20000 in
theorem mlX5_91 : Cond.methodLink RX5 91 yX5_isDigit ∈ TT := mT3 179 rfl rfl
set_option maxRecDepth 20000 in
theorem mlX5_88 : Cond.methodLink RX5 88 yX5_wordAt ∈ TT := mT3 182 rfl rfl
set_option maxRecDepth 20000 in
theorem mlX5_108 : Cond.methodLink RX5 108 yJ0_length_8abf5 ∈ TT := mT3 186 rfl rfl
set_option maxRecDepth 20000 in
theorem mlJ0_335 : Cond.methodLink RJ0 335 yJ0_coder_7d493 ∈ TT := mT3 190 rfl rfl
set_option maxRecDepth 20000 in
theorem mlX5_114 : Cond.methodLink RX5 114 yJ0_charAt_5068e ∈ TT := mT3 196 rfl rfl
set_option maxRecDepth 20000 in
theorem mlJ0_492 : Cond.methodLink RJ0 492 yJ0_isLatin1_aae02 ∈ TT := mT3 200 rfl rfl
set_option maxRecDepth 20000 in
theorem mlJ0_495 : Cond.methodLink RJ0 495 yJ1_charAt_3b067 ∈ TT := mT3 204 rfl rfl
set_option maxRecDepth 20000 in
theorem mlJ1_9 : Cond.methodLink RJ1 9 yJ0_checkIndex_df160 ∈ TT := mT3 207 rfl rfl
set_option maxRecDepth 20000 in
theorem mlJ0_1059 : Cond.methodLink RJ0 1059 yJ3_checkIndex_8e157 ∈ TT := mT3 212 rfl rfl
set_option maxRecDepth 20000 in
theorem mlJ0_498 : Cond.methodLink RJ0 498 yJ2_charAt_3b067 ∈ TT := mT3 215 rfl rfl
set_option maxRecDepth 20000 in
theorem mlJ2_67 : Cond.methodLink RJ2 67 yJ2_checkIndex_2214a ∈ TT := mT3 218 rfl rfl
set_option maxRecDepth 20000 in
theorem mlJ2_48 : Cond.methodLink RJ2 48 yJ2_length_9d52b ∈ TT := mT3 221 rfl rfl
set_option maxRecDepth 20000 in
theorem mlJ2_414 : Cond.methodLink RJ2 414 yJ0_checkIndex_df160 ∈ TT := mT3 224 rfl rfl
set_option maxRecDepth 20000 in
theorem mlJ2_71 : Cond.methodLink RJ2 71 yJ2_getChar_3b067 ∈ TT := mT3 225 rfl rfl
set_option maxRecDepth 20000 in
theorem mlX5_118 : Cond.methodLink RX5 118 yX5_isSame ∈ TT := mT3 234 rfl rfl
set_option maxRecDepth 20000 in
theorem mlX5_94 : Cond.methodLink RX5 94 yX5_numberAt ∈ TT := mT3 237 rfl rfl
set_option maxRecDepth 20000 in
theorem mlX5_103 : Cond.methodLink RX5 103 yJ9_min_7cf53 ∈ TT := mT4 0 rfl rfl
set_option maxRecDepth 20000 in
theorem mlX5_97 : Cond.methodLink RX5 97 yJ9_max_7cf53 ∈ TT := mT4 1 rfl rfl
set_option maxRecDepth 20000 in
theorem mlX5_62 : Cond.methodLink RX5 62 yJ7_fill_53178 ∈ TT := mT4 2 rfl rfl
set_option maxRecDepth 20000 in
theorem mlX5_67 : Cond.methodLink RX5 67 yX5_readClause ∈ TT := mT4 3 rfl rfl
set_option maxRecDepth 20000 in
theorem mlX5_78 : Cond.methodLink RX5 78 yX5_goOn ∈ TT := mT4 7 rfl rfl
set_option maxRecDepth 20000 in
theorem mlX5_122 : Cond.methodLink RX5 122 yX5_readSums ∈ TT := mT4 11 rfl rfl
set_option maxRecDepth 20000 in
theorem mlX5_134 : Cond.methodLink RX5 134 yX5_sumsOf ∈ TT := mT4 15 rfl rfl
set_option maxRecDepth 20000 in
theorem mlX5_138 : Cond.methodLink RX5 138 yX5_wordAhead ∈ TT := mT4 19 rfl rfl
set_option maxRecDepth 20000 in
theorem mlX5_141 : Cond.methodLink RX5 141 yX5_readSum ∈ TT := mT4 22 rfl rfl
set_option maxRecDepth 20000 in
theorem mlX5_150 : Cond.methodLink RX5 150 yX5_readPart ∈ TT := mT4 26 rfl rfl
set_option maxRecDepth 20000 in
theorem mlX5_74 : Cond.methodLink RX5 74 yX5_isSign ∈ TT := mT4 30 rfl rfl
set_option maxRecDepth 20000 in
theorem mlX5_131 : Cond.methodLink RX5 131 yX5_put ∈ TT := mT4 34 rfl rfl
set_option maxRecDepth 20000 in
theorem mlX5_156 : Cond.methodLink RX5 156 yX5_standsAlone ∈ TT := mT4 38 rfl rfl
set_option maxRecDepth 20000 in
theorem mlX5_153 : Cond.methodLink RX5 153 yX5_joinHere ∈ TT := mT4 42 rfl rfl
set_option maxRecDepth 20000 in
theorem mlX5_125 : Cond.methodLink RX5 125 yX5_readTest ∈ TT := mT4 46 rfl rfl
set_option maxRecDepth 20000 in
theorem mlX5_144 : Cond.methodLink RX5 144 yX5_readPlain ∈ TT := mT4 50 rfl rfl
set_option maxRecDepth 20000 in
theorem mlX5_147 : Cond.methodLink RX5 147 yX5_comparisonHere ∈ TT := mT4 54 rfl rfl
set_option maxRecDepth 20000 in
theorem mlX5_71 : Cond.methodLink RX5 71 yX7_init ∈ TT := mT4 59 rfl rfl
set_option maxRecDepth 20000 in
theorem mlL_66 : Cond.methodLink RL 66 yX11_orders ∈ TT := mT4 61 rfl rfl
set_option maxRecDepth 20000 in
theorem mlX11_226 : Cond.methodLink RX11 226 yX0_beginOrders ∈ TT := mT4 65 rfl rfl
set_option maxRecDepth 20000 in
theorem mlX0_132 : Cond.methodLink RX0 132 yX9_copyFrom ∈ TT := mT4 69 rfl rfl
set_option maxRecDepth 20000 in
theorem mlX9_40 : Cond.methodLink RX9 40 arraycopyName ∈ TT := mT4 73 rfl rfl
set_option maxRecDepth 20000 in
theorem mlX0_136 : Cond.methodLink RX0 136 yX2_copyFrom ∈ TT := mT4 74 rfl rfl
set_option maxRecDepth 20000 in
theorem mlX2_29 : Cond.methodLink RX2 29 yX9_copyFrom ∈ TT := mT4 78 rfl rfl
set_option maxRecDepth 20000 in
theorem mlX11_235 : Cond.methodLink RX11 235 yX0_runOnce ∈ TT := mT4 79 rfl rfl
set_option maxRecDepth 20000 in
theorem mlX0_139 : Cond.methodLink RX0 139 yX0_lookAround ∈ TT := mT4 83 rfl rfl
set_option maxRecDepth 20000 in
theorem mlX0_167 : Cond.methodLink RX0 167 yX9_couples ∈ TT := mT4 87 rfl rfl
set_option maxRecDepth 20000 in
theorem mlX0_65 : Cond.methodLink RX0 65 yX9_hasBox ∈ TT := mT4 91 rfl rfl
set_option maxRecDepth 20000 in
theorem mlX0_77 : Cond.methodLink RX0 77 yX9_notes ∈ TT := mT4 92 rfl rfl
set_option maxRecDepth 20000 in
theorem mlX0_145 : Cond.methodLink RX0 145 yX6_reckon ∈ TT := mT4 93 rfl rfl
set_option maxRecDepth 20000 in
theorem mlX0_153 : Cond.methodLink RX0 153 yX0_pullPin ∈ TT := mT4 95 rfl rfl
set_option maxRecDepth 20000 in
theorem mlX0_73 : Cond.methodLink RX0 73 yX2_put ∈ TT := mT4 101 rfl rfl
set_option maxRecDepth 20000 in
theorem mlX0_157 : Cond.methodLink RX0 157 yX0_snapTooth ∈ TT := mT4 105 rfl rfl
set_option maxRecDepth 20000 in
theorem mlX0_160 : Cond.methodLink RX0 160 yX0_wedBox ∈ TT := mT4 109 rfl rfl
set_option maxRecDepth 20000 in
theorem mlX0_84 : Cond.methodLink RX0 84 yX10_hasSuitor ∈ TT := mT4 113 rfl rfl
set_option maxRecDepth 20000 in
theorem mlX0_90 : Cond.methodLink RX0 90 yX9_boxOf ∈ TT := mT4 114 rfl rfl
set_option maxRecDepth 20000 in
theorem mlX0_93 : Cond.methodLink RX0 93 yX3_isBarred ∈ TT := mT4 115 rfl rfl
set_option maxRecDepth 20000 in
theorem mlX0_99 : Cond.methodLink RX0 99 yX10_lawInForce ∈ TT := mT4 116 rfl rfl
set_option maxRecDepth 20000 in
theorem mlX0_103 : Cond.methodLink RX0 103 yX3_lasting ∈ TT := mT4 117 rfl rfl
set_option maxRecDepth 20000 in
theorem mlX0_163 : Cond.methodLink RX0 163 yX0_passYear ∈ TT := mT4 118 rfl rfl
set_option maxRecDepth 20000 in
theorem mlX0_113 : Cond.methodLink RX0 113 yX0_liveYear ∈ TT := mT4 122 rfl rfl
set_option maxRecDepth 20000 in
theorem mlX0_123 : Cond.methodLink RX0 123 yX3_losing ∈ TT := mT4 126 rfl rfl
set_option maxRecDepth 20000 in
theorem mlX0_126 : Cond.methodLink RX0 126 yJ9_max_7cf53 ∈ TT := mT4 127 rfl rfl
set_option maxRecDepth 20000 in
theorem mlX11_239 : Cond.methodLink RX11 239 yX0_dropOrders ∈ TT := mT4 128 rfl rfl
set_option maxRecDepth 20000 in
theorem mlL_70 : Cond.methodLink RL 70 yX11_fault ∈ TT := mT4 132 rfl rfl
set_option maxRecDepth 20000 in
theorem mlL_74 : Cond.methodLink RL 74 yX11_stopped ∈ TT := mT4 136 rfl rfl
set_option maxRecDepth 20000 in
theorem mlL_78 : Cond.methodLink RL 78 yX11_force ∈ TT := mT4 140 rfl rfl
set_option maxRecDepth 20000 in
theorem mlX11_248 : Cond.methodLink RX11 248 yX10_hasLaw ∈ TT := mT4 144 rfl rfl
set_option maxRecDepth 20000 in
theorem mlL_82 : Cond.methodLink RL 82 yX11_pull ∈ TT := mT4 145 rfl rfl
set_option maxRecDepth 20000 in
theorem mlX11_254 : Cond.methodLink RX11 254 yX0_pullPin ∈ TT := mT4 149 rfl rfl
set_option maxRecDepth 20000 in
theorem mlX11_258 : Cond.methodLink RX11 258 yX11_settle ∈ TT := mT4 150 rfl rfl
set_option maxRecDepth 20000 in
theorem mlL_86 : Cond.methodLink RL 86 yX11_snap ∈ TT := mT4 154 rfl rfl
set_option maxRecDepth 20000 in
theorem mlX11_261 : Cond.methodLink RX11 261 yX0_snapTooth ∈ TT := mT4 158 rfl rfl
set_option maxRecDepth 20000 in
theorem mlL_90 : Cond.methodLink RL 90 yX11_wed ∈ TT := mT4 159 rfl rfl
set_option maxRecDepth 20000 in
theorem mlX11_264 : Cond.methodLink RX11 264 yX0_wedBox ∈ TT := mT4 163 rfl rfl
set_option maxRecDepth 20000 in
theorem mlL_94 : Cond.methodLink RL 94 yX11_pass ∈ TT := mT4 164 rfl rfl
set_option maxRecDepth 20000 in
theorem mlX11_267 : Cond.methodLink RX11 267 yX0_passYear ∈ TT := mT4 168 rfl rfl
set_option maxRecDepth 20000 in
theorem mlL_98 : Cond.methodLink RL 98 yX11_undo ∈ TT := mT4 169 rfl rfl
set_option maxRecDepth 20000 in
theorem mlX11_271 : Cond.methodLink RX11 271 yX2_takeBack ∈ TT := mT4 173 rfl rfl
set_option maxRecDepth 20000 in
theorem mlL_102 : Cond.methodLink RL 102 yX11_hear ∈ TT := mT4 177 rfl rfl
set_option maxRecDepth 20000 in
theorem mlL_106 : Cond.methodLink RL 106 yX11_forget ∈ TT := mT4 181 rfl rfl
set_option maxRecDepth 20000 in
theorem mlL_110 : Cond.methodLink RL 110 yX11_which ∈ TT := mT4 185 rfl rfl
set_option maxRecDepth 20000 in
theorem mlX11_287 : Cond.methodLink RX11 287 yX10_boxesHeard ∈ TT := mT4 189 rfl rfl
set_option maxRecDepth 20000 in
theorem mlX10_78 : Cond.methodLink RX10 78 yX9_boxesWith ∈ TT := mT4 193 rfl rfl
set_option maxRecDepth 20000 in
theorem mlL_114 : Cond.methodLink RL 114 yX11_listen ∈ TT := mT4 197 rfl rfl
set_option maxRecDepth 20000 in
theorem mlX11_290 : Cond.methodLink RX11 290 yJ6_bitCount_0f7a4 ∈ TT := mT4 201 rfl rfl
set_option maxRecDepth 20000 in
theorem mlX11_295 : Cond.methodLink RX11 295 yX9_boxesWith ∈ TT := mT4 202 rfl rfl
set_option maxRecDepth 20000 in
theorem mlX11_298 : Cond.methodLink RX11 298 yJ9_max_7cf53 ∈ TT := mT4 203 rfl rfl
set_option maxRecDepth 20000 in
theorem mlL_118 : Cond.methodLink RL 118 yX11_steady ∈ TT := mT4 204 rfl rfl
set_option maxRecDepth 20000 in
theorem mlX11_303 : Cond.methodLink RX11 303 yX4_gather ∈ TT := mT4 208 rfl rfl
set_option maxRecDepth 20000 in
theorem mlX4_30 : Cond.methodLink RX4 30 yJ7_fill_53178 ∈ TT := mT4 212 rfl rfl
set_option maxRecDepth 20000 in
theorem mlX4_48 : Cond.methodLink RX4 48 yX10_lawInForce ∈ TT := mT4 213 rfl rfl
set_option maxRecDepth 20000 in
theorem mlX4_52 : Cond.methodLink RX4 52 yX3_lasting ∈ TT := mT4 214 rfl rfl
set_option maxRecDepth 20000 in
theorem mlX4_64 : Cond.methodLink RX4 64 yX9_boxOf ∈ TT := mT4 215 rfl rfl
set_option maxRecDepth 20000 in
theorem mlX4_68 : Cond.methodLink RX4 68 yX3_isBarred ∈ TT := mT4 216 rfl rfl
set_option maxRecDepth 20000 in
theorem mlX4_75 : Cond.methodLink RX4 75 yJ9_abs_0f7a4 ∈ TT := mT4 217 rfl rfl
set_option maxRecDepth 20000 in
theorem mlX4_80 : Cond.methodLink RX4 80 yX3_liking ∈ TT := mT4 220 rfl rfl
set_option maxRecDepth 20000 in
theorem mlX11_307 : Cond.methodLink RX11 307 yX4_askAll ∈ TT := mT4 221 rfl rfl
set_option maxRecDepth 20000 in
theorem mlX4_84 : Cond.methodLink RX4 84 yX4_nextToAsk ∈ TT := mT4 225 rfl rfl
set_option maxRecDepth 20000 in
theorem mlX4_91 : Cond.methodLink RX4 91 yX4_suitorThatKeeps ∈ TT := mT4 229 rfl rfl
set_option maxRecDepth 20000 in
theorem mlX4_87 : Cond.methodLink RX4 87 yX4_isLiked ∈ TT := mT4 233 rfl rfl
set_option maxRecDepth 20000 in
theorem mlX11_311 : Cond.methodLink RX11 311 yX4_suitorThatKeeps ∈ TT := mT4 237 rfl rfl
set_option maxRecDepth 20000 in
theorem mlL_122 : Cond.methodLink RL 122 yX11_about ∈ TT := mT4 238 rfl rfl
set_option maxRecDepth 20000 in
theorem mlX11_314 : Cond.methodLink RX11 314 yX4_matchAbout ∈ TT := mT5 2 rfl rfl
set_option maxRecDepth 20000 in
theorem mlX4_94 : Cond.methodLink RX4 94 yX4_worthWith ∈ TT := mT5 6 rfl rfl
set_option maxRecDepth 20000 in
theorem mlX4_98 : Cond.methodLink RX4 98 yJ9_max_7cf53 ∈ TT := mT5 10 rfl rfl
set_option maxRecDepth 20000 in
theorem mlX4_102 : Cond.methodLink RX4 102 yX4_writeRow ∈ TT := mT5 11 rfl rfl
set_option maxRecDepth 20000 in
theorem mlX11_318 : Cond.methodLink RX11 318 yX4_matched ∈ TT := mT5 15 rfl rfl
set_option maxRecDepth 20000 in
theorem mlX11_321 : Cond.methodLink RX11 321 yX4_differences ∈ TT := mT5 19 rfl rfl
set_option maxRecDepth 20000 in
theorem mlX4_106 : Cond.methodLink RX4 106 yX4_matched ∈ TT := mT5 23 rfl rfl
set_option maxRecDepth 20000 in
theorem mlL_126 : Cond.methodLink RL 126 yX11_keep ∈ TT := mT5 24 rfl rfl
set_option maxRecDepth 20000 in
theorem mlX11_327 : Cond.methodLink RX11 327 yX8_keepRule ∈ TT := mT5 28 rfl rfl
set_option maxRecDepth 20000 in
theorem mlX8_42 : Cond.methodLink RX8 42 yJ6_bitCount_0f7a4 ∈ TT := mT5 32 rfl rfl
set_option maxRecDepth 20000 in
theorem mlX8_48 : Cond.methodLink RX8 48 yJ9_max_7cf53 ∈ TT := mT5 33 rfl rfl
set_option maxRecDepth 20000 in
theorem mlX8_54 : Cond.methodLink RX8 54 yJ7_fill_53178 ∈ TT := mT5 34 rfl rfl
set_option maxRecDepth 20000 in
theorem mlX8_60 : Cond.methodLink RX8 60 yX8_weighSets ∈ TT := mT5 35 rfl rfl
set_option maxRecDepth 20000 in
theorem mlX8_64 : Cond.methodLink RX8 64 arraycopyName ∈ TT := mT5 39 rfl rfl
set_option maxRecDepth 20000 in
theorem mlX8_70 : Cond.methodLink RX8 70 yX8_widen ∈ TT := mT5 40 rfl rfl
set_option maxRecDepth 20000 in
theorem mlX8_77 : Cond.methodLink RX8 77 yJ9_min_7cf53 ∈ TT := mT5 44 rfl rfl
set_option maxRecDepth 20000 in
theorem mlX8_74 : Cond.methodLink RX8 74 yX8_cheapest ∈ TT := mT5 45 rfl rfl
set_option maxRecDepth 20000 in
theorem mlL_130 : Cond.methodLink RL 130 yX11_clash ∈ TT := mT5 49 rfl rfl
set_option maxRecDepth 20000 in
theorem mlX11_332 : Cond.methodLink RX11 332 yX11_areTwo ∈ TT := mT5 53 rfl rfl
set_option maxRecDepth 20000 in
theorem mlX11_336 : Cond.methodLink RX11 336 yX8_clashes ∈ TT := mT5 57 rfl rfl
set_option maxRecDepth 20000 in
theorem mlX8_80 : Cond.methodLink RX8 80 yX9_notesAt ∈ TT := mT5 61 rfl rfl
set_option maxRecDepth 20000 in
theorem mlL_134 : Cond.methodLink RL 134 yX11_best ∈ TT := mT5 62 rfl rfl
set_option maxRecDepth 20000 in
theorem mlL_138 : Cond.methodLink RL 138 yX11_filed ∈ TT := mT5 66 rfl rfl
set_option maxRecDepth 20000 in
theorem mlX11_340 : Cond.methodLink RX11 340 yX8_file ∈ TT := mT5 70 rfl rfl
set_option maxRecDepth 20000 in
theorem mlX8_83 : Cond.methodLink RX8 83 yX8_gatherClashes ∈ TT := mT5 74 rfl rfl
set_option maxRecDepth 20000 in
theorem mlL_147 : Cond.methodLink RL 147 yX11_again ∈ TT := mT5 78 rfl rfl
set_option maxRecDepth 20000 in
theorem mlX11_353 : Cond.methodLink RX11 353 yX9_notesAt ∈ TT := mT5 82 rfl rfl
set_option maxRecDepth 20000 in
theorem mlL_143 : Cond.methodLink RL 143 yX11_shares ∈ TT := mT5 83 rfl rfl
set_option maxRecDepth 20000 in
theorem mlX11_356 : Cond.methodLink RX11 356 yX11_gatherLasting ∈ TT := mT5 87 rfl rfl
set_option maxRecDepth 20000 in
theorem mlX11_359 : Cond.methodLink RX11 359 yX11_writeShareRow ∈ TT := mT5 91 rfl rfl
set_option maxRecDepth 20000 in
theorem mlX11_362 : Cond.methodLink RX11 362 yX11_leastShare ∈ TT := mT5 95 rfl rfl
set_option maxRecDepth 20000 in
theorem mlX11_365 : Cond.methodLink RX11 365 yJ9_min_7cf53 ∈ TT := mT5 99 rfl rfl
set_option maxRecDepth 20000 in
theorem mlL_151 : Cond.methodLink RL 151 yX11_ends ∈ TT := mT5 100 rfl rfl
set_option maxRecDepth 20000 in
theorem mlL_155 : Cond.methodLink RL 155 yX11_stands ∈ TT := mT5 104 rfl rfl
set_option maxRecDepth 20000 in
theorem mlX11_370 : Cond.methodLink RX11 370 yJ7_fill_d0a16 ∈ TT := mT5 109 rfl rfl
set_option maxRecDepth 20000 in
theorem mlL_160 : Cond.methodLink RL 160 yX11_compare ∈ TT := mT5 114 rfl rfl
set_option maxRecDepth 20000 in
theorem mlX11_380 : Cond.methodLink RX11 380 yX10_lawNumbered ∈ TT := mT5 118 rfl rfl
set_option maxRecDepth 20000 in
theorem mlL_164 : Cond.methodLink RL 164 yX11_generations ∈ TT := mT5 119 rfl rfl
set_option maxRecDepth 20000 in
theorem mlX11_385 : Cond.methodLink RX11 385 yX1_live ∈ TT := mT5 124 rfl rfl
set_option maxRecDepth 20000 in
theorem mlX1_29 : Cond.methodLink RX1 29 yX9_copyFrom ∈ TT := mT5 128 rfl rfl
set_option maxRecDepth 20000 in
theorem mlX1_40 : Cond.methodLink RX1 40 yX1_draw ∈ TT := mT5 129 rfl rfl
set_option maxRecDepth 20000 in
theorem mlX1_44 : Cond.methodLink RX1 44 yX1_touch ∈ TT := mT5 136 rfl rfl
set_option maxRecDepth 20000 in
theorem mlX1_73 : Cond.methodLink RX1 73 yJ9_max_7cf53 ∈ TT := mT5 140 rfl rfl
set_option maxRecDepth 20000 in
theorem mlX1_48 : Cond.methodLink RX1 48 yX10_lawInForce ∈ TT := mT5 141 rfl rfl
set_option maxRecDepth 20000 in
theorem mlX1_52 : Cond.methodLink RX1 52 yX0_liveYear ∈ TT := mT5 142 rfl rfl
set_option maxRecDepth 20000 in
theorem mlL_168 : Cond.methodLink RL 168 yX11_drawn ∈ TT := mT5 143 rfl rfl
set_option maxRecDepth 20000 in
theorem mlL_172 : Cond.methodLink RL 172 yX11_image ∈ TT := mT5 147 rfl rfl
set_option maxRecDepth 20000 in
theorem mlX11_389 : Cond.methodLink RX11 389 yX10_copyFrom ∈ TT := mT5 151 rfl rfl
set_option maxRecDepth 20000 in
theorem mlX10_57 : Cond.methodLink RX10 57 yX9_copyFrom ∈ TT := mT5 155 rfl rfl
set_option maxRecDepth 20000 in
theorem mlX10_61 : Cond.methodLink RX10 61 arraycopyName ∈ TT := mT5 156 rfl rfl
set_option maxRecDepth 20000 in
theorem mlL_176 : Cond.methodLink RL 176 yX11_back ∈ TT := mT5 157 rfl rfl
set_option maxRecDepth 20000 in
theorem mlL_180 : Cond.methodLink RL 180 yX11_count ∈ TT := mT5 161 rfl rfl
set_option maxRecDepth 20000 in
theorem mlX11_392 : Cond.methodLink RX11 392 yX9_couples ∈ TT := mT5 165 rfl rfl
set_option maxRecDepth 20000 in
theorem mlL_184 : Cond.methodLink RL 184 yX11_status ∈ TT := mT5 166 rfl rfl
set_option maxRecDepth 20000 in
theorem mlL_12 : Cond.methodLink RL 12 yX12_init ∈ TT := mT5 172 rfl rfl
set_option maxRecDepth 20000 in
theorem mlX12_1 : Cond.methodLink RX12 1 objectInit ∈ TT := mT5 175 rfl rfl
set_option maxRecDepth 20000 in
theorem mlL_101 : Cond.methodLink RL 101 yX12_undo ∈ TT := mT6 147 rfl rfl
set_option maxRecDepth 20000 in
theorem mlX12_184 : Cond.methodLink RX12 184 yX12_tell ∈ TT := mT6 151 rfl rfl
set_option maxRecDepth 20000 in
theorem mlX12_192 : Cond.methodLink RX12 192 yX12_putBack ∈ TT := mT6 155 rfl rfl
set_option maxRecDepth 20000 in
theorem mlL_175 : Cond.methodLink RL 175 yX12_image ∈ TT := mT6 159 rfl rfl
set_option maxRecDepth 20000 in
theorem mlX12_195 : Cond.methodLink RX12 195 yX12_in ∈ TT := mT6 163 rfl rfl
set_option maxRecDepth 20000 in
theorem mlL_179 : Cond.methodLink RL 179 yX12_back ∈ TT := mT6 166 rfl rfl
set_option maxRecDepth 20000 in
theorem mlX12_199 : Cond.methodLink RX12 199 yX12_settled ∈ TT := mT6 170 rfl rfl
set_option maxRecDepth 20000 in
theorem mlL_17 : Cond.methodLink RL 17 yX12_box ∈ TT := mT6 174 rfl rfl
set_option maxRecDepth 20000 in
theorem mlL_22 : Cond.methodLink RL 22 yX12_of ∈ TT := mT6 179 rfl rfl
set_option maxRecDepth 20000 in
theorem mlX12_213 : Cond.methodLink RX12 213 yX12_isBox ∈ TT := mT6 183 rfl rfl
set_option maxRecDepth 20000 in
theorem mlX12_219 : Cond.methodLink RX12 219 yX12_notesOf ∈ TT := mT6 188 rfl rfl
set_option maxRecDepth 20000 in
theorem mlX12_204 : Cond.methodLink RX12 204 yX12_notesAt ∈ TT := mT6 192 rfl rfl
set_option maxRecDepth 20000 in
theorem mlX12_208 : Cond.methodLink RX12 208 yX12_ones ∈ TT := mT6 196 rfl rfl
set_option maxRecDepth 20000 in
theorem mlX12_222 : Cond.methodLink RX12 222 yX12_lastsOf ∈ TT := mT6 199 rfl rfl
set_option maxRecDepth 20000 in
theorem mlX12_450 : Cond.methodLink RX12 450 yX12_tells ∈ TT := mT6 203 rfl rfl
set_option maxRecDepth 20000 in
theorem mlX12_247 : Cond.methodLink RX12 247 yX12_earOf ∈ TT := mT6 208 rfl rfl
set_option maxRecDepth 20000 in
theorem mlX12_447 : Cond.methodLink RX12 447 yX12_isSo ∈ TT := mT6 212 rfl rfl
set_option maxRecDepth 20000 in
theorem mlX12_441 : Cond.methodLink RX12 441 yX12_reckonAll ∈ TT := mT6 216 rfl rfl
set_option maxRecDepth 20000 in
theorem mlX12_430 : Cond.methodLink RX12 430 yX12_reckon ∈ TT := mT6 220 rfl rfl
set_option maxRecDepth 20000 in
theorem mlX12_454 : Cond.methodLink RX12 454 yX12_within ∈ TT := mT6 226 rfl rfl
set_option maxRecDepth 20000 in
theorem mlX12_225 : Cond.methodLink RX12 225 yX12_losesOf ∈ TT := mT6 229 rfl rfl
set_option maxRecDepth 20000 in
theorem mlL_27 : Cond.methodLink RL 27 yX12_pins ∈ TT := mT6 233 rfl rfl
set_option maxRecDepth 20000 in
theorem mlX12_228 : Cond.methodLink RX12 228 yX12_isBar ∈ TT := mT6 237 rfl rfl
set_option maxRecDepth 20000 in
theorem mlX12_233 : Cond.methodLink RX12 233 yX12_change ∈ TT := mT7 2 rfl rfl
set_option maxRecDepth 20000 in
theorem mlL_31 : Cond.methodLink RL 31 yX12_suitor ∈ TT := mT7 6 rfl rfl
set_option maxRecDepth 20000 in
theorem mlX12_236 : Cond.methodLink RX12 236 yX12_isTooth ∈ TT := mT7 10 rfl rfl
set_option maxRecDepth 20000 in
theorem mlL_35 : Cond.methodLink RL 35 yX12_at ∈ TT := mT7 14 rfl rfl
set_option maxRecDepth 20000 in
theorem mlX12_241 : Cond.methodLink RX12 241 yX12_isSuitor ∈ TT := mT7 18 rfl rfl
set_option maxRecDepth 20000 in
theorem mlX12_244 : Cond.methodLink RX12 244 yX12_boxOf ∈ TT := mT7 22 rfl rfl
set_option maxRecDepth 20000 in
theorem mlL_39 : Cond.methodLink RL 39 yX12_asks ∈ TT := mT7 26 rfl rfl
set_option maxRecDepth 20000 in
theorem mlX12_250 : Cond.methodLink RX12 250 yX12_likesOf ∈ TT := mT7 30 rfl rfl
set_option maxRecDepth 20000 in
theorem mlX12_253 : Cond.methodLink RX12 253 yX12_isBarred ∈ TT := mT7 34 rfl rfl
set_option maxRecDepth 20000 in
theorem mlL_43 : Cond.methodLink RL 43 yX12_terms ∈ TT := mT7 38 rfl rfl
set_option maxRecDepth 20000 in
theorem mlL_57 : Cond.methodLink RL 57 yX12_row ∈ TT := mT7 45 rfl rfl
set_option maxRecDepth 20000 in
theorem mlL_61 : Cond.methodLink RL 61 yX12_rust ∈ TT := mT7 49 rfl rfl
set_option maxRecDepth 20000 in
theorem mlL_48 : Cond.methodLink RL 48 yX12_feed ∈ TT := mT7 53 rfl rfl
set_option maxRecDepth 20000 in
theorem mlX12_269 : Cond.methodLink RX12 269 yX12_four ∈ TT := mT7 57 rfl rfl
set_option maxRecDepth 20000 in
theorem mlL_52 : Cond.methodLink RL 52 yX12_end ∈ TT := mT7 61 rfl rfl
set_option maxRecDepth 20000 in
theorem mlL_73 : Cond.methodLink RL 73 yX12_fault ∈ TT := mT7 65 rfl rfl
set_option maxRecDepth 20000 in
theorem mlL_65 : Cond.methodLink RL 65 yX12_law ∈ TT := mT7 69 rfl rfl
set_option maxRecDepth 20000 in
theorem mlX12_412 : Cond.methodLink RX12 412 yX12_beginText ∈ TT := mT7 73 rfl rfl
set_option maxRecDepth 20000 in
theorem mlX12_401 : Cond.methodLink RX12 401 yX12_begin ∈ TT := mT7 77 rfl rfl
set_option maxRecDepth 20000 in
theorem mlX12_279 : Cond.methodLink RX12 279 yX12_next ∈ TT := mT7 81 rfl rfl
set_option maxRecDepth 20000 in
theorem mlX12_289 : Cond.methodLink RX12 289 yX12_isSmall ∈ TT := mT7 85 rfl rfl
set_option maxRecDepth 20000 in
theorem mlX12_292 : Cond.methodLink RX12 292 yX12_isDigit ∈ TT := mT7 88 rfl rfl
set_option maxRecDepth 20000 in
theorem mlX12_415 : Cond.methodLink RX12 415 yX12_readLaw ∈ TT := mT7 95 rfl rfl
set_option maxRecDepth 20000 in
theorem mlX12_331 : Cond.methodLink RX12 331 yX12_isWord ∈ TT := mT7 99 rfl rfl
set_option maxRecDepth 20000 in
theorem mlX12_308 : Cond.methodLink RX12 308 yX12_must ∈ TT := mT7 103 rfl rfl
set_option maxRecDepth 20000 in
theorem mlX12_407 : Cond.methodLink RX12 407 yX12_readExpression ∈ TT := mT7 107 rfl rfl
set_option maxRecDepth 20000 in
theorem mlX12_391 : Cond.methodLink RX12 391 yX12_readPlain ∈ TT := mT7 111 rfl rfl
set_option maxRecDepth 20000 in
theorem mlX12_338 : Cond.methodLink RX12 338 yX12_push ∈ TT := mT7 116 rfl rfl
set_option maxRecDepth 20000 in
theorem mlX12_344 : Cond.methodLink RX12 344 yX12_isSign ∈ TT := mT7 120 rfl rfl
set_option maxRecDepth 20000 in
theorem mlX12_347 : Cond.methodLink RX12 347 yX12_openBracket ∈ TT := mT7 124 rfl rfl
set_option maxRecDepth 20000 in
theorem mlX12_374 : Cond.methodLink RX12 374 yX12_readPart ∈ TT := mT7 128 rfl rfl
set_option maxRecDepth 20000 in
theorem mlX12_353 : Cond.methodLink RX12 353 yX12_orderPartAt ∈ TT := mT7 132 rfl rfl
set_option maxRecDepth 20000 in
theorem mlX12_357 : Cond.methodLink RX12 357 yX12_partAt ∈ TT := mT7 136 rfl rfl
set_option maxRecDepth 20000 in
theorem mlX12_362 : Cond.methodLink RX12 362 yX12_leaf ∈ TT := mT7 141 rfl rfl
set_option maxRecDepth 20000 in
theorem mlX12_321 : Cond.methodLink RX12 321 yX12_emit ∈ TT := mT7 145 rfl rfl
set_option maxRecDepth 20000 in
theorem mlX12_368 : Cond.methodLink RX12 368 yX12_number ∈ TT := mT7 150 rfl rfl
set_option maxRecDepth 20000 in
theorem mlX12_394 : Cond.methodLink RX12 394 yX12_behindSum ∈ TT := mT7 154 rfl rfl
set_option maxRecDepth 20000 in
theorem mlX12_318 : Cond.methodLink RX12 318 yX12_binds ∈ TT := mT7 158 rfl rfl
set_option maxRecDepth 20000 in
theorem mlX12_377 : Cond.methodLink RX12 377 yX12_settle ∈ TT := mT7 161 rfl rfl
set_option maxRecDepth 20000 in
theorem mlX12_380 : Cond.methodLink RX12 380 yX12_inner ∈ TT := mT7 165 rfl rfl
set_option maxRecDepth 20000 in
theorem mlX12_383 : Cond.methodLink RX12 383 yX12_isCompared ∈ TT := mT7 169 rfl rfl
set_option maxRecDepth 20000 in
theorem mlX12_398 : Cond.methodLink RX12 398 yX12_behindTest ∈ TT := mT7 176 rfl rfl
set_option maxRecDepth 20000 in
theorem mlX12_418 : Cond.methodLink RX12 418 yX12_endText ∈ TT := mT7 183 rfl rfl
set_option maxRecDepth 20000 in
theorem mlL_81 : Cond.methodLink RL 81 yX12_force ∈ TT := mT7 187 rfl rfl
set_option maxRecDepth 20000 in
theorem mlX12_421 : Cond.methodLink RX12 421 yX12_isLaw ∈ TT := mT7 191 rfl rfl
set_option maxRecDepth 20000 in
theorem mlL_85 : Cond.methodLink RL 85 yX12_pull ∈ TT := mT7 195 rfl rfl
set_option maxRecDepth 20000 in
theorem mlX12_468 : Cond.methodLink RX12 468 yX12_pullNow ∈ TT := mT7 199 rfl rfl
set_option maxRecDepth 20000 in
theorem mlX12_461 : Cond.methodLink RX12 461 yX12_canPull ∈ TT := mT7 203 rfl rfl
set_option maxRecDepth 20000 in
theorem mlX12_458 : Cond.methodLink RX12 458 yX12_is ∈ TT := mT7 207 rfl rfl
set_option maxRecDepth 20000 in
theorem mlX12_465 : Cond.methodLink RX12 465 yX12_remember ∈ TT := mT7 210 rfl rfl
set_option maxRecDepth 20000 in
theorem mlX12_188 : Cond.methodLink RX12 188 yX12_keepAll ∈ TT := mT7 214 rfl rfl
set_option maxRecDepth 20000 in
theorem mlL_89 : Cond.methodLink RL 89 yX12_snap ∈ TT := mT7 218 rfl rfl
set_option maxRecDepth 20000 in
theorem mlX12_472 : Cond.methodLink RX12 472 yX12_snapNow ∈ TT := mT7 222 rfl rfl
set_option maxRecDepth 20000 in
theorem mlL_93 : Cond.methodLink RL 93 yX12_wed ∈ TT := mT7 226 rfl rfl
set_option maxRecDepth 20000 in
theorem mlX12_475 : Cond.methodLink RX12 475 yX12_wedNow ∈ TT := mT7 230 rfl rfl
set_option maxRecDepth 20000 in
theorem mlL_97 : Cond.methodLink RL 97 yX12_pass ∈ TT := mT7 234 rfl rfl
set_option maxRecDepth 20000 in
theorem mlX12_481 : Cond.methodLink RX12 481 yX12_passNow ∈ TT := mT7 238 rfl rfl
set_option maxRecDepth 20000 in
theorem mlX12_478 : Cond.methodLink RX12 478 yX12_passIt ∈ TT := mT8 2 rfl rfl
set_option maxRecDepth 20000 in
theorem mlL_105 : Cond.methodLink RL 105 yX12_hear ∈ TT := mT8 6 rfl rfl
set_option maxRecDepth 20000 in
theorem mlL_109 : Cond.methodLink RL 109 yX12_forget ∈ TT := mT8 10 rfl rfl
set_option maxRecDepth 20000 in
theorem mlL_113 : Cond.methodLink RL 113 yX12_which ∈ TT := mT8 14 rfl rfl
set_option maxRecDepth 20000 in
theorem mlX12_484 : Cond.methodLink RX12 484 yX12_whichAre ∈ TT := mT8 18 rfl rfl
set_option maxRecDepth 20000 in
theorem mlL_117 : Cond.methodLink RL 117 yX12_listen ∈ TT := mT8 22 rfl rfl
set_option maxRecDepth 20000 in
theorem mlL_121 : Cond.methodLink RL 121 yX12_steady ∈ TT := mT8 27 rfl rfl
set_option maxRecDepth 20000 in
theorem mlX12_497 : Cond.methodLink RX12 497 yX12_laySteady ∈ TT := mT8 31 rfl rfl
set_option maxRecDepth 20000 in
theorem mlX12_488 : Cond.methodLink RX12 488 yX12_layTwos ∈ TT := mT8 35 rfl rfl
set_option maxRecDepth 20000 in
theorem mlX12_491 : Cond.methodLink RX12 491 yX12_nearest ∈ TT := mT8 39 rfl rfl
set_option maxRecDepth 20000 in
theorem mlX12_494 : Cond.methodLink RX12 494 yX12_keptBy ∈ TT := mT8 43 rfl rfl
set_option maxRecDepth 20000 in
theorem mlL_125 : Cond.methodLink RL 125 yX12_about ∈ TT := mT8 47 rfl rfl
set_option maxRecDepth 20000 in
theorem mlX12_505 : Cond.methodLink RX12 505 yX12_layAbout ∈ TT := mT8 51 rfl rfl
set_option maxRecDepth 20000 in
theorem mlX12_501 : Cond.methodLink RX12 501 yX12_withSuitor ∈ TT := mT8 55 rfl rfl
set_option maxRecDepth 20000 in
theorem mlL_129 : Cond.methodLink RL 129 yX12_keep ∈ TT := mT8 60 rfl rfl
set_option maxRecDepth 20000 in
theorem mlX12_513 : Cond.methodLink RX12 513 yX12_layMore ∈ TT := mT8 65 rfl rfl
set_option maxRecDepth 20000 in
theorem mlX12_508 : Cond.methodLink RX12 508 yX12_leastNext ∈ TT := mT8 69 rfl rfl
set_option maxRecDepth 20000 in
theorem mlL_133 : Cond.methodLink RL 133 yX12_clash ∈ TT := mT8 73 rfl rfl
set_option maxRecDepth 20000 in
theorem mlX12_516 : Cond.methodLink RX12 516 yX12_areTwo ∈ TT := mT8 77 rfl rfl
set_option maxRecDepth 20000 in
theorem mlX12_519 : Cond.methodLink RX12 519 yX12_layClash ∈ TT := mT8 81 rfl rfl
set_option maxRecDepth 20000 in
theorem mlL_137 : Cond.methodLink RL 137 yX12_best ∈ TT := mT8 85 rfl rfl
set_option maxRecDepth 20000 in
theorem mlL_142 : Cond.methodLink RL 142 yX12_filed ∈ TT := mT8 89 rfl rfl
set_option maxRecDepth 20000 in
theorem mlL_146 : Cond.methodLink RL 146 yX12_shares ∈ TT := mT8 94 rfl rfl
set_option maxRecDepth 20000 in
theorem mlX12_526 : Cond.methodLink RX12 526 yX12_leastOf ∈ TT := mT8 99 rfl rfl
set_option maxRecDepth 20000 in
theorem mlL_150 : Cond.methodLink RL 150 yX12_again ∈ TT := mT8 103 rfl rfl
set_option maxRecDepth 20000 in
theorem mlL_154 : Cond.methodLink RL 154 yX12_ends ∈ TT := mT8 107 rfl rfl
set_option maxRecDepth 20000 in
theorem mlL_159 : Cond.methodLink RL 159 yX12_stands ∈ TT := mT8 111 rfl rfl
set_option maxRecDepth 20000 in
theorem mlL_163 : Cond.methodLink RL 163 yX12_compare ∈ TT := mT8 116 rfl rfl
set_option maxRecDepth 20000 in
theorem mlL_69 : Cond.methodLink RL 69 yX12_orders ∈ TT := mT8 120 rfl rfl
set_option maxRecDepth 20000 in
theorem mlX12_557 : Cond.methodLink RX12 557 yX12_readOrder ∈ TT := mT8 124 rfl rfl
set_option maxRecDepth 20000 in
theorem mlX12_531 : Cond.methodLink RX12 531 yX12_readSum ∈ TT := mT8 128 rfl rfl
set_option maxRecDepth 20000 in
theorem mlX12_534 : Cond.methodLink RX12 534 yX12_mustJoin ∈ TT := mT8 132 rfl rfl
set_option maxRecDepth 20000 in
theorem mlX12_560 : Cond.methodLink RX12 560 yX12_run ∈ TT := mT8 137 rfl rfl
set_option maxRecDepth 20000 in
theorem mlX12_548 : Cond.methodLink RX12 548 yX12_couples ∈ TT := mT8 141 rfl rfl
set_option maxRecDepth 20000 in
theorem mlX12_551 : Cond.methodLink RX12 551 yX12_sumOf ∈ TT := mT8 145 rfl rfl
set_option maxRecDepth 20000 in
theorem mlX12_554 : Cond.methodLink RX12 554 yX12_act ∈ TT := mT8 149 rfl rfl
set_option maxRecDepth 20000 in
theorem mlX12_563 : Cond.methodLink RX12 563 yX12_giveBack ∈ TT := mT8 153 rfl rfl
set_option maxRecDepth 20000 in
theorem mlL_77 : Cond.methodLink RL 77 yX12_stopped ∈ TT := mT8 157 rfl rfl
set_option maxRecDepth 20000 in
theorem mlL_167 : Cond.methodLink RL 167 yX12_generations ∈ TT := mT8 161 rfl rfl
set_option maxRecDepth 20000 in
theorem mlX12_575 : Cond.methodLink RX12 575 yX12_draw ∈ TT := mT8 165 rfl rfl
set_option maxRecDepth 20000 in
theorem mlL_171 : Cond.methodLink RL 171 yX12_drawn ∈ TT := mT8 172 rfl rfl
set_option maxRecDepth 20000 in
theorem mlL_183 : Cond.methodLink RL 183 yX12_count ∈ TT := mT8 176 rfl rfl
set_option maxRecDepth 20000 in
theorem mlL_187 : Cond.methodLink RL 187 yX12_status ∈ TT := mT8 182 rfl rfl
set_option maxRecDepth 20000 in
theorem flX4_9 : Cond.fieldLink RX4 9 "DowryBoxes$Matching" "apart" "[I" ∈ TT := mT1 38 rfl rfl
set_option maxRecDepth 20000 in
theorem flX4_15 : Cond.fieldLink RX4 15 "DowryBoxes$Matching" "likes" "[I" ∈ TT := mT1 39 rfl rfl
set_option maxRecDepth 20000 in
theorem flX4_18 : Cond.fieldLink RX4 18 "DowryBoxes$Matching" "asked" "[I" ∈ TT := mT1 40 rfl rfl
set_option maxRecDepth 20000 in
theorem flX4_21 : Cond.fieldLink RX4 21 "DowryBoxes$Matching" "keeps" "[I" ∈ TT := mT1 41 rfl rfl
set_option maxRecDepth 20000 in
theorem flX4_24 : Cond.fieldLink RX4 24 "DowryBoxes$Matching" "most" "[I" ∈ TT := mT1 42 rfl rfl
set_option maxRecDepth 20000 in
theorem flX4_27 : Cond.fieldLink RX4 27 "DowryBoxes$Matching" "row" "[I" ∈ TT := mT1 43 rfl rfl
set_option maxRecDepth 20000 in
theorem flX11_324 : Cond.fieldLink RX11 324 "DowryBoxes$Matching" "row" "[I" ∈ TT := mT1 44 rfl rfl
set_option maxRecDepth 20000 in
theorem flX8_9 : Cond.fieldLink RX8 9 "DowryBoxes$Tunes" "more" "[I" ∈ TT := mT1 66 rfl rfl
set_option maxRecDepth 20000 in
theorem flX8_15 : Cond.fieldLink RX8 15 "DowryBoxes$Tunes" "near" "[I" ∈ TT := mT1 67 rfl rfl
set_option maxRecDepth 20000 in
theorem flX8_18 : Cond.fieldLink RX8 18 "DowryBoxes$Tunes" "wider" "[I" ∈ TT := mT1 68 rfl rfl
set_option maxRecDepth 20000 in
theorem flX8_21 : Cond.fieldLink RX8 21 "DowryBoxes$Tunes" "row" "[I" ∈ TT := mT1 69 rfl rfl
set_option maxRecDepth 20000 in
theorem flX11_331 : Cond.fieldLink RX11 331 "DowryBoxes$Tunes" "row" "[I" ∈ TT := mT1 70 rfl rfl
set_option maxRecDepth 20000 in
theorem flX8_24 : Cond.fieldLink RX8 24 "DowryBoxes$Tunes" "against" "[I" ∈ TT := mT1 71 rfl rfl
set_option maxRecDepth 20000 in
theorem flX8_27 : Cond.fieldLink RX8 27 "DowryBoxes$Tunes" "filedTeeth" "I" ∈ TT := mT1 72 rfl rfl
set_option maxRecDepth 20000 in
theorem flX11_344 : Cond.fieldLink RX11 344 "DowryBoxes$Tunes" "filedTeeth" "I" ∈ TT := mT1 73 rfl rfl
set_option maxRecDepth 20000 in
theorem flX8_31 : Cond.fieldLink RX8 31 "DowryBoxes$Tunes" "filedOfOne" "I" ∈ TT := mT1 74 rfl rfl
set_option maxRecDepth 20000 in
theorem flX11_347 : Cond.fieldLink RX11 347 "DowryBoxes$Tunes" "filedOfOne" "I" ∈ TT := mT1 75 rfl rfl
set_option maxRecDepth 20000 in
theorem flX8_34 : Cond.fieldLink RX8 34 "DowryBoxes$Tunes" "filedOfOther" "I" ∈ TT := mT1 76 rfl rfl
set_option maxRecDepth 20000 in
theorem flX11_350 : Cond.fieldLink RX11 350 "DowryBoxes$Tunes" "filedOfOther" "I" ∈ TT := mT1 77 rfl rfl
set_option maxRecDepth 20000 in
theorem flX5_13 : Cond.fieldLink RX5 13 "DowryBoxes$Reader" "start" "[I" ∈ TT := mT1 101 rfl rfl
set_option maxRecDepth 20000 in
theorem flX5_17 : Cond.fieldLink RX5 17 "DowryBoxes$Reader" "token" "[I" ∈ TT := mT1 102 rfl rfl
set_option maxRecDepth 20000 in
theorem flX5_20 : Cond.fieldLink RX5 20 "DowryBoxes$Reader" "number" "[I" ∈ TT := mT1 103 rfl rfl
set_option maxRecDepth 20000 in
theorem flX5_23 : Cond.fieldLink RX5 23 "DowryBoxes$Reader" "last" "I" ∈ TT := mT1 104 rfl rfl
set_option maxRecDepth 20000 in
theorem flX5_27 : Cond.fieldLink RX5 27 "DowryBoxes$Reader" "next" "I" ∈ TT := mT1 105 rfl rfl
set_option maxRecDepth 20000 in
theorem flX5_30 : Cond.fieldLink RX5 30 "DowryBoxes$Reader" "parts" "I" ∈ TT := mT1 106 rfl rfl
set_option maxRecDepth 20000 in
theorem flX5_33 : Cond.fieldLink RX5 33 "DowryBoxes$Reader" "ofOrders" "Z" ∈ TT := mT1 107 rfl rfl
set_option maxRecDepth 20000 in
theorem flX7_13 : Cond.fieldLink RX7 13 "DowryBoxes$Reader" "kind" "[I" ∈ TT := mT1 108 rfl rfl
set_option maxRecDepth 20000 in
theorem flX5_37 : Cond.fieldLink RX5 37 "DowryBoxes$Reader" "kind" "[I" ∈ TT := mT1 109 rfl rfl
set_option maxRecDepth 20000 in
theorem flX7_26 : Cond.fieldLink RX7 26 "DowryBoxes$Reader" "times" "[I" ∈ TT := mT1 110 rfl rfl
set_option maxRecDepth 20000 in
theorem flX5_40 : Cond.fieldLink RX5 40 "DowryBoxes$Reader" "times" "[I" ∈ TT := mT1 111 rfl rfl
set_option maxRecDepth 20000 in
theorem flX7_30 : Cond.fieldLink RX7 30 "DowryBoxes$Reader" "begin" "[I" ∈ TT := mT1 112 rfl rfl
set_option maxRecDepth 20000 in
theorem flX5_43 : Cond.fieldLink RX5 43 "DowryBoxes$Reader" "begin" "[I" ∈ TT := mT1 113 rfl rfl
set_option maxRecDepth 20000 in
theorem flX7_34 : Cond.fieldLink RX7 34 "DowryBoxes$Reader" "item" "[I" ∈ TT := mT1 114 rfl rfl
set_option maxRecDepth 20000 in
theorem flX5_46 : Cond.fieldLink RX5 46 "DowryBoxes$Reader" "item" "[I" ∈ TT := mT1 115 rfl rfl
set_option maxRecDepth 20000 in
theorem flX7_41 : Cond.fieldLink RX7 41 "DowryBoxes$Reader" "worth" "[I" ∈ TT := mT1 116 rfl rfl
set_option maxRecDepth 20000 in
theorem flX5_49 : Cond.fieldLink RX5 49 "DowryBoxes$Reader" "worth" "[I" ∈ TT := mT1 117 rfl rfl
set_option maxRecDepth 20000 in
theorem flX7_37 : Cond.fieldLink RX7 37 "DowryBoxes$Reader" "items" "I" ∈ TT := mT1 118 rfl rfl
set_option maxRecDepth 20000 in
theorem flX5_52 : Cond.fieldLink RX5 52 "DowryBoxes$Reader" "items" "I" ∈ TT := mT1 119 rfl rfl
set_option maxRecDepth 20000 in
theorem flX5_55 : Cond.fieldLink RX5 55 "DowryBoxes$Reader" "faultAt" "I" ∈ TT := mT1 120 rfl rfl
set_option maxRecDepth 20000 in
theorem flX11_245 : Cond.fieldLink RX11 245 "DowryBoxes$Reader" "faultAt" "I" ∈ TT := mT1 121 rfl rfl
set_option maxRecDepth 20000 in
theorem flX7_7 : Cond.fieldLink RX7 7 "DowryBoxes$Text" "clauses" "I" ∈ TT := mT1 174 rfl rfl
set_option maxRecDepth 20000 in
theorem flX3_75 : Cond.fieldLink RX3 75 "DowryBoxes$Text" "clauses" "I" ∈ TT := mT1 175 rfl rfl
set_option maxRecDepth 20000 in
theorem flX11_229 : Cond.fieldLink RX11 229 "DowryBoxes$Text" "clauses" "I" ∈ TT := mT1 176 rfl rfl
set_option maxRecDepth 20000 in
theorem flX7_25 : Cond.fieldLink RX7 25 "DowryBoxes$Text" "kind" "[I" ∈ TT := mT1 177 rfl rfl
set_option maxRecDepth 20000 in
theorem flX3_79 : Cond.fieldLink RX3 79 "DowryBoxes$Text" "kind" "[I" ∈ TT := mT1 178 rfl rfl
set_option maxRecDepth 20000 in
theorem flX0_150 : Cond.fieldLink RX0 150 "DowryBoxes$Text" "kind" "[I" ∈ TT := mT1 179 rfl rfl
set_option maxRecDepth 20000 in
theorem flX7_29 : Cond.fieldLink RX7 29 "DowryBoxes$Text" "times" "[I" ∈ TT := mT1 180 rfl rfl
set_option maxRecDepth 20000 in
theorem flX11_232 : Cond.fieldLink RX11 232 "DowryBoxes$Text" "times" "[I" ∈ TT := mT1 181 rfl rfl
set_option maxRecDepth 20000 in
theorem flX7_33 : Cond.fieldLink RX7 33 "DowryBoxes$Text" "begin" "[I" ∈ TT := mT1 182 rfl rfl
set_option maxRecDepth 20000 in
theorem flX3_82 : Cond.fieldLink RX3 82 "DowryBoxes$Text" "begin" "[I" ∈ TT := mT1 183 rfl rfl
set_option maxRecDepth 20000 in
theorem flX0_142 : Cond.fieldLink RX0 142 "DowryBoxes$Text" "begin" "[I" ∈ TT := mT1 184 rfl rfl
set_option maxRecDepth 20000 in
theorem flX7_40 : Cond.fieldLink RX7 40 "DowryBoxes$Text" "item" "[I" ∈ TT := mT1 185 rfl rfl
set_option maxRecDepth 20000 in
theorem flX6_15 : Cond.fieldLink RX6 15 "DowryBoxes$Text" "item" "[I" ∈ TT := mT1 186 rfl rfl
set_option maxRecDepth 20000 in
theorem flX7_44 : Cond.fieldLink RX7 44 "DowryBoxes$Text" "worth" "[I" ∈ TT := mT1 187 rfl rfl
set_option maxRecDepth 20000 in
theorem flX6_20 : Cond.fieldLink RX6 20 "DowryBoxes$Text" "worth" "[I" ∈ TT := mT1 188 rfl rfl
set_option maxRecDepth 20000 in
theorem flX9_9 : Cond.fieldLink RX9 9 "DowryBoxes$Valley" "boxes" "I" ∈ TT := mT1 216 rfl rfl
set_option maxRecDepth 20000 in
theorem flX4_42 : Cond.fieldLink RX4 42 "DowryBoxes$Valley" "boxes" "I" ∈ TT := mT1 217 rfl rfl
set_option maxRecDepth 20000 in
theorem flX11_120 : Cond.fieldLink RX11 120 "DowryBoxes$Valley" "boxes" "I" ∈ TT := mT1 218 rfl rfl
set_option maxRecDepth 20000 in
theorem flX1_37 : Cond.fieldLink RX1 37 "DowryBoxes$Valley" "boxes" "I" ∈ TT := mT1 219 rfl rfl
set_option maxRecDepth 20000 in
theorem flX0_117 : Cond.fieldLink RX0 117 "DowryBoxes$Valley" "boxes" "I" ∈ TT := mT1 220 rfl rfl
set_option maxRecDepth 20000 in
theorem flX10_75 : Cond.fieldLink RX10 75 "DowryBoxes$Valley" "boxes" "I" ∈ TT := mT1 221 rfl rfl
set_option maxRecDepth 20000 in
theorem flX9_15 : Cond.fieldLink RX9 15 "DowryBoxes$Valley" "pins" "[I" ∈ TT := mT1 222 rfl rfl
set_option maxRecDepth 20000 in
theorem flX8_37 : Cond.fieldLink RX8 37 "DowryBoxes$Valley" "pins" "[I" ∈ TT := mT1 223 rfl rfl
set_option maxRecDepth 20000 in
theorem flX0_68 : Cond.fieldLink RX0 68 "DowryBoxes$Valley" "pins" "[I" ∈ TT := mT1 224 rfl rfl
set_option maxRecDepth 20000 in
theorem flX11_169 : Cond.fieldLink RX11 169 "DowryBoxes$Valley" "pins" "[I" ∈ TT := mT1 225 rfl rfl
set_option maxRecDepth 20000 in
theorem flX1_64 : Cond.fieldLink RX1 64 "DowryBoxes$Valley" "pins" "[I" ∈ TT := mT1 226 rfl rfl
set_option maxRecDepth 20000 in
theorem flX9_19 : Cond.fieldLink RX9 19 "DowryBoxes$Valley" "broken" "[I" ∈ TT := mT1 227 rfl rfl
set_option maxRecDepth 20000 in
theorem flX0_81 : Cond.fieldLink RX0 81 "DowryBoxes$Valley" "broken" "[I" ∈ TT := mT1 228 rfl rfl
set_option maxRecDepth 20000 in
theorem flX11_147 : Cond.fieldLink RX11 147 "DowryBoxes$Valley" "broken" "[I" ∈ TT := mT1 229 rfl rfl
set_option maxRecDepth 20000 in
theorem flX1_67 : Cond.fieldLink RX1 67 "DowryBoxes$Valley" "broken" "[I" ∈ TT := mT1 230 rfl rfl
set_option maxRecDepth 20000 in
theorem flX3_50 : Cond.fieldLink RX3 50 "DowryBoxes$Valley" "broken" "[I" ∈ TT := mT1 231 rfl rfl
set_option maxRecDepth 20000 in
theorem flX9_22 : Cond.fieldLink RX9 22 "DowryBoxes$Valley" "spring" "[I" ∈ TT := mT1 232 rfl rfl
set_option maxRecDepth 20000 in
theorem flX3_25 : Cond.fieldLink RX3 25 "DowryBoxes$Valley" "spring" "[I" ∈ TT := mT1 233 rfl rfl
set_option maxRecDepth 20000 in
theorem flX11_134 : Cond.fieldLink RX11 134 "DowryBoxes$Valley" "spring" "[I" ∈ TT := mT1 234 rfl rfl
set_option maxRecDepth 20000 in
theorem flX1_70 : Cond.fieldLink RX1 70 "DowryBoxes$Valley" "spring" "[I" ∈ TT := mT1 235 rfl rfl
set_option maxRecDepth 20000 in
theorem flX0_120 : Cond.fieldLink RX0 120 "DowryBoxes$Valley" "spring" "[I" ∈ TT := mT1 236 rfl rfl
set_option maxRecDepth 20000 in
theorem flX9_25 : Cond.fieldLink RX9 25 "DowryBoxes$Valley" "mate" "[I" ∈ TT := mT1 237 rfl rfl
set_option maxRecDepth 20000 in
theorem flX4_61 : Cond.fieldLink RX4 61 "DowryBoxes$Valley" "mate" "[I" ∈ TT := mT1 238 rfl rfl
set_option maxRecDepth 20000 in
theorem flX11_150 : Cond.fieldLink RX11 150 "DowryBoxes$Valley" "mate" "[I" ∈ TT := mT1 239 rfl rfl
set_option maxRecDepth 20000 in
theorem flX0_87 : Cond.fieldLink RX0 87 "DowryBoxes$Valley" "mate" "[I" ∈ TT := mT2 0 rfl rfl
set_option maxRecDepth 20000 in
theorem flX9_28 : Cond.fieldLink RX9 28 "DowryBoxes$Valley" "left" "[I" ∈ TT := mT2 1 rfl rfl
set_option maxRecDepth 20000 in
theorem flX11_153 : Cond.fieldLink RX11 153 "DowryBoxes$Valley" "left" "[I" ∈ TT := mT2 2 rfl rfl
set_option maxRecDepth 20000 in
theorem flX0_107 : Cond.fieldLink RX0 107 "DowryBoxes$Valley" "left" "[I" ∈ TT := mT2 3 rfl rfl
set_option maxRecDepth 20000 in
theorem flX9_31 : Cond.fieldLink RX9 31 "DowryBoxes$Valley" "term" "[I" ∈ TT := mT2 4 rfl rfl
set_option maxRecDepth 20000 in
theorem flX1_33 : Cond.fieldLink RX1 33 "DowryBoxes$Valley" "term" "[I" ∈ TT := mT2 5 rfl rfl
set_option maxRecDepth 20000 in
theorem flX0_110 : Cond.fieldLink RX0 110 "DowryBoxes$Valley" "term" "[I" ∈ TT := mT2 6 rfl rfl
set_option maxRecDepth 20000 in
theorem flX3_58 : Cond.fieldLink RX3 58 "DowryBoxes$Valley" "term" "[I" ∈ TT := mT2 7 rfl rfl
set_option maxRecDepth 20000 in
theorem flX11_208 : Cond.fieldLink RX11 208 "DowryBoxes$Valley" "term" "[I" ∈ TT := mT2 8 rfl rfl
set_option maxRecDepth 20000 in
theorem flX10_12 : Cond.fieldLink RX10 12 "DowryBoxes$Village" "valley" "LDowryBoxes$Valley;" ∈ TT := mT2 26 rfl rfl
set_option maxRecDepth 20000 in
theorem flX0_53 : Cond.fieldLink RX0 53 "DowryBoxes$Village" "valley" "LDowryBoxes$Valley;" ∈ TT := mT2 27 rfl rfl
set_option maxRecDepth 20000 in
theorem flX1_26 : Cond.fieldLink RX1 26 "DowryBoxes$Village" "valley" "LDowryBoxes$Valley;" ∈ TT := mT2 28 rfl rfl
set_option maxRecDepth 20000 in
theorem flX4_36 : Cond.fieldLink RX4 36 "DowryBoxes$Village" "valley" "LDowryBoxes$Valley;" ∈ TT := mT2 29 rfl rfl
set_option maxRecDepth 20000 in
theorem flX11_116 : Cond.fieldLink RX11 116 "DowryBoxes$Village" "valley" "LDowryBoxes$Valley;" ∈ TT := mT2 30 rfl rfl
set_option maxRecDepth 20000 in
theorem flX3_61 : Cond.fieldLink RX3 61 "DowryBoxes$Village" "valley" "LDowryBoxes$Valley;" ∈ TT := mT2 31 rfl rfl
set_option maxRecDepth 20000 in
theorem flX10_18 : Cond.fieldLink RX10 18 "DowryBoxes$Village" "suitors" "I" ∈ TT := mT2 32 rfl rfl
set_option maxRecDepth 20000 in
theorem flX4_58 : Cond.fieldLink RX4 58 "DowryBoxes$Village" "suitors" "I" ∈ TT := mT2 33 rfl rfl
set_option maxRecDepth 20000 in
theorem flX11_178 : Cond.fieldLink RX11 178 "DowryBoxes$Village" "suitors" "I" ∈ TT := mT2 34 rfl rfl
set_option maxRecDepth 20000 in
theorem flX10_22 : Cond.fieldLink RX10 22 "DowryBoxes$Village" "ear" "[I" ∈ TT := mT2 35 rfl rfl
set_option maxRecDepth 20000 in
theorem flX11_181 : Cond.fieldLink RX11 181 "DowryBoxes$Village" "ear" "[I" ∈ TT := mT2 36 rfl rfl
set_option maxRecDepth 20000 in
theorem flX3_65 : Cond.fieldLink RX3 65 "DowryBoxes$Village" "ear" "[I" ∈ TT := mT2 37 rfl rfl
set_option maxRecDepth 20000 in
theorem flX10_26 : Cond.fieldLink RX10 26 "DowryBoxes$Village" "wants" "[I" ∈ TT := mT2 38 rfl rfl
set_option maxRecDepth 20000 in
theorem flX4_72 : Cond.fieldLink RX4 72 "DowryBoxes$Village" "wants" "[I" ∈ TT := mT2 39 rfl rfl
set_option maxRecDepth 20000 in
theorem flX11_184 : Cond.fieldLink RX11 184 "DowryBoxes$Village" "wants" "[I" ∈ TT := mT2 40 rfl rfl
set_option maxRecDepth 20000 in
theorem flX3_72 : Cond.fieldLink RX3 72 "DowryBoxes$Village" "wants" "[I" ∈ TT := mT2 41 rfl rfl
set_option maxRecDepth 20000 in
theorem flX10_29 : Cond.fieldLink RX10 29 "DowryBoxes$Village" "heard" "I" ∈ TT := mT2 42 rfl rfl
set_option maxRecDepth 20000 in
theorem flX11_275 : Cond.fieldLink RX11 275 "DowryBoxes$Village" "heard" "I" ∈ TT := mT2 43 rfl rfl
set_option maxRecDepth 20000 in
theorem flX10_32 : Cond.fieldLink RX10 32 "DowryBoxes$Village" "heardBar" "[I" ∈ TT := mT2 44 rfl rfl
set_option maxRecDepth 20000 in
theorem flX11_278 : Cond.fieldLink RX11 278 "DowryBoxes$Village" "heardBar" "[I" ∈ TT := mT2 45 rfl rfl
set_option maxRecDepth 20000 in
theorem flX10_35 : Cond.fieldLink RX10 35 "DowryBoxes$Village" "heardTooth" "[I" ∈ TT := mT2 46 rfl rfl
set_option maxRecDepth 20000 in
theorem flX11_281 : Cond.fieldLink RX11 281 "DowryBoxes$Village" "heardTooth" "[I" ∈ TT := mT2 47 rfl rfl
set_option maxRecDepth 20000 in
theorem flX10_38 : Cond.fieldLink RX10 38 "DowryBoxes$Village" "heardSounded" "[I" ∈ TT := mT2 48 rfl rfl
set_option maxRecDepth 20000 in
theorem flX11_284 : Cond.fieldLink RX11 284 "DowryBoxes$Village" "heardSounded" "[I" ∈ TT := mT2 49 rfl rfl
set_option maxRecDepth 20000 in
theorem flX10_41 : Cond.fieldLink RX10 41 "DowryBoxes$Village" "laws" "I" ∈ TT := mT2 50 rfl rfl
set_option maxRecDepth 20000 in
theorem flX11_215 : Cond.fieldLink RX11 215 "DowryBoxes$Village" "laws" "I" ∈ TT := mT2 51 rfl rfl
set_option maxRecDepth 20000 in
theorem flX10_46 : Cond.fieldLink RX10 46 "DowryBoxes$Village" "lawTexts" "[LDowryBoxes$Text;" ∈ TT := mT2 52 rfl rfl
set_option maxRecDepth 20000 in
theorem flX11_222 : Cond.fieldLink RX11 222 "DowryBoxes$Village" "lawTexts" "[LDowryBoxes$Text;" ∈ TT := mT2 53 rfl rfl
set_option maxRecDepth 20000 in
theorem flX10_53 : Cond.fieldLink RX10 53 "DowryBoxes$Village" "noLaw" "LDowryBoxes$Text;" ∈ TT := mT2 54 rfl rfl
set_option maxRecDepth 20000 in
theorem flX10_50 : Cond.fieldLink RX10 50 "DowryBoxes$Village" "inForce" "I" ∈ TT := mT2 55 rfl rfl
set_option maxRecDepth 20000 in
theorem flX11_251 : Cond.fieldLink RX11 251 "DowryBoxes$Village" "inForce" "I" ∈ TT := mT2 56 rfl rfl
set_option maxRecDepth 20000 in
theorem flX6_11 : Cond.fieldLink RX6 11 "DowryBoxes$Sums" "stack" "[I" ∈ TT := mT2 88 rfl rfl
set_option maxRecDepth 20000 in
theorem flX3_17 : Cond.fieldLink RX3 17 "DowryBoxes$Judge" "sums" "LDowryBoxes$Sums;" ∈ TT := mT2 98 rfl rfl
set_option maxRecDepth 20000 in
theorem flX3_11 : Cond.fieldLink RX3 11 "DowryBoxes$Judge" "words" "[I" ∈ TT := mT2 99 rfl rfl
set_option maxRecDepth 20000 in
theorem flX2_9 : Cond.fieldLink RX2 9 "DowryBoxes$History" "size" "I" ∈ TT := mT2 120 rfl rfl
set_option maxRecDepth 20000 in
theorem flX11_395 : Cond.fieldLink RX11 395 "DowryBoxes$History" "size" "I" ∈ TT := mT2 121 rfl rfl
set_option maxRecDepth 20000 in
theorem flX2_15 : Cond.fieldLink RX2 15 "DowryBoxes$History" "first" "I" ∈ TT := mT2 122 rfl rfl
set_option maxRecDepth 20000 in
theorem flX2_18 : Cond.fieldLink RX2 18 "DowryBoxes$History" "kinds" "[I" ∈ TT := mT2 123 rfl rfl
set_option maxRecDepth 20000 in
theorem flX2_24 : Cond.fieldLink RX2 24 "DowryBoxes$History" "before" "[LDowryBoxes$Valley;" ∈ TT := mT2 124 rfl rfl
set_option maxRecDepth 20000 in
theorem flX0_41 : Cond.fieldLink RX0 41 "DowryBoxes$Deeds" "now" "LDowryBoxes$Village;" ∈ TT := mT2 136 rfl rfl
set_option maxRecDepth 20000 in
theorem flX0_45 : Cond.fieldLink RX0 45 "DowryBoxes$Deeds" "judge" "LDowryBoxes$Judge;" ∈ TT := mT2 137 rfl rfl
set_option maxRecDepth 20000 in
theorem flX0_49 : Cond.fieldLink RX0 49 "DowryBoxes$Deeds" "sums" "LDowryBoxes$Sums;" ∈ TT := mT2 138 rfl rfl
set_option maxRecDepth 20000 in
theorem flX0_12 : Cond.fieldLink RX0 12 "DowryBoxes$Deeds" "history" "LDowryBoxes$History;" ∈ TT := mT2 139 rfl rfl
set_option maxRecDepth 20000 in
theorem flX11_125 : Cond.fieldLink RX11 125 "DowryBoxes$Deeds" "history" "LDowryBoxes$History;" ∈ TT := mT2 140 rfl rfl
set_option maxRecDepth 20000 in
theorem flX0_20 : Cond.fieldLink RX0 20 "DowryBoxes$Deeds" "words" "[I" ∈ TT := mT2 141 rfl rfl
set_option maxRecDepth 20000 in
theorem flX0_27 : Cond.fieldLink RX0 27 "DowryBoxes$Deeds" "valleyAhead" "LDowryBoxes$Valley;" ∈ TT := mT2 142 rfl rfl
set_option maxRecDepth 20000 in
theorem flX0_31 : Cond.fieldLink RX0 31 "DowryBoxes$Deeds" "historyAhead" "LDowryBoxes$History;" ∈ TT := mT2 143 rfl rfl
set_option maxRecDepth 20000 in
theorem flX0_34 : Cond.fieldLink RX0 34 "DowryBoxes$Deeds" "done" "I" ∈ TT := mT2 144 rfl rfl
set_option maxRecDepth 20000 in
theorem flX11_242 : Cond.fieldLink RX11 242 "DowryBoxes$Deeds" "done" "I" ∈ TT := mT2 145 rfl rfl
set_option maxRecDepth 20000 in
theorem flX0_38 : Cond.fieldLink RX0 38 "DowryBoxes$Deeds" "latest" "I" ∈ TT := mT2 146 rfl rfl
set_option maxRecDepth 20000 in
theorem flX1_22 : Cond.fieldLink RX1 22 "DowryBoxes$Generations" "deeds" "LDowryBoxes$Deeds;" ∈ TT := mT2 174 rfl rfl
set_option maxRecDepth 20000 in
theorem flX1_12 : Cond.fieldLink RX1 12 "DowryBoxes$Generations" "valley" "LDowryBoxes$Valley;" ∈ TT := mT2 175 rfl rfl
set_option maxRecDepth 20000 in
theorem flX11_388 : Cond.fieldLink RX11 388 "DowryBoxes$Generations" "valley" "LDowryBoxes$Valley;" ∈ TT := mT2 176 rfl rfl
set_option maxRecDepth 20000 in
theorem flX1_18 : Cond.fieldLink RX1 18 "DowryBoxes$Generations" "state" "I" ∈ TT := mT2 177 rfl rfl
set_option maxRecDepth 20000 in
theorem flX11_91 : Cond.fieldLink RX11 91 "DowryBoxes" "now" "LDowryBoxes$Village;" ∈ TT := mT2 185 rfl rfl
set_option maxRecDepth 20000 in
theorem flX11_11 : Cond.fieldLink RX11 11 "DowryBoxes" "images" "[LDowryBoxes$Village;" ∈ TT := mT2 186 rfl rfl
set_option maxRecDepth 20000 in
theorem flX11_15 : Cond.fieldLink RX11 15 "DowryBoxes" "imageKept" "[Z" ∈ TT := mT2 187 rfl rfl
set_option maxRecDepth 20000 in
theorem flX11_95 : Cond.fieldLink RX11 95 "DowryBoxes" "judge" "LDowryBoxes$Judge;" ∈ TT := mT2 188 rfl rfl
set_option maxRecDepth 20000 in
theorem flX11_99 : Cond.fieldLink RX11 99 "DowryBoxes" "deeds" "LDowryBoxes$Deeds;" ∈ TT := mT2 189 rfl rfl
set_option maxRecDepth 20000 in
theorem flX11_108 : Cond.fieldLink RX11 108 "DowryBoxes" "paper" "LDowryBoxes$Generations;" ∈ TT := mT2 190 rfl rfl
set_option maxRecDepth 20000 in
theorem flX11_22 : Cond.fieldLink RX11 22 "DowryBoxes" "matching" "LDowryBoxes$Matching;" ∈ TT := mT2 191 rfl rfl
set_option maxRecDepth 20000 in
theorem flX11_29 : Cond.fieldLink RX11 29 "DowryBoxes" "tunes" "LDowryBoxes$Tunes;" ∈ TT := mT2 192 rfl rfl
set_option maxRecDepth 20000 in
theorem flX11_87 : Cond.fieldLink RX11 87 "DowryBoxes" "reader" "LDowryBoxes$Reader;" ∈ TT := mT2 193 rfl rfl
set_option maxRecDepth 20000 in
theorem flX11_33 : Cond.fieldLink RX11 33 "DowryBoxes" "tape" "[I" ∈ TT := mT2 194 rfl rfl
set_option maxRecDepth 20000 in
theorem flX11_37 : Cond.fieldLink RX11 37 "DowryBoxes" "tapeBytes" "I" ∈ TT := mT2 195 rfl rfl
set_option maxRecDepth 20000 in
theorem flX11_41 : Cond.fieldLink RX11 41 "DowryBoxes" "rusty" "I" ∈ TT := mT2 196 rfl rfl
set_option maxRecDepth 20000 in
theorem flX11_44 : Cond.fieldLink RX11 44 "DowryBoxes" "stoppedAt" "I" ∈ TT := mT2 197 rfl rfl
set_option maxRecDepth 20000 in
theorem flX11_47 : Cond.fieldLink RX11 47 "DowryBoxes" "refusedBy" "I" ∈ TT := mT2 198 rfl rfl
set_option maxRecDepth 20000 in
theorem flX11_50 : Cond.fieldLink RX11 50 "DowryBoxes" "refusals" "[I" ∈ TT := mT2 199 rfl rfl
set_option maxRecDepth 20000 in
theorem flX11_53 : Cond.fieldLink RX11 53 "DowryBoxes" "parts" "[J" ∈ TT := mT2 200 rfl rfl
set_option maxRecDepth 20000 in
theorem flX11_57 : Cond.fieldLink RX11 57 "DowryBoxes" "lasting" "[I" ∈ TT := mT2 201 rfl rfl
set_option maxRecDepth 20000 in
theorem flX11_60 : Cond.fieldLink RX11 60 "DowryBoxes" "shareRow" "[I" ∈ TT := mT2 202 rfl rfl
set_option maxRecDepth 20000 in
theorem flX11_205 : Cond.fieldLink RX11 205 "DowryBoxes" "MOST_OF_TERM" "[I" ∈ TT := mT3 139 rfl rfl
set_option maxRecDepth 20000 in
theorem flJ0_38 : Cond.fieldLink RJ0 38 "java/lang/String" "COMPACT_STRINGS" "Z" ∈ TT := mT3 194 rfl rfl
set_option maxRecDepth 20000 in
theorem flJ0_1053 : Cond.fieldLink RJ0 1053 "jdk/internal/util/Preconditions" "SIOOBE_FORMATTER" "Ljava/util/function/BiFunction;" ∈ TT := mT3 210 rfl rfl
set_option maxRecDepth 20000 in
theorem flJ2_44 : Cond.fieldLink RJ2 44 "java/lang/StringUTF16" "$assertionsDisabled" "Z" ∈ TT := mT3 228 rfl rfl
set_option maxRecDepth 20000 in
theorem flJ2_59 : Cond.fieldLink RJ2 59 "java/lang/StringUTF16" "HI_BYTE_SHIFT" "I" ∈ TT := mT3 230 rfl rfl
set_option maxRecDepth 20000 in
theorem flJ2_63 : Cond.fieldLink RJ2 63 "java/lang/StringUTF16" "LO_BYTE_SHIFT" "I" ∈ TT := mT3 232 rfl rfl
set_option maxRecDepth 20000 in
theorem flX12_175 : Cond.fieldLink RX12 175 "DowryBoxesModel" "thrown" "I" ∈ TT := mT5 200 rfl rfl
set_option maxRecDepth 20000 in
theorem flX12_178 : Cond.fieldLink RX12 178 "DowryBoxesModel" "status" "I" ∈ TT := mT5 201 rfl rfl
set_option maxRecDepth 20000 in
theorem flX12_7 : Cond.fieldLink RX12 7 "DowryBoxesModel" "refusals" "[I" ∈ TT := mT5 202 rfl rfl
set_option maxRecDepth 20000 in
theorem flX12_13 : Cond.fieldLink RX12 13 "DowryBoxesModel" "row" "[I" ∈ TT := mT5 203 rfl rfl
set_option maxRecDepth 20000 in
theorem flX12_16 : Cond.fieldLink RX12 16 "DowryBoxesModel" "images" "[I" ∈ TT := mT5 204 rfl rfl
set_option maxRecDepth 20000 in
theorem flX12_19 : Cond.fieldLink RX12 19 "DowryBoxesModel" "isKept" "[Z" ∈ TT := mT5 205 rfl rfl
set_option maxRecDepth 20000 in
theorem flX12_23 : Cond.fieldLink RX12 23 "DowryBoxesModel" "undos" "[I" ∈ TT := mT5 206 rfl rfl
set_option maxRecDepth 20000 in
theorem flX12_26 : Cond.fieldLink RX12 26 "DowryBoxesModel" "sorts" "[I" ∈ TT := mT5 207 rfl rfl
set_option maxRecDepth 20000 in
theorem flX12_181 : Cond.fieldLink RX12 181 "DowryBoxesModel" "nUndo" "I" ∈ TT := mT5 208 rfl rfl
set_option maxRecDepth 20000 in
theorem flX12_29 : Cond.fieldLink RX12 29 "DowryBoxesModel" "undosBefore" "[I" ∈ TT := mT5 209 rfl rfl
set_option maxRecDepth 20000 in
theorem flX12_32 : Cond.fieldLink RX12 32 "DowryBoxesModel" "sortsBefore" "[I" ∈ TT := mT5 210 rfl rfl
set_option maxRecDepth 20000 in
theorem flX12_266 : Cond.fieldLink RX12 266 "DowryBoxesModel" "rust" "I" ∈ TT := mT5 211 rfl rfl
set_option maxRecDepth 20000 in
theorem flX12_35 : Cond.fieldLink RX12 35 "DowryBoxesModel" "tape" "[I" ∈ TT := mT5 212 rfl rfl
set_option maxRecDepth 20000 in
theorem flX12_263 : Cond.fieldLink RX12 263 "DowryBoxesModel" "taped" "I" ∈ TT := mT5 213 rfl rfl
set_option maxRecDepth 20000 in
theorem flX12_282 : Cond.fieldLink RX12 282 "DowryBoxesModel" "from" "I" ∈ TT := mT5 214 rfl rfl
set_option maxRecDepth 20000 in
theorem flX12_272 : Cond.fieldLink RX12 272 "DowryBoxesModel" "to" "I" ∈ TT := mT5 215 rfl rfl
set_option maxRecDepth 20000 in
theorem flX12_295 : Cond.fieldLink RX12 295 "DowryBoxesModel" "sort" "I" ∈ TT := mT5 216 rfl rfl
set_option maxRecDepth 20000 in
theorem flX12_285 : Cond.fieldLink RX12 285 "DowryBoxesModel" "worth" "J" ∈ TT := mT5 217 rfl rfl
set_option maxRecDepth 20000 in
theorem flX12_38 : Cond.fieldLink RX12 38 "DowryBoxesModel" "fault" "I" ∈ TT := mT5 218 rfl rfl
set_option maxRecDepth 20000 in
theorem flX12_275 : Cond.fieldLink RX12 275 "DowryBoxesModel" "bad" "Z" ∈ TT := mT5 219 rfl rfl
set_option maxRecDepth 20000 in
theorem flX12_350 : Cond.fieldLink RX12 350 "DowryBoxesModel" "ordered" "Z" ∈ TT := mT5 220 rfl rfl
set_option maxRecDepth 20000 in
theorem flX12_404 : Cond.fieldLink RX12 404 "DowryBoxesModel" "nClauses" "I" ∈ TT := mT5 221 rfl rfl
set_option maxRecDepth 20000 in
theorem flX12_42 : Cond.fieldLink RX12 42 "DowryBoxesModel" "nClause" "[I" ∈ TT := mT5 222 rfl rfl
set_option maxRecDepth 20000 in
theorem flX12_312 : Cond.fieldLink RX12 312 "DowryBoxesModel" "nCode" "I" ∈ TT := mT5 223 rfl rfl
set_option maxRecDepth 20000 in
theorem flX12_45 : Cond.fieldLink RX12 45 "DowryBoxesModel" "nOp" "[I" ∈ TT := mT5 224 rfl rfl
set_option maxRecDepth 20000 in
theorem flX12_48 : Cond.fieldLink RX12 48 "DowryBoxesModel" "nArg" "[I" ∈ TT := mT5 225 rfl rfl
set_option maxRecDepth 20000 in
theorem flX12_341 : Cond.fieldLink RX12 341 "DowryBoxesModel" "nLeaves" "I" ∈ TT := mT5 226 rfl rfl
set_option maxRecDepth 20000 in
theorem flX12_51 : Cond.fieldLink RX12 51 "DowryBoxesModel" "pile" "[I" ∈ TT := mT5 227 rfl rfl
set_option maxRecDepth 20000 in
theorem flX12_54 : Cond.fieldLink RX12 54 "DowryBoxesModel" "pileAt" "[I" ∈ TT := mT5 228 rfl rfl
set_option maxRecDepth 20000 in
theorem flX12_315 : Cond.fieldLink RX12 315 "DowryBoxesModel" "piled" "I" ∈ TT := mT5 229 rfl rfl
set_option maxRecDepth 20000 in
theorem flX12_335 : Cond.fieldLink RX12 335 "DowryBoxesModel" "opened" "I" ∈ TT := mT5 230 rfl rfl
set_option maxRecDepth 20000 in
theorem flX12_75 : Cond.fieldLink RX12 75 "DowryBoxesModel" "words" "[J" ∈ TT := mT5 231 rfl rfl
set_option maxRecDepth 20000 in
theorem flX12_87 : Cond.fieldLink RX12 87 "DowryBoxesModel" "orderWords" "[J" ∈ TT := mT5 232 rfl rfl
set_option maxRecDepth 20000 in
theorem flX12_98 : Cond.fieldLink RX12 98 "DowryBoxesModel" "heads" "[J" ∈ TT := mT5 233 rfl rfl
set_option maxRecDepth 20000 in
theorem flX12_427 : Cond.fieldLink RX12 427 "DowryBoxesModel" "law" "I" ∈ TT := mT5 234 rfl rfl
set_option maxRecDepth 20000 in
theorem flX12_101 : Cond.fieldLink RX12 101 "DowryBoxesModel" "set" "[J" ∈ TT := mT5 235 rfl rfl
set_option maxRecDepth 20000 in
theorem flX12_104 : Cond.fieldLink RX12 104 "DowryBoxesModel" "now" "[J" ∈ TT := mT5 236 rfl rfl
set_option maxRecDepth 20000 in
theorem flX12_107 : Cond.fieldLink RX12 107 "DowryBoxesModel" "rest" "[J" ∈ TT := mT5 237 rfl rfl
set_option maxRecDepth 20000 in
theorem flX12_424 : Cond.fieldLink RX12 424 "DowryBoxesModel" "broken" "Z" ∈ TT := mT5 238 rfl rfl
set_option maxRecDepth 20000 in
theorem flX12_438 : Cond.fieldLink RX12 438 "DowryBoxesModel" "value" "J" ∈ TT := mT5 239 rfl rfl
set_option maxRecDepth 20000 in
theorem flX12_444 : Cond.fieldLink RX12 444 "DowryBoxesModel" "sum" "J" ∈ TT := mT6 0 rfl rfl
set_option maxRecDepth 20000 in
theorem flX12_110 : Cond.fieldLink RX12 110 "DowryBoxesModel" "lost" "[I" ∈ TT := mT6 1 rfl rfl
set_option maxRecDepth 20000 in
theorem flX12_113 : Cond.fieldLink RX12 113 "DowryBoxesModel" "off1" "[I" ∈ TT := mT6 2 rfl rfl
set_option maxRecDepth 20000 in
theorem flX12_116 : Cond.fieldLink RX12 116 "DowryBoxesModel" "liked" "[I" ∈ TT := mT6 3 rfl rfl
set_option maxRecDepth 20000 in
theorem flX12_119 : Cond.fieldLink RX12 119 "DowryBoxesModel" "steadyOf" "[I" ∈ TT := mT6 4 rfl rfl
set_option maxRecDepth 20000 in
theorem flX12_122 : Cond.fieldLink RX12 122 "DowryBoxesModel" "refusedBy" "[Z" ∈ TT := mT6 5 rfl rfl
set_option maxRecDepth 20000 in
theorem flX12_125 : Cond.fieldLink RX12 125 "DowryBoxesModel" "best1" "[I" ∈ TT := mT6 6 rfl rfl
set_option maxRecDepth 20000 in
theorem flX12_128 : Cond.fieldLink RX12 128 "DowryBoxesModel" "more1" "[I" ∈ TT := mT6 7 rfl rfl
set_option maxRecDepth 20000 in
theorem flX12_131 : Cond.fieldLink RX12 131 "DowryBoxesModel" "clashWith" "[I" ∈ TT := mT6 8 rfl rfl
set_option maxRecDepth 20000 in
theorem flX12_134 : Cond.fieldLink RX12 134 "DowryBoxesModel" "has" "[I" ∈ TT := mT6 9 rfl rfl
set_option maxRecDepth 20000 in
theorem flX12_137 : Cond.fieldLink RX12 137 "DowryBoxesModel" "worths" "[I" ∈ TT := mT6 10 rfl rfl
set_option maxRecDepth 20000 in
theorem flX12_140 : Cond.fieldLink RX12 140 "DowryBoxesModel" "parts" "[J" ∈ TT := mT6 11 rfl rfl
set_option maxRecDepth 20000 in
theorem flX12_151 : Cond.fieldLink RX12 151 "DowryBoxesModel" "acts" "[J" ∈ TT := mT6 12 rfl rfl
set_option maxRecDepth 20000 in
theorem flX12_160 : Cond.fieldLink RX12 160 "DowryBoxesModel" "joins" "[J" ∈ TT := mT6 13 rfl rfl
set_option maxRecDepth 20000 in
theorem flX12_163 : Cond.fieldLink RX12 163 "DowryBoxesModel" "nOrder" "[I" ∈ TT := mT6 14 rfl rfl
set_option maxRecDepth 20000 in
theorem flX12_542 : Cond.fieldLink RX12 542 "DowryBoxesModel" "done" "I" ∈ TT := mT6 15 rfl rfl
set_option maxRecDepth 20000 in
theorem flX12_545 : Cond.fieldLink RX12 545 "DowryBoxesModel" "latest" "I" ∈ TT := mT6 16 rfl rfl
set_option maxRecDepth 20000 in
theorem flX12_166 : Cond.fieldLink RX12 166 "DowryBoxesModel" "stopped" "I" ∈ TT := mT6 17 rfl rfl
set_option maxRecDepth 20000 in
theorem flX12_539 : Cond.fieldLink RX12 539 "DowryBoxesModel" "off" "Z" ∈ TT := mT6 18 rfl rfl
set_option maxRecDepth 20000 in
theorem flX12_566 : Cond.fieldLink RX12 566 "DowryBoxesModel" "state" "J" ∈ TT := mT6 19 rfl rfl
set_option maxRecDepth 20000 in
theorem flX12_169 : Cond.fieldLink RX12 169 "DowryBoxesModel" "drawn" "[I" ∈ TT := mT6 20 rfl rfl
set_option maxRecDepth 20000 in
theorem flX12_172 : Cond.fieldLink RX12 172 "DowryBoxesModel" "drawnBoxes" "I" ∈ TT := mT6 21 rfl rfl
set_option maxRecDepth 20000 in
theorem flJ0_9 : Cond.fieldLink RJ0 9 "java/lang/String" "value" "[B" ∈ TT := mT8 186 rfl rfl
set_option maxRecDepth 20000 in
theorem flJ0_15 : Cond.fieldLink RJ0 15 "java/lang/String" "coder" "B" ∈ TT := mT8 187 rfl rfl
set_option maxRecDepth 20000 in
theorem clL_7 : Cond.classLink RL 7 RX11 ∈ TT := mT1 22 rfl rfl
set_option maxRecDepth 20000 in
theorem clX11_9 : Cond.classLink RX11 9 RX10 ∈ TT := mT1 30 rfl rfl
set_option maxRecDepth 20000 in
theorem clX11_19 : Cond.classLink RX11 19 RX4 ∈ TT := mT1 32 rfl rfl
set_option maxRecDepth 20000 in
theorem clX11_26 : Cond.classLink RX11 26 RX8 ∈ TT := mT1 60 rfl rfl
set_option maxRecDepth 20000 in
theorem clX11_63 : Cond.classLink RX11 63 RX5 ∈ TT := mT1 95 rfl rfl
set_option maxRecDepth 20000 in
theorem clX11_66 : Cond.classLink RX11 66 RX7 ∈ TT := mT1 152 rfl rfl
set_option maxRecDepth 20000 in
theorem clX10_9 : Cond.classLink RX10 9 RX9 ∈ TT := mT1 207 rfl rfl
set_option maxRecDepth 20000 in
theorem clX10_44 : Cond.classLink RX10 44 RX7 ∈ TT := mT2 24 rfl rfl
set_option maxRecDepth 20000 in
theorem clX11_74 : Cond.classLink RX11 74 RX6 ∈ TT := mT2 82 rfl rfl
set_option maxRecDepth 20000 in
theorem clX11_77 : Cond.classLink RX11 77 RX3 ∈ TT := mT2 92 rfl rfl
set_option maxRecDepth 20000 in
theorem clX11_82 : Cond.classLink RX11 82 RX0 ∈ TT := mT2 105 rfl rfl
set_option maxRecDepth 20000 in
theorem clX0_9 : Cond.classLink RX0 9 RX2 ∈ TT := mT2 111 rfl rfl
set_option maxRecDepth 20000 in
theorem clX2_22 : Cond.classLink RX2 22 RX9 ∈ TT := mT2 117 rfl rfl
set_option maxRecDepth 20000 in
theorem clX0_24 : Cond.classLink RX0 24 RX9 ∈ TT := mT2 134 rfl rfl
set_option maxRecDepth 20000 in
theorem clX11_103 : Cond.classLink RX11 103 RX1 ∈ TT := mT2 166 rfl rfl
set_option maxRecDepth 20000 in
theorem clX1_9 : Cond.classLink RX1 9 RX9 ∈ TT := mT2 172 rfl rfl
set_option maxRecDepth 20000 in
theorem clX5_3 : Cond.classLink RX5 3 RX7 ∈ TT := mT4 58 rfl rfl
set_option maxRecDepth 20000 in
theorem clL_10 : Cond.classLink RL 10 RX12 ∈ TT := mT5 170 rfl rfl
set_option maxRecDepth 20000 in
theorem coJ6_265 : Cond.constant RJ6 265 (1431655765) ∈ TT := mT3 35 rfl rfl
set_option maxRecDepth 20000 in
theorem coJ6_266 : Cond.constant RJ6 266 (858993459) ∈ TT := mT3 36 rfl rfl
set_option maxRecDepth 20000 in
theorem coJ6_267 : Cond.constant RJ6 267 (252645135) ∈ TT := mT3 37 rfl rfl
set_option maxRecDepth 20000 in
theorem coX6_23 : Cond.constant RX6 23 (-2000000000) ∈ TT := mT3 68 rfl rfl
set_option maxRecDepth 20000 in
theorem coX6_34 : Cond.constantLong RX6 34 (1000000000) ∈ TT := mT3 75 rfl rfl
set_option maxRecDepth 20000 in
theorem coX6_36 : Cond.constantLong RX6 36 (-1000000000) ∈ TT := mT3 76 rfl rfl
set_option maxRecDepth 20000 in
theorem coX3_89 : Cond.constant RX3 89 (-2000000000) ∈ TT := mT3 77 rfl rfl
set_option maxRecDepth 20000 in
theorem coX0_149 : Cond.constant RX0 149 (-2000000000) ∈ TT := mT4 94 rfl rfl
set_option maxRecDepth 20000 in
theorem coX11_368 : Cond.constantLong RX11 368 (-1) ∈ TT := mT5 108 rfl rfl
set_option maxRecDepth 20000 in
theorem coX11_376 : Cond.constantLong RX11 376 (1000000000000) ∈ TT := mT5 112 rfl rfl
set_option maxRecDepth 20000 in
theorem coX11_378 : Cond.constantLong RX11 378 (10) ∈ TT := mT5 113 rfl rfl
set_option maxRecDepth 20000 in
theorem coX11_384 : Cond.constant RX11 384 (1000000) ∈ TT := mT5 123 rfl rfl
set_option maxRecDepth 20000 in
theorem coX1_58 : Cond.constantLong RX1 58 (1103) ∈ TT := mT5 133 rfl rfl
set_option maxRecDepth 20000 in
theorem coX1_60 : Cond.constantLong RX1 60 (12345) ∈ TT := mT5 134 rfl rfl
set_option maxRecDepth 20000 in
theorem coX1_62 : Cond.constantLong RX1 62 (1000003) ∈ TT := mT5 135 rfl rfl
set_option maxRecDepth 20000 in
theorem coX12_57 : Cond.constantLong RX12 57 (2552) ∈ TT := mT5 176 rfl rfl
set_option maxRecDepth 20000 in
theorem coX12_59 : Cond.constantLong RX12 59 (654910919) ∈ TT := mT5 177 rfl rfl
set_option maxRecDepth 20000 in
theorem coX12_61 : Cond.constantLong RX12 61 (15192243) ∈ TT := mT5 178 rfl rfl
set_option maxRecDepth 20000 in
theorem coX12_63 : Cond.constantLong RX12 63 (86486190) ∈ TT := mT5 179 rfl rfl
set_option maxRecDepth 20000 in
theorem coX12_65 : Cond.constantLong RX12 65 (659870194) ∈ TT := mT5 180 rfl rfl
set_option maxRecDepth 20000 in
theorem coX12_67 : Cond.constantLong RX12 67 (5170) ∈ TT := mT5 181 rfl rfl
set_option maxRecDepth 20000 in
theorem coX12_69 : Cond.constantLong RX12 69 (24165011) ∈ TT := mT5 182 rfl rfl
set_option maxRecDepth 20000 in
theorem coX12_71 : Cond.constantLong RX12 71 (824370) ∈ TT := mT5 183 rfl rfl
set_option maxRecDepth 20000 in
theorem coX12_73 : Cond.constantLong RX12 73 (441828) ∈ TT := mT5 184 rfl rfl
set_option maxRecDepth 20000 in
theorem coX12_79 : Cond.constantLong RX12 79 (146885) ∈ TT := mT5 185 rfl rfl
set_option maxRecDepth 20000 in
theorem coX12_81 : Cond.constantLong RX12 81 (404362868) ∈ TT := mT5 186 rfl rfl
set_option maxRecDepth 20000 in
theorem coX12_83 : Cond.constantLong RX12 83 (3747098803) ∈ TT := mT5 187 rfl rfl
set_option maxRecDepth 20000 in
theorem coX12_85 : Cond.constantLong RX12 85 (398548) ∈ TT := mT5 188 rfl rfl
set_option maxRecDepth 20000 in
theorem coX12_90 : Cond.constantLong RX12 90 (12635795) ∈ TT := mT5 189 rfl rfl
set_option maxRecDepth 20000 in
theorem coX12_92 : Cond.constantLong RX12 92 (12889267) ∈ TT := mT5 190 rfl rfl
set_option maxRecDepth 20000 in
theorem coX12_94 : Cond.constantLong RX12 94 (13094067) ∈ TT := mT5 191 rfl rfl
set_option maxRecDepth 20000 in
theorem coX12_96 : Cond.constantLong RX12 96 (67155) ∈ TT := mT5 192 rfl rfl
set_option maxRecDepth 20000 in
theorem coX12_143 : Cond.constantLong RX12 143 (546188) ∈ TT := mT5 193 rfl rfl
set_option maxRecDepth 20000 in
theorem coX12_145 : Cond.constantLong RX12 145 (636976) ∈ TT := mT5 194 rfl rfl
set_option maxRecDepth 20000 in
theorem coX12_147 : Cond.constantLong RX12 147 (23716) ∈ TT := mT5 195 rfl rfl
set_option maxRecDepth 20000 in
theorem coX12_149 : Cond.constantLong RX12 149 (525939) ∈ TT := mT5 196 rfl rfl
set_option maxRecDepth 20000 in
theorem coX12_154 : Cond.constantLong RX12 154 (52) ∈ TT := mT5 197 rfl rfl
set_option maxRecDepth 20000 in
theorem coX12_156 : Cond.constantLong RX12 156 (486) ∈ TT := mT5 198 rfl rfl
set_option maxRecDepth 20000 in
theorem coX12_158 : Cond.constantLong RX12 158 (655) ∈ TT := mT5 199 rfl rfl
set_option maxRecDepth 20000 in
theorem coX12_211 : Cond.constantLong RX12 211 (20) ∈ TT := mT6 178 rfl rfl
set_option maxRecDepth 20000 in
theorem coX12_217 : Cond.constantLong RX12 217 (14) ∈ TT := mT6 187 rfl rfl
set_option maxRecDepth 20000 in
theorem coX12_302 : Cond.constantLong RX12 302 (-1) ∈ TT := mT6 207 rfl rfl
set_option maxRecDepth 20000 in
theorem coX12_434 : Cond.constantLong RX12 434 (-1000000000) ∈ TT := mT6 224 rfl rfl
set_option maxRecDepth 20000 in
theorem coX12_436 : Cond.constantLong RX12 436 (1000000000) ∈ TT := mT6 225 rfl rfl
set_option maxRecDepth 20000 in
theorem coX12_202 : Cond.constantLong RX12 202 (7) ∈ TT := mT7 0 rfl rfl
set_option maxRecDepth 20000 in
theorem coX12_231 : Cond.constantLong RX12 231 (255) ∈ TT := mT7 1 rfl rfl
set_option maxRecDepth 20000 in
theorem coX12_239 : Cond.constantLong RX12 239 (60) ∈ TT := mT7 13 rfl rfl
set_option maxRecDepth 20000 in
theorem coX12_257 : Cond.constantLong RX12 257 (999) ∈ TT := mT7 42 rfl rfl
set_option maxRecDepth 20000 in
theorem coX12_259 : Cond.constantLong RX12 259 (10) ∈ TT := mT7 43 rfl rfl
set_option maxRecDepth 20000 in
theorem coX12_261 : Cond.constantLong RX12 261 (9) ∈ TT := mT7 44 rfl rfl
set_option maxRecDepth 20000 in
theorem coX12_298 : Cond.constantLong RX12 298 (32) ∈ TT := mT7 91 rfl rfl
set_option maxRecDepth 20000 in
theorem coX12_300 : Cond.constantLong RX12 300 (96) ∈ TT := mT7 92 rfl rfl
set_option maxRecDepth 20000 in
theorem coX12_304 : Cond.constantLong RX12 304 (1000000) ∈ TT := mT7 93 rfl rfl
set_option maxRecDepth 20000 in
theorem coX12_306 : Cond.constantLong RX12 306 (48) ∈ TT := mT7 94 rfl rfl
set_option maxRecDepth 20000 in
theorem coX12_372 : Cond.constantLong RX12 372 (14836) ∈ TT := mT7 115 rfl rfl
set_option maxRecDepth 20000 in
theorem coX12_360 : Cond.constantLong RX12 360 (1000) ∈ TT := mT7 140 rfl rfl
set_option maxRecDepth 20000 in
theorem coX12_366 : Cond.constantLong RX12 366 (5) ∈ TT := mT7 149 rfl rfl
set_option maxRecDepth 20000 in
theorem coX12_325 : Cond.constantLong RX12 325 (24) ∈ TT := mT7 173 rfl rfl
set_option maxRecDepth 20000 in
theorem coX12_327 : Cond.constantLong RX12 327 (25) ∈ TT := mT7 174 rfl rfl
set_option maxRecDepth 20000 in
theorem coX12_329 : Cond.constantLong RX12 329 (27) ∈ TT := mT7 175 rfl rfl
set_option maxRecDepth 20000 in
theorem coX12_387 : Cond.constantLong RX12 387 (1476) ∈ TT := mT7 180 rfl rfl
set_option maxRecDepth 20000 in
theorem coX12_389 : Cond.constantLong RX12 389 (498) ∈ TT := mT7 181 rfl rfl
set_option maxRecDepth 20000 in
theorem coX12_410 : Cond.constantLong RX12 410 (294) ∈ TT := mT7 182 rfl rfl
set_option maxRecDepth 20000 in
theorem coX12_487 : Cond.constant RX12 487 (100000000) ∈ TT := mT8 26 rfl rfl
set_option maxRecDepth 20000 in
theorem coX12_500 : Cond.constant RX12 500 (-100000000) ∈ TT := mT8 59 rfl rfl
set_option maxRecDepth 20000 in
theorem coX12_511 : Cond.constantLong RX12 511 (8) ∈ TT := mT8 64 rfl rfl
set_option maxRecDepth 20000 in
theorem coX12_522 : Cond.constantLong RX12 522 (2) ∈ TT := mT8 93 rfl rfl
set_option maxRecDepth 20000 in
theorem coX12_524 : Cond.constantLong RX12 524 (3) ∈ TT := mT8 98 rfl rfl
set_option maxRecDepth 20000 in
theorem coX12_529 : Cond.constantLong RX12 529 (1000000000000) ∈ TT := mT8 115 rfl rfl
set_option maxRecDepth 20000 in
theorem coX12_537 : Cond.constantLong RX12 537 (21279923) ∈ TT := mT8 136 rfl rfl
set_option maxRecDepth 20000 in
theorem coX12_569 : Cond.constantLong RX12 569 (1103) ∈ TT := mT8 169 rfl rfl
set_option maxRecDepth 20000 in
theorem coX12_571 : Cond.constantLong RX12 571 (12345) ∈ TT := mT8 170 rfl rfl
set_option maxRecDepth 20000 in
theorem coX12_573 : Cond.constantLong RX12 573 (1000003) ∈ TT := mT8 171 rfl rfl
set_option maxRecDepth 20000 in
theorem coX12_578 : Cond.constantLong RX12 578 (13) ∈ TT := mT8 180 rfl rfl
set_option maxRecDepth 20000 in
theorem coX12_580 : Cond.constantLong RX12 580 (15) ∈ TT := mT8 181 rfl rfl
set_option maxRecDepth 20000 in
theorem iz0 : Cond.initialized RX0 ∈ TT := mT1 13 rfl rfl
set_option maxRecDepth 20000 in
theorem it0 : Cond.instantiable RX0 9 ∈ TT := mT2 106 rfl rfl
set_option maxRecDepth 20000 in
theorem iz1 : Cond.initialized RX1 ∈ TT := mT1 15 rfl rfl
set_option maxRecDepth 20000 in
theorem it1 : Cond.instantiable RX1 3 ∈ TT := mT2 167 rfl rfl
set_option maxRecDepth 20000 in
theorem iz2 : Cond.initialized RX2 ∈ TT := mT1 14 rfl rfl
set_option maxRecDepth 20000 in
theorem it2 : Cond.instantiable RX2 4 ∈ TT := mT2 112 rfl rfl
set_option maxRecDepth 20000 in
theorem iz3 : Cond.initialized RX3 ∈ TT := mT1 12 rfl rfl
set_option maxRecDepth 20000 in
theorem it3 : Cond.instantiable RX3 2 ∈ TT := mT2 93 rfl rfl
set_option maxRecDepth 20000 in
theorem iz4 : Cond.initialized RX4 ∈ TT := mT1 2 rfl rfl
set_option maxRecDepth 20000 in
theorem it4 : Cond.instantiable RX4 6 ∈ TT := mT1 33 rfl rfl
set_option maxRecDepth 20000 in
theorem iz5 : Cond.initialized RX5 ∈ TT := mT1 4 rfl rfl
set_option maxRecDepth 20000 in
theorem it5 : Cond.instantiable RX5 14 ∈ TT := mT1 96 rfl rfl
set_option maxRecDepth 20000 in
theorem iz6 : Cond.initialized RX6 ∈ TT := mT1 11 rfl rfl
set_option maxRecDepth 20000 in
theorem it6 : Cond.instantiable RX6 1 ∈ TT := mT2 83 rfl rfl
set_option maxRecDepth 20000 in
theorem iz7 : Cond.initialized RX7 ∈ TT := mT1 5 rfl rfl
set_option maxRecDepth 20000 in
theorem it7 : Cond.instantiable RX7 6 ∈ TT := mT1 153 rfl rfl
set_option maxRecDepth 20000 in
theorem iz8 : Cond.initialized RX8 ∈ TT := mT1 3 rfl rfl
set_option maxRecDepth 20000 in
theorem it8 : Cond.instantiable RX8 8 ∈ TT := mT1 61 rfl rfl
set_option maxRecDepth 20000 in
theorem iz9 : Cond.initialized RX9 ∈ TT := mT1 10 rfl rfl
set_option maxRecDepth 20000 in
theorem it9 : Cond.instantiable RX9 7 ∈ TT := mT1 208 rfl rfl
set_option maxRecDepth 20000 in
theorem iz10 : Cond.initialized RX10 ∈ TT := mT1 9 rfl rfl
set_option maxRecDepth 20000 in
theorem it10 : Cond.instantiable RX10 12 ∈ TT := mT1 202 rfl rfl
set_option maxRecDepth 20000 in
theorem iz11 : Cond.initialized RX11 ∈ TT := mT1 1 rfl rfl
set_option maxRecDepth 20000 in
theorem it11 : Cond.instantiable RX11 18 ∈ TT := mT1 23 rfl rfl
set_option maxRecDepth 20000 in
theorem iz12 : Cond.initialized RX12 ∈ TT := mT1 16 rfl rfl
set_option maxRecDepth 20000 in
theorem it12 : Cond.instantiable RX12 62 ∈ TT := mT5 171 rfl rfl
set_option maxRecDepth 20000 in
theorem izSys : Cond.initialized "java/lang/System" ∈ TT := mT1 8 rfl rfl
set_option maxRecDepth 20000 in
theorem natAC : Cond.native arraycopyName ∈ TT := mT1 173 rfl rfl
set_option maxRecDepth 20000 in
theorem stAC : Cond.static arraycopyName ∈ TT := mT1 172 rfl rfl
set_option maxRecDepth 20000 in
theorem imO : Cond.instanceMethod objectInit ∈ TT := mT1 28 rfl rfl
set_option maxRecDepth 20000 in
theorem coO : Cond.code objectInit ⟨#[0xb1]⟩ 1 none ∈ TT := mT1 29 rfl rfl
set_option maxRecDepth 20000 in
theorem acI : Cond.arrayClass .int ∈ TT := mT1 59 rfl rfl
set_option maxRecDepth 20000 in
theorem acJ : Cond.arrayClass .long ∈ TT := mT1 151 rfl rfl
set_option maxRecDepth 20000 in
theorem acZ : Cond.arrayClass .boolean ∈ TT := mT1 58 rfl rfl
