abbrev mJ0_coder_7d493 : MD := (yJ0_coder_7d493, cJ0_coder_7d493, 1, (some .byte), RJ0, 0, 0)
abbrev mJ0_length_8abf5 : MD := (yJ0_length_8abf5, cJ0_length_8abf5, 1, (some .int), RJ0, 1, 20)
abbrev mJ0_isLatin1_aae02 : MD := (yJ0_isLatin1_aae02, cJ0_isLatin1_aae02, 1, (some .boolean), RJ0, 0, 0)
abbrev mJ3_checkIndex_8e157 : MD := (yJ3_checkIndex_8e157, cJ3_checkIndex_8e157, 3, (some .int), RJ3, 1, 26)
abbrev mJ0_checkIndex_df160 : MD := (yJ0_checkIndex_df160, cJ0_checkIndex_df160, 2, none, RJ0, 2, 48)
abbrev mJ1_charAt_3b067 : MD := (yJ1_charAt_3b067, cJ1_charAt_3b067, 2, (some .char), RJ1, 3, 69)
abbrev mJ0_charAt_5068e : MD := (yJ0_charAt_5068e, cJ0_charAt_5068e, 2, (some .char), RJ0, 5, 111)
theorem zJ0_coder_7d493 : csZ mJ0_coder_7d493 0 := ⟨⟨by decide +kernel, by decide +kernel, by decide +kernel⟩, in_r15 _ (List.mem_of_getElem? (i := 23) rfl), in_r15 _ (List.mem_of_getElem? (i := 17) rfl)⟩
theorem vJ0_coder_7d493 : Cond.instanceMethod yJ0_coder_7d493 ∈ wsL_law ∧ Cond.selects RJ0 yJ0_coder_7d493 yJ0_coder_7d493 ∈ wsL_law := ⟨in_r15 _ (List.mem_of_getElem? (i := 21) rfl), in_r15 _ (List.mem_of_getElem? (i := 22) rfl)⟩
theorem zJ0_length_8abf5 : csZ mJ0_length_8abf5 0 := ⟨⟨by decide +kernel, by decide +kernel, by decide +kernel⟩, in_r15 _ (List.mem_of_getElem? (i := 18) rfl), in_r15 _ (List.mem_of_getElem? (i := 17) rfl)⟩
theorem vJ0_length_8abf5 : Cond.instanceMethod yJ0_length_8abf5 ∈ wsL_law ∧ Cond.selects RJ0 yJ0_length_8abf5 yJ0_length_8abf5 ∈ wsL_law := ⟨in_r15 _ (List.mem_of_getElem? (i := 15) rfl), in_r15 _ (List.mem_of_getElem? (i := 16) rfl)⟩
theorem zJ0_isLatin1_aae02 : csZ mJ0_isLatin1_aae02 0 := ⟨⟨by decide +kernel, by decide +kernel, by decide +kernel⟩, in_r16 _ (List.mem_of_getElem? (i := 9) rfl), in_r15 _ (List.mem_of_getElem? (i := 17) rfl)⟩
theorem vJ0_isLatin1_aae02 : Cond.instanceMethod yJ0_isLatin1_aae02 ∈ wsL_law ∧ Cond.selects RJ0 yJ0_isLatin1_aae02 yJ0_isLatin1_aae02 ∈ wsL_law := ⟨in_r16 _ (List.mem_of_getElem? (i := 7) rfl), in_r16 _ (List.mem_of_getElem? (i := 8) rfl)⟩
theorem zJ3_checkIndex_8e157 : csZ mJ3_checkIndex_8e157 3 := ⟨⟨by decide +kernel, by decide +kernel, by decide +kernel⟩, in_r16 _ (List.mem_of_getElem? (i := 21) rfl), in_r16 _ (List.mem_of_getElem? (i := 20) rfl)⟩
theorem tJ3_checkIndex_8e157 : Cond.static yJ3_checkIndex_8e157 ∈ wsL_law := in_r16 _ (List.mem_of_getElem? (i := 19) rfl)
theorem zJ0_checkIndex_df160 : csZ mJ0_checkIndex_df160 2 := ⟨⟨by decide +kernel, by decide +kernel, by decide +kernel⟩, in_r16 _ (List.mem_of_getElem? (i := 16) rfl), in_r15 _ (List.mem_of_getElem? (i := 17) rfl)⟩
theorem tJ0_checkIndex_df160 : Cond.static yJ0_checkIndex_df160 ∈ wsL_law := in_r16 _ (List.mem_of_getElem? (i := 15) rfl)
theorem zJ1_charAt_3b067 : csZ mJ1_charAt_3b067 2 := ⟨⟨by decide +kernel, by decide +kernel, by decide +kernel⟩, in_r16 _ (List.mem_of_getElem? (i := 13) rfl), in_r16 _ (List.mem_of_getElem? (i := 12) rfl)⟩
theorem tJ1_charAt_3b067 : Cond.static yJ1_charAt_3b067 ∈ wsL_law := in_r16 _ (List.mem_of_getElem? (i := 11) rfl)
theorem zJ0_charAt_5068e : csZ mJ0_charAt_5068e 1 := ⟨⟨by decide +kernel, by decide +kernel, by decide +kernel⟩, in_r16 _ (List.mem_of_getElem? (i := 5) rfl), in_r15 _ (List.mem_of_getElem? (i := 17) rfl)⟩
theorem vJ0_charAt_5068e : Cond.instanceMethod yJ0_charAt_5068e ∈ wsL_law ∧ Cond.selects RJ0 yJ0_charAt_5068e yJ0_charAt_5068e ∈ wsL_law := ⟨in_r16 _ (List.mem_of_getElem? (i := 3) rfl), in_r16 _ (List.mem_of_getElem? (i := 4) rfl)⟩
theorem lX3_87 : Cond.methodLink RX3 87 yJ0_length_8abf5 ∈ wsL_law := in_r15 _ (List.mem_of_getElem? (i := 14) rfl)
theorem lX3_92 : Cond.methodLink RX3 92 yJ0_charAt_5068e ∈ wsL_law := in_r16 _ (List.mem_of_getElem? (i := 2) rfl)
theorem lX11_40 : Cond.methodLink RX11 40 yJ0_length_8abf5 ∈ wsL_law := in_r22 _ (List.mem_of_getElem? (i := 20) rfl)
theorem lX11_45 : Cond.methodLink RX11 45 yJ0_charAt_5068e ∈ wsL_law := in_r22 _ (List.mem_of_getElem? (i := 21) rfl)
theorem lJ0_335 : Cond.methodLink RJ0 335 yJ0_coder_7d493 ∈ wsL_law := in_r15 _ (List.mem_of_getElem? (i := 20) rfl)
theorem lJ0_492 : Cond.methodLink RJ0 492 yJ0_isLatin1_aae02 ∈ wsL_law := in_r16 _ (List.mem_of_getElem? (i := 6) rfl)
theorem lJ0_495 : Cond.methodLink RJ0 495 yJ1_charAt_3b067 ∈ wsL_law := in_r16 _ (List.mem_of_getElem? (i := 10) rfl)
theorem lJ1_9 : Cond.methodLink RJ1 9 yJ0_checkIndex_df160 ∈ wsL_law := in_r16 _ (List.mem_of_getElem? (i := 14) rfl)
theorem lJ0_1059 : Cond.methodLink RJ0 1059 yJ3_checkIndex_8e157 ∈ wsL_law := in_r16 _ (List.mem_of_getElem? (i := 18) rfl)
theorem fJ0_9 : Cond.fieldLink RJ0 9 "java/lang/String" "value" "[B" ∈ wsL_law := in_r15 _ (List.mem_of_getElem? (i := 19) rfl)
theorem fJ0_15 : Cond.fieldLink RJ0 15 "java/lang/String" "coder" "B" ∈ wsL_law := in_r16 _ (List.mem_of_getElem? (i := 1) rfl)
theorem fJ0_38 : Cond.fieldLink RJ0 38 "java/lang/String" "COMPACT_STRINGS" "Z" ∈ wsL_law := in_r16 _ (List.mem_of_getElem? (i := 0) rfl)
theorem fJ0_1053 : Cond.fieldLink RJ0 1053 "jdk/internal/util/Preconditions" "SIOOBE_FORMATTER" "Ljava/util/function/BiFunction;" ∈ wsL_law := in_r16 _ (List.mem_of_getElem? (i := 17) rfl)
def liT : List (String × Nat × String) := [(RX3, 128, "rot"), (RX3, 130, "sort"), (RX3, 132, "thing"), (RX3, 134, "earn"), (RX3, 136, "price"), (RX3, 138, "make"), (RX3, 140, "want"), (RX3, 142, "ill"), (RX3, 144, "chest"), (RX3, 146, "store"), (RX3, 148, "DL"), (RX3, 150, "nPHC"), (RX3, 152, "mHG"), (RX3, 154, "sDE"), (RX3, 156, "tDE"), (RX3, 158, "tDM"), (RX3, 160, "stDUV"), (RX3, 162, "sI"), (RX3, 164, "s"), (RX3, 166, "t"), (RX3, 168, "stDUP"), (RX3, 170, "VV"), (RX11, 164, "rot"), (RX11, 169, "sort"), (RX11, 174, "thing"), (RX11, 179, "earn"), (RX11, 184, "price"), (RX11, 189, "make"), (RX11, 194, "want"), (RX11, 199, "ill"), (RX11, 150, "chest"), (RX11, 156, "store")]
def liB : List (List Int32) := [[114, 111, 116], [115, 111, 114, 116], [116, 104, 105, 110, 103], [101, 97, 114, 110], [112, 114, 105, 99, 101], [109, 97, 107, 101], [119, 97, 110, 116], [105, 108, 108], [99, 104, 101, 115, 116], [115, 116, 111, 114, 101], [68, 76], [110, 80, 72, 67], [109, 72, 71], [115, 68, 69], [116, 68, 69], [116, 68, 77], [115, 116, 68, 85, 86], [115, 73], [115], [116], [115, 116, 68, 85, 80], [86, 86], [114, 111, 116], [115, 111, 114, 116], [116, 104, 105, 110, 103], [101, 97, 114, 110], [112, 114, 105, 99, 101], [109, 97, 107, 101], [119, 97, 110, 116], [105, 108, 108], [99, 104, 101, 115, 116], [115, 116, 111, 114, 101]]
def liN : List Nat := [3, 4, 5, 4, 5, 4, 4, 3, 5, 5, 2, 4, 3, 3, 3, 3, 5, 2, 1, 1, 5, 2, 3, 4, 5, 4, 5, 4, 4, 3, 5, 5]
