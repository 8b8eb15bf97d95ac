theorem zX10_feed : csZ mX10_feed 5 := ⟨⟨by decide +kernel, by decide +kernel, by decide +kernel⟩, in_r12 _ (List.mem_of_getElem? (i := 6) rfl), in_r1 _ (List.mem_of_getElem? (i := 2) rfl)⟩
theorem wX10_feed : csW mL 13 mX10_feed 10 5 := ⟨⟨⟨by decide, by decide⟩, zX10_feed⟩, in_r12 _ (List.mem_of_getElem? (i := 3) rfl), in_r12 _ (List.mem_of_getElem? (i := 4) rfl), in_r12 _ (List.mem_of_getElem? (i := 5) rfl)⟩
theorem zX11_feed : csZ mX11_feed 5 := ⟨⟨by decide +kernel, by decide +kernel, by decide +kernel⟩, in_r12 _ (List.mem_of_getElem? (i := 15) rfl), in_r1 _ (List.mem_of_getElem? (i := 5) rfl)⟩
theorem wX11_feed : csW mL 17 mX11_feed 11 5 := ⟨⟨⟨by decide, by decide⟩, zX11_feed⟩, in_r12 _ (List.mem_of_getElem? (i := 12) rfl), in_r12 _ (List.mem_of_getElem? (i := 13) rfl), in_r12 _ (List.mem_of_getElem? (i := 14) rfl)⟩
theorem zX10_end : csZ mX10_end 1 := ⟨⟨by decide +kernel, by decide +kernel, by decide +kernel⟩, in_r13 _ (List.mem_of_getElem? (i := 0) rfl), in_r1 _ (List.mem_of_getElem? (i := 2) rfl)⟩
theorem wX10_end : csW mL 18 mX10_end 10 1 := ⟨⟨⟨by decide, by decide⟩, zX10_end⟩, in_r12 _ (List.mem_of_getElem? (i := 21) rfl), in_r12 _ (List.mem_of_getElem? (i := 22) rfl), in_r12 _ (List.mem_of_getElem? (i := 23) rfl)⟩
theorem zX11_end : csZ mX11_end 1 := ⟨⟨by decide +kernel, by decide +kernel, by decide +kernel⟩, in_r13 _ (List.mem_of_getElem? (i := 4) rfl), in_r1 _ (List.mem_of_getElem? (i := 5) rfl)⟩
theorem wX11_end : csW mL 22 mX11_end 11 1 := ⟨⟨⟨by decide, by decide⟩, zX11_end⟩, in_r13 _ (List.mem_of_getElem? (i := 1) rfl), in_r13 _ (List.mem_of_getElem? (i := 2) rfl), in_r13 _ (List.mem_of_getElem? (i := 3) rfl)⟩
theorem zX10_town : csZ mX10_town 0 := ⟨⟨by decide +kernel, by decide +kernel, by decide +kernel⟩, in_r13 _ (List.mem_of_getElem? (i := 11) rfl), in_r1 _ (List.mem_of_getElem? (i := 2) rfl)⟩
theorem wX10_town : csW mL 23 mX10_town 10 0 := ⟨⟨⟨by decide, by decide⟩, zX10_town⟩, in_r13 _ (List.mem_of_getElem? (i := 8) rfl), in_r13 _ (List.mem_of_getElem? (i := 9) rfl), in_r13 _ (List.mem_of_getElem? (i := 10) rfl)⟩
theorem zX11_town : csZ mX11_town 0 := ⟨⟨by decide +kernel, by decide +kernel, by decide +kernel⟩, in_r20 _ (List.mem_of_getElem? (i := 21) rfl), in_r1 _ (List.mem_of_getElem? (i := 5) rfl)⟩
theorem wX11_town : csW mL 27 mX11_town 11 0 := ⟨⟨⟨by decide, by decide⟩, zX11_town⟩, in_r20 _ (List.mem_of_getElem? (i := 18) rfl), in_r20 _ (List.mem_of_getElem? (i := 19) rfl), in_r20 _ (List.mem_of_getElem? (i := 20) rfl)⟩
theorem zX10_fault : csZ mX10_fault 1 := ⟨⟨by decide +kernel, by decide +kernel, by decide +kernel⟩, in_r26 _ (List.mem_of_getElem? (i := 9) rfl), in_r1 _ (List.mem_of_getElem? (i := 2) rfl)⟩
theorem wX10_fault : csW mL 28 mX10_fault 10 1 := ⟨⟨⟨by decide, by decide⟩, zX10_fault⟩, in_r26 _ (List.mem_of_getElem? (i := 6) rfl), in_r26 _ (List.mem_of_getElem? (i := 7) rfl), in_r26 _ (List.mem_of_getElem? (i := 8) rfl)⟩
theorem zX11_fault : csZ mX11_fault 1 := ⟨⟨by decide +kernel, by decide +kernel, by decide +kernel⟩, in_r26 _ (List.mem_of_getElem? (i := 15) rfl), in_r1 _ (List.mem_of_getElem? (i := 5) rfl)⟩
theorem wX11_fault : csW mL 31 mX11_fault 11 1 := ⟨⟨⟨by decide, by decide⟩, zX11_fault⟩, in_r26 _ (List.mem_of_getElem? (i := 12) rfl), in_r26 _ (List.mem_of_getElem? (i := 13) rfl), in_r26 _ (List.mem_of_getElem? (i := 14) rfl)⟩
theorem zX10_told : csZ mX10_told 1 := ⟨⟨by decide +kernel, by decide +kernel, by decide +kernel⟩, in_r26 _ (List.mem_of_getElem? (i := 19) rfl), in_r1 _ (List.mem_of_getElem? (i := 2) rfl)⟩
theorem wX10_told : csW mL 32 mX10_told 10 1 := ⟨⟨⟨by decide, by decide⟩, zX10_told⟩, in_r26 _ (List.mem_of_getElem? (i := 16) rfl), in_r26 _ (List.mem_of_getElem? (i := 17) rfl), in_r26 _ (List.mem_of_getElem? (i := 18) rfl)⟩
theorem zX11_told : csZ mX11_told 1 := ⟨⟨by decide +kernel, by decide +kernel, by decide +kernel⟩, in_r27 _ (List.mem_of_getElem? (i := 13) rfl), in_r1 _ (List.mem_of_getElem? (i := 5) rfl)⟩
theorem wX11_told : csW mL 35 mX11_told 11 1 := ⟨⟨⟨by decide, by decide⟩, zX11_told⟩, in_r27 _ (List.mem_of_getElem? (i := 10) rfl), in_r27 _ (List.mem_of_getElem? (i := 11) rfl), in_r27 _ (List.mem_of_getElem? (i := 12) rfl)⟩
theorem zX10_earns : csZ mX10_earns 2 := ⟨⟨by decide +kernel, by decide +kernel, by decide +kernel⟩, in_r27 _ (List.mem_of_getElem? (i := 23) rfl), in_r1 _ (List.mem_of_getElem? (i := 2) rfl)⟩
theorem wX10_earns : csW mL 36 mX10_earns 10 2 := ⟨⟨⟨by decide, by decide⟩, zX10_earns⟩, in_r27 _ (List.mem_of_getElem? (i := 20) rfl), in_r27 _ (List.mem_of_getElem? (i := 21) rfl), in_r27 _ (List.mem_of_getElem? (i := 22) rfl)⟩
theorem zX11_earns : csZ mX11_earns 2 := ⟨⟨by decide +kernel, by decide +kernel, by decide +kernel⟩, in_r28 _ (List.mem_of_getElem? (i := 11) rfl), in_r1 _ (List.mem_of_getElem? (i := 5) rfl)⟩
theorem wX11_earns : csW mL 40 mX11_earns 11 2 := ⟨⟨⟨by decide, by decide⟩, zX11_earns⟩, in_r28 _ (List.mem_of_getElem? (i := 8) rfl), in_r28 _ (List.mem_of_getElem? (i := 9) rfl), in_r28 _ (List.mem_of_getElem? (i := 10) rfl)⟩
theorem zX10_price : csZ mX10_price 2 := ⟨⟨by decide +kernel, by decide +kernel, by decide +kernel⟩, in_r28 _ (List.mem_of_getElem? (i := 23) rfl), in_r1 _ (List.mem_of_getElem? (i := 2) rfl)⟩
theorem wX10_price : csW mL 41 mX10_price 10 2 := ⟨⟨⟨by decide, by decide⟩, zX10_price⟩, in_r28 _ (List.mem_of_getElem? (i := 20) rfl), in_r28 _ (List.mem_of_getElem? (i := 21) rfl), in_r28 _ (List.mem_of_getElem? (i := 22) rfl)⟩
theorem zX11_price : csZ mX11_price 2 := ⟨⟨by decide +kernel, by decide +kernel, by decide +kernel⟩, in_r29 _ (List.mem_of_getElem? (i := 8) rfl), in_r1 _ (List.mem_of_getElem? (i := 5) rfl)⟩
theorem wX11_price : csW mL 44 mX11_price 11 2 := ⟨⟨⟨by decide, by decide⟩, zX11_price⟩, in_r29 _ (List.mem_of_getElem? (i := 5) rfl), in_r29 _ (List.mem_of_getElem? (i := 6) rfl), in_r29 _ (List.mem_of_getElem? (i := 7) rfl)⟩
theorem zX10_made : csZ mX10_made 2 := ⟨⟨by decide +kernel, by decide +kernel, by decide +kernel⟩, in_r29 _ (List.mem_of_getElem? (i := 16) rfl), in_r1 _ (List.mem_of_getElem? (i := 2) rfl)⟩
theorem wX10_made : csW mL 45 mX10_made 10 2 := ⟨⟨⟨by decide, by decide⟩, zX10_made⟩, in_r29 _ (List.mem_of_getElem? (i := 13) rfl), in_r29 _ (List.mem_of_getElem? (i := 14) rfl), in_r29 _ (List.mem_of_getElem? (i := 15) rfl)⟩
theorem zX11_made : csZ mX11_made 2 := ⟨⟨by decide +kernel, by decide +kernel, by decide +kernel⟩, in_r29 _ (List.mem_of_getElem? (i := 21) rfl), in_r1 _ (List.mem_of_getElem? (i := 5) rfl)⟩
theorem wX11_made : csW mL 48 mX11_made 11 2 := ⟨⟨⟨by decide, by decide⟩, zX11_made⟩, in_r29 _ (List.mem_of_getElem? (i := 18) rfl), in_r29 _ (List.mem_of_getElem? (i := 19) rfl), in_r29 _ (List.mem_of_getElem? (i := 20) rfl)⟩
theorem zX10_wants : csZ mX10_wants 3 := ⟨⟨by decide +kernel, by decide +kernel, by decide +kernel⟩, in_r30 _ (List.mem_of_getElem? (i := 1) rfl), in_r1 _ (List.mem_of_getElem? (i := 2) rfl)⟩
theorem wX10_wants : csW mL 49 mX10_wants 10 3 := ⟨⟨⟨by decide, by decide⟩, zX10_wants⟩, in_r29 _ (List.mem_of_getElem? (i := 22) rfl), in_r29 _ (List.mem_of_getElem? (i := 23) rfl), in_r30 _ (List.mem_of_getElem? (i := 0) rfl)⟩
theorem zX11_wants : csZ mX11_wants 3 := ⟨⟨by decide +kernel, by decide +kernel, by decide +kernel⟩, in_r30 _ (List.mem_of_getElem? (i := 8) rfl), in_r1 _ (List.mem_of_getElem? (i := 5) rfl)⟩
theorem wX11_wants : csW mL 53 mX11_wants 11 3 := ⟨⟨⟨by decide, by decide⟩, zX11_wants⟩, in_r30 _ (List.mem_of_getElem? (i := 5) rfl), in_r30 _ (List.mem_of_getElem? (i := 6) rfl), in_r30 _ (List.mem_of_getElem? (i := 7) rfl)⟩
theorem zX10_night : csZ mX10_night 3 := ⟨⟨by decide +kernel, by decide +kernel, by decide +kernel⟩, in_r30 _ (List.mem_of_getElem? (i := 13) rfl), in_r1 _ (List.mem_of_getElem? (i := 2) rfl)⟩
theorem wX10_night : csW mL 54 mX10_night 10 3 := ⟨⟨⟨by decide, by decide⟩, zX10_night⟩, in_r30 _ (List.mem_of_getElem? (i := 10) rfl), in_r30 _ (List.mem_of_getElem? (i := 11) rfl), in_r30 _ (List.mem_of_getElem? (i := 12) rfl)⟩
theorem zX11_night : csZ mX11_night 3 := ⟨⟨by decide +kernel, by decide +kernel, by decide +kernel⟩, in_r31 _ (List.mem_of_getElem? (i := 3) rfl), in_r1 _ (List.mem_of_getElem? (i := 5) rfl)⟩
theorem wX11_night : csW mL 57 mX11_night 11 3 := ⟨⟨⟨by decide, by decide⟩, zX11_night⟩, in_r31 _ (List.mem_of_getElem? (i := 0) rfl), in_r31 _ (List.mem_of_getElem? (i := 1) rfl), in_r31 _ (List.mem_of_getElem? (i := 2) rfl)⟩
theorem zX10_may : csZ mX10_may 5 := ⟨⟨by decide +kernel, by decide +kernel, by decide +kernel⟩, in_r32 _ (List.mem_of_getElem? (i := 5) rfl), in_r1 _ (List.mem_of_getElem? (i := 2) rfl)⟩
theorem wX10_may : csW mL 58 mX10_may 10 5 := ⟨⟨⟨by decide, by decide⟩, zX10_may⟩, in_r32 _ (List.mem_of_getElem? (i := 2) rfl), in_r32 _ (List.mem_of_getElem? (i := 3) rfl), in_r32 _ (List.mem_of_getElem? (i := 4) rfl)⟩
theorem zX11_may : csZ mX11_may 5 := ⟨⟨by decide +kernel, by decide +kernel, by decide +kernel⟩, in_r33 _ (List.mem_of_getElem? (i := 22) rfl), in_r1 _ (List.mem_of_getElem? (i := 5) rfl)⟩
theorem wX11_may : csW mL 61 mX11_may 11 5 := ⟨⟨⟨by decide, by decide⟩, zX11_may⟩, in_r33 _ (List.mem_of_getElem? (i := 19) rfl), in_r33 _ (List.mem_of_getElem? (i := 20) rfl), in_r33 _ (List.mem_of_getElem? (i := 21) rfl)⟩
theorem zX10_best : csZ mX10_best 5 := ⟨⟨by decide +kernel, by decide +kernel, by decide +kernel⟩, in_r34 _ (List.mem_of_getElem? (i := 15) rfl), in_r1 _ (List.mem_of_getElem? (i := 2) rfl)⟩
theorem wX10_best : csW mL 62 mX10_best 10 5 := ⟨⟨⟨by decide, by decide⟩, zX10_best⟩, in_r34 _ (List.mem_of_getElem? (i := 12) rfl), in_r34 _ (List.mem_of_getElem? (i := 13) rfl), in_r34 _ (List.mem_of_getElem? (i := 14) rfl)⟩
theorem zX11_best : csZ mX11_best 5 := ⟨⟨by decide +kernel, by decide +kernel, by decide +kernel⟩, in_r37 _ (List.mem_of_getElem? (i := 6) rfl), in_r1 _ (List.mem_of_getElem? (i := 5) rfl)⟩
theorem wX11_best : csW mL 65 mX11_best 11 5 := ⟨⟨⟨by decide, by decide⟩, zX11_best⟩, in_r37 _ (List.mem_of_getElem? (i := 3) rfl), in_r37 _ (List.mem_of_getElem? (i := 4) rfl), in_r37 _ (List.mem_of_getElem? (i := 5) rfl)⟩
theorem zX10_bestAct : csZ mX10_bestAct 5 := ⟨⟨by decide +kernel, by decide +kernel, by decide +kernel⟩, in_r38 _ (List.mem_of_getElem? (i := 13) rfl), in_r1 _ (List.mem_of_getElem? (i := 2) rfl)⟩
theorem wX10_bestAct : csW mL 66 mX10_bestAct 10 5 := ⟨⟨⟨by decide, by decide⟩, zX10_bestAct⟩, in_r38 _ (List.mem_of_getElem? (i := 10) rfl), in_r38 _ (List.mem_of_getElem? (i := 11) rfl), in_r38 _ (List.mem_of_getElem? (i := 12) rfl)⟩
theorem zX11_bestAct : csZ mX11_bestAct 5 := ⟨⟨by decide +kernel, by decide +kernel, by decide +kernel⟩, in_r38 _ (List.mem_of_getElem? (i := 17) rfl), in_r1 _ (List.mem_of_getElem? (i := 5) rfl)⟩
theorem wX11_bestAct : csW mL 69 mX11_bestAct 11 5 := ⟨⟨⟨by decide, by decide⟩, zX11_bestAct⟩, in_r38 _ (List.mem_of_getElem? (i := 14) rfl), in_r38 _ (List.mem_of_getElem? (i := 15) rfl), in_r38 _ (List.mem_of_getElem? (i := 16) rfl)⟩
theorem zX10_wayAct : csZ mX10_wayAct 5 := ⟨⟨by decide +kernel, by decide +kernel, by decide +kernel⟩, in_r38 _ (List.mem_of_getElem? (i := 21) rfl), in_r1 _ (List.mem_of_getElem? (i := 2) rfl)⟩
theorem wX10_wayAct : csW mL 70 mX10_wayAct 10 5 := ⟨⟨⟨by decide, by decide⟩, zX10_wayAct⟩, in_r38 _ (List.mem_of_getElem? (i := 18) rfl), in_r38 _ (List.mem_of_getElem? (i := 19) rfl), in_r38 _ (List.mem_of_getElem? (i := 20) rfl)⟩
theorem zX11_wayAct : csZ mX11_wayAct 5 := ⟨⟨by decide +kernel, by decide +kernel, by decide +kernel⟩, in_r39 _ (List.mem_of_getElem? (i := 11) rfl), in_r1 _ (List.mem_of_getElem? (i := 5) rfl)⟩
theorem wX11_wayAct : csW mL 73 mX11_wayAct 11 5 := ⟨⟨⟨by decide, by decide⟩, zX11_wayAct⟩, in_r39 _ (List.mem_of_getElem? (i := 8) rfl), in_r39 _ (List.mem_of_getElem? (i := 9) rfl), in_r39 _ (List.mem_of_getElem? (i := 10) rfl)⟩
theorem zX10_way : csZ mX10_way 2 := ⟨⟨by decide +kernel, by decide +kernel, by decide +kernel⟩, in_r40 _ (List.mem_of_getElem? (i := 6) rfl), in_r1 _ (List.mem_of_getElem? (i := 2) rfl)⟩
theorem wX10_way : csW mL 74 mX10_way 10 2 := ⟨⟨⟨by decide, by decide⟩, zX10_way⟩, in_r40 _ (List.mem_of_getElem? (i := 3) rfl), in_r40 _ (List.mem_of_getElem? (i := 4) rfl), in_r40 _ (List.mem_of_getElem? (i := 5) rfl)⟩
theorem zX11_way : csZ mX11_way 2 := ⟨⟨by decide +kernel, by decide +kernel, by decide +kernel⟩, in_r40 _ (List.mem_of_getElem? (i := 10) rfl), in_r1 _ (List.mem_of_getElem? (i := 5) rfl)⟩
theorem wX11_way : csW mL 77 mX11_way 11 2 := ⟨⟨⟨by decide, by decide⟩, zX11_way⟩, in_r40 _ (List.mem_of_getElem? (i := 7) rfl), in_r40 _ (List.mem_of_getElem? (i := 8) rfl), in_r40 _ (List.mem_of_getElem? (i := 9) rfl)⟩
theorem zX10_pass : csZ mX10_pass 1 := ⟨⟨by decide +kernel, by decide +kernel, by decide +kernel⟩, in_r40 _ (List.mem_of_getElem? (i := 14) rfl), in_r1 _ (List.mem_of_getElem? (i := 2) rfl)⟩
theorem wX10_pass : csW mL 78 mX10_pass 10 1 := ⟨⟨⟨by decide, by decide⟩, zX10_pass⟩, in_r40 _ (List.mem_of_getElem? (i := 11) rfl), in_r40 _ (List.mem_of_getElem? (i := 12) rfl), in_r40 _ (List.mem_of_getElem? (i := 13) rfl)⟩
theorem zX11_pass : csZ mX11_pass 1 := ⟨⟨by decide +kernel, by decide +kernel, by decide +kernel⟩, in_r42 _ (List.mem_of_getElem? (i := 18) rfl), in_r1 _ (List.mem_of_getElem? (i := 5) rfl)⟩
theorem wX11_pass : csW mL 81 mX11_pass 11 1 := ⟨⟨⟨by decide, by decide⟩, zX11_pass⟩, in_r42 _ (List.mem_of_getElem? (i := 15) rfl), in_r42 _ (List.mem_of_getElem? (i := 16) rfl), in_r42 _ (List.mem_of_getElem? (i := 17) rfl)⟩
theorem zX10_run : csZ mX10_run 2 := ⟨⟨by decide +kernel, by decide +kernel, by decide +kernel⟩, in_r44 _ (List.mem_of_getElem? (i := 5) rfl), in_r1 _ (List.mem_of_getElem? (i := 2) rfl)⟩
theorem wX10_run : csW mL 82 mX10_run 10 2 := ⟨⟨⟨by decide, by decide⟩, zX10_run⟩, in_r44 _ (List.mem_of_getElem? (i := 2) rfl), in_r44 _ (List.mem_of_getElem? (i := 3) rfl), in_r44 _ (List.mem_of_getElem? (i := 4) rfl)⟩
theorem zX11_run : csZ mX11_run 2 := ⟨⟨by decide +kernel, by decide +kernel, by decide +kernel⟩, in_r44 _ (List.mem_of_getElem? (i := 10) rfl), in_r1 _ (List.mem_of_getElem? (i := 5) rfl)⟩
theorem wX11_run : csW mL 85 mX11_run 11 2 := ⟨⟨⟨by decide, by decide⟩, zX11_run⟩, in_r44 _ (List.mem_of_getElem? (i := 7) rfl), in_r44 _ (List.mem_of_getElem? (i := 8) rfl), in_r44 _ (List.mem_of_getElem? (i := 9) rfl)⟩
theorem zX10_all : csZ mX10_all 1 := ⟨⟨by decide +kernel, by decide +kernel, by decide +kernel⟩, in_r44 _ (List.mem_of_getElem? (i := 14) rfl), in_r1 _ (List.mem_of_getElem? (i := 2) rfl)⟩
theorem wX10_all : csW mL 86 mX10_all 10 1 := ⟨⟨⟨by decide, by decide⟩, zX10_all⟩, in_r44 _ (List.mem_of_getElem? (i := 11) rfl), in_r44 _ (List.mem_of_getElem? (i := 12) rfl), in_r44 _ (List.mem_of_getElem? (i := 13) rfl)⟩
theorem zX11_all : csZ mX11_all 1 := ⟨⟨by decide +kernel, by decide +kernel, by decide +kernel⟩, in_r45 _ (List.mem_of_getElem? (i := 9) rfl), in_r1 _ (List.mem_of_getElem? (i := 5) rfl)⟩
theorem wX11_all : csW mL 89 mX11_all 11 1 := ⟨⟨⟨by decide, by decide⟩, zX11_all⟩, in_r45 _ (List.mem_of_getElem? (i := 6) rfl), in_r45 _ (List.mem_of_getElem? (i := 7) rfl), in_r45 _ (List.mem_of_getElem? (i := 8) rfl)⟩
theorem zX10_anew : csZ mX10_anew 0 := ⟨⟨by decide +kernel, by decide +kernel, by decide +kernel⟩, in_r45 _ (List.mem_of_getElem? (i := 18) rfl), in_r1 _ (List.mem_of_getElem? (i := 2) rfl)⟩
theorem wX10_anew : csW mL 90 mX10_anew 10 0 := ⟨⟨⟨by decide, by decide⟩, zX10_anew⟩, in_r45 _ (List.mem_of_getElem? (i := 15) rfl), in_r45 _ (List.mem_of_getElem? (i := 16) rfl), in_r45 _ (List.mem_of_getElem? (i := 17) rfl)⟩
theorem zX11_anew : csZ mX11_anew 0 := ⟨⟨by decide +kernel, by decide +kernel, by decide +kernel⟩, in_r45 _ (List.mem_of_getElem? (i := 22) rfl), in_r1 _ (List.mem_of_getElem? (i := 5) rfl)⟩
theorem wX11_anew : csW mL 93 mX11_anew 11 0 := ⟨⟨⟨by decide, by decide⟩, zX11_anew⟩, in_r45 _ (List.mem_of_getElem? (i := 19) rfl), in_r45 _ (List.mem_of_getElem? (i := 20) rfl), in_r45 _ (List.mem_of_getElem? (i := 21) rfl)⟩
theorem zX10_keep : csZ mX10_keep 1 := ⟨⟨by decide +kernel, by decide +kernel, by decide +kernel⟩, in_r46 _ (List.mem_of_getElem? (i := 2) rfl), in_r1 _ (List.mem_of_getElem? (i := 2) rfl)⟩
theorem wX10_keep : csW mL 94 mX10_keep 10 1 := ⟨⟨⟨by decide, by decide⟩, zX10_keep⟩, in_r45 _ (List.mem_of_getElem? (i := 23) rfl), in_r46 _ (List.mem_of_getElem? (i := 0) rfl), in_r46 _ (List.mem_of_getElem? (i := 1) rfl)⟩
theorem zX11_keep : csZ mX11_keep 1 := ⟨⟨by decide +kernel, by decide +kernel, by decide +kernel⟩, in_r46 _ (List.mem_of_getElem? (i := 11) rfl), in_r1 _ (List.mem_of_getElem? (i := 5) rfl)⟩
theorem wX11_keep : csW mL 97 mX11_keep 11 1 := ⟨⟨⟨by decide, by decide⟩, zX11_keep⟩, in_r46 _ (List.mem_of_getElem? (i := 8) rfl), in_r46 _ (List.mem_of_getElem? (i := 9) rfl), in_r46 _ (List.mem_of_getElem? (i := 10) rfl)⟩
theorem zX10_take : csZ mX10_take 1 := ⟨⟨by decide +kernel, by decide +kernel, by decide +kernel⟩, in_r46 _ (List.mem_of_getElem? (i := 18) rfl), in_r1 _ (List.mem_of_getElem? (i := 2) rfl)⟩
theorem wX10_take : csW mL 98 mX10_take 10 1 := ⟨⟨⟨by decide, by decide⟩, zX10_take⟩, in_r46 _ (List.mem_of_getElem? (i := 15) rfl), in_r46 _ (List.mem_of_getElem? (i := 16) rfl), in_r46 _ (List.mem_of_getElem? (i := 17) rfl)⟩
theorem zX11_take : csZ mX11_take 1 := ⟨⟨by decide +kernel, by decide +kernel, by decide +kernel⟩, in_r46 _ (List.mem_of_getElem? (i := 22) rfl), in_r1 _ (List.mem_of_getElem? (i := 5) rfl)⟩
theorem wX11_take : csW mL 101 mX11_take 11 1 := ⟨⟨⟨by decide, by decide⟩, zX11_take⟩, in_r46 _ (List.mem_of_getElem? (i := 19) rfl), in_r46 _ (List.mem_of_getElem? (i := 20) rfl), in_r46 _ (List.mem_of_getElem? (i := 21) rfl)⟩
theorem zX10_worthAt : csZ mX10_worthAt 2 := ⟨⟨by decide +kernel, by decide +kernel, by decide +kernel⟩, in_r47 _ (List.mem_of_getElem? (i := 2) rfl), in_r1 _ (List.mem_of_getElem? (i := 2) rfl)⟩
theorem wX10_worthAt : csW mL 102 mX10_worthAt 10 2 := ⟨⟨⟨by decide, by decide⟩, zX10_worthAt⟩, in_r46 _ (List.mem_of_getElem? (i := 23) rfl), in_r47 _ (List.mem_of_getElem? (i := 0) rfl), in_r47 _ (List.mem_of_getElem? (i := 1) rfl)⟩
theorem zX11_worthAt : csZ mX11_worthAt 2 := ⟨⟨by decide +kernel, by decide +kernel, by decide +kernel⟩, in_r47 _ (List.mem_of_getElem? (i := 19) rfl), in_r1 _ (List.mem_of_getElem? (i := 5) rfl)⟩
theorem wX11_worthAt : csW mL 105 mX11_worthAt 11 2 := ⟨⟨⟨by decide, by decide⟩, zX11_worthAt⟩, in_r47 _ (List.mem_of_getElem? (i := 16) rfl), in_r47 _ (List.mem_of_getElem? (i := 17) rfl), in_r47 _ (List.mem_of_getElem? (i := 18) rfl)⟩
theorem zX10_rate : csZ mX10_rate 1 := ⟨⟨by decide +kernel, by decide +kernel, by decide +kernel⟩, in_r48 _ (List.mem_of_getElem? (i := 8) rfl), in_r1 _ (List.mem_of_getElem? (i := 2) rfl)⟩
theorem wX10_rate : csW mL 106 mX10_rate 10 1 := ⟨⟨⟨by decide, by decide⟩, zX10_rate⟩, in_r48 _ (List.mem_of_getElem? (i := 5) rfl), in_r48 _ (List.mem_of_getElem? (i := 6) rfl), in_r48 _ (List.mem_of_getElem? (i := 7) rfl)⟩
theorem zX11_rate : csZ mX11_rate 1 := ⟨⟨by decide +kernel, by decide +kernel, by decide +kernel⟩, in_r48 _ (List.mem_of_getElem? (i := 12) rfl), in_r1 _ (List.mem_of_getElem? (i := 5) rfl)⟩
theorem wX11_rate : csW mL 109 mX11_rate 11 1 := ⟨⟨⟨by decide, by decide⟩, zX11_rate⟩, in_r48 _ (List.mem_of_getElem? (i := 9) rfl), in_r48 _ (List.mem_of_getElem? (i := 10) rfl), in_r48 _ (List.mem_of_getElem? (i := 11) rfl)⟩
theorem zX10_rest : csZ mX10_rest 1 := ⟨⟨by decide +kernel, by decide +kernel, by decide +kernel⟩, in_r48 _ (List.mem_of_getElem? (i := 16) rfl), in_r1 _ (List.mem_of_getElem? (i := 2) rfl)⟩
theorem wX10_rest : csW mL 110 mX10_rest 10 1 := ⟨⟨⟨by decide, by decide⟩, zX10_rest⟩, in_r48 _ (List.mem_of_getElem? (i := 13) rfl), in_r48 _ (List.mem_of_getElem? (i := 14) rfl), in_r48 _ (List.mem_of_getElem? (i := 15) rfl)⟩
theorem zX11_rest : csZ mX11_rest 1 := ⟨⟨by decide +kernel, by decide +kernel, by decide +kernel⟩, in_r49 _ (List.mem_of_getElem? (i := 8) rfl), in_r1 _ (List.mem_of_getElem? (i := 5) rfl)⟩
theorem wX11_rest : csW mL 113 mX11_rest 11 1 := ⟨⟨⟨by decide, by decide⟩, zX11_rest⟩, in_r49 _ (List.mem_of_getElem? (i := 5) rfl), in_r49 _ (List.mem_of_getElem? (i := 6) rfl), in_r49 _ (List.mem_of_getElem? (i := 7) rfl)⟩
theorem zX10_restTurns : csZ mX10_restTurns 0 := ⟨⟨by decide +kernel, by decide +kernel, by decide +kernel⟩, in_r49 _ (List.mem_of_getElem? (i := 16) rfl), in_r1 _ (List.mem_of_getElem? (i := 2) rfl)⟩
theorem wX10_restTurns : csW mL 114 mX10_restTurns 10 0 := ⟨⟨⟨by decide, by decide⟩, zX10_restTurns⟩, in_r49 _ (List.mem_of_getElem? (i := 13) rfl), in_r49 _ (List.mem_of_getElem? (i := 14) rfl), in_r49 _ (List.mem_of_getElem? (i := 15) rfl)⟩
theorem zX11_restTurns : csZ mX11_restTurns 0 := ⟨⟨by decide +kernel, by decide +kernel, by decide +kernel⟩, in_r49 _ (List.mem_of_getElem? (i := 20) rfl), in_r1 _ (List.mem_of_getElem? (i := 5) rfl)⟩
theorem wX11_restTurns : csW mL 117 mX11_restTurns 11 0 := ⟨⟨⟨by decide, by decide⟩, zX11_restTurns⟩, in_r49 _ (List.mem_of_getElem? (i := 17) rfl), in_r49 _ (List.mem_of_getElem? (i := 18) rfl), in_r49 _ (List.mem_of_getElem? (i := 19) rfl)⟩
theorem zX10_two : csZ mX10_two 7 := ⟨⟨by decide +kernel, by decide +kernel, by decide +kernel⟩, in_r50 _ (List.mem_of_getElem? (i := 0) rfl), in_r1 _ (List.mem_of_getElem? (i := 2) rfl)⟩
theorem wX10_two : csW mL 118 mX10_two 10 7 := ⟨⟨⟨by decide, by decide⟩, zX10_two⟩, in_r49 _ (List.mem_of_getElem? (i := 21) rfl), in_r49 _ (List.mem_of_getElem? (i := 22) rfl), in_r49 _ (List.mem_of_getElem? (i := 23) rfl)⟩
theorem zX11_two : csZ mX11_two 7 := ⟨⟨by decide +kernel, by decide +kernel, by decide +kernel⟩, in_r51 _ (List.mem_of_getElem? (i := 13) rfl), in_r1 _ (List.mem_of_getElem? (i := 5) rfl)⟩
theorem wX11_two : csW mL 122 mX11_two 11 7 := ⟨⟨⟨by decide, by decide⟩, zX11_two⟩, in_r51 _ (List.mem_of_getElem? (i := 10) rfl), in_r51 _ (List.mem_of_getElem? (i := 11) rfl), in_r51 _ (List.mem_of_getElem? (i := 12) rfl)⟩
theorem zX10_lend : csZ mX10_lend 4 := ⟨⟨by decide +kernel, by decide +kernel, by decide +kernel⟩, in_r52 _ (List.mem_of_getElem? (i := 4) rfl), in_r1 _ (List.mem_of_getElem? (i := 2) rfl)⟩
theorem wX10_lend : csW mL 123 mX10_lend 10 4 := ⟨⟨⟨by decide, by decide⟩, zX10_lend⟩, in_r52 _ (List.mem_of_getElem? (i := 1) rfl), in_r52 _ (List.mem_of_getElem? (i := 2) rfl), in_r52 _ (List.mem_of_getElem? (i := 3) rfl)⟩
theorem zX11_lend : csZ mX11_lend 4 := ⟨⟨by decide +kernel, by decide +kernel, by decide +kernel⟩, in_r52 _ (List.mem_of_getElem? (i := 12) rfl), in_r1 _ (List.mem_of_getElem? (i := 5) rfl)⟩
theorem wX11_lend : csW mL 127 mX11_lend 11 4 := ⟨⟨⟨by decide, by decide⟩, zX11_lend⟩, in_r52 _ (List.mem_of_getElem? (i := 9) rfl), in_r52 _ (List.mem_of_getElem? (i := 10) rfl), in_r52 _ (List.mem_of_getElem? (i := 11) rfl)⟩
theorem zX10_early : csZ mX10_early 3 := ⟨⟨by decide +kernel, by decide +kernel, by decide +kernel⟩, in_r52 _ (List.mem_of_getElem? (i := 18) rfl), in_r1 _ (List.mem_of_getElem? (i := 2) rfl)⟩
theorem wX10_early : csW mL 128 mX10_early 10 3 := ⟨⟨⟨by decide, by decide⟩, zX10_early⟩, in_r52 _ (List.mem_of_getElem? (i := 15) rfl), in_r52 _ (List.mem_of_getElem? (i := 16) rfl), in_r52 _ (List.mem_of_getElem? (i := 17) rfl)⟩
theorem zX11_early : csZ mX11_early 3 := ⟨⟨by decide +kernel, by decide +kernel, by decide +kernel⟩, in_r53 _ (List.mem_of_getElem? (i := 3) rfl), in_r1 _ (List.mem_of_getElem? (i := 5) rfl)⟩
theorem wX11_early : csW mL 131 mX11_early 11 3 := ⟨⟨⟨by decide, by decide⟩, zX11_early⟩, in_r53 _ (List.mem_of_getElem? (i := 0) rfl), in_r53 _ (List.mem_of_getElem? (i := 1) rfl), in_r53 _ (List.mem_of_getElem? (i := 2) rfl)⟩
theorem zX10_values : csZ mX10_values 0 := ⟨⟨by decide +kernel, by decide +kernel, by decide +kernel⟩, in_r53 _ (List.mem_of_getElem? (i := 7) rfl), in_r1 _ (List.mem_of_getElem? (i := 2) rfl)⟩
theorem wX10_values : csW mL 132 mX10_values 10 0 := ⟨⟨⟨by decide, by decide⟩, zX10_values⟩, in_r53 _ (List.mem_of_getElem? (i := 4) rfl), in_r53 _ (List.mem_of_getElem? (i := 5) rfl), in_r53 _ (List.mem_of_getElem? (i := 6) rfl)⟩
theorem zX11_values : csZ mX11_values 0 := ⟨⟨by decide +kernel, by decide +kernel, by decide +kernel⟩, in_r53 _ (List.mem_of_getElem? (i := 22) rfl), in_r1 _ (List.mem_of_getElem? (i := 5) rfl)⟩
theorem wX11_values : csW mL 135 mX11_values 11 0 := ⟨⟨⟨by decide, by decide⟩, zX11_values⟩, in_r53 _ (List.mem_of_getElem? (i := 19) rfl), in_r53 _ (List.mem_of_getElem? (i := 20) rfl), in_r53 _ (List.mem_of_getElem? (i := 21) rfl)⟩
theorem zX10_meet : csZ mX10_meet 6 := ⟨⟨by decide +kernel, by decide +kernel, by decide +kernel⟩, in_r54 _ (List.mem_of_getElem? (i := 2) rfl), in_r1 _ (List.mem_of_getElem? (i := 2) rfl)⟩
theorem wX10_meet : csW mL 136 mX10_meet 10 6 := ⟨⟨⟨by decide, by decide⟩, zX10_meet⟩, in_r53 _ (List.mem_of_getElem? (i := 23) rfl), in_r54 _ (List.mem_of_getElem? (i := 0) rfl), in_r54 _ (List.mem_of_getElem? (i := 1) rfl)⟩
theorem zX11_meet : csZ mX11_meet 6 := ⟨⟨by decide +kernel, by decide +kernel, by decide +kernel⟩, in_r55 _ (List.mem_of_getElem? (i := 7) rfl), in_r1 _ (List.mem_of_getElem? (i := 5) rfl)⟩
theorem wX11_meet : csW mL 140 mX11_meet 11 6 := ⟨⟨⟨by decide, by decide⟩, zX11_meet⟩, in_r55 _ (List.mem_of_getElem? (i := 4) rfl), in_r55 _ (List.mem_of_getElem? (i := 5) rfl), in_r55 _ (List.mem_of_getElem? (i := 6) rfl)⟩
theorem zX10_rests : csZ mX10_rests 3 := ⟨⟨by decide +kernel, by decide +kernel, by decide +kernel⟩, in_r56 _ (List.mem_of_getElem? (i := 0) rfl), in_r1 _ (List.mem_of_getElem? (i := 2) rfl)⟩
theorem wX10_rests : csW mL 141 mX10_rests 10 3 := ⟨⟨⟨by decide, by decide⟩, zX10_rests⟩, in_r55 _ (List.mem_of_getElem? (i := 21) rfl), in_r55 _ (List.mem_of_getElem? (i := 22) rfl), in_r55 _ (List.mem_of_getElem? (i := 23) rfl)⟩
theorem zX11_rests : csZ mX11_rests 3 := ⟨⟨by decide +kernel, by decide +kernel, by decide +kernel⟩, in_r56 _ (List.mem_of_getElem? (i := 9) rfl), in_r1 _ (List.mem_of_getElem? (i := 5) rfl)⟩
theorem wX11_rests : csW mL 144 mX11_rests 11 3 := ⟨⟨⟨by decide, by decide⟩, zX11_rests⟩, in_r56 _ (List.mem_of_getElem? (i := 6) rfl), in_r56 _ (List.mem_of_getElem? (i := 7) rfl), in_r56 _ (List.mem_of_getElem? (i := 8) rfl)⟩
theorem zX10_book : csZ mX10_book 0 := ⟨⟨by decide +kernel, by decide +kernel, by decide +kernel⟩, in_r56 _ (List.mem_of_getElem? (i := 13) rfl), in_r1 _ (List.mem_of_getElem? (i := 2) rfl)⟩
theorem wX10_book : csW mL 145 mX10_book 10 0 := ⟨⟨⟨by decide, by decide⟩, zX10_book⟩, in_r56 _ (List.mem_of_getElem? (i := 10) rfl), in_r56 _ (List.mem_of_getElem? (i := 11) rfl), in_r56 _ (List.mem_of_getElem? (i := 12) rfl)⟩
theorem zX11_book : csZ mX11_book 0 := ⟨⟨by decide +kernel, by decide +kernel, by decide +kernel⟩, in_r57 _ (List.mem_of_getElem? (i := 1) rfl), in_r1 _ (List.mem_of_getElem? (i := 5) rfl)⟩
theorem wX11_book : csW mL 148 mX11_book 11 0 := ⟨⟨⟨by decide, by decide⟩, zX11_book⟩, in_r56 _ (List.mem_of_getElem? (i := 22) rfl), in_r56 _ (List.mem_of_getElem? (i := 23) rfl), in_r57 _ (List.mem_of_getElem? (i := 0) rfl)⟩
theorem zX10_count : csZ mX10_count 1 := ⟨⟨by decide +kernel, by decide +kernel, by decide +kernel⟩, in_r57 _ (List.mem_of_getElem? (i := 9) rfl), in_r1 _ (List.mem_of_getElem? (i := 2) rfl)⟩
theorem wX10_count : csW mL 149 mX10_count 10 1 := ⟨⟨⟨by decide, by decide⟩, zX10_count⟩, in_r57 _ (List.mem_of_getElem? (i := 6) rfl), in_r57 _ (List.mem_of_getElem? (i := 7) rfl), in_r57 _ (List.mem_of_getElem? (i := 8) rfl)⟩
theorem zX11_count : csZ mX11_count 1 := ⟨⟨by decide +kernel, by decide +kernel, by decide +kernel⟩, in_r57 _ (List.mem_of_getElem? (i := 13) rfl), in_r1 _ (List.mem_of_getElem? (i := 5) rfl)⟩
theorem wX11_count : csW mL 152 mX11_count 11 1 := ⟨⟨⟨by decide, by decide⟩, zX11_count⟩, in_r57 _ (List.mem_of_getElem? (i := 10) rfl), in_r57 _ (List.mem_of_getElem? (i := 11) rfl), in_r57 _ (List.mem_of_getElem? (i := 12) rfl)⟩
theorem vinL {Z : LB} {i : Int32} (hL : z_L Z = 8) (h : vp_in i 8) : vp_in i (z_L Z) := by rw [hL]; exact h
/-- both fresh -/
def FF (Z : LB) (Y : YY) : Prop := (RfX (gX Z) Y.1.2.2 ∧ XF (gX Z) Y.1.1 Y.1.2.1 Y.1.2.2) ∧ (Rf (gM Z) Y.2.2.2 ∧ MF (gM Z) Y.2.1 Y.2.2.1)
theorem ly_X {Z : LB} : LyX (gX Z) := gk_ly (B := zX Z) ⟨rfl, rfl⟩ 74
theorem ly_M {Z : LB} : Ly (gM Z) := gk_ly (B := zM Z) ⟨rfl, rfl⟩ 49
theorem ad_X {Z : LB} : ad (gX Z) P_x = z_h Z + 0 := gk_ad (B := zX Z) (k := 74) (i := 0) (by decide)
theorem ad_M {Z : LB} : ad (gM Z) P_o = z_h Z + 74 + 0 := gk_ad (B := zM Z) (k := 49) (i := 0) (by decide)
set_option maxHeartbeats 4000000 in
set_option maxRecDepth 100000 in
theorem L_out {Z : LB} {Y : YY} (hL : z_L Z = 8) : WL Z mL 1375 [(0, .ref (z_b Z)), (1, .ref (z_h Z + 0)), (2, .ref (z_h Z + 74 + 0)), (3, .int (0))] [] Y := by
  refine WL_iinc (ls' := [(0, _), (1, _), (2, _), (3, _)]) dL_law_1375 rfl (by decide) rfl ?_
  refine WL_goto 18 dL_law_1378 rfl ?_
  refine WL_iload_n dL_law_18 rfl ?_
  refine WL_aload_n dL_law_19 rfl ?_
  refine WL_slen dL_law_20 ?_
  rw [hL]
  refine WL_bipush (8) dL_law_21 rfl ?_
  refine WL_isub dL_law_23 ?_
  refine WL_icmp_gt 1381 dL_law_24 rfl (fun _ => ?_) (fun h => absurd (by decide) h)
  refine WL_iconst (1) dL_law_1381 rfl ?_
  exact WL_ret dL_law_1382 rfl
theorem tX_feed {Z : LB} {Y : YY} (hF : FF Z Y) (a b c e f : Int32) : SP (gX Z) mX10_feed [.ref (z_h Z + 0), .int a, .int b, .int c, .int e, .int f] Y.1.1 Y.1.2.1 Y.1.2.2 (rq 20) := by
  have h := xr_feed (g := gX Z) ly_X hF.1.1 hF.1.2 a b c e f
  rw [ad_X] at h
  exact h
theorem tM_feed {Z : LB} {I9 : pI} {J9 : pJ} {R9 : pR} {Y : YY} (hF : FF Z Y) (a b c e f : Int32) : SP (gM Z) mX11_feed [.ref (z_h Z + 74 + 0), .int a, .int b, .int c, .int e, .int f] ((I9, J9, R9), Y.2).2.1 ((I9, J9, R9), Y.2).2.2.1 ((I9, J9, R9), Y.2).2.2.2 (rq 20) := by
  have h := fr_feed (g := gM Z) (R := Y.2.2.2) ly_M hF.2.1 hF.2.2 a b c e f
  rw [ad_M] at h
  exact h
set_option maxHeartbeats 4000000 in
set_option maxRecDepth 100000 in
theorem L_feed {Z : LB} {Y : YY} (hL : z_L Z = 8) (hF : FF Z Y) : WL Z mL 180 [(0, .ref (z_b Z)), (1, .ref (z_h Z + 0)), (2, .ref (z_h Z + 74 + 0)), (3, .int (0))] [] Y := by
  refine WL_aload_n dL_law_180 rfl ?_
  refine WL_aload_n dL_law_181 rfl ?_
  refine WL_iload_n dL_law_182 rfl ?_
  refine WL_iconst (1) dL_law_183 rfl ?_
  refine WL_iadd dL_law_184 ?_
  refine WL_sld dL_law_185 (vinL hL (by unfold vp_in; decide)) ?_
  refine WL_aload_n dL_law_186 rfl ?_
  refine WL_iload_n dL_law_187 rfl ?_
  refine WL_iconst (2) dL_law_188 rfl ?_
  refine WL_iadd dL_law_189 ?_
  refine WL_sld dL_law_190 (vinL hL (by unfold vp_in; decide)) ?_
  refine WL_aload_n dL_law_191 rfl ?_
  refine WL_iload_n dL_law_192 rfl ?_
  refine WL_iconst (3) dL_law_193 rfl ?_
  refine WL_iadd dL_law_194 ?_
  refine WL_sld dL_law_195 (vinL hL (by unfold vp_in; decide)) ?_
  refine WL_aload_n dL_law_196 rfl ?_
  refine WL_iload_n dL_law_197 rfl ?_
  refine WL_iconst (4) dL_law_198 rfl ?_
  refine WL_iadd dL_law_199 ?_
  refine WL_sld dL_law_200 (vinL hL (by unfold vp_in; decide)) ?_
  refine WL_aload_n dL_law_201 rfl ?_
  refine WL_iload_n dL_law_202 rfl ?_
  refine WL_iconst (5) dL_law_203 rfl ?_
  refine WL_iadd dL_law_204 ?_
  refine WL_sld dL_law_205 (vinL hL (by unfold vp_in; decide)) ?_
  refine WL_callX5 dL_law_206 wX10_feed (tX_feed (Z := Z) hF _ _ _ _ _) (Nat.le_of_ble_eq_true rfl) (fun r0 I0 J0 R0 hq0 => ?_)
  obtain rfl : r0 = some (.int _) := hq0
  show WL Z mL _ _ (.int _ :: _) _
  refine WL_aload_n dL_law_209 rfl ?_
  refine WL_aload_n dL_law_210 rfl ?_
  refine WL_iload_n dL_law_211 rfl ?_
  refine WL_iconst (1) dL_law_212 rfl ?_
  refine WL_iadd dL_law_213 ?_
  refine WL_sld dL_law_214 (vinL hL (by unfold vp_in; decide)) ?_
  refine WL_aload_n dL_law_215 rfl ?_
  refine WL_iload_n dL_law_216 rfl ?_
  refine WL_iconst (2) dL_law_217 rfl ?_
  refine WL_iadd dL_law_218 ?_
  refine WL_sld dL_law_219 (vinL hL (by unfold vp_in; decide)) ?_
  refine WL_aload_n dL_law_220 rfl ?_
  refine WL_iload_n dL_law_221 rfl ?_
  refine WL_iconst (3) dL_law_222 rfl ?_
  refine WL_iadd dL_law_223 ?_
  refine WL_sld dL_law_224 (vinL hL (by unfold vp_in; decide)) ?_
  refine WL_aload_n dL_law_225 rfl ?_
  refine WL_iload_n dL_law_226 rfl ?_
  refine WL_iconst (4) dL_law_227 rfl ?_
  refine WL_iadd dL_law_228 ?_
  refine WL_sld dL_law_229 (vinL hL (by unfold vp_in; decide)) ?_
  refine WL_aload_n dL_law_230 rfl ?_
  refine WL_iload_n dL_law_231 rfl ?_
  refine WL_iconst (5) dL_law_232 rfl ?_
  refine WL_iadd dL_law_233 ?_
  refine WL_sld dL_law_234 (vinL hL (by unfold vp_in; decide)) ?_
  refine WL_callM5 dL_law_235 wX11_feed (tM_feed (Z := Z) hF _ _ _ _ _) (Nat.le_of_ble_eq_true rfl) (fun r1 I1 J1 R1 hq1 => ?_)
  obtain rfl : r1 = some (.int _) := hq1
  show WL Z mL _ _ (.int _ :: _) _
  refine WL_icmp_eq 1375 dL_law_238 rfl (fun _ => L_out hL) (fun h => absurd rfl h)
theorem tX_end {Z : LB} {Y : YY} (hF : FF Z Y) (a : Int32) : SP (gX Z) mX10_end [.ref (z_h Z + 0), .int a] Y.1.1 Y.1.2.1 Y.1.2.2 (rq (if a.toInt = 0 then 0 else -1)) := by
  have h := xr_end (g := gX Z) ly_X hF.1.1 hF.1.2 a
  rw [ad_X] at h
  exact h
theorem tM_end {Z : LB} {I9 : pI} {J9 : pJ} {R9 : pR} {Y : YY} (hF : FF Z Y) (a : Int32) : SP (gM Z) mX11_end [.ref (z_h Z + 74 + 0), .int a] ((I9, J9, R9), Y.2).2.1 ((I9, J9, R9), Y.2).2.2.1 ((I9, J9, R9), Y.2).2.2.2 (rq (if a.toInt = 0 then 0 else -1)) := by
  have h := fr_end (g := gM Z) (R := Y.2.2.2) ly_M hF.2.1 hF.2.2 a
  rw [ad_M] at h
  exact h
set_option maxHeartbeats 4000000 in
set_option maxRecDepth 100000 in
theorem L_end {Z : LB} {Y : YY} (hL : z_L Z = 8) (hF : FF Z Y) : WL Z mL 243 [(0, .ref (z_b Z)), (1, .ref (z_h Z + 0)), (2, .ref (z_h Z + 74 + 0)), (3, .int (0))] [] Y := by
  refine WL_aload_n dL_law_243 rfl ?_
  refine WL_aload_n dL_law_244 rfl ?_
  refine WL_iload_n dL_law_245 rfl ?_
  refine WL_iconst (1) dL_law_246 rfl ?_
  refine WL_iadd dL_law_247 ?_
  refine WL_sld dL_law_248 (vinL hL (by unfold vp_in; decide)) ?_
  refine WL_callX1 dL_law_249 wX10_end (tX_end (Z := Z) hF _) (Nat.le_of_ble_eq_true rfl) (fun r0 I0 J0 R0 hq0 => ?_)
  obtain rfl : r0 = some (.int _) := hq0
  show WL Z mL _ _ (.int _ :: _) _
  refine WL_aload_n dL_law_252 rfl ?_
  refine WL_aload_n dL_law_253 rfl ?_
  refine WL_iload_n dL_law_254 rfl ?_
  refine WL_iconst (1) dL_law_255 rfl ?_
  refine WL_iadd dL_law_256 ?_
  refine WL_sld dL_law_257 (vinL hL (by unfold vp_in; decide)) ?_
  refine WL_callM1 dL_law_258 wX11_end (tM_end (Z := Z) hF _) (Nat.le_of_ble_eq_true rfl) (fun r1 I1 J1 R1 hq1 => ?_)
  obtain rfl : r1 = some (.int _) := hq1
  show WL Z mL _ _ (.int _ :: _) _
  refine WL_icmp_eq 1375 dL_law_261 rfl (fun _ => L_out hL) (fun h => absurd rfl h)
theorem tX_town {Z : LB} {Y : YY} (hF : FF Z Y)  : SP (gX Z) mX10_town [.ref (z_h Z + 0)] Y.1.1 Y.1.2.1 Y.1.2.2 (rq 0) := by
  have h := xr_town (g := gX Z) ly_X hF.1.1 hF.1.2
  rw [ad_X] at h
  exact h
theorem tM_town {Z : LB} {I9 : pI} {J9 : pJ} {R9 : pR} {Y : YY} (hF : FF Z Y)  : SP (gM Z) mX11_town [.ref (z_h Z + 74 + 0)] ((I9, J9, R9), Y.2).2.1 ((I9, J9, R9), Y.2).2.2.1 ((I9, J9, R9), Y.2).2.2.2 (rq 0) := by
  have h := fr_town (g := gM Z) (R := Y.2.2.2) ly_M hF.2.1 hF.2.2
  rw [ad_M] at h
  exact h
set_option maxHeartbeats 4000000 in
set_option maxRecDepth 100000 in
theorem L_town {Z : LB} {Y : YY} (hL : z_L Z = 8) (hF : FF Z Y) : WL Z mL 266 [(0, .ref (z_b Z)), (1, .ref (z_h Z + 0)), (2, .ref (z_h Z + 74 + 0)), (3, .int (0))] [] Y := by
  refine WL_aload_n dL_law_266 rfl ?_
  refine WL_callX0 dL_law_267 wX10_town (tX_town (Z := Z) hF) (Nat.le_of_ble_eq_true rfl) (fun r0 I0 J0 R0 hq0 => ?_)
  obtain rfl : r0 = some (.int _) := hq0
  show WL Z mL _ _ (.int _ :: _) _
  refine WL_aload_n dL_law_270 rfl ?_
  refine WL_callM0 dL_law_271 wX11_town (tM_town (Z := Z) hF) (Nat.le_of_ble_eq_true rfl) (fun r1 I1 J1 R1 hq1 => ?_)
  obtain rfl : r1 = some (.int _) := hq1
  show WL Z mL _ _ (.int _ :: _) _
  refine WL_icmp_eq 1375 dL_law_274 rfl (fun _ => L_out hL) (fun h => absurd rfl h)
theorem tX_fault {Z : LB} {Y : YY} (hF : FF Z Y) (a : Int32) : SP (gX Z) mX10_fault [.ref (z_h Z + 0), .int a] Y.1.1 Y.1.2.1 Y.1.2.2 (rq (if a.toInt = 0 then 0 else -1)) := by
  have h := xr_fault (g := gX Z) ly_X hF.1.1 hF.1.2 a
  rw [ad_X] at h
  exact h
theorem tM_fault {Z : LB} {I9 : pI} {J9 : pJ} {R9 : pR} {Y : YY} (hF : FF Z Y) (a : Int32) : SP (gM Z) mX11_fault [.ref (z_h Z + 74 + 0), .int a] ((I9, J9, R9), Y.2).2.1 ((I9, J9, R9), Y.2).2.2.1 ((I9, J9, R9), Y.2).2.2.2 (rq (if a.toInt = 0 then 0 else -1)) := by
  have h := fr_fault (g := gM Z) (R := Y.2.2.2) ly_M hF.2.1 hF.2.2 a
  rw [ad_M] at h
  exact h
set_option maxHeartbeats 4000000 in
set_option maxRecDepth 100000 in
theorem L_fault {Z : LB} {Y : YY} (hL : z_L Z = 8) (hF : FF Z Y) : WL Z mL 279 [(0, .ref (z_b Z)), (1, .ref (z_h Z + 0)), (2, .ref (z_h Z + 74 + 0)), (3, .int (0))] [] Y := by
  refine WL_aload_n dL_law_279 rfl ?_
  refine WL_aload_n dL_law_280 rfl ?_
  refine WL_iload_n dL_law_281 rfl ?_
  refine WL_iconst (1) dL_law_282 rfl ?_
  refine WL_iadd dL_law_283 ?_
  refine WL_sld dL_law_284 (vinL hL (by unfold vp_in; decide)) ?_
  refine WL_callX1 dL_law_285 wX10_fault (tX_fault (Z := Z) hF _) (Nat.le_of_ble_eq_true rfl) (fun r0 I0 J0 R0 hq0 => ?_)
  obtain rfl : r0 = some (.int _) := hq0
  show WL Z mL _ _ (.int _ :: _) _
  refine WL_aload_n dL_law_288 rfl ?_
  refine WL_aload_n dL_law_289 rfl ?_
  refine WL_iload_n dL_law_290 rfl ?_
  refine WL_iconst (1) dL_law_291 rfl ?_
  refine WL_iadd dL_law_292 ?_
  refine WL_sld dL_law_293 (vinL hL (by unfold vp_in; decide)) ?_
  refine WL_callM1 dL_law_294 wX11_fault (tM_fault (Z := Z) hF _) (Nat.le_of_ble_eq_true rfl) (fun r1 I1 J1 R1 hq1 => ?_)
  obtain rfl : r1 = some (.int _) := hq1
  show WL Z mL _ _ (.int _ :: _) _
  refine WL_icmp_eq 1375 dL_law_297 rfl (fun _ => L_out hL) (fun h => absurd rfl h)
theorem tX_told {Z : LB} {Y : YY} (hF : FF Z Y) (a : Int32) : SP (gX Z) mX10_told [.ref (z_h Z + 0), .int a] Y.1.1 Y.1.2.1 Y.1.2.2 (rq (if (10 ≤ a.toInt ∧ a.toInt ≤ 16) ∨ a.toInt = 0 ∨ a.toInt = 1 then 0 else -1)) := by
  have h := xr_told (g := gX Z) ly_X hF.1.1 hF.1.2 a
  rw [ad_X] at h
  exact h
theorem tM_told {Z : LB} {I9 : pI} {J9 : pJ} {R9 : pR} {Y : YY} (hF : FF Z Y) (a : Int32) : SP (gM Z) mX11_told [.ref (z_h Z + 74 + 0), .int a] ((I9, J9, R9), Y.2).2.1 ((I9, J9, R9), Y.2).2.2.1 ((I9, J9, R9), Y.2).2.2.2 (rq (if (10 ≤ a.toInt ∧ a.toInt ≤ 16) ∨ a.toInt = 0 ∨ a.toInt = 1 then 0 else -1)) := by
  have h := fr_told (g := gM Z) (R := Y.2.2.2) ly_M hF.2.1 hF.2.2 a
  rw [ad_M] at h
  exact h
set_option maxHeartbeats 4000000 in
set_option maxRecDepth 100000 in
theorem L_told {Z : LB} {Y : YY} (hL : z_L Z = 8) (hF : FF Z Y) : WL Z mL 302 [(0, .ref (z_b Z)), (1, .ref (z_h Z + 0)), (2, .ref (z_h Z + 74 + 0)), (3, .int (0))] [] Y := by
  refine WL_aload_n dL_law_302 rfl ?_
  refine WL_aload_n dL_law_303 rfl ?_
  refine WL_iload_n dL_law_304 rfl ?_
  refine WL_iconst (1) dL_law_305 rfl ?_
  refine WL_iadd dL_law_306 ?_
  refine WL_sld dL_law_307 (vinL hL (by unfold vp_in; decide)) ?_
  refine WL_callX1 dL_law_308 wX10_told (tX_told (Z := Z) hF _) (Nat.le_of_ble_eq_true rfl) (fun r0 I0 J0 R0 hq0 => ?_)
  obtain rfl : r0 = some (.int _) := hq0
  show WL Z mL _ _ (.int _ :: _) _
  refine WL_aload_n dL_law_311 rfl ?_
  refine WL_aload_n dL_law_312 rfl ?_
  refine WL_iload_n dL_law_313 rfl ?_
  refine WL_iconst (1) dL_law_314 rfl ?_
  refine WL_iadd dL_law_315 ?_
  refine WL_sld dL_law_316 (vinL hL (by unfold vp_in; decide)) ?_
  refine WL_callM1 dL_law_317 wX11_told (tM_told (Z := Z) hF _) (Nat.le_of_ble_eq_true rfl) (fun r1 I1 J1 R1 hq1 => ?_)
  obtain rfl : r1 = some (.int _) := hq1
  show WL Z mL _ _ (.int _ :: _) _
  refine WL_icmp_eq 1375 dL_law_320 rfl (fun _ => L_out hL) (fun h => absurd rfl h)
theorem tX_earns {Z : LB} {Y : YY} (hF : FF Z Y) (a b : Int32) : SP (gX Z) mX10_earns [.ref (z_h Z + 0), .int a, .int b] Y.1.1 Y.1.2.1 Y.1.2.2 (rq (-2)) := by
  have h := xr_earns (g := gX Z) ly_X hF.1.1 hF.1.2 a b
  rw [ad_X] at h
  exact h
theorem tM_earns {Z : LB} {I9 : pI} {J9 : pJ} {R9 : pR} {Y : YY} (hF : FF Z Y) (a b : Int32) : SP (gM Z) mX11_earns [.ref (z_h Z + 74 + 0), .int a, .int b] ((I9, J9, R9), Y.2).2.1 ((I9, J9, R9), Y.2).2.2.1 ((I9, J9, R9), Y.2).2.2.2 (rq (-2)) := by
  have h := fr_earns (g := gM Z) (R := Y.2.2.2) ly_M hF.2.1 hF.2.2 a b
  rw [ad_M] at h
  exact h
set_option maxHeartbeats 4000000 in
set_option maxRecDepth 100000 in
theorem L_earns {Z : LB} {Y : YY} (hL : z_L Z = 8) (hF : FF Z Y) : WL Z mL 325 [(0, .ref (z_b Z)), (1, .ref (z_h Z + 0)), (2, .ref (z_h Z + 74 + 0)), (3, .int (0))] [] Y := by
  refine WL_aload_n dL_law_325 rfl ?_
  refine WL_aload_n dL_law_326 rfl ?_
  refine WL_iload_n dL_law_327 rfl ?_
  refine WL_iconst (1) dL_law_328 rfl ?_
  refine WL_iadd dL_law_329 ?_
  refine WL_sld dL_law_330 (vinL hL (by unfold vp_in; decide)) ?_
  refine WL_aload_n dL_law_331 rfl ?_
  refine WL_iload_n dL_law_332 rfl ?_
  refine WL_iconst (2) dL_law_333 rfl ?_
  refine WL_iadd dL_law_334 ?_
  refine WL_sld dL_law_335 (vinL hL (by unfold vp_in; decide)) ?_
  refine WL_callX2 dL_law_336 wX10_earns (tX_earns (Z := Z) hF _ _) (Nat.le_of_ble_eq_true rfl) (fun r0 I0 J0 R0 hq0 => ?_)
  obtain rfl : r0 = some (.int _) := hq0
  show WL Z mL _ _ (.int _ :: _) _
  refine WL_aload_n dL_law_339 rfl ?_
  refine WL_aload_n dL_law_340 rfl ?_
  refine WL_iload_n dL_law_341 rfl ?_
  refine WL_iconst (1) dL_law_342 rfl ?_
  refine WL_iadd dL_law_343 ?_
  refine WL_sld dL_law_344 (vinL hL (by unfold vp_in; decide)) ?_
  refine WL_aload_n dL_law_345 rfl ?_
  refine WL_iload_n dL_law_346 rfl ?_
  refine WL_iconst (2) dL_law_347 rfl ?_
  refine WL_iadd dL_law_348 ?_
  refine WL_sld dL_law_349 (vinL hL (by unfold vp_in; decide)) ?_
  refine WL_callM2 dL_law_350 wX11_earns (tM_earns (Z := Z) hF _ _) (Nat.le_of_ble_eq_true rfl) (fun r1 I1 J1 R1 hq1 => ?_)
  obtain rfl : r1 = some (.int _) := hq1
  show WL Z mL _ _ (.int _ :: _) _
  refine WL_icmp_eq 1375 dL_law_353 rfl (fun _ => L_out hL) (fun h => absurd rfl h)
theorem tX_price {Z : LB} {Y : YY} (hF : FF Z Y) (a b : Int32) : SP (gX Z) mX10_price [.ref (z_h Z + 0), .int a, .int b] Y.1.1 Y.1.2.1 Y.1.2.2 (rq (-2)) := by
  have h := xr_price (g := gX Z) ly_X hF.1.1 hF.1.2 a b
  rw [ad_X] at h
  exact h
theorem tM_price {Z : LB} {I9 : pI} {J9 : pJ} {R9 : pR} {Y : YY} (hF : FF Z Y) (a b : Int32) : SP (gM Z) mX11_price [.ref (z_h Z + 74 + 0), .int a, .int b] ((I9, J9, R9), Y.2).2.1 ((I9, J9, R9), Y.2).2.2.1 ((I9, J9, R9), Y.2).2.2.2 (rq (-2)) := by
  have h := fr_price (g := gM Z) (R := Y.2.2.2) ly_M hF.2.1 hF.2.2 a b
  rw [ad_M] at h
  exact h
set_option maxHeartbeats 4000000 in
set_option maxRecDepth 100000 in
theorem L_price {Z : LB} {Y : YY} (hL : z_L Z = 8) (hF : FF Z Y) : WL Z mL 358 [(0, .ref (z_b Z)), (1, .ref (z_h Z + 0)), (2, .ref (z_h Z + 74 + 0)), (3, .int (0))] [] Y := by
  refine WL_aload_n dL_law_358 rfl ?_
  refine WL_aload_n dL_law_359 rfl ?_
  refine WL_iload_n dL_law_360 rfl ?_
  refine WL_iconst (1) dL_law_361 rfl ?_
  refine WL_iadd dL_law_362 ?_
  refine WL_sld dL_law_363 (vinL hL (by unfold vp_in; decide)) ?_
  refine WL_aload_n dL_law_364 rfl ?_
  refine WL_iload_n dL_law_365 rfl ?_
  refine WL_iconst (2) dL_law_366 rfl ?_
  refine WL_iadd dL_law_367 ?_
  refine WL_sld dL_law_368 (vinL hL (by unfold vp_in; decide)) ?_
  refine WL_callX2 dL_law_369 wX10_price (tX_price (Z := Z) hF _ _) (Nat.le_of_ble_eq_true rfl) (fun r0 I0 J0 R0 hq0 => ?_)
  obtain rfl : r0 = some (.int _) := hq0
  show WL Z mL _ _ (.int _ :: _) _
  refine WL_aload_n dL_law_372 rfl ?_
  refine WL_aload_n dL_law_373 rfl ?_
  refine WL_iload_n dL_law_374 rfl ?_
  refine WL_iconst (1) dL_law_375 rfl ?_
  refine WL_iadd dL_law_376 ?_
  refine WL_sld dL_law_377 (vinL hL (by unfold vp_in; decide)) ?_
  refine WL_aload_n dL_law_378 rfl ?_
  refine WL_iload_n dL_law_379 rfl ?_
  refine WL_iconst (2) dL_law_380 rfl ?_
  refine WL_iadd dL_law_381 ?_
  refine WL_sld dL_law_382 (vinL hL (by unfold vp_in; decide)) ?_
  refine WL_callM2 dL_law_383 wX11_price (tM_price (Z := Z) hF _ _) (Nat.le_of_ble_eq_true rfl) (fun r1 I1 J1 R1 hq1 => ?_)
  obtain rfl : r1 = some (.int _) := hq1
  show WL Z mL _ _ (.int _ :: _) _
  refine WL_icmp_eq 1375 dL_law_386 rfl (fun _ => L_out hL) (fun h => absurd rfl h)
theorem tX_made {Z : LB} {Y : YY} (hF : FF Z Y) (a b : Int32) : SP (gX Z) mX10_made [.ref (z_h Z + 0), .int a, .int b] Y.1.1 Y.1.2.1 Y.1.2.2 (rq (-2)) := by
  have h := xr_made (g := gX Z) ly_X hF.1.1 hF.1.2 a b
  rw [ad_X] at h
  exact h
theorem tM_made {Z : LB} {I9 : pI} {J9 : pJ} {R9 : pR} {Y : YY} (hF : FF Z Y) (a b : Int32) : SP (gM Z) mX11_made [.ref (z_h Z + 74 + 0), .int a, .int b] ((I9, J9, R9), Y.2).2.1 ((I9, J9, R9), Y.2).2.2.1 ((I9, J9, R9), Y.2).2.2.2 (rq (-2)) := by
  have h := fr_made (g := gM Z) (R := Y.2.2.2) ly_M hF.2.1 hF.2.2 a b
  rw [ad_M] at h
  exact h
set_option maxHeartbeats 4000000 in
set_option maxRecDepth 100000 in
theorem L_made {Z : LB} {Y : YY} (hL : z_L Z = 8) (hF : FF Z Y) : WL Z mL 391 [(0, .ref (z_b Z)), (1, .ref (z_h Z + 0)), (2, .ref (z_h Z + 74 + 0)), (3, .int (0))] [] Y := by
  refine WL_aload_n dL_law_391 rfl ?_
  refine WL_aload_n dL_law_392 rfl ?_
  refine WL_iload_n dL_law_393 rfl ?_
  refine WL_iconst (1) dL_law_394 rfl ?_
  refine WL_iadd dL_law_395 ?_
  refine WL_sld dL_law_396 (vinL hL (by unfold vp_in; decide)) ?_
  refine WL_aload_n dL_law_397 rfl ?_
  refine WL_iload_n dL_law_398 rfl ?_
  refine WL_iconst (2) dL_law_399 rfl ?_
  refine WL_iadd dL_law_400 ?_
  refine WL_sld dL_law_401 (vinL hL (by unfold vp_in; decide)) ?_
  refine WL_callX2 dL_law_402 wX10_made (tX_made (Z := Z) hF _ _) (Nat.le_of_ble_eq_true rfl) (fun r0 I0 J0 R0 hq0 => ?_)
  obtain rfl : r0 = some (.int _) := hq0
  show WL Z mL _ _ (.int _ :: _) _
  refine WL_aload_n dL_law_405 rfl ?_
  refine WL_aload_n dL_law_406 rfl ?_
  refine WL_iload_n dL_law_407 rfl ?_
  refine WL_iconst (1) dL_law_408 rfl ?_
  refine WL_iadd dL_law_409 ?_
  refine WL_sld dL_law_410 (vinL hL (by unfold vp_in; decide)) ?_
  refine WL_aload_n dL_law_411 rfl ?_
  refine WL_iload_n dL_law_412 rfl ?_
  refine WL_iconst (2) dL_law_413 rfl ?_
  refine WL_iadd dL_law_414 ?_
  refine WL_sld dL_law_415 (vinL hL (by unfold vp_in; decide)) ?_
  refine WL_callM2 dL_law_416 wX11_made (tM_made (Z := Z) hF _ _) (Nat.le_of_ble_eq_true rfl) (fun r1 I1 J1 R1 hq1 => ?_)
  obtain rfl : r1 = some (.int _) := hq1
  show WL Z mL _ _ (.int _ :: _) _
  refine WL_icmp_eq 1375 dL_law_419 rfl (fun _ => L_out hL) (fun h => absurd rfl h)
theorem tX_wants {Z : LB} {Y : YY} (hF : FF Z Y) (a b c : Int32) : SP (gX Z) mX10_wants [.ref (z_h Z + 0), .int a, .int b, .int c] Y.1.1 Y.1.2.1 Y.1.2.2 (rq (-2)) := by
  have h := xr_wants (g := gX Z) ly_X hF.1.1 hF.1.2 a b c
  rw [ad_X] at h
  exact h
theorem tM_wants {Z : LB} {I9 : pI} {J9 : pJ} {R9 : pR} {Y : YY} (hF : FF Z Y) (a b c : Int32) : SP (gM Z) mX11_wants [.ref (z_h Z + 74 + 0), .int a, .int b, .int c] ((I9, J9, R9), Y.2).2.1 ((I9, J9, R9), Y.2).2.2.1 ((I9, J9, R9), Y.2).2.2.2 (rq (-2)) := by
  have h := fr_wants (g := gM Z) (R := Y.2.2.2) ly_M hF.2.1 hF.2.2 a b c
  rw [ad_M] at h
  exact h
set_option maxHeartbeats 4000000 in
set_option maxRecDepth 100000 in
theorem L_wants {Z : LB} {Y : YY} (hL : z_L Z = 8) (hF : FF Z Y) : WL Z mL 424 [(0, .ref (z_b Z)), (1, .ref (z_h Z + 0)), (2, .ref (z_h Z + 74 + 0)), (3, .int (0))] [] Y := by
  refine WL_aload_n dL_law_424 rfl ?_
  refine WL_aload_n dL_law_425 rfl ?_
  refine WL_iload_n dL_law_426 rfl ?_
  refine WL_iconst (1) dL_law_427 rfl ?_
  refine WL_iadd dL_law_428 ?_
  refine WL_sld dL_law_429 (vinL hL (by unfold vp_in; decide)) ?_
  refine WL_aload_n dL_law_430 rfl ?_
  refine WL_iload_n dL_law_431 rfl ?_
  refine WL_iconst (2) dL_law_432 rfl ?_
  refine WL_iadd dL_law_433 ?_
  refine WL_sld dL_law_434 (vinL hL (by unfold vp_in; decide)) ?_
  refine WL_aload_n dL_law_435 rfl ?_
  refine WL_iload_n dL_law_436 rfl ?_
  refine WL_iconst (3) dL_law_437 rfl ?_
  refine WL_iadd dL_law_438 ?_
  refine WL_sld dL_law_439 (vinL hL (by unfold vp_in; decide)) ?_
  refine WL_callX3 dL_law_440 wX10_wants (tX_wants (Z := Z) hF _ _ _) (Nat.le_of_ble_eq_true rfl) (fun r0 I0 J0 R0 hq0 => ?_)
  obtain rfl : r0 = some (.int _) := hq0
  show WL Z mL _ _ (.int _ :: _) _
  refine WL_aload_n dL_law_443 rfl ?_
  refine WL_aload_n dL_law_444 rfl ?_
  refine WL_iload_n dL_law_445 rfl ?_
  refine WL_iconst (1) dL_law_446 rfl ?_
  refine WL_iadd dL_law_447 ?_
  refine WL_sld dL_law_448 (vinL hL (by unfold vp_in; decide)) ?_
  refine WL_aload_n dL_law_449 rfl ?_
  refine WL_iload_n dL_law_450 rfl ?_
  refine WL_iconst (2) dL_law_451 rfl ?_
  refine WL_iadd dL_law_452 ?_
  refine WL_sld dL_law_453 (vinL hL (by unfold vp_in; decide)) ?_
  refine WL_aload_n dL_law_454 rfl ?_
  refine WL_iload_n dL_law_455 rfl ?_
  refine WL_iconst (3) dL_law_456 rfl ?_
  refine WL_iadd dL_law_457 ?_
  refine WL_sld dL_law_458 (vinL hL (by unfold vp_in; decide)) ?_
  refine WL_callM3 dL_law_459 wX11_wants (tM_wants (Z := Z) hF _ _ _) (Nat.le_of_ble_eq_true rfl) (fun r1 I1 J1 R1 hq1 => ?_)
  obtain rfl : r1 = some (.int _) := hq1
  show WL Z mL _ _ (.int _ :: _) _
  refine WL_icmp_eq 1375 dL_law_462 rfl (fun _ => L_out hL) (fun h => absurd rfl h)
theorem tX_night {Z : LB} {Y : YY} (hF : FF Z Y) (a b c : Int32) : SP (gX Z) mX10_night [.ref (z_h Z + 0), .int a, .int b, .int c] Y.1.1 Y.1.2.1 Y.1.2.2 (rq (if (0 ≤ a.toInt ∧ a.toInt ≤ 60) ∧ b.toInt = 0 ∧ (0 ≤ c.toInt ∧ c.toInt < 7) then a else -2)) := by
  have h := xr_night (g := gX Z) ly_X hF.1.1 hF.1.2 a b c
  rw [ad_X] at h
  exact h
theorem tM_night {Z : LB} {I9 : pI} {J9 : pJ} {R9 : pR} {Y : YY} (hF : FF Z Y) (a b c : Int32) : SP (gM Z) mX11_night [.ref (z_h Z + 74 + 0), .int a, .int b, .int c] ((I9, J9, R9), Y.2).2.1 ((I9, J9, R9), Y.2).2.2.1 ((I9, J9, R9), Y.2).2.2.2 (rq (if (0 ≤ a.toInt ∧ a.toInt ≤ 60) ∧ b.toInt = 0 ∧ (0 ≤ c.toInt ∧ c.toInt < 7) then a else -2)) := by
  have h := fr_night (g := gM Z) (R := Y.2.2.2) ly_M hF.2.1 hF.2.2 a b c
  rw [ad_M] at h
  exact h
set_option maxHeartbeats 4000000 in
set_option maxRecDepth 100000 in
theorem L_night {Z : LB} {Y : YY} (hL : z_L Z = 8) (hF : FF Z Y) : WL Z mL 467 [(0, .ref (z_b Z)), (1, .ref (z_h Z + 0)), (2, .ref (z_h Z + 74 + 0)), (3, .int (0))] [] Y := by
  refine WL_aload_n dL_law_467 rfl ?_
  refine WL_aload_n dL_law_468 rfl ?_
  refine WL_iload_n dL_law_469 rfl ?_
  refine WL_iconst (1) dL_law_470 rfl ?_
  refine WL_iadd dL_law_471 ?_
  refine WL_sld dL_law_472 (vinL hL (by unfold vp_in; decide)) ?_
  refine WL_aload_n dL_law_473 rfl ?_
  refine WL_iload_n dL_law_474 rfl ?_
  refine WL_iconst (2) dL_law_475 rfl ?_
  refine WL_iadd dL_law_476 ?_
  refine WL_sld dL_law_477 (vinL hL (by unfold vp_in; decide)) ?_
  refine WL_aload_n dL_law_478 rfl ?_
  refine WL_iload_n dL_law_479 rfl ?_
  refine WL_iconst (3) dL_law_480 rfl ?_
  refine WL_iadd dL_law_481 ?_
  refine WL_sld dL_law_482 (vinL hL (by unfold vp_in; decide)) ?_
  refine WL_callX3 dL_law_483 wX10_night (tX_night (Z := Z) hF _ _ _) (Nat.le_of_ble_eq_true rfl) (fun r0 I0 J0 R0 hq0 => ?_)
  obtain rfl : r0 = some (.int _) := hq0
  show WL Z mL _ _ (.int _ :: _) _
  refine WL_aload_n dL_law_486 rfl ?_
  refine WL_aload_n dL_law_487 rfl ?_
  refine WL_iload_n dL_law_488 rfl ?_
  refine WL_iconst (1) dL_law_489 rfl ?_
  refine WL_iadd dL_law_490 ?_
  refine WL_sld dL_law_491 (vinL hL (by unfold vp_in; decide)) ?_
  refine WL_aload_n dL_law_492 rfl ?_
  refine WL_iload_n dL_law_493 rfl ?_
  refine WL_iconst (2) dL_law_494 rfl ?_
  refine WL_iadd dL_law_495 ?_
  refine WL_sld dL_law_496 (vinL hL (by unfold vp_in; decide)) ?_
  refine WL_aload_n dL_law_497 rfl ?_
  refine WL_iload_n dL_law_498 rfl ?_
  refine WL_iconst (3) dL_law_499 rfl ?_
  refine WL_iadd dL_law_500 ?_
  refine WL_sld dL_law_501 (vinL hL (by unfold vp_in; decide)) ?_
  refine WL_callM3 dL_law_502 wX11_night (tM_night (Z := Z) hF _ _ _) (Nat.le_of_ble_eq_true rfl) (fun r1 I1 J1 R1 hq1 => ?_)
  obtain rfl : r1 = some (.int _) := hq1
  show WL Z mL _ _ (.int _ :: _) _
  refine WL_icmp_eq 1375 dL_law_505 rfl (fun _ => L_out hL) (fun h => absurd rfl h)
theorem tX_may {Z : LB} {Y : YY} (hF : FF Z Y) (a b c e f : Int32) : SP (gX Z) mX10_may [.ref (z_h Z + 0), .int a, .int b, .int c, .int e, .int f] Y.1.1 Y.1.2.1 Y.1.2.2 (rq (-2)) := by
  have h := xr_may (g := gX Z) ly_X hF.1.1 hF.1.2 a b c e f
  rw [ad_X] at h
  exact h
theorem tM_may {Z : LB} {I9 : pI} {J9 : pJ} {R9 : pR} {Y : YY} (hF : FF Z Y) (a b c e f : Int32) : SP (gM Z) mX11_may [.ref (z_h Z + 74 + 0), .int a, .int b, .int c, .int e, .int f] ((I9, J9, R9), Y.2).2.1 ((I9, J9, R9), Y.2).2.2.1 ((I9, J9, R9), Y.2).2.2.2 (rq (-2)) := by
  have h := fr_may (g := gM Z) (R := Y.2.2.2) ly_M hF.2.1 hF.2.2 a b c e f
  rw [ad_M] at h
  exact h
set_option maxHeartbeats 4000000 in
set_option maxRecDepth 100000 in
theorem L_may {Z : LB} {Y : YY} (hL : z_L Z = 8) (hF : FF Z Y) : WL Z mL 510 [(0, .ref (z_b Z)), (1, .ref (z_h Z + 0)), (2, .ref (z_h Z + 74 + 0)), (3, .int (0))] [] Y := by
  refine WL_aload_n dL_law_510 rfl ?_
  refine WL_aload_n dL_law_511 rfl ?_
  refine WL_iload_n dL_law_512 rfl ?_
  refine WL_iconst (1) dL_law_513 rfl ?_
  refine WL_iadd dL_law_514 ?_
  refine WL_sld dL_law_515 (vinL hL (by unfold vp_in; decide)) ?_
  refine WL_aload_n dL_law_516 rfl ?_
  refine WL_iload_n dL_law_517 rfl ?_
  refine WL_iconst (2) dL_law_518 rfl ?_
  refine WL_iadd dL_law_519 ?_
  refine WL_sld dL_law_520 (vinL hL (by unfold vp_in; decide)) ?_
  refine WL_aload_n dL_law_521 rfl ?_
  refine WL_iload_n dL_law_522 rfl ?_
  refine WL_iconst (3) dL_law_523 rfl ?_
  refine WL_iadd dL_law_524 ?_
  refine WL_sld dL_law_525 (vinL hL (by unfold vp_in; decide)) ?_
  refine WL_aload_n dL_law_526 rfl ?_
  refine WL_iload_n dL_law_527 rfl ?_
  refine WL_iconst (4) dL_law_528 rfl ?_
  refine WL_iadd dL_law_529 ?_
  refine WL_sld dL_law_530 (vinL hL (by unfold vp_in; decide)) ?_
  refine WL_aload_n dL_law_531 rfl ?_
  refine WL_iload_n dL_law_532 rfl ?_
  refine WL_iconst (5) dL_law_533 rfl ?_
  refine WL_iadd dL_law_534 ?_
  refine WL_sld dL_law_535 (vinL hL (by unfold vp_in; decide)) ?_
  refine WL_callX5 dL_law_536 wX10_may (tX_may (Z := Z) hF _ _ _ _ _) (Nat.le_of_ble_eq_true rfl) (fun r0 I0 J0 R0 hq0 => ?_)
  obtain rfl : r0 = some (.int _) := hq0
  show WL Z mL _ _ (.int _ :: _) _
  refine WL_aload_n dL_law_539 rfl ?_
  refine WL_aload_n dL_law_540 rfl ?_
  refine WL_iload_n dL_law_541 rfl ?_
  refine WL_iconst (1) dL_law_542 rfl ?_
  refine WL_iadd dL_law_543 ?_
  refine WL_sld dL_law_544 (vinL hL (by unfold vp_in; decide)) ?_
  refine WL_aload_n dL_law_545 rfl ?_
  refine WL_iload_n dL_law_546 rfl ?_
  refine WL_iconst (2) dL_law_547 rfl ?_
  refine WL_iadd dL_law_548 ?_
  refine WL_sld dL_law_549 (vinL hL (by unfold vp_in; decide)) ?_
  refine WL_aload_n dL_law_550 rfl ?_
  refine WL_iload_n dL_law_551 rfl ?_
  refine WL_iconst (3) dL_law_552 rfl ?_
  refine WL_iadd dL_law_553 ?_
  refine WL_sld dL_law_554 (vinL hL (by unfold vp_in; decide)) ?_
  refine WL_aload_n dL_law_555 rfl ?_
  refine WL_iload_n dL_law_556 rfl ?_
  refine WL_iconst (4) dL_law_557 rfl ?_
  refine WL_iadd dL_law_558 ?_
  refine WL_sld dL_law_559 (vinL hL (by unfold vp_in; decide)) ?_
  refine WL_aload_n dL_law_560 rfl ?_
  refine WL_iload_n dL_law_561 rfl ?_
  refine WL_iconst (5) dL_law_562 rfl ?_
  refine WL_iadd dL_law_563 ?_
  refine WL_sld dL_law_564 (vinL hL (by unfold vp_in; decide)) ?_
  refine WL_callM5 dL_law_565 wX11_may (tM_may (Z := Z) hF _ _ _ _ _) (Nat.le_of_ble_eq_true rfl) (fun r1 I1 J1 R1 hq1 => ?_)
  obtain rfl : r1 = some (.int _) := hq1
  show WL Z mL _ _ (.int _ :: _) _
  refine WL_icmp_eq 1375 dL_law_568 rfl (fun _ => L_out hL) (fun h => absurd rfl h)
theorem tX_best {Z : LB} {Y : YY} (hF : FF Z Y) (a b c e f : Int32) : SP (gX Z) mX10_best [.ref (z_h Z + 0), .int a, .int b, .int c, .int e, .int f] Y.1.1 Y.1.2.1 Y.1.2.2 (rq (-2)) := by
  have h := xr_best (g := gX Z) ly_X hF.1.1 hF.1.2 a b c e f
  rw [ad_X] at h
  exact h
theorem tM_best {Z : LB} {I9 : pI} {J9 : pJ} {R9 : pR} {Y : YY} (hF : FF Z Y) (a b c e f : Int32) : SP (gM Z) mX11_best [.ref (z_h Z + 74 + 0), .int a, .int b, .int c, .int e, .int f] ((I9, J9, R9), Y.2).2.1 ((I9, J9, R9), Y.2).2.2.1 ((I9, J9, R9), Y.2).2.2.2 (rq (-2)) := by
  have h := fr_best (g := gM Z) (R := Y.2.2.2) ly_M hF.2.1 hF.2.2 a b c e f
  rw [ad_M] at h
  exact h
set_option maxHeartbeats 4000000 in
set_option maxRecDepth 100000 in
theorem L_best {Z : LB} {Y : YY} (hL : z_L Z = 8) (hF : FF Z Y) : WL Z mL 573 [(0, .ref (z_b Z)), (1, .ref (z_h Z + 0)), (2, .ref (z_h Z + 74 + 0)), (3, .int (0))] [] Y := by
  refine WL_aload_n dL_law_573 rfl ?_
  refine WL_aload_n dL_law_574 rfl ?_
  refine WL_iload_n dL_law_575 rfl ?_
  refine WL_iconst (1) dL_law_576 rfl ?_
  refine WL_iadd dL_law_577 ?_
  refine WL_sld dL_law_578 (vinL hL (by unfold vp_in; decide)) ?_
  refine WL_aload_n dL_law_579 rfl ?_
  refine WL_iload_n dL_law_580 rfl ?_
  refine WL_iconst (2) dL_law_581 rfl ?_
  refine WL_iadd dL_law_582 ?_
  refine WL_sld dL_law_583 (vinL hL (by unfold vp_in; decide)) ?_
  refine WL_aload_n dL_law_584 rfl ?_
  refine WL_iload_n dL_law_585 rfl ?_
  refine WL_iconst (3) dL_law_586 rfl ?_
  refine WL_iadd dL_law_587 ?_
  refine WL_sld dL_law_588 (vinL hL (by unfold vp_in; decide)) ?_
  refine WL_aload_n dL_law_589 rfl ?_
  refine WL_iload_n dL_law_590 rfl ?_
  refine WL_iconst (4) dL_law_591 rfl ?_
  refine WL_iadd dL_law_592 ?_
  refine WL_sld dL_law_593 (vinL hL (by unfold vp_in; decide)) ?_
  refine WL_aload_n dL_law_594 rfl ?_
  refine WL_iload_n dL_law_595 rfl ?_
  refine WL_iconst (5) dL_law_596 rfl ?_
  refine WL_iadd dL_law_597 ?_
  refine WL_sld dL_law_598 (vinL hL (by unfold vp_in; decide)) ?_
  refine WL_callX5 dL_law_599 wX10_best (tX_best (Z := Z) hF _ _ _ _ _) (Nat.le_of_ble_eq_true rfl) (fun r0 I0 J0 R0 hq0 => ?_)
  obtain rfl : r0 = some (.int _) := hq0
  show WL Z mL _ _ (.int _ :: _) _
  refine WL_aload_n dL_law_602 rfl ?_
  refine WL_aload_n dL_law_603 rfl ?_
  refine WL_iload_n dL_law_604 rfl ?_
  refine WL_iconst (1) dL_law_605 rfl ?_
  refine WL_iadd dL_law_606 ?_
  refine WL_sld dL_law_607 (vinL hL (by unfold vp_in; decide)) ?_
  refine WL_aload_n dL_law_608 rfl ?_
  refine WL_iload_n dL_law_609 rfl ?_
  refine WL_iconst (2) dL_law_610 rfl ?_
  refine WL_iadd dL_law_611 ?_
  refine WL_sld dL_law_612 (vinL hL (by unfold vp_in; decide)) ?_
  refine WL_aload_n dL_law_613 rfl ?_
  refine WL_iload_n dL_law_614 rfl ?_
  refine WL_iconst (3) dL_law_615 rfl ?_
  refine WL_iadd dL_law_616 ?_
  refine WL_sld dL_law_617 (vinL hL (by unfold vp_in; decide)) ?_
  refine WL_aload_n dL_law_618 rfl ?_
  refine WL_iload_n dL_law_619 rfl ?_
  refine WL_iconst (4) dL_law_620 rfl ?_
  refine WL_iadd dL_law_621 ?_
  refine WL_sld dL_law_622 (vinL hL (by unfold vp_in; decide)) ?_
  refine WL_aload_n dL_law_623 rfl ?_
  refine WL_iload_n dL_law_624 rfl ?_
  refine WL_iconst (5) dL_law_625 rfl ?_
  refine WL_iadd dL_law_626 ?_
  refine WL_sld dL_law_627 (vinL hL (by unfold vp_in; decide)) ?_
  refine WL_callM5 dL_law_628 wX11_best (tM_best (Z := Z) hF _ _ _ _ _) (Nat.le_of_ble_eq_true rfl) (fun r1 I1 J1 R1 hq1 => ?_)
  obtain rfl : r1 = some (.int _) := hq1
  show WL Z mL _ _ (.int _ :: _) _
  refine WL_icmp_eq 1375 dL_law_631 rfl (fun _ => L_out hL) (fun h => absurd rfl h)
theorem tX_bestAct {Z : LB} {Y : YY} (hF : FF Z Y) (a b c e f : Int32) : SP (gX Z) mX10_bestAct [.ref (z_h Z + 0), .int a, .int b, .int c, .int e, .int f] Y.1.1 Y.1.2.1 Y.1.2.2 (rq (-2)) := by
  have h := xr_bestAct (g := gX Z) ly_X hF.1.1 hF.1.2 a b c e f
  rw [ad_X] at h
  exact h
theorem tM_bestAct {Z : LB} {I9 : pI} {J9 : pJ} {R9 : pR} {Y : YY} (hF : FF Z Y) (a b c e f : Int32) : SP (gM Z) mX11_bestAct [.ref (z_h Z + 74 + 0), .int a, .int b, .int c, .int e, .int f] ((I9, J9, R9), Y.2).2.1 ((I9, J9, R9), Y.2).2.2.1 ((I9, J9, R9), Y.2).2.2.2 (rq (-2)) := by
  have h := fr_bestAct (g := gM Z) (R := Y.2.2.2) ly_M hF.2.1 hF.2.2 a b c e f
  rw [ad_M] at h
  exact h
set_option maxHeartbeats 4000000 in
set_option maxRecDepth 100000 in
theorem L_bestAct {Z : LB} {Y : YY} (hL : z_L Z = 8) (hF : FF Z Y) : WL Z mL 636 [(0, .ref (z_b Z)), (1, .ref (z_h Z + 0)), (2, .ref (z_h Z + 74 + 0)), (3, .int (0))] [] Y := by
  refine WL_aload_n dL_law_636 rfl ?_
  refine WL_aload_n dL_law_637 rfl ?_
  refine WL_iload_n dL_law_638 rfl ?_
  refine WL_iconst (1) dL_law_639 rfl ?_
  refine WL_iadd dL_law_640 ?_
  refine WL_sld dL_law_641 (vinL hL (by unfold vp_in; decide)) ?_
  refine WL_aload_n dL_law_642 rfl ?_
  refine WL_iload_n dL_law_643 rfl ?_
  refine WL_iconst (2) dL_law_644 rfl ?_
  refine WL_iadd dL_law_645 ?_
  refine WL_sld dL_law_646 (vinL hL (by unfold vp_in; decide)) ?_
  refine WL_aload_n dL_law_647 rfl ?_
  refine WL_iload_n dL_law_648 rfl ?_
  refine WL_iconst (3) dL_law_649 rfl ?_
  refine WL_iadd dL_law_650 ?_
  refine WL_sld dL_law_651 (vinL hL (by unfold vp_in; decide)) ?_
  refine WL_aload_n dL_law_652 rfl ?_
  refine WL_iload_n dL_law_653 rfl ?_
  refine WL_iconst (4) dL_law_654 rfl ?_
  refine WL_iadd dL_law_655 ?_
  refine WL_sld dL_law_656 (vinL hL (by unfold vp_in; decide)) ?_
  refine WL_aload_n dL_law_657 rfl ?_
  refine WL_iload_n dL_law_658 rfl ?_
  refine WL_iconst (5) dL_law_659 rfl ?_
  refine WL_iadd dL_law_660 ?_
  refine WL_sld dL_law_661 (vinL hL (by unfold vp_in; decide)) ?_
  refine WL_callX5 dL_law_662 wX10_bestAct (tX_bestAct (Z := Z) hF _ _ _ _ _) (Nat.le_of_ble_eq_true rfl) (fun r0 I0 J0 R0 hq0 => ?_)
  obtain rfl : r0 = some (.int _) := hq0
  show WL Z mL _ _ (.int _ :: _) _
  refine WL_aload_n dL_law_665 rfl ?_
  refine WL_aload_n dL_law_666 rfl ?_
  refine WL_iload_n dL_law_667 rfl ?_
  refine WL_iconst (1) dL_law_668 rfl ?_
  refine WL_iadd dL_law_669 ?_
  refine WL_sld dL_law_670 (vinL hL (by unfold vp_in; decide)) ?_
  refine WL_aload_n dL_law_671 rfl ?_
  refine WL_iload_n dL_law_672 rfl ?_
  refine WL_iconst (2) dL_law_673 rfl ?_
  refine WL_iadd dL_law_674 ?_
  refine WL_sld dL_law_675 (vinL hL (by unfold vp_in; decide)) ?_
  refine WL_aload_n dL_law_676 rfl ?_
  refine WL_iload_n dL_law_677 rfl ?_
  refine WL_iconst (3) dL_law_678 rfl ?_
  refine WL_iadd dL_law_679 ?_
  refine WL_sld dL_law_680 (vinL hL (by unfold vp_in; decide)) ?_
  refine WL_aload_n dL_law_681 rfl ?_
  refine WL_iload_n dL_law_682 rfl ?_
  refine WL_iconst (4) dL_law_683 rfl ?_
  refine WL_iadd dL_law_684 ?_
  refine WL_sld dL_law_685 (vinL hL (by unfold vp_in; decide)) ?_
  refine WL_aload_n dL_law_686 rfl ?_
  refine WL_iload_n dL_law_687 rfl ?_
  refine WL_iconst (5) dL_law_688 rfl ?_
  refine WL_iadd dL_law_689 ?_
  refine WL_sld dL_law_690 (vinL hL (by unfold vp_in; decide)) ?_
  refine WL_callM5 dL_law_691 wX11_bestAct (tM_bestAct (Z := Z) hF _ _ _ _ _) (Nat.le_of_ble_eq_true rfl) (fun r1 I1 J1 R1 hq1 => ?_)
  obtain rfl : r1 = some (.int _) := hq1
  show WL Z mL _ _ (.int _ :: _) _
  refine WL_icmp_eq 1375 dL_law_694 rfl (fun _ => L_out hL) (fun h => absurd rfl h)
theorem tX_wayAct {Z : LB} {Y : YY} (hF : FF Z Y) (a b c e f : Int32) : SP (gX Z) mX10_wayAct [.ref (z_h Z + 0), .int a, .int b, .int c, .int e, .int f] Y.1.1 Y.1.2.1 Y.1.2.2 (rq (-2)) := by
  have h := xr_wayAct (g := gX Z) ly_X hF.1.1 hF.1.2 a b c e f
  rw [ad_X] at h
  exact h
theorem tM_wayAct {Z : LB} {I9 : pI} {J9 : pJ} {R9 : pR} {Y : YY} (hF : FF Z Y) (a b c e f : Int32) : SP (gM Z) mX11_wayAct [.ref (z_h Z + 74 + 0), .int a, .int b, .int c, .int e, .int f] ((I9, J9, R9), Y.2).2.1 ((I9, J9, R9), Y.2).2.2.1 ((I9, J9, R9), Y.2).2.2.2 (rq (-2)) := by
  have h := fr_wayAct (g := gM Z) (R := Y.2.2.2) ly_M hF.2.1 hF.2.2 a b c e f
  rw [ad_M] at h
  exact h
set_option maxHeartbeats 4000000 in
set_option maxRecDepth 100000 in
theorem L_wayAct {Z : LB} {Y : YY} (hL : z_L Z = 8) (hF : FF Z Y) : WL Z mL 699 [(0, .ref (z_b Z)), (1, .ref (z_h Z + 0)), (2, .ref (z_h Z + 74 + 0)), (3, .int (0))] [] Y := by
  refine WL_aload_n dL_law_699 rfl ?_
  refine WL_aload_n dL_law_700 rfl ?_
  refine WL_iload_n dL_law_701 rfl ?_
  refine WL_iconst (1) dL_law_702 rfl ?_
  refine WL_iadd dL_law_703 ?_
  refine WL_sld dL_law_704 (vinL hL (by unfold vp_in; decide)) ?_
  refine WL_aload_n dL_law_705 rfl ?_
  refine WL_iload_n dL_law_706 rfl ?_
  refine WL_iconst (2) dL_law_707 rfl ?_
  refine WL_iadd dL_law_708 ?_
  refine WL_sld dL_law_709 (vinL hL (by unfold vp_in; decide)) ?_
  refine WL_aload_n dL_law_710 rfl ?_
  refine WL_iload_n dL_law_711 rfl ?_
  refine WL_iconst (3) dL_law_712 rfl ?_
  refine WL_iadd dL_law_713 ?_
  refine WL_sld dL_law_714 (vinL hL (by unfold vp_in; decide)) ?_
  refine WL_aload_n dL_law_715 rfl ?_
  refine WL_iload_n dL_law_716 rfl ?_
  refine WL_iconst (4) dL_law_717 rfl ?_
  refine WL_iadd dL_law_718 ?_
  refine WL_sld dL_law_719 (vinL hL (by unfold vp_in; decide)) ?_
  refine WL_aload_n dL_law_720 rfl ?_
  refine WL_iload_n dL_law_721 rfl ?_
  refine WL_iconst (5) dL_law_722 rfl ?_
  refine WL_iadd dL_law_723 ?_
  refine WL_sld dL_law_724 (vinL hL (by unfold vp_in; decide)) ?_
  refine WL_callX5 dL_law_725 wX10_wayAct (tX_wayAct (Z := Z) hF _ _ _ _ _) (Nat.le_of_ble_eq_true rfl) (fun r0 I0 J0 R0 hq0 => ?_)
  obtain rfl : r0 = some (.int _) := hq0
  show WL Z mL _ _ (.int _ :: _) _
  refine WL_aload_n dL_law_728 rfl ?_
  refine WL_aload_n dL_law_729 rfl ?_
  refine WL_iload_n dL_law_730 rfl ?_
  refine WL_iconst (1) dL_law_731 rfl ?_
  refine WL_iadd dL_law_732 ?_
  refine WL_sld dL_law_733 (vinL hL (by unfold vp_in; decide)) ?_
  refine WL_aload_n dL_law_734 rfl ?_
  refine WL_iload_n dL_law_735 rfl ?_
  refine WL_iconst (2) dL_law_736 rfl ?_
  refine WL_iadd dL_law_737 ?_
  refine WL_sld dL_law_738 (vinL hL (by unfold vp_in; decide)) ?_
  refine WL_aload_n dL_law_739 rfl ?_
  refine WL_iload_n dL_law_740 rfl ?_
  refine WL_iconst (3) dL_law_741 rfl ?_
  refine WL_iadd dL_law_742 ?_
  refine WL_sld dL_law_743 (vinL hL (by unfold vp_in; decide)) ?_
  refine WL_aload_n dL_law_744 rfl ?_
  refine WL_iload_n dL_law_745 rfl ?_
  refine WL_iconst (4) dL_law_746 rfl ?_
  refine WL_iadd dL_law_747 ?_
  refine WL_sld dL_law_748 (vinL hL (by unfold vp_in; decide)) ?_
  refine WL_aload_n dL_law_749 rfl ?_
  refine WL_iload_n dL_law_750 rfl ?_
  refine WL_iconst (5) dL_law_751 rfl ?_
  refine WL_iadd dL_law_752 ?_
  refine WL_sld dL_law_753 (vinL hL (by unfold vp_in; decide)) ?_
  refine WL_callM5 dL_law_754 wX11_wayAct (tM_wayAct (Z := Z) hF _ _ _ _ _) (Nat.le_of_ble_eq_true rfl) (fun r1 I1 J1 R1 hq1 => ?_)
  obtain rfl : r1 = some (.int _) := hq1
  show WL Z mL _ _ (.int _ :: _) _
  refine WL_icmp_eq 1375 dL_law_757 rfl (fun _ => L_out hL) (fun h => absurd rfl h)
theorem tX_way {Z : LB} {Y : YY} (hF : FF Z Y) (a b : Int32) : SP (gX Z) mX10_way [.ref (z_h Z + 0), .int a, .int b] Y.1.1 Y.1.2.1 Y.1.2.2 (rq (-2)) := by
  have h := xr_way (g := gX Z) ly_X hF.1.1 hF.1.2 a b
  rw [ad_X] at h
  exact h
theorem tM_way {Z : LB} {I9 : pI} {J9 : pJ} {R9 : pR} {Y : YY} (hF : FF Z Y) (a b : Int32) : SP (gM Z) mX11_way [.ref (z_h Z + 74 + 0), .int a, .int b] ((I9, J9, R9), Y.2).2.1 ((I9, J9, R9), Y.2).2.2.1 ((I9, J9, R9), Y.2).2.2.2 (rq (-2)) := by
  have h := fr_way (g := gM Z) (R := Y.2.2.2) ly_M hF.2.1 hF.2.2 a b
  rw [ad_M] at h
  exact h
set_option maxHeartbeats 4000000 in
set_option maxRecDepth 100000 in
theorem L_way {Z : LB} {Y : YY} (hL : z_L Z = 8) (hF : FF Z Y) : WL Z mL 762 [(0, .ref (z_b Z)), (1, .ref (z_h Z + 0)), (2, .ref (z_h Z + 74 + 0)), (3, .int (0))] [] Y := by
  refine WL_aload_n dL_law_762 rfl ?_
  refine WL_aload_n dL_law_763 rfl ?_
  refine WL_iload_n dL_law_764 rfl ?_
  refine WL_iconst (1) dL_law_765 rfl ?_
  refine WL_iadd dL_law_766 ?_
  refine WL_sld dL_law_767 (vinL hL (by unfold vp_in; decide)) ?_
  refine WL_aload_n dL_law_768 rfl ?_
  refine WL_iload_n dL_law_769 rfl ?_
  refine WL_iconst (2) dL_law_770 rfl ?_
  refine WL_iadd dL_law_771 ?_
  refine WL_sld dL_law_772 (vinL hL (by unfold vp_in; decide)) ?_
  refine WL_callX2 dL_law_773 wX10_way (tX_way (Z := Z) hF _ _) (Nat.le_of_ble_eq_true rfl) (fun r0 I0 J0 R0 hq0 => ?_)
  obtain rfl : r0 = some (.int _) := hq0
  show WL Z mL _ _ (.int _ :: _) _
  refine WL_aload_n dL_law_776 rfl ?_
  refine WL_aload_n dL_law_777 rfl ?_
  refine WL_iload_n dL_law_778 rfl ?_
  refine WL_iconst (1) dL_law_779 rfl ?_
  refine WL_iadd dL_law_780 ?_
  refine WL_sld dL_law_781 (vinL hL (by unfold vp_in; decide)) ?_
  refine WL_aload_n dL_law_782 rfl ?_
  refine WL_iload_n dL_law_783 rfl ?_
  refine WL_iconst (2) dL_law_784 rfl ?_
  refine WL_iadd dL_law_785 ?_
  refine WL_sld dL_law_786 (vinL hL (by unfold vp_in; decide)) ?_
  refine WL_callM2 dL_law_787 wX11_way (tM_way (Z := Z) hF _ _) (Nat.le_of_ble_eq_true rfl) (fun r1 I1 J1 R1 hq1 => ?_)
  obtain rfl : r1 = some (.int _) := hq1
  show WL Z mL _ _ (.int _ :: _) _
  refine WL_icmp_eq 1375 dL_law_790 rfl (fun _ => L_out hL) (fun h => absurd rfl h)
theorem tX_pass {Z : LB} {Y : YY} (hF : FF Z Y) (a : Int32) : SP (gX Z) mX10_pass [.ref (z_h Z + 0), .int a] Y.1.1 Y.1.2.1 Y.1.2.2 (rq (if 0 ≤ a.toInt ∧ a.toInt ≤ 70 then a else -2)) := by
  have h := xr_pass (g := gX Z) ly_X hF.1.1 hF.1.2 a
  rw [ad_X] at h
  exact h
theorem tM_pass {Z : LB} {I9 : pI} {J9 : pJ} {R9 : pR} {Y : YY} (hF : FF Z Y) (a : Int32) : SP (gM Z) mX11_pass [.ref (z_h Z + 74 + 0), .int a] ((I9, J9, R9), Y.2).2.1 ((I9, J9, R9), Y.2).2.2.1 ((I9, J9, R9), Y.2).2.2.2 (rq (if 0 ≤ a.toInt ∧ a.toInt ≤ 70 then a else -2)) := by
  have h := fr_pass (g := gM Z) (R := Y.2.2.2) ly_M hF.2.1 hF.2.2 a
  rw [ad_M] at h
  exact h
set_option maxHeartbeats 4000000 in
set_option maxRecDepth 100000 in
theorem L_pass {Z : LB} {Y : YY} (hL : z_L Z = 8) (hF : FF Z Y) : WL Z mL 795 [(0, .ref (z_b Z)), (1, .ref (z_h Z + 0)), (2, .ref (z_h Z + 74 + 0)), (3, .int (0))] [] Y := by
  refine WL_aload_n dL_law_795 rfl ?_
  refine WL_aload_n dL_law_796 rfl ?_
  refine WL_iload_n dL_law_797 rfl ?_
  refine WL_iconst (1) dL_law_798 rfl ?_
  refine WL_iadd dL_law_799 ?_
  refine WL_sld dL_law_800 (vinL hL (by unfold vp_in; decide)) ?_
  refine WL_callX1 dL_law_801 wX10_pass (tX_pass (Z := Z) hF _) (Nat.le_of_ble_eq_true rfl) (fun r0 I0 J0 R0 hq0 => ?_)
  obtain rfl : r0 = some (.int _) := hq0
  show WL Z mL _ _ (.int _ :: _) _
  refine WL_aload_n dL_law_804 rfl ?_
  refine WL_aload_n dL_law_805 rfl ?_
  refine WL_iload_n dL_law_806 rfl ?_
  refine WL_iconst (1) dL_law_807 rfl ?_
  refine WL_iadd dL_law_808 ?_
  refine WL_sld dL_law_809 (vinL hL (by unfold vp_in; decide)) ?_
  refine WL_callM1 dL_law_810 wX11_pass (tM_pass (Z := Z) hF _) (Nat.le_of_ble_eq_true rfl) (fun r1 I1 J1 R1 hq1 => ?_)
  obtain rfl : r1 = some (.int _) := hq1
  show WL Z mL _ _ (.int _ :: _) _
  refine WL_icmp_eq 1375 dL_law_813 rfl (fun _ => L_out hL) (fun h => absurd rfl h)
theorem tX_run {Z : LB} {Y : YY} (hF : FF Z Y) (a b : Int32) : SP (gX Z) mX10_run [.ref (z_h Z + 0), .int a, .int b] Y.1.1 Y.1.2.1 Y.1.2.2 (rq (-2)) := by
  have h := xr_run (g := gX Z) ly_X hF.1.1 hF.1.2 a b
  rw [ad_X] at h
  exact h
theorem tM_run {Z : LB} {I9 : pI} {J9 : pJ} {R9 : pR} {Y : YY} (hF : FF Z Y) (a b : Int32) : SP (gM Z) mX11_run [.ref (z_h Z + 74 + 0), .int a, .int b] ((I9, J9, R9), Y.2).2.1 ((I9, J9, R9), Y.2).2.2.1 ((I9, J9, R9), Y.2).2.2.2 (rq (-2)) := by
  have h := fr_run (g := gM Z) (R := Y.2.2.2) ly_M hF.2.1 hF.2.2 a b
  rw [ad_M] at h
  exact h
set_option maxHeartbeats 4000000 in
set_option maxRecDepth 100000 in
theorem L_run {Z : LB} {Y : YY} (hL : z_L Z = 8) (hF : FF Z Y) : WL Z mL 818 [(0, .ref (z_b Z)), (1, .ref (z_h Z + 0)), (2, .ref (z_h Z + 74 + 0)), (3, .int (0))] [] Y := by
  refine WL_aload_n dL_law_818 rfl ?_
  refine WL_aload_n dL_law_819 rfl ?_
  refine WL_iload_n dL_law_820 rfl ?_
  refine WL_iconst (1) dL_law_821 rfl ?_
  refine WL_iadd dL_law_822 ?_
  refine WL_sld dL_law_823 (vinL hL (by unfold vp_in; decide)) ?_
  refine WL_aload_n dL_law_824 rfl ?_
  refine WL_iload_n dL_law_825 rfl ?_
  refine WL_iconst (2) dL_law_826 rfl ?_
  refine WL_iadd dL_law_827 ?_
  refine WL_sld dL_law_828 (vinL hL (by unfold vp_in; decide)) ?_
  refine WL_callX2 dL_law_829 wX10_run (tX_run (Z := Z) hF _ _) (Nat.le_of_ble_eq_true rfl) (fun r0 I0 J0 R0 hq0 => ?_)
  obtain rfl : r0 = some (.int _) := hq0
  show WL Z mL _ _ (.int _ :: _) _
  refine WL_aload_n dL_law_832 rfl ?_
  refine WL_aload_n dL_law_833 rfl ?_
  refine WL_iload_n dL_law_834 rfl ?_
  refine WL_iconst (1) dL_law_835 rfl ?_
  refine WL_iadd dL_law_836 ?_
  refine WL_sld dL_law_837 (vinL hL (by unfold vp_in; decide)) ?_
  refine WL_aload_n dL_law_838 rfl ?_
  refine WL_iload_n dL_law_839 rfl ?_
  refine WL_iconst (2) dL_law_840 rfl ?_
  refine WL_iadd dL_law_841 ?_
  refine WL_sld dL_law_842 (vinL hL (by unfold vp_in; decide)) ?_
  refine WL_callM2 dL_law_843 wX11_run (tM_run (Z := Z) hF _ _) (Nat.le_of_ble_eq_true rfl) (fun r1 I1 J1 R1 hq1 => ?_)
  obtain rfl : r1 = some (.int _) := hq1
  show WL Z mL _ _ (.int _ :: _) _
  refine WL_icmp_eq 1375 dL_law_846 rfl (fun _ => L_out hL) (fun h => absurd rfl h)
theorem tX_all {Z : LB} {Y : YY} (hF : FF Z Y) (a : Int32) : SP (gX Z) mX10_all [.ref (z_h Z + 0), .int a] Y.1.1 Y.1.2.1 Y.1.2.2 (rq (if a.toInt = 0 ∨ a.toInt = 1 ∨ a.toInt = 3 then 0 else -1)) := by
  have h := xr_all (g := gX Z) ly_X hF.1.1 hF.1.2 a
  rw [ad_X] at h
  exact h
theorem tM_all {Z : LB} {I9 : pI} {J9 : pJ} {R9 : pR} {Y : YY} (hF : FF Z Y) (a : Int32) : SP (gM Z) mX11_all [.ref (z_h Z + 74 + 0), .int a] ((I9, J9, R9), Y.2).2.1 ((I9, J9, R9), Y.2).2.2.1 ((I9, J9, R9), Y.2).2.2.2 (rq (if a.toInt = 0 ∨ a.toInt = 1 ∨ a.toInt = 3 then 0 else -1)) := by
  have h := fr_all (g := gM Z) (R := Y.2.2.2) ly_M hF.2.1 hF.2.2 a
  rw [ad_M] at h
  exact h
set_option maxHeartbeats 4000000 in
set_option maxRecDepth 100000 in
theorem L_all {Z : LB} {Y : YY} (hL : z_L Z = 8) (hF : FF Z Y) : WL Z mL 851 [(0, .ref (z_b Z)), (1, .ref (z_h Z + 0)), (2, .ref (z_h Z + 74 + 0)), (3, .int (0))] [] Y := by
  refine WL_aload_n dL_law_851 rfl ?_
  refine WL_aload_n dL_law_852 rfl ?_
  refine WL_iload_n dL_law_853 rfl ?_
  refine WL_iconst (1) dL_law_854 rfl ?_
  refine WL_iadd dL_law_855 ?_
  refine WL_sld dL_law_856 (vinL hL (by unfold vp_in; decide)) ?_
  refine WL_callX1 dL_law_857 wX10_all (tX_all (Z := Z) hF _) (Nat.le_of_ble_eq_true rfl) (fun r0 I0 J0 R0 hq0 => ?_)
  obtain rfl : r0 = some (.int _) := hq0
  show WL Z mL _ _ (.int _ :: _) _
  refine WL_aload_n dL_law_860 rfl ?_
  refine WL_aload_n dL_law_861 rfl ?_
  refine WL_iload_n dL_law_862 rfl ?_
  refine WL_iconst (1) dL_law_863 rfl ?_
  refine WL_iadd dL_law_864 ?_
  refine WL_sld dL_law_865 (vinL hL (by unfold vp_in; decide)) ?_
  refine WL_callM1 dL_law_866 wX11_all (tM_all (Z := Z) hF _) (Nat.le_of_ble_eq_true rfl) (fun r1 I1 J1 R1 hq1 => ?_)
  obtain rfl : r1 = some (.int _) := hq1
  show WL Z mL _ _ (.int _ :: _) _
  refine WL_icmp_eq 1375 dL_law_869 rfl (fun _ => L_out hL) (fun h => absurd rfl h)
theorem tX_anew {Z : LB} {Y : YY} (hF : FF Z Y)  : SP (gX Z) mX10_anew [.ref (z_h Z + 0)] Y.1.1 Y.1.2.1 Y.1.2.2 (rq 0) := by
  have h := xr_anew (g := gX Z) ly_X hF.1.1 hF.1.2
  rw [ad_X] at h
  exact h
theorem tM_anew {Z : LB} {I9 : pI} {J9 : pJ} {R9 : pR} {Y : YY} (hF : FF Z Y)  : SP (gM Z) mX11_anew [.ref (z_h Z + 74 + 0)] ((I9, J9, R9), Y.2).2.1 ((I9, J9, R9), Y.2).2.2.1 ((I9, J9, R9), Y.2).2.2.2 (rq 0) := by
  have h := fr_anew (g := gM Z) (R := Y.2.2.2) ly_M hF.2.1 hF.2.2
  rw [ad_M] at h
  exact h
set_option maxHeartbeats 4000000 in
set_option maxRecDepth 100000 in
theorem L_anew {Z : LB} {Y : YY} (hL : z_L Z = 8) (hF : FF Z Y) : WL Z mL 874 [(0, .ref (z_b Z)), (1, .ref (z_h Z + 0)), (2, .ref (z_h Z + 74 + 0)), (3, .int (0))] [] Y := by
  refine WL_aload_n dL_law_874 rfl ?_
  refine WL_callX0 dL_law_875 wX10_anew (tX_anew (Z := Z) hF) (Nat.le_of_ble_eq_true rfl) (fun r0 I0 J0 R0 hq0 => ?_)
  obtain rfl : r0 = some (.int _) := hq0
  show WL Z mL _ _ (.int _ :: _) _
  refine WL_aload_n dL_law_878 rfl ?_
  refine WL_callM0 dL_law_879 wX11_anew (tM_anew (Z := Z) hF) (Nat.le_of_ble_eq_true rfl) (fun r1 I1 J1 R1 hq1 => ?_)
  obtain rfl : r1 = some (.int _) := hq1
  show WL Z mL _ _ (.int _ :: _) _
  refine WL_icmp_eq 1375 dL_law_882 rfl (fun _ => L_out hL) (fun h => absurd rfl h)
theorem tX_keep {Z : LB} {Y : YY} (hF : FF Z Y) (a : Int32) : SP (gX Z) mX10_keep [.ref (z_h Z + 0), .int a] Y.1.1 Y.1.2.1 Y.1.2.2 (rq (if 0 ≤ a.toInt ∧ a.toInt ≤ 2 then 0 else -2)) := by
  have h := xr_keep (g := gX Z) ly_X hF.1.1 hF.1.2 a
  rw [ad_X] at h
  exact h
theorem tM_keep {Z : LB} {I9 : pI} {J9 : pJ} {R9 : pR} {Y : YY} (hF : FF Z Y) (a : Int32) : SP (gM Z) mX11_keep [.ref (z_h Z + 74 + 0), .int a] ((I9, J9, R9), Y.2).2.1 ((I9, J9, R9), Y.2).2.2.1 ((I9, J9, R9), Y.2).2.2.2 (rq (if 0 ≤ a.toInt ∧ a.toInt ≤ 2 then 0 else -2)) := by
  have h := fr_keep (g := gM Z) (R := Y.2.2.2) ly_M hF.2.1 hF.2.2 a
  rw [ad_M] at h
  exact h
set_option maxHeartbeats 4000000 in
set_option maxRecDepth 100000 in
theorem L_keep {Z : LB} {Y : YY} (hL : z_L Z = 8) (hF : FF Z Y) : WL Z mL 887 [(0, .ref (z_b Z)), (1, .ref (z_h Z + 0)), (2, .ref (z_h Z + 74 + 0)), (3, .int (0))] [] Y := by
  refine WL_aload_n dL_law_887 rfl ?_
  refine WL_aload_n dL_law_888 rfl ?_
  refine WL_iload_n dL_law_889 rfl ?_
  refine WL_iconst (1) dL_law_890 rfl ?_
  refine WL_iadd dL_law_891 ?_
  refine WL_sld dL_law_892 (vinL hL (by unfold vp_in; decide)) ?_
  refine WL_callX1 dL_law_893 wX10_keep (tX_keep (Z := Z) hF _) (Nat.le_of_ble_eq_true rfl) (fun r0 I0 J0 R0 hq0 => ?_)
  obtain rfl : r0 = some (.int _) := hq0
  show WL Z mL _ _ (.int _ :: _) _
  refine WL_aload_n dL_law_896 rfl ?_
  refine WL_aload_n dL_law_897 rfl ?_
  refine WL_iload_n dL_law_898 rfl ?_
  refine WL_iconst (1) dL_law_899 rfl ?_
  refine WL_iadd dL_law_900 ?_
  refine WL_sld dL_law_901 (vinL hL (by unfold vp_in; decide)) ?_
  refine WL_callM1 dL_law_902 wX11_keep (tM_keep (Z := Z) hF _) (Nat.le_of_ble_eq_true rfl) (fun r1 I1 J1 R1 hq1 => ?_)
  obtain rfl : r1 = some (.int _) := hq1
  show WL Z mL _ _ (.int _ :: _) _
  refine WL_icmp_eq 1375 dL_law_905 rfl (fun _ => L_out hL) (fun h => absurd rfl h)
theorem tX_take {Z : LB} {Y : YY} (hF : FF Z Y) (a : Int32) : SP (gX Z) mX10_take [.ref (z_h Z + 0), .int a] Y.1.1 Y.1.2.1 Y.1.2.2 (rq (if 0 ≤ a.toInt ∧ a.toInt ≤ 2 then -4 else -2)) := by
  have h := xr_take (g := gX Z) ly_X hF.1.1 hF.1.2 a
  rw [ad_X] at h
  exact h
theorem tM_take {Z : LB} {I9 : pI} {J9 : pJ} {R9 : pR} {Y : YY} (hF : FF Z Y) (a : Int32) : SP (gM Z) mX11_take [.ref (z_h Z + 74 + 0), .int a] ((I9, J9, R9), Y.2).2.1 ((I9, J9, R9), Y.2).2.2.1 ((I9, J9, R9), Y.2).2.2.2 (rq (if 0 ≤ a.toInt ∧ a.toInt ≤ 2 then -4 else -2)) := by
  have h := fr_take (g := gM Z) (R := Y.2.2.2) ly_M hF.2.1 hF.2.2 a
  rw [ad_M] at h
  exact h
set_option maxHeartbeats 4000000 in
set_option maxRecDepth 100000 in
theorem L_take {Z : LB} {Y : YY} (hL : z_L Z = 8) (hF : FF Z Y) : WL Z mL 910 [(0, .ref (z_b Z)), (1, .ref (z_h Z + 0)), (2, .ref (z_h Z + 74 + 0)), (3, .int (0))] [] Y := by
  refine WL_aload_n dL_law_910 rfl ?_
  refine WL_aload_n dL_law_911 rfl ?_
  refine WL_iload_n dL_law_912 rfl ?_
  refine WL_iconst (1) dL_law_913 rfl ?_
  refine WL_iadd dL_law_914 ?_
  refine WL_sld dL_law_915 (vinL hL (by unfold vp_in; decide)) ?_
  refine WL_callX1 dL_law_916 wX10_take (tX_take (Z := Z) hF _) (Nat.le_of_ble_eq_true rfl) (fun r0 I0 J0 R0 hq0 => ?_)
  obtain rfl : r0 = some (.int _) := hq0
  show WL Z mL _ _ (.int _ :: _) _
  refine WL_aload_n dL_law_919 rfl ?_
  refine WL_aload_n dL_law_920 rfl ?_
  refine WL_iload_n dL_law_921 rfl ?_
  refine WL_iconst (1) dL_law_922 rfl ?_
  refine WL_iadd dL_law_923 ?_
  refine WL_sld dL_law_924 (vinL hL (by unfold vp_in; decide)) ?_
  refine WL_callM1 dL_law_925 wX11_take (tM_take (Z := Z) hF _) (Nat.le_of_ble_eq_true rfl) (fun r1 I1 J1 R1 hq1 => ?_)
  obtain rfl : r1 = some (.int _) := hq1
  show WL Z mL _ _ (.int _ :: _) _
  refine WL_icmp_eq 1375 dL_law_928 rfl (fun _ => L_out hL) (fun h => absurd rfl h)
theorem tX_worthAt {Z : LB} {Y : YY} (hF : FF Z Y) (a b : Int32) : SP (gX Z) mX10_worthAt [.ref (z_h Z + 0), .int a, .int b] Y.1.1 Y.1.2.1 Y.1.2.2 (rq (if (0 ≤ a.toInt ∧ a.toInt ≤ 18) ∧ 1 ≤ b.toInt ∧ b.toInt ≤ 4 then 0 else -2)) := by
  have h := xr_worthAt (g := gX Z) ly_X hF.1.1 hF.1.2 a b
  rw [ad_X] at h
  exact h
theorem tM_worthAt {Z : LB} {I9 : pI} {J9 : pJ} {R9 : pR} {Y : YY} (hF : FF Z Y) (a b : Int32) : SP (gM Z) mX11_worthAt [.ref (z_h Z + 74 + 0), .int a, .int b] ((I9, J9, R9), Y.2).2.1 ((I9, J9, R9), Y.2).2.2.1 ((I9, J9, R9), Y.2).2.2.2 (rq (if (0 ≤ a.toInt ∧ a.toInt ≤ 18) ∧ 1 ≤ b.toInt ∧ b.toInt ≤ 4 then 0 else -2)) := by
  have h := fr_worthAt (g := gM Z) (R := Y.2.2.2) ly_M hF.2.1 hF.2.2 a b
  rw [ad_M] at h
  exact h
set_option maxHeartbeats 4000000 in
set_option maxRecDepth 100000 in
theorem L_worthAt {Z : LB} {Y : YY} (hL : z_L Z = 8) (hF : FF Z Y) : WL Z mL 933 [(0, .ref (z_b Z)), (1, .ref (z_h Z + 0)), (2, .ref (z_h Z + 74 + 0)), (3, .int (0))] [] Y := by
  refine WL_aload_n dL_law_933 rfl ?_
  refine WL_aload_n dL_law_934 rfl ?_
  refine WL_iload_n dL_law_935 rfl ?_
  refine WL_iconst (1) dL_law_936 rfl ?_
  refine WL_iadd dL_law_937 ?_
  refine WL_sld dL_law_938 (vinL hL (by unfold vp_in; decide)) ?_
  refine WL_aload_n dL_law_939 rfl ?_
  refine WL_iload_n dL_law_940 rfl ?_
  refine WL_iconst (2) dL_law_941 rfl ?_
  refine WL_iadd dL_law_942 ?_
  refine WL_sld dL_law_943 (vinL hL (by unfold vp_in; decide)) ?_
  refine WL_callX2 dL_law_944 wX10_worthAt (tX_worthAt (Z := Z) hF _ _) (Nat.le_of_ble_eq_true rfl) (fun r0 I0 J0 R0 hq0 => ?_)
  obtain rfl : r0 = some (.int _) := hq0
  show WL Z mL _ _ (.int _ :: _) _
  refine WL_aload_n dL_law_947 rfl ?_
  refine WL_aload_n dL_law_948 rfl ?_
  refine WL_iload_n dL_law_949 rfl ?_
  refine WL_iconst (1) dL_law_950 rfl ?_
  refine WL_iadd dL_law_951 ?_
  refine WL_sld dL_law_952 (vinL hL (by unfold vp_in; decide)) ?_
  refine WL_aload_n dL_law_953 rfl ?_
  refine WL_iload_n dL_law_954 rfl ?_
  refine WL_iconst (2) dL_law_955 rfl ?_
  refine WL_iadd dL_law_956 ?_
  refine WL_sld dL_law_957 (vinL hL (by unfold vp_in; decide)) ?_
  refine WL_callM2 dL_law_958 wX11_worthAt (tM_worthAt (Z := Z) hF _ _) (Nat.le_of_ble_eq_true rfl) (fun r1 I1 J1 R1 hq1 => ?_)
  obtain rfl : r1 = some (.int _) := hq1
  show WL Z mL _ _ (.int _ :: _) _
  refine WL_icmp_eq 1375 dL_law_961 rfl (fun _ => L_out hL) (fun h => absurd rfl h)
theorem tX_rate {Z : LB} {Y : YY} (hF : FF Z Y) (a : Int32) : SP (gX Z) mX10_rate [.ref (z_h Z + 0), .int a] Y.1.1 Y.1.2.1 Y.1.2.2 (rq (if 1 ≤ a.toInt ∧ a.toInt ≤ 4 then 0 else -2)) := by
  have h := xr_rate (g := gX Z) ly_X hF.1.1 hF.1.2 a
  rw [ad_X] at h
  exact h
theorem tM_rate {Z : LB} {I9 : pI} {J9 : pJ} {R9 : pR} {Y : YY} (hF : FF Z Y) (a : Int32) : SP (gM Z) mX11_rate [.ref (z_h Z + 74 + 0), .int a] ((I9, J9, R9), Y.2).2.1 ((I9, J9, R9), Y.2).2.2.1 ((I9, J9, R9), Y.2).2.2.2 (rq (if 1 ≤ a.toInt ∧ a.toInt ≤ 4 then 0 else -2)) := by
  have h := fr_rate (g := gM Z) (R := Y.2.2.2) ly_M hF.2.1 hF.2.2 a
  rw [ad_M] at h
  exact h
set_option maxHeartbeats 4000000 in
set_option maxRecDepth 100000 in
theorem L_rate {Z : LB} {Y : YY} (hL : z_L Z = 8) (hF : FF Z Y) : WL Z mL 966 [(0, .ref (z_b Z)), (1, .ref (z_h Z + 0)), (2, .ref (z_h Z + 74 + 0)), (3, .int (0))] [] Y := by
  refine WL_aload_n dL_law_966 rfl ?_
  refine WL_aload_n dL_law_967 rfl ?_
  refine WL_iload_n dL_law_968 rfl ?_
  refine WL_iconst (1) dL_law_969 rfl ?_
  refine WL_iadd dL_law_970 ?_
  refine WL_sld dL_law_971 (vinL hL (by unfold vp_in; decide)) ?_
  refine WL_callX1 dL_law_972 wX10_rate (tX_rate (Z := Z) hF _) (Nat.le_of_ble_eq_true rfl) (fun r0 I0 J0 R0 hq0 => ?_)
  obtain rfl : r0 = some (.int _) := hq0
  show WL Z mL _ _ (.int _ :: _) _
  refine WL_aload_n dL_law_975 rfl ?_
  refine WL_aload_n dL_law_976 rfl ?_
  refine WL_iload_n dL_law_977 rfl ?_
  refine WL_iconst (1) dL_law_978 rfl ?_
  refine WL_iadd dL_law_979 ?_
  refine WL_sld dL_law_980 (vinL hL (by unfold vp_in; decide)) ?_
  refine WL_callM1 dL_law_981 wX11_rate (tM_rate (Z := Z) hF _) (Nat.le_of_ble_eq_true rfl) (fun r1 I1 J1 R1 hq1 => ?_)
  obtain rfl : r1 = some (.int _) := hq1
  show WL Z mL _ _ (.int _ :: _) _
  refine WL_icmp_eq 1375 dL_law_984 rfl (fun _ => L_out hL) (fun h => absurd rfl h)
theorem tX_rest {Z : LB} {Y : YY} (hF : FF Z Y) (a : Int32) : SP (gX Z) mX10_rest [.ref (z_h Z + 0), .int a] Y.1.1 Y.1.2.1 Y.1.2.2 (rq (if 0 ≤ a.toInt ∧ a.toInt ≤ 1 then 1 else -2)) := by
  have h := xr_rest (g := gX Z) ly_X hF.1.1 hF.1.2 a
  rw [ad_X] at h
  exact h
theorem tM_rest {Z : LB} {I9 : pI} {J9 : pJ} {R9 : pR} {Y : YY} (hF : FF Z Y) (a : Int32) : SP (gM Z) mX11_rest [.ref (z_h Z + 74 + 0), .int a] ((I9, J9, R9), Y.2).2.1 ((I9, J9, R9), Y.2).2.2.1 ((I9, J9, R9), Y.2).2.2.2 (rq (if 0 ≤ a.toInt ∧ a.toInt ≤ 1 then 1 else -2)) := by
  have h := fr_rest (g := gM Z) (R := Y.2.2.2) ly_M hF.2.1 hF.2.2 a
  rw [ad_M] at h
  exact h
set_option maxHeartbeats 4000000 in
set_option maxRecDepth 100000 in
theorem L_rest {Z : LB} {Y : YY} (hL : z_L Z = 8) (hF : FF Z Y) : WL Z mL 989 [(0, .ref (z_b Z)), (1, .ref (z_h Z + 0)), (2, .ref (z_h Z + 74 + 0)), (3, .int (0))] [] Y := by
  refine WL_aload_n dL_law_989 rfl ?_
  refine WL_aload_n dL_law_990 rfl ?_
  refine WL_iload_n dL_law_991 rfl ?_
  refine WL_iconst (1) dL_law_992 rfl ?_
  refine WL_iadd dL_law_993 ?_
  refine WL_sld dL_law_994 (vinL hL (by unfold vp_in; decide)) ?_
  refine WL_callX1 dL_law_995 wX10_rest (tX_rest (Z := Z) hF _) (Nat.le_of_ble_eq_true rfl) (fun r0 I0 J0 R0 hq0 => ?_)
  obtain rfl : r0 = some (.int _) := hq0
  show WL Z mL _ _ (.int _ :: _) _
  refine WL_aload_n dL_law_998 rfl ?_
  refine WL_aload_n dL_law_999 rfl ?_
  refine WL_iload_n dL_law_1000 rfl ?_
  refine WL_iconst (1) dL_law_1001 rfl ?_
  refine WL_iadd dL_law_1002 ?_
  refine WL_sld dL_law_1003 (vinL hL (by unfold vp_in; decide)) ?_
  refine WL_callM1 dL_law_1004 wX11_rest (tM_rest (Z := Z) hF _) (Nat.le_of_ble_eq_true rfl) (fun r1 I1 J1 R1 hq1 => ?_)
  obtain rfl : r1 = some (.int _) := hq1
  show WL Z mL _ _ (.int _ :: _) _
  refine WL_icmp_eq 1375 dL_law_1007 rfl (fun _ => L_out hL) (fun h => absurd rfl h)
theorem tX_restTurns {Z : LB} {Y : YY} (hF : FF Z Y)  : SP (gX Z) mX10_restTurns [.ref (z_h Z + 0)] Y.1.1 Y.1.2.1 Y.1.2.2 (rq (-1)) := by
  have h := xr_restTurns (g := gX Z) ly_X hF.1.1 hF.1.2
  rw [ad_X] at h
  exact h
theorem tM_restTurns {Z : LB} {I9 : pI} {J9 : pJ} {R9 : pR} {Y : YY} (hF : FF Z Y)  : SP (gM Z) mX11_restTurns [.ref (z_h Z + 74 + 0)] ((I9, J9, R9), Y.2).2.1 ((I9, J9, R9), Y.2).2.2.1 ((I9, J9, R9), Y.2).2.2.2 (rq (-1)) := by
  have h := fr_restTurns (g := gM Z) (R := Y.2.2.2) ly_M hF.2.1 hF.2.2
  rw [ad_M] at h
  exact h
set_option maxHeartbeats 4000000 in
set_option maxRecDepth 100000 in
theorem L_restTurns {Z : LB} {Y : YY} (hL : z_L Z = 8) (hF : FF Z Y) : WL Z mL 1012 [(0, .ref (z_b Z)), (1, .ref (z_h Z + 0)), (2, .ref (z_h Z + 74 + 0)), (3, .int (0))] [] Y := by
  refine WL_aload_n dL_law_1012 rfl ?_
  refine WL_callX0 dL_law_1013 wX10_restTurns (tX_restTurns (Z := Z) hF) (Nat.le_of_ble_eq_true rfl) (fun r0 I0 J0 R0 hq0 => ?_)
  obtain rfl : r0 = some (.int _) := hq0
  show WL Z mL _ _ (.int _ :: _) _
  refine WL_aload_n dL_law_1016 rfl ?_
  refine WL_callM0 dL_law_1017 wX11_restTurns (tM_restTurns (Z := Z) hF) (Nat.le_of_ble_eq_true rfl) (fun r1 I1 J1 R1 hq1 => ?_)
  obtain rfl : r1 = some (.int _) := hq1
  show WL Z mL _ _ (.int _ :: _) _
  refine WL_icmp_eq 1375 dL_law_1020 rfl (fun _ => L_out hL) (fun h => absurd rfl h)
theorem tX_two {Z : LB} {Y : YY} (hF : FF Z Y) (xa xc xp xq xn xr xw : Int32) : SP (gX Z) mX10_two [.ref (z_h Z + 0), .int xa, .int xc, .int xp, .int xq, .int xn, .int xr, .int xw] Y.1.1 Y.1.2.1 Y.1.2.2 (iq (twoA xa xc xp xq xn xr xw)) := by
  have h := xr_two (g := gX Z) ly_X hF.1.1 hF.1.2 xa xc xp xq xn xr xw
  rw [ad_X] at h
  exact h
theorem tM_two {Z : LB} {I9 : pI} {J9 : pJ} {R9 : pR} {Y : YY} (hF : FF Z Y) (xa xc xp xq xn xr xw : Int32) : SP (gM Z) mX11_two [.ref (z_h Z + 74 + 0), .int xa, .int xc, .int xp, .int xq, .int xn, .int xr, .int xw] ((I9, J9, R9), Y.2).2.1 ((I9, J9, R9), Y.2).2.2.1 ((I9, J9, R9), Y.2).2.2.2 (iq (twoA xa xc xp xq xn xr xw)) := by
  have h := fr_two (g := gM Z) (R := Y.2.2.2) ly_M hF.2.1 hF.2.2 xa xc xp xq xn xr xw
  rw [ad_M] at h
  exact h
set_option maxHeartbeats 4000000 in
set_option maxRecDepth 100000 in
theorem L_two {Z : LB} {Y : YY} (hL : z_L Z = 8) (hF : FF Z Y) : WL Z mL 1025 [(0, .ref (z_b Z)), (1, .ref (z_h Z + 0)), (2, .ref (z_h Z + 74 + 0)), (3, .int (0))] [] Y := by
  refine WL_aload_n dL_law_1025 rfl ?_
  refine WL_aload_n dL_law_1026 rfl ?_
  refine WL_iload_n dL_law_1027 rfl ?_
  refine WL_iconst (1) dL_law_1028 rfl ?_
  refine WL_iadd dL_law_1029 ?_
  refine WL_sld dL_law_1030 (vinL hL (by unfold vp_in; decide)) ?_
  refine WL_aload_n dL_law_1031 rfl ?_
  refine WL_iload_n dL_law_1032 rfl ?_
  refine WL_iconst (2) dL_law_1033 rfl ?_
  refine WL_iadd dL_law_1034 ?_
  refine WL_sld dL_law_1035 (vinL hL (by unfold vp_in; decide)) ?_
  refine WL_aload_n dL_law_1036 rfl ?_
  refine WL_iload_n dL_law_1037 rfl ?_
  refine WL_iconst (3) dL_law_1038 rfl ?_
  refine WL_iadd dL_law_1039 ?_
  refine WL_sld dL_law_1040 (vinL hL (by unfold vp_in; decide)) ?_
  refine WL_aload_n dL_law_1041 rfl ?_
  refine WL_iload_n dL_law_1042 rfl ?_
  refine WL_iconst (4) dL_law_1043 rfl ?_
  refine WL_iadd dL_law_1044 ?_
  refine WL_sld dL_law_1045 (vinL hL (by unfold vp_in; decide)) ?_
  refine WL_aload_n dL_law_1046 rfl ?_
  refine WL_iload_n dL_law_1047 rfl ?_
  refine WL_iconst (5) dL_law_1048 rfl ?_
  refine WL_iadd dL_law_1049 ?_
  refine WL_sld dL_law_1050 (vinL hL (by unfold vp_in; decide)) ?_
  refine WL_aload_n dL_law_1051 rfl ?_
  refine WL_iload_n dL_law_1052 rfl ?_
  refine WL_bipush (6) dL_law_1053 rfl ?_
  refine WL_iadd dL_law_1055 ?_
  refine WL_sld dL_law_1056 (vinL hL (by unfold vp_in; decide)) ?_
  refine WL_aload_n dL_law_1057 rfl ?_
  refine WL_iload_n dL_law_1058 rfl ?_
  refine WL_bipush (7) dL_law_1059 rfl ?_
  refine WL_iadd dL_law_1061 ?_
  refine WL_sld dL_law_1062 (vinL hL (by unfold vp_in; decide)) ?_
  refine WL_callX7 dL_law_1063 wX10_two (tX_two (Z := Z) hF _ _ _ _ _ _ _) (Nat.le_of_ble_eq_true rfl) (fun r0 I0 J0 R0 hq0 => ?_)
  obtain ⟨v0, rfl, e0⟩ := hq0
  show WL Z mL _ _ (.int _ :: _) _
  refine WL_aload_n dL_law_1066 rfl ?_
  refine WL_aload_n dL_law_1067 rfl ?_
  refine WL_iload_n dL_law_1068 rfl ?_
  refine WL_iconst (1) dL_law_1069 rfl ?_
  refine WL_iadd dL_law_1070 ?_
  refine WL_sld dL_law_1071 (vinL hL (by unfold vp_in; decide)) ?_
  refine WL_aload_n dL_law_1072 rfl ?_
  refine WL_iload_n dL_law_1073 rfl ?_
  refine WL_iconst (2) dL_law_1074 rfl ?_
  refine WL_iadd dL_law_1075 ?_
  refine WL_sld dL_law_1076 (vinL hL (by unfold vp_in; decide)) ?_
  refine WL_aload_n dL_law_1077 rfl ?_
  refine WL_iload_n dL_law_1078 rfl ?_
  refine WL_iconst (3) dL_law_1079 rfl ?_
  refine WL_iadd dL_law_1080 ?_
  refine WL_sld dL_law_1081 (vinL hL (by unfold vp_in; decide)) ?_
  refine WL_aload_n dL_law_1082 rfl ?_
  refine WL_iload_n dL_law_1083 rfl ?_
  refine WL_iconst (4) dL_law_1084 rfl ?_
  refine WL_iadd dL_law_1085 ?_
  refine WL_sld dL_law_1086 (vinL hL (by unfold vp_in; decide)) ?_
  refine WL_aload_n dL_law_1087 rfl ?_
  refine WL_iload_n dL_law_1088 rfl ?_
  refine WL_iconst (5) dL_law_1089 rfl ?_
  refine WL_iadd dL_law_1090 ?_
  refine WL_sld dL_law_1091 (vinL hL (by unfold vp_in; decide)) ?_
  refine WL_aload_n dL_law_1092 rfl ?_
  refine WL_iload_n dL_law_1093 rfl ?_
  refine WL_bipush (6) dL_law_1094 rfl ?_
  refine WL_iadd dL_law_1096 ?_
  refine WL_sld dL_law_1097 (vinL hL (by unfold vp_in; decide)) ?_
  refine WL_aload_n dL_law_1098 rfl ?_
  refine WL_iload_n dL_law_1099 rfl ?_
  refine WL_bipush (7) dL_law_1100 rfl ?_
  refine WL_iadd dL_law_1102 ?_
  refine WL_sld dL_law_1103 (vinL hL (by unfold vp_in; decide)) ?_
  refine WL_callM7 dL_law_1104 wX11_two (tM_two (Z := Z) hF _ _ _ _ _ _ _) (Nat.le_of_ble_eq_true rfl) (fun r1 I1 J1 R1 hq1 => ?_)
  obtain ⟨v1, rfl, e1⟩ := hq1
  show WL Z mL _ _ (.int _ :: _) _
  refine WL_icmp_eq 1375 dL_law_1107 rfl (fun _ => L_out hL) (fun h => absurd (Int32.toInt_inj.mp (e0.trans e1.symm)) h)
theorem tX_lend {Z : LB} {Y : YY} (hF : FF Z Y) (a b c e : Int32) : SP (gX Z) mX10_lend [.ref (z_h Z + 0), .int a, .int b, .int c, .int e] Y.1.1 Y.1.2.1 Y.1.2.2 (rq (if ((0 ≤ a.toInt ∧ a.toInt ≤ 999) ∧ (0 ≤ b.toInt ∧ b.toInt ≤ 52) ∧ (0 ≤ c.toInt ∧ c.toInt ≤ 1000) ∧ (0 ≤ e.toInt ∧ e.toInt ≤ 1)) then (if e = 0 then lentF b.toInt.toNat a c else a) else -2)) := by
  have h := xr_lend (g := gX Z) ly_X hF.1.1 hF.1.2 a b c e
  rw [ad_X] at h
  exact h
theorem tM_lend {Z : LB} {I9 : pI} {J9 : pJ} {R9 : pR} {Y : YY} (hF : FF Z Y) (a b c e : Int32) : SP (gM Z) mX11_lend [.ref (z_h Z + 74 + 0), .int a, .int b, .int c, .int e] ((I9, J9, R9), Y.2).2.1 ((I9, J9, R9), Y.2).2.2.1 ((I9, J9, R9), Y.2).2.2.2 (rq (if ((0 ≤ a.toInt ∧ a.toInt ≤ 999) ∧ (0 ≤ b.toInt ∧ b.toInt ≤ 52) ∧ (0 ≤ c.toInt ∧ c.toInt ≤ 1000) ∧ (0 ≤ e.toInt ∧ e.toInt ≤ 1)) then (if e = 0 then lentF b.toInt.toNat a c else a) else -2)) := by
  have h := fr_lend (g := gM Z) (R := Y.2.2.2) ly_M hF.2.1 hF.2.2 a b c e
  rw [ad_M] at h
  exact h
set_option maxHeartbeats 4000000 in
set_option maxRecDepth 100000 in
theorem L_lend {Z : LB} {Y : YY} (hL : z_L Z = 8) (hF : FF Z Y) : WL Z mL 1112 [(0, .ref (z_b Z)), (1, .ref (z_h Z + 0)), (2, .ref (z_h Z + 74 + 0)), (3, .int (0))] [] Y := by
  refine WL_aload_n dL_law_1112 rfl ?_
  refine WL_aload_n dL_law_1113 rfl ?_
  refine WL_iload_n dL_law_1114 rfl ?_
  refine WL_iconst (1) dL_law_1115 rfl ?_
  refine WL_iadd dL_law_1116 ?_
  refine WL_sld dL_law_1117 (vinL hL (by unfold vp_in; decide)) ?_
  refine WL_aload_n dL_law_1118 rfl ?_
  refine WL_iload_n dL_law_1119 rfl ?_
  refine WL_iconst (2) dL_law_1120 rfl ?_
  refine WL_iadd dL_law_1121 ?_
  refine WL_sld dL_law_1122 (vinL hL (by unfold vp_in; decide)) ?_
  refine WL_aload_n dL_law_1123 rfl ?_
  refine WL_iload_n dL_law_1124 rfl ?_
  refine WL_iconst (3) dL_law_1125 rfl ?_
  refine WL_iadd dL_law_1126 ?_
  refine WL_sld dL_law_1127 (vinL hL (by unfold vp_in; decide)) ?_
  refine WL_aload_n dL_law_1128 rfl ?_
  refine WL_iload_n dL_law_1129 rfl ?_
  refine WL_iconst (4) dL_law_1130 rfl ?_
  refine WL_iadd dL_law_1131 ?_
  refine WL_sld dL_law_1132 (vinL hL (by unfold vp_in; decide)) ?_
  refine WL_callX4 dL_law_1133 wX10_lend (tX_lend (Z := Z) hF _ _ _ _) (Nat.le_of_ble_eq_true rfl) (fun r0 I0 J0 R0 hq0 => ?_)
  obtain rfl : r0 = some (.int _) := hq0
  show WL Z mL _ _ (.int _ :: _) _
  refine WL_aload_n dL_law_1136 rfl ?_
  refine WL_aload_n dL_law_1137 rfl ?_
  refine WL_iload_n dL_law_1138 rfl ?_
  refine WL_iconst (1) dL_law_1139 rfl ?_
  refine WL_iadd dL_law_1140 ?_
  refine WL_sld dL_law_1141 (vinL hL (by unfold vp_in; decide)) ?_
  refine WL_aload_n dL_law_1142 rfl ?_
  refine WL_iload_n dL_law_1143 rfl ?_
  refine WL_iconst (2) dL_law_1144 rfl ?_
  refine WL_iadd dL_law_1145 ?_
  refine WL_sld dL_law_1146 (vinL hL (by unfold vp_in; decide)) ?_
  refine WL_aload_n dL_law_1147 rfl ?_
  refine WL_iload_n dL_law_1148 rfl ?_
  refine WL_iconst (3) dL_law_1149 rfl ?_
  refine WL_iadd dL_law_1150 ?_
  refine WL_sld dL_law_1151 (vinL hL (by unfold vp_in; decide)) ?_
  refine WL_aload_n dL_law_1152 rfl ?_
  refine WL_iload_n dL_law_1153 rfl ?_
  refine WL_iconst (4) dL_law_1154 rfl ?_
  refine WL_iadd dL_law_1155 ?_
  refine WL_sld dL_law_1156 (vinL hL (by unfold vp_in; decide)) ?_
  refine WL_callM4 dL_law_1157 wX11_lend (tM_lend (Z := Z) hF _ _ _ _) (Nat.le_of_ble_eq_true rfl) (fun r1 I1 J1 R1 hq1 => ?_)
  obtain rfl : r1 = some (.int _) := hq1
  show WL Z mL _ _ (.int _ :: _) _
  refine WL_icmp_eq 1375 dL_law_1160 rfl (fun _ => L_out hL) (fun h => absurd rfl h)
theorem tX_early {Z : LB} {Y : YY} (hF : FF Z Y) (a b c : Int32) : SP (gX Z) mX10_early [.ref (z_h Z + 0), .int a, .int b, .int c] Y.1.1 Y.1.2.1 Y.1.2.2 (rq (if (0 ≤ a.toInt ∧ a.toInt ≤ 999) ∧ (0 ≤ b.toInt ∧ b.toInt ≤ 60) ∧ (0 ≤ c.toInt ∧ c.toInt < 7) then a else -2)) := by
  have h := xr_early (g := gX Z) ly_X hF.1.1 hF.1.2 a b c
  rw [ad_X] at h
  exact h
theorem tM_early {Z : LB} {I9 : pI} {J9 : pJ} {R9 : pR} {Y : YY} (hF : FF Z Y) (a b c : Int32) : SP (gM Z) mX11_early [.ref (z_h Z + 74 + 0), .int a, .int b, .int c] ((I9, J9, R9), Y.2).2.1 ((I9, J9, R9), Y.2).2.2.1 ((I9, J9, R9), Y.2).2.2.2 (rq (if (0 ≤ a.toInt ∧ a.toInt ≤ 999) ∧ (0 ≤ b.toInt ∧ b.toInt ≤ 60) ∧ (0 ≤ c.toInt ∧ c.toInt < 7) then a else -2)) := by
  have h := fr_early (g := gM Z) (R := Y.2.2.2) ly_M hF.2.1 hF.2.2 a b c
  rw [ad_M] at h
  exact h
set_option maxHeartbeats 4000000 in
set_option maxRecDepth 100000 in
theorem L_early {Z : LB} {Y : YY} (hL : z_L Z = 8) (hF : FF Z Y) : WL Z mL 1165 [(0, .ref (z_b Z)), (1, .ref (z_h Z + 0)), (2, .ref (z_h Z + 74 + 0)), (3, .int (0))] [] Y := by
  refine WL_aload_n dL_law_1165 rfl ?_
  refine WL_aload_n dL_law_1166 rfl ?_
  refine WL_iload_n dL_law_1167 rfl ?_
  refine WL_iconst (1) dL_law_1168 rfl ?_
  refine WL_iadd dL_law_1169 ?_
  refine WL_sld dL_law_1170 (vinL hL (by unfold vp_in; decide)) ?_
  refine WL_aload_n dL_law_1171 rfl ?_
  refine WL_iload_n dL_law_1172 rfl ?_
  refine WL_iconst (2) dL_law_1173 rfl ?_
  refine WL_iadd dL_law_1174 ?_
  refine WL_sld dL_law_1175 (vinL hL (by unfold vp_in; decide)) ?_
  refine WL_aload_n dL_law_1176 rfl ?_
  refine WL_iload_n dL_law_1177 rfl ?_
  refine WL_iconst (3) dL_law_1178 rfl ?_
  refine WL_iadd dL_law_1179 ?_
  refine WL_sld dL_law_1180 (vinL hL (by unfold vp_in; decide)) ?_
  refine WL_callX3 dL_law_1181 wX10_early (tX_early (Z := Z) hF _ _ _) (Nat.le_of_ble_eq_true rfl) (fun r0 I0 J0 R0 hq0 => ?_)
  obtain rfl : r0 = some (.int _) := hq0
  show WL Z mL _ _ (.int _ :: _) _
  refine WL_aload_n dL_law_1184 rfl ?_
  refine WL_aload_n dL_law_1185 rfl ?_
  refine WL_iload_n dL_law_1186 rfl ?_
  refine WL_iconst (1) dL_law_1187 rfl ?_
  refine WL_iadd dL_law_1188 ?_
  refine WL_sld dL_law_1189 (vinL hL (by unfold vp_in; decide)) ?_
  refine WL_aload_n dL_law_1190 rfl ?_
  refine WL_iload_n dL_law_1191 rfl ?_
  refine WL_iconst (2) dL_law_1192 rfl ?_
  refine WL_iadd dL_law_1193 ?_
  refine WL_sld dL_law_1194 (vinL hL (by unfold vp_in; decide)) ?_
  refine WL_aload_n dL_law_1195 rfl ?_
  refine WL_iload_n dL_law_1196 rfl ?_
  refine WL_iconst (3) dL_law_1197 rfl ?_
  refine WL_iadd dL_law_1198 ?_
  refine WL_sld dL_law_1199 (vinL hL (by unfold vp_in; decide)) ?_
  refine WL_callM3 dL_law_1200 wX11_early (tM_early (Z := Z) hF _ _ _) (Nat.le_of_ble_eq_true rfl) (fun r1 I1 J1 R1 hq1 => ?_)
  obtain rfl : r1 = some (.int _) := hq1
  show WL Z mL _ _ (.int _ :: _) _
  refine WL_icmp_eq 1375 dL_law_1203 rfl (fun _ => L_out hL) (fun h => absurd rfl h)
theorem tX_values {Z : LB} {Y : YY} (hF : FF Z Y)  : SP (gX Z) mX10_values [.ref (z_h Z + 0)] Y.1.1 Y.1.2.1 Y.1.2.2 (rq 1) := by
  have h := xr_values (g := gX Z) ly_X hF.1.1 hF.1.2
  rw [ad_X] at h
  exact h
theorem tM_values {Z : LB} {I9 : pI} {J9 : pJ} {R9 : pR} {Y : YY} (hF : FF Z Y)  : SP (gM Z) mX11_values [.ref (z_h Z + 74 + 0)] ((I9, J9, R9), Y.2).2.1 ((I9, J9, R9), Y.2).2.2.1 ((I9, J9, R9), Y.2).2.2.2 (rq 1) := by
  have h := fr_values (g := gM Z) (R := Y.2.2.2) ly_M hF.2.1 hF.2.2
  rw [ad_M] at h
  exact h
set_option maxHeartbeats 4000000 in
set_option maxRecDepth 100000 in
theorem L_values {Z : LB} {Y : YY} (hL : z_L Z = 8) (hF : FF Z Y) : WL Z mL 1208 [(0, .ref (z_b Z)), (1, .ref (z_h Z + 0)), (2, .ref (z_h Z + 74 + 0)), (3, .int (0))] [] Y := by
  refine WL_aload_n dL_law_1208 rfl ?_
  refine WL_callX0 dL_law_1209 wX10_values (tX_values (Z := Z) hF) (Nat.le_of_ble_eq_true rfl) (fun r0 I0 J0 R0 hq0 => ?_)
  obtain rfl : r0 = some (.int _) := hq0
  show WL Z mL _ _ (.int _ :: _) _
  refine WL_aload_n dL_law_1212 rfl ?_
  refine WL_callM0 dL_law_1213 wX11_values (tM_values (Z := Z) hF) (Nat.le_of_ble_eq_true rfl) (fun r1 I1 J1 R1 hq1 => ?_)
  obtain rfl : r1 = some (.int _) := hq1
  show WL Z mL _ _ (.int _ :: _) _
  refine WL_icmp_eq 1375 dL_law_1216 rfl (fun _ => L_out hL) (fun h => absurd rfl h)
theorem tX_meet {Z : LB} {Y : YY} (hF : FF Z Y) (a b c e f h : Int32) : SP (gX Z) mX10_meet [.ref (z_h Z + 0), .int a, .int b, .int c, .int e, .int f, .int h] Y.1.1 Y.1.2.1 Y.1.2.2 (rq (-1000000)) := by
  have h := xr_meet (g := gX Z) ly_X hF.1.1 hF.1.2 a b c e f h
  rw [ad_X] at h
  exact h
theorem tM_meet {Z : LB} {I9 : pI} {J9 : pJ} {R9 : pR} {Y : YY} (hF : FF Z Y) (a b c e f h : Int32) : SP (gM Z) mX11_meet [.ref (z_h Z + 74 + 0), .int a, .int b, .int c, .int e, .int f, .int h] ((I9, J9, R9), Y.2).2.1 ((I9, J9, R9), Y.2).2.2.1 ((I9, J9, R9), Y.2).2.2.2 (rq (-1000000)) := by
  have h := fr_meet (g := gM Z) (R := Y.2.2.2) ly_M hF.2.1 hF.2.2 a b c e f h
  rw [ad_M] at h
  exact h
set_option maxHeartbeats 4000000 in
set_option maxRecDepth 100000 in
theorem L_meet {Z : LB} {Y : YY} (hL : z_L Z = 8) (hF : FF Z Y) : WL Z mL 1221 [(0, .ref (z_b Z)), (1, .ref (z_h Z + 0)), (2, .ref (z_h Z + 74 + 0)), (3, .int (0))] [] Y := by
  refine WL_aload_n dL_law_1221 rfl ?_
  refine WL_aload_n dL_law_1222 rfl ?_
  refine WL_iload_n dL_law_1223 rfl ?_
  refine WL_iconst (1) dL_law_1224 rfl ?_
  refine WL_iadd dL_law_1225 ?_
  refine WL_sld dL_law_1226 (vinL hL (by unfold vp_in; decide)) ?_
  refine WL_aload_n dL_law_1227 rfl ?_
  refine WL_iload_n dL_law_1228 rfl ?_
  refine WL_iconst (2) dL_law_1229 rfl ?_
  refine WL_iadd dL_law_1230 ?_
  refine WL_sld dL_law_1231 (vinL hL (by unfold vp_in; decide)) ?_
  refine WL_aload_n dL_law_1232 rfl ?_
  refine WL_iload_n dL_law_1233 rfl ?_
  refine WL_iconst (3) dL_law_1234 rfl ?_
  refine WL_iadd dL_law_1235 ?_
  refine WL_sld dL_law_1236 (vinL hL (by unfold vp_in; decide)) ?_
  refine WL_aload_n dL_law_1237 rfl ?_
  refine WL_iload_n dL_law_1238 rfl ?_
  refine WL_iconst (4) dL_law_1239 rfl ?_
  refine WL_iadd dL_law_1240 ?_
  refine WL_sld dL_law_1241 (vinL hL (by unfold vp_in; decide)) ?_
  refine WL_aload_n dL_law_1242 rfl ?_
  refine WL_iload_n dL_law_1243 rfl ?_
  refine WL_iconst (5) dL_law_1244 rfl ?_
  refine WL_iadd dL_law_1245 ?_
  refine WL_sld dL_law_1246 (vinL hL (by unfold vp_in; decide)) ?_
  refine WL_aload_n dL_law_1247 rfl ?_
  refine WL_iload_n dL_law_1248 rfl ?_
  refine WL_bipush (6) dL_law_1249 rfl ?_
  refine WL_iadd dL_law_1251 ?_
  refine WL_sld dL_law_1252 (vinL hL (by unfold vp_in; decide)) ?_
  refine WL_callX6 dL_law_1253 wX10_meet (tX_meet (Z := Z) hF _ _ _ _ _ _) (Nat.le_of_ble_eq_true rfl) (fun r0 I0 J0 R0 hq0 => ?_)
  obtain rfl : r0 = some (.int _) := hq0
  show WL Z mL _ _ (.int _ :: _) _
  refine WL_aload_n dL_law_1256 rfl ?_
  refine WL_aload_n dL_law_1257 rfl ?_
  refine WL_iload_n dL_law_1258 rfl ?_
  refine WL_iconst (1) dL_law_1259 rfl ?_
  refine WL_iadd dL_law_1260 ?_
  refine WL_sld dL_law_1261 (vinL hL (by unfold vp_in; decide)) ?_
  refine WL_aload_n dL_law_1262 rfl ?_
  refine WL_iload_n dL_law_1263 rfl ?_
  refine WL_iconst (2) dL_law_1264 rfl ?_
  refine WL_iadd dL_law_1265 ?_
  refine WL_sld dL_law_1266 (vinL hL (by unfold vp_in; decide)) ?_
  refine WL_aload_n dL_law_1267 rfl ?_
  refine WL_iload_n dL_law_1268 rfl ?_
  refine WL_iconst (3) dL_law_1269 rfl ?_
  refine WL_iadd dL_law_1270 ?_
  refine WL_sld dL_law_1271 (vinL hL (by unfold vp_in; decide)) ?_
  refine WL_aload_n dL_law_1272 rfl ?_
  refine WL_iload_n dL_law_1273 rfl ?_
  refine WL_iconst (4) dL_law_1274 rfl ?_
  refine WL_iadd dL_law_1275 ?_
  refine WL_sld dL_law_1276 (vinL hL (by unfold vp_in; decide)) ?_
  refine WL_aload_n dL_law_1277 rfl ?_
  refine WL_iload_n dL_law_1278 rfl ?_
  refine WL_iconst (5) dL_law_1279 rfl ?_
  refine WL_iadd dL_law_1280 ?_
  refine WL_sld dL_law_1281 (vinL hL (by unfold vp_in; decide)) ?_
  refine WL_aload_n dL_law_1282 rfl ?_
  refine WL_iload_n dL_law_1283 rfl ?_
  refine WL_bipush (6) dL_law_1284 rfl ?_
  refine WL_iadd dL_law_1286 ?_
  refine WL_sld dL_law_1287 (vinL hL (by unfold vp_in; decide)) ?_
  refine WL_callM6 dL_law_1288 wX11_meet (tM_meet (Z := Z) hF _ _ _ _ _ _) (Nat.le_of_ble_eq_true rfl) (fun r1 I1 J1 R1 hq1 => ?_)
  obtain rfl : r1 = some (.int _) := hq1
  show WL Z mL _ _ (.int _ :: _) _
  refine WL_icmp_eq 1375 dL_law_1291 rfl (fun _ => L_out hL) (fun h => absurd rfl h)
theorem tX_rests {Z : LB} {Y : YY} (hF : FF Z Y) (a b c : Int32) : SP (gX Z) mX10_rests [.ref (z_h Z + 0), .int a, .int b, .int c] Y.1.1 Y.1.2.1 Y.1.2.2 (rq (if (0 ≤ a.toInt ∧ a.toInt ≤ 100) ∧ (0 ≤ b.toInt ∧ b.toInt ≤ 900) ∧ (0 ≤ c.toInt ∧ c.toInt ≤ 40) then 1 else -2)) := by
  have h := xr_rests (g := gX Z) ly_X hF.1.1 hF.1.2 a b c
  rw [ad_X] at h
  exact h
theorem tM_rests {Z : LB} {I9 : pI} {J9 : pJ} {R9 : pR} {Y : YY} (hF : FF Z Y) (a b c : Int32) : SP (gM Z) mX11_rests [.ref (z_h Z + 74 + 0), .int a, .int b, .int c] ((I9, J9, R9), Y.2).2.1 ((I9, J9, R9), Y.2).2.2.1 ((I9, J9, R9), Y.2).2.2.2 (rq (if (0 ≤ a.toInt ∧ a.toInt ≤ 100) ∧ (0 ≤ b.toInt ∧ b.toInt ≤ 900) ∧ (0 ≤ c.toInt ∧ c.toInt ≤ 40) then 1 else -2)) := by
  have h := fr_rests (g := gM Z) (R := Y.2.2.2) ly_M hF.2.1 hF.2.2 a b c
  rw [ad_M] at h
  exact h
set_option maxHeartbeats 4000000 in
set_option maxRecDepth 100000 in
theorem L_rests {Z : LB} {Y : YY} (hL : z_L Z = 8) (hF : FF Z Y) : WL Z mL 1296 [(0, .ref (z_b Z)), (1, .ref (z_h Z + 0)), (2, .ref (z_h Z + 74 + 0)), (3, .int (0))] [] Y := by
  refine WL_aload_n dL_law_1296 rfl ?_
  refine WL_aload_n dL_law_1297 rfl ?_
  refine WL_iload_n dL_law_1298 rfl ?_
  refine WL_iconst (1) dL_law_1299 rfl ?_
  refine WL_iadd dL_law_1300 ?_
  refine WL_sld dL_law_1301 (vinL hL (by unfold vp_in; decide)) ?_
  refine WL_aload_n dL_law_1302 rfl ?_
  refine WL_iload_n dL_law_1303 rfl ?_
  refine WL_iconst (2) dL_law_1304 rfl ?_
  refine WL_iadd dL_law_1305 ?_
  refine WL_sld dL_law_1306 (vinL hL (by unfold vp_in; decide)) ?_
  refine WL_aload_n dL_law_1307 rfl ?_
  refine WL_iload_n dL_law_1308 rfl ?_
  refine WL_iconst (3) dL_law_1309 rfl ?_
  refine WL_iadd dL_law_1310 ?_
  refine WL_sld dL_law_1311 (vinL hL (by unfold vp_in; decide)) ?_
  refine WL_callX3 dL_law_1312 wX10_rests (tX_rests (Z := Z) hF _ _ _) (Nat.le_of_ble_eq_true rfl) (fun r0 I0 J0 R0 hq0 => ?_)
  obtain rfl : r0 = some (.int _) := hq0
  show WL Z mL _ _ (.int _ :: _) _
  refine WL_aload_n dL_law_1315 rfl ?_
  refine WL_aload_n dL_law_1316 rfl ?_
  refine WL_iload_n dL_law_1317 rfl ?_
  refine WL_iconst (1) dL_law_1318 rfl ?_
  refine WL_iadd dL_law_1319 ?_
  refine WL_sld dL_law_1320 (vinL hL (by unfold vp_in; decide)) ?_
  refine WL_aload_n dL_law_1321 rfl ?_
  refine WL_iload_n dL_law_1322 rfl ?_
  refine WL_iconst (2) dL_law_1323 rfl ?_
  refine WL_iadd dL_law_1324 ?_
  refine WL_sld dL_law_1325 (vinL hL (by unfold vp_in; decide)) ?_
  refine WL_aload_n dL_law_1326 rfl ?_
  refine WL_iload_n dL_law_1327 rfl ?_
  refine WL_iconst (3) dL_law_1328 rfl ?_
  refine WL_iadd dL_law_1329 ?_
  refine WL_sld dL_law_1330 (vinL hL (by unfold vp_in; decide)) ?_
  refine WL_callM3 dL_law_1331 wX11_rests (tM_rests (Z := Z) hF _ _ _) (Nat.le_of_ble_eq_true rfl) (fun r1 I1 J1 R1 hq1 => ?_)
  obtain rfl : r1 = some (.int _) := hq1
  show WL Z mL _ _ (.int _ :: _) _
  refine WL_icmp_eq 1375 dL_law_1334 rfl (fun _ => L_out hL) (fun h => absurd rfl h)
theorem tX_book {Z : LB} {Y : YY} (hF : FF Z Y)  : SP (gX Z) mX10_book [.ref (z_h Z + 0)] Y.1.1 Y.1.2.1 Y.1.2.2 (rq (-3)) := by
  have h := xr_book (g := gX Z) ly_X hF.1.1 hF.1.2
  rw [ad_X] at h
  exact h
theorem tM_book {Z : LB} {I9 : pI} {J9 : pJ} {R9 : pR} {Y : YY} (hF : FF Z Y)  : SP (gM Z) mX11_book [.ref (z_h Z + 74 + 0)] ((I9, J9, R9), Y.2).2.1 ((I9, J9, R9), Y.2).2.2.1 ((I9, J9, R9), Y.2).2.2.2 (rq (-3)) := by
  have h := fr_book (g := gM Z) (R := Y.2.2.2) ly_M hF.2.1 hF.2.2
  rw [ad_M] at h
  exact h
set_option maxHeartbeats 4000000 in
set_option maxRecDepth 100000 in
theorem L_book {Z : LB} {Y : YY} (hL : z_L Z = 8) (hF : FF Z Y) : WL Z mL 1339 [(0, .ref (z_b Z)), (1, .ref (z_h Z + 0)), (2, .ref (z_h Z + 74 + 0)), (3, .int (0))] [] Y := by
  refine WL_aload_n dL_law_1339 rfl ?_
  refine WL_callX0 dL_law_1340 wX10_book (tX_book (Z := Z) hF) (Nat.le_of_ble_eq_true rfl) (fun r0 I0 J0 R0 hq0 => ?_)
  obtain rfl : r0 = some (.int _) := hq0
  show WL Z mL _ _ (.int _ :: _) _
  refine WL_aload_n dL_law_1343 rfl ?_
  refine WL_callM0 dL_law_1344 wX11_book (tM_book (Z := Z) hF) (Nat.le_of_ble_eq_true rfl) (fun r1 I1 J1 R1 hq1 => ?_)
  obtain rfl : r1 = some (.int _) := hq1
  show WL Z mL _ _ (.int _ :: _) _
  refine WL_icmp_eq 1375 dL_law_1347 rfl (fun _ => L_out hL) (fun h => absurd rfl h)
theorem tX_count {Z : LB} {Y : YY} (hF : FF Z Y) (a : Int32) : SP (gX Z) mX10_count [.ref (z_h Z + 0), .int a] Y.1.1 Y.1.2.1 Y.1.2.2 (rq (if a.toInt = 0 ∨ a.toInt = 1 then 0 else -1)) := by
  have h := xr_count (g := gX Z) ly_X hF.1.1 hF.1.2 a
  rw [ad_X] at h
  exact h
theorem tM_count {Z : LB} {I9 : pI} {J9 : pJ} {R9 : pR} {Y : YY} (hF : FF Z Y) (a : Int32) : SP (gM Z) mX11_count [.ref (z_h Z + 74 + 0), .int a] ((I9, J9, R9), Y.2).2.1 ((I9, J9, R9), Y.2).2.2.1 ((I9, J9, R9), Y.2).2.2.2 (rq (if a.toInt = 0 ∨ a.toInt = 1 then 0 else -1)) := by
  have h := fr_count (g := gM Z) (R := Y.2.2.2) ly_M hF.2.1 hF.2.2 a
  rw [ad_M] at h
  exact h
set_option maxHeartbeats 4000000 in
set_option maxRecDepth 100000 in
theorem L_count {Z : LB} {Y : YY} (hL : z_L Z = 8) (hF : FF Z Y) : WL Z mL 1352 [(0, .ref (z_b Z)), (1, .ref (z_h Z + 0)), (2, .ref (z_h Z + 74 + 0)), (3, .int (0))] [] Y := by
  refine WL_aload_n dL_law_1352 rfl ?_
  refine WL_aload_n dL_law_1353 rfl ?_
  refine WL_iload_n dL_law_1354 rfl ?_
  refine WL_iconst (1) dL_law_1355 rfl ?_
  refine WL_iadd dL_law_1356 ?_
  refine WL_sld dL_law_1357 (vinL hL (by unfold vp_in; decide)) ?_
  refine WL_callX1 dL_law_1358 wX10_count (tX_count (Z := Z) hF _) (Nat.le_of_ble_eq_true rfl) (fun r0 I0 J0 R0 hq0 => ?_)
  obtain rfl : r0 = some (.int _) := hq0
  show WL Z mL _ _ (.int _ :: _) _
  refine WL_aload_n dL_law_1361 rfl ?_
  refine WL_aload_n dL_law_1362 rfl ?_
  refine WL_iload_n dL_law_1363 rfl ?_
  refine WL_iconst (1) dL_law_1364 rfl ?_
  refine WL_iadd dL_law_1365 ?_
  refine WL_sld dL_law_1366 (vinL hL (by unfold vp_in; decide)) ?_
  refine WL_callM1 dL_law_1367 wX11_count (tM_count (Z := Z) hF _) (Nat.le_of_ble_eq_true rfl) (fun r1 I1 J1 R1 hq1 => ?_)
  obtain rfl : r1 = some (.int _) := hq1
  show WL Z mL _ _ (.int _ :: _) _
  refine WL_icmp_eq 1375 dL_law_1370 rfl (fun _ => L_out hL) (fun h => absurd rfl h)
set_option maxHeartbeats 4000000 in
set_option maxRecDepth 100000 in
theorem L_loop {Z : LB} {Y : YY} (h8 : z_L Z ≤ 8) (hF : FF Z Y) : WL Z mL 18 [(0, .ref (z_b Z)), (1, .ref (z_h Z + 0)), (2, .ref (z_h Z + 74 + 0)), (3, .int (0))] [] Y := by
  refine WL_iload_n dL_law_18 rfl ?_
  refine WL_aload_n dL_law_19 rfl ?_
  refine WL_slen dL_law_20 ?_
  refine WL_bipush (8) dL_law_21 rfl ?_
  refine WL_isub dL_law_23 ?_
  refine WL_icmp_gt 1381 dL_law_24 rfl (fun _ => ?_) (fun h => ?_)
  · refine WL_iconst (1) dL_law_1381 rfl ?_
    exact WL_ret dL_law_1382 rfl
  have hL : z_L Z = 8 := by
    rcases (show z_L Z = 0 ∨ z_L Z = 1 ∨ z_L Z = 2 ∨ z_L Z = 3 ∨ z_L Z = 4 ∨ z_L Z = 5 ∨ z_L Z = 6 ∨ z_L Z = 7 ∨ z_L Z = 8 by omega) with q | q | q | q | q | q | q | q | q <;> rw [q] at h <;> first | exact q | exact absurd (by decide) h
  refine WL_aload_n dL_law_27 rfl ?_
  refine WL_iload_n dL_law_28 rfl ?_
  refine WL_sld dL_law_29 (vinL hL (by unfold vp_in; decide)) ?_
  refine WL_bipush (63) dL_law_30 rfl ?_
  refine WL_iand dL_law_32 ?_
  refine WL_tab 1375 dL_law_33 rfl rfl (fun _ => L_out hL) (fun j off hj ho => ?_) (by decide)
  have hj : j < 33 := (Array.getElem?_eq_some_iff.mp ho).1
  rcases (show j = 0 ∨ j = 1 ∨ j = 2 ∨ j = 3 ∨ j = 4 ∨ j = 5 ∨ j = 6 ∨ j = 7 ∨ j = 8 ∨ j = 9 ∨ j = 10 ∨ j = 11 ∨ j = 12 ∨ j = 13 ∨ j = 14 ∨ j = 15 ∨ j = 16 ∨ j = 17 ∨ j = 18 ∨ j = 19 ∨ j = 20 ∨ j = 21 ∨ j = 22 ∨ j = 23 ∨ j = 24 ∨ j = 25 ∨ j = 26 ∨ j = 27 ∨ j = 28 ∨ j = 29 ∨ j = 30 ∨ j = 31 ∨ j = 32 by omega) with rfl | rfl | rfl | rfl | rfl | rfl | rfl | rfl | rfl | rfl | rfl | rfl | rfl | rfl | rfl | rfl | rfl | rfl | rfl | rfl | rfl | rfl | rfl | rfl | rfl | rfl | rfl | rfl | rfl | rfl | rfl | rfl | rfl
  · obtain rfl : (147 : Int) = off := Option.some.inj ho
    exact L_feed hL hF
  · obtain rfl : (210 : Int) = off := Option.some.inj ho
    exact L_end hL hF
  · obtain rfl : (233 : Int) = off := Option.some.inj ho
    exact L_town hL hF
  · obtain rfl : (246 : Int) = off := Option.some.inj ho
    exact L_fault hL hF
  · obtain rfl : (269 : Int) = off := Option.some.inj ho
    exact L_told hL hF
  · obtain rfl : (292 : Int) = off := Option.some.inj ho
    exact L_earns hL hF
  · obtain rfl : (325 : Int) = off := Option.some.inj ho
    exact L_price hL hF
  · obtain rfl : (358 : Int) = off := Option.some.inj ho
    exact L_made hL hF
  · obtain rfl : (391 : Int) = off := Option.some.inj ho
    exact L_wants hL hF
  · obtain rfl : (434 : Int) = off := Option.some.inj ho
    exact L_night hL hF
  · obtain rfl : (477 : Int) = off := Option.some.inj ho
    exact L_may hL hF
  · obtain rfl : (540 : Int) = off := Option.some.inj ho
    exact L_best hL hF
  · obtain rfl : (603 : Int) = off := Option.some.inj ho
    exact L_bestAct hL hF
  · obtain rfl : (666 : Int) = off := Option.some.inj ho
    exact L_wayAct hL hF
  · obtain rfl : (729 : Int) = off := Option.some.inj ho
    exact L_way hL hF
  · obtain rfl : (762 : Int) = off := Option.some.inj ho
    exact L_pass hL hF
  · obtain rfl : (785 : Int) = off := Option.some.inj ho
    exact L_run hL hF
  · obtain rfl : (818 : Int) = off := Option.some.inj ho
    exact L_all hL hF
  · obtain rfl : (841 : Int) = off := Option.some.inj ho
    exact L_anew hL hF
  · obtain rfl : (854 : Int) = off := Option.some.inj ho
    exact L_keep hL hF
  · obtain rfl : (877 : Int) = off := Option.some.inj ho
    exact L_take hL hF
  · obtain rfl : (900 : Int) = off := Option.some.inj ho
    exact L_worthAt hL hF
  · obtain rfl : (933 : Int) = off := Option.some.inj ho
    exact L_rate hL hF
  · obtain rfl : (956 : Int) = off := Option.some.inj ho
    exact L_rest hL hF
  · obtain rfl : (979 : Int) = off := Option.some.inj ho
    exact L_restTurns hL hF
  · obtain rfl : (992 : Int) = off := Option.some.inj ho
    exact L_two hL hF
  · obtain rfl : (1079 : Int) = off := Option.some.inj ho
    exact L_lend hL hF
  · obtain rfl : (1132 : Int) = off := Option.some.inj ho
    exact L_early hL hF
  · obtain rfl : (1175 : Int) = off := Option.some.inj ho
    exact L_values hL hF
  · obtain rfl : (1188 : Int) = off := Option.some.inj ho
    exact L_meet hL hF
  · obtain rfl : (1263 : Int) = off := Option.some.inj ho
    exact L_rests hL hF
  · obtain rfl : (1306 : Int) = off := Option.some.inj ho
    exact L_book hL hF
  · obtain rfl : (1319 : Int) = off := Option.some.inj ho
    exact L_count hL hF
