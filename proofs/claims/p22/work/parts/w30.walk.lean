theorem zX10_feed : csZ mX10_feed 5 := ⟨⟨by decide +kernel, by decide +kernel, by decide +kernel⟩, in_r12 _ (List.mem_of_getElem? (i := 6) rfl), in_r1 _ (List.mem_of_getElem? (i := 2) rfl)⟩
theorem wX10_feed : csW mL 13 mX10_feed 10 5 := ⟨⟨⟨by decide, by decide⟩, zX10_feed⟩, in_r12 _ (List.mem_of_getElem? (i := 3) rfl), in_r12 _ (List.mem_of_getElem? (i := 4) rfl), in_r12 _ (List.mem_of_getElem? (i := 5) rfl)⟩
theorem zX11_feed : csZ mX11_feed 5 := ⟨⟨by decide +kernel, by decide +kernel, by decide +kernel⟩, in_r12 _ (List.mem_of_getElem? (i := 15) rfl), in_r1 _ (List.mem_of_getElem? (i := 5) rfl)⟩
theorem wX11_feed : csW mL 17 mX11_feed 11 5 := ⟨⟨⟨by decide, by decide⟩, zX11_feed⟩, in_r12 _ (List.mem_of_getElem? (i := 12) rfl), in_r12 _ (List.mem_of_getElem? (i := 13) rfl), in_r12 _ (List.mem_of_getElem? (i := 14) rfl)⟩
theorem zX10_end : csZ mX10_end 1 := ⟨⟨by decide +kernel, by decide +kernel, by decide +kernel⟩, in_r13 _ (List.mem_of_getElem? (i := 0) rfl), in_r1 _ (List.mem_of_getElem? (i := 2) rfl)⟩
theorem wX10_end : csW mL 18 mX10_end 10 1 := ⟨⟨⟨by decide, by decide⟩, zX10_end⟩, in_r12 _ (List.mem_of_getElem? (i := 21) rfl), in_r12 _ (List.mem_of_getElem? (i := 22) rfl), in_r12 _ (List.mem_of_getElem? (i := 23) rfl)⟩
theorem zX11_end : csZ mX11_end 1 := ⟨⟨by decide +kernel, by decide +kernel, by decide +kernel⟩, in_r13 _ (List.mem_of_getElem? (i := 4) rfl), in_r1 _ (List.mem_of_getElem? (i := 5) rfl)⟩
theorem wX11_end : csW mL 22 mX11_end 11 1 := ⟨⟨⟨by decide, by decide⟩, zX11_end⟩, in_r13 _ (List.mem_of_getElem? (i := 1) rfl), in_r13 _ (List.mem_of_getElem? (i := 2) rfl), in_r13 _ (List.mem_of_getElem? (i := 3) rfl)⟩
theorem zX10_town : csZ mX10_town 0 := ⟨⟨by decide +kernel, by decide +kernel, by decide +kernel⟩, in_r13 _ (List.mem_of_getElem? (i := 11) rfl), in_r1 _ (List.mem_of_getElem? (i := 2) rfl)⟩
theorem wX10_town : csW mL 23 mX10_town 10 0 := ⟨⟨⟨by decide, by decide⟩, zX10_town⟩, in_r13 _ (List.mem_of_getElem? (i := 8) rfl), in_r13 _ (List.mem_of_getElem? (i := 9) rfl), in_r13 _ (List.mem_of_getElem? (i := 10) rfl)⟩
theorem zX11_town : csZ mX11_town 0 := ⟨⟨by decide +kernel, by decide +kernel, by decide +kernel⟩, in_r20 _ (List.mem_of_getElem? (i := 21) rfl), in_r1 _ (List.mem_of_getElem? (i := 5) rfl)⟩
theorem wX11_town : csW mL 27 mX11_town 11 0 := ⟨⟨⟨by decide, by decide⟩, zX11_town⟩, in_r20 _ (List.mem_of_getElem? (i := 18) rfl), in_r20 _ (List.mem_of_getElem? (i := 19) rfl), in_r20 _ (List.mem_of_getElem? (i := 20) rfl)⟩
theorem zX10_fault : csZ mX10_fault 1 := ⟨⟨by decide +kernel, by decide +kernel, by decide +kernel⟩, in_r26 _ (List.mem_of_getElem? (i := 9) rfl), in_r1 _ (List.mem_of_getElem? (i := 2) rfl)⟩
theorem wX10_fault : csW mL 28 mX10_fault 10 1 := ⟨⟨⟨by decide, by decide⟩, zX10_fault⟩, in_r26 _ (List.mem_of_getElem? (i := 6) rfl), in_r26 _ (List.mem_of_getElem? (i := 7) rfl), in_r26 _ (List.mem_of_getElem? (i := 8) rfl)⟩
theorem zX11_fault : csZ mX11_fault 1 := ⟨⟨by decide +kernel, by decide +kernel, by decide +kernel⟩, in_r26 _ (List.mem_of_getElem? (i := 15) rfl), in_r1 _ (List.mem_of_getElem? (i := 5) rfl)⟩
theorem wX11_fault : csW mL 31 mX11_fault 11 1 := ⟨⟨⟨by decide, by decide⟩, zX11_fault⟩, in_r26 _ (List.mem_of_getElem? (i := 12) rfl), in_r26 _ (List.mem_of_getElem? (i := 13) rfl), in_r26 _ (List.mem_of_getElem? (i := 14) rfl)⟩
theorem zX10_told : csZ mX10_told 1 := ⟨⟨by decide +kernel, by decide +kernel, by decide +kernel⟩, in_r26 _ (List.mem_of_getElem? (i := 19) rfl), in_r1 _ (List.mem_of_getElem? (i := 2) rfl)⟩
theorem wX10_told : csW mL 32 mX10_told 10 1 := ⟨⟨⟨by decide, by decide⟩, zX10_told⟩, in_r26 _ (List.mem_of_getElem? (i := 16) rfl), in_r26 _ (List.mem_of_getElem? (i := 17) rfl), in_r26 _ (List.mem_of_getElem? (i := 18) rfl)⟩
theorem zX11_told : csZ mX11_told 1 := ⟨⟨by decide +kernel, by decide +kernel, by decide +kernel⟩, in_r27 _ (List.mem_of_getElem? (i := 13) rfl), in_r1 _ (List.mem_of_getElem? (i := 5) rfl)⟩
theorem wX11_told : csW mL 35 mX11_told 11 1 := ⟨⟨⟨by decide, by decide⟩, zX11_told⟩, in_r27 _ (List.mem_of_getElem? (i := 10) rfl), in_r27 _ (List.mem_of_getElem? (i := 11) rfl), in_r27 _ (List.mem_of_getElem? (i := 12) rfl)⟩
theorem zX10_earns : csZ mX10_earns 2 := ⟨⟨by decide +kernel, by decide +kernel, by decide +kernel⟩, in_r27 _ (List.mem_of_getElem? (i := 23) rfl), in_r1 _ (List.mem_of_getElem? (i := 2) rfl)⟩
theorem wX10_earns : csW mL 36 mX10_earns 10 2 := ⟨⟨⟨by decide, by decide⟩, zX10_earns⟩, in_r27 _ (List.mem_of_getElem? (i := 20) rfl), in_r27 _ (List.mem_of_getElem? (i := 21) rfl), in_r27 _ (List.mem_of_getElem? (i := 22) rfl)⟩
theorem zX11_earns : csZ mX11_earns 2 := ⟨⟨by decide +kernel, by decide +kernel, by decide +kernel⟩, in_r28 _ (List.mem_of_getElem? (i := 11) rfl), in_r1 _ (List.mem_of_getElem? (i := 5) rfl)⟩
theorem wX11_earns : csW mL 40 mX11_earns 11 2 := ⟨⟨⟨by decide, by decide⟩, zX11_earns⟩, in_r28 _ (List.mem_of_getElem? (i := 8) rfl), in_r28 _ (List.mem_of_getElem? (i := 9) rfl), in_r28 _ (List.mem_of_getElem? (i := 10) rfl)⟩
theorem zX10_price : csZ mX10_price 2 := ⟨⟨by decide +kernel, by decide +kernel, by decide +kernel⟩, in_r28 _ (List.mem_of_getElem? (i := 23) rfl), in_r1 _ (List.mem_of_getElem? (i := 2) rfl)⟩
theorem wX10_price : csW mL 41 mX10_price 10 2 := ⟨⟨⟨by decide, by decide⟩, zX10_price⟩, in_r28 _ (List.mem_of_getElem? (i := 20) rfl), in_r28 _ (List.mem_of_getElem? (i := 21) rfl), in_r28 _ (List.mem_of_getElem? (i := 22) rfl)⟩
theorem zX11_price : csZ mX11_price 2 := ⟨⟨by decide +kernel, by decide +kernel, by decide +kernel⟩, in_r29 _ (List.mem_of_getElem? (i := 8) rfl), in_r1 _ (List.mem_of_getElem? (i := 5) rfl)⟩
theorem wX11_price : csW mL 44 mX11_price 11 2 := ⟨⟨⟨by decide, by decide⟩, zX11_price⟩, in_r29 _ (List.mem_of_getElem? (i := 5) rfl), in_r29 _ (List.mem_of_getElem? (i := 6) rfl), in_r29 _ (List.mem_of_getElem? (i := 7) rfl)⟩
theorem zX10_made : csZ mX10_made 2 := ⟨⟨by decide +kernel, by decide +kernel, by decide +kernel⟩, in_r29 _ (List.mem_of_getElem? (i := 16) rfl), in_r1 _ (List.mem_of_getElem? (i := 2) rfl)⟩
theorem wX10_made : csW mL 45 mX10_made 10 2 := ⟨⟨⟨by decide, by decide⟩, zX10_made⟩, in_r29 _ (List.mem_of_getElem? (i := 13) rfl), in_r29 _ (List.mem_of_getElem? (i := 14) rfl), in_r29 _ (List.mem_of_getElem? (i := 15) rfl)⟩
theorem zX11_made : csZ mX11_made 2 := ⟨⟨by decide +kernel, by decide +kernel, by decide +kernel⟩, in_r29 _ (List.mem_of_getElem? (i := 21) rfl), in_r1 _ (List.mem_of_getElem? (i := 5) rfl)⟩
theorem wX11_made : csW mL 48 mX11_made 11 2 := ⟨⟨⟨by decide, by decide⟩, zX11_made⟩, in_r29 _ (List.mem_of_getElem? (i := 18) rfl), in_r29 _ (List.mem_of_getElem? (i := 19) rfl), in_r29 _ (List.mem_of_getElem? (i := 20) rfl)⟩
theorem zX10_wants : csZ mX10_wants 3 := ⟨⟨by decide +kernel, by decide +kernel, by decide +kernel⟩, in_r30 _ (List.mem_of_getElem? (i := 1) rfl), in_r1 _ (List.mem_of_getElem? (i := 2) rfl)⟩
theorem wX10_wants : csW mL 49 mX10_wants 10 3 := ⟨⟨⟨by decide, by decide⟩, zX10_wants⟩, in_r29 _ (List.mem_of_getElem? (i := 22) rfl), in_r29 _ (List.mem_of_getElem? (i := 23) rfl), in_r30 _ (List.mem_of_getElem? (i := 0) rfl)⟩
theorem zX11_wants : csZ mX11_wants 3 := ⟨⟨by decide +kernel, by decide +kernel, by decide +kernel⟩, in_r30 _ (List.mem_of_getElem? (i := 8) rfl), in_r1 _ (List.mem_of_getElem? (i := 5) rfl)⟩
theorem wX11_wants : csW mL 53 mX11_wants 11 3 := ⟨⟨⟨by decide, by decide⟩, zX11_wants⟩, in_r30 _ (List.mem_of_getElem? (i := 5) rfl), in_r30 _ (List.mem_of_getElem? (i := 6) rfl), in_r30 _ (List.mem_of_getElem? (i := 7) rfl)⟩
theorem zX10_night : csZ mX10_night 3 := ⟨⟨by decide +kernel, by decide +kernel, by decide +kernel⟩, in_r30 _ (List.mem_of_getElem? (i := 13) rfl), in_r1 _ (List.mem_of_getElem? (i := 2) rfl)⟩
theorem wX10_night : csW mL 54 mX10_night 10 3 := ⟨⟨⟨by decide, by decide⟩, zX10_night⟩, in_r30 _ (List.mem_of_getElem? (i := 10) rfl), in_r30 _ (List.mem_of_getElem? (i := 11) rfl), in_r30 _ (List.mem_of_getElem? (i := 12) rfl)⟩
theorem zX11_night : csZ mX11_night 3 := ⟨⟨by decide +kernel, by decide +kernel, by decide +kernel⟩, in_r31 _ (List.mem_of_getElem? (i := 3) rfl), in_r1 _ (List.mem_of_getElem? (i := 5) rfl)⟩
theorem wX11_night : csW mL 57 mX11_night 11 3 := ⟨⟨⟨by decide, by decide⟩, zX11_night⟩, in_r31 _ (List.mem_of_getElem? (i := 0) rfl), in_r31 _ (List.mem_of_getElem? (i := 1) rfl), in_r31 _ (List.mem_of_getElem? (i := 2) rfl)⟩
theorem zX10_may : csZ mX10_may 5 := ⟨⟨by decide +kernel, by decide +kernel, by decide +kernel⟩, in_r32 _ (List.mem_of_getElem? (i := 5) rfl), in_r1 _ (List.mem_of_getElem? (i := 2) rfl)⟩
theorem wX10_may : csW mL 58 mX10_may 10 5 := ⟨⟨⟨by decide, by decide⟩, zX10_may⟩, in_r32 _ (List.mem_of_getElem? (i := 2) rfl), in_r32 _ (List.mem_of_getElem? (i := 3) rfl), in_r32 _ (List.mem_of_getElem? (i := 4) rfl)⟩
theorem zX11_may : csZ mX11_may 5 := ⟨⟨by decide +kernel, by decide +kernel, by decide +kernel⟩, in_r33 _ (List.mem_of_getElem? (i := 22) rfl), in_r1 _ (List.mem_of_getElem? (i := 5) rfl)⟩
theorem wX11_may : csW mL 61 mX11_may 11 5 := ⟨⟨⟨by decide, by decide⟩, zX11_may⟩, in_r33 _ (List.mem_of_getElem? (i := 19) rfl), in_r33 _ (List.mem_of_getElem? (i := 20) rfl), in_r33 _ (List.mem_of_getElem? (i := 21) rfl)⟩
theorem zX10_best : csZ mX10_best 5 := ⟨⟨by decide +kernel, by decide +kernel, by decide +kernel⟩, in_r34 _ (List.mem_of_getElem? (i := 15) rfl), in_r1 _ (List.mem_of_getElem? (i := 2) rfl)⟩
theorem wX10_best : csW mL 62 mX10_best 10 5 := ⟨⟨⟨by decide, by decide⟩, zX10_best⟩, in_r34 _ (List.mem_of_getElem? (i := 12) rfl), in_r34 _ (List.mem_of_getElem? (i := 13) rfl), in_r34 _ (List.mem_of_getElem? (i := 14) rfl)⟩
theorem zX11_best : csZ mX11_best 5 := ⟨⟨by decide +kernel, by decide +kernel, by decide +kernel⟩, in_r37 _ (List.mem_of_getElem? (i := 6) rfl), in_r1 _ (List.mem_of_getElem? (i := 5) rfl)⟩
theorem wX11_best : csW mL 65 mX11_best 11 5 := ⟨⟨⟨by decide, by decide⟩, zX11_best⟩, in_r37 _ (List.mem_of_getElem? (i := 3) rfl), in_r37 _ (List.mem_of_getElem? (i := 4) rfl), in_r37 _ (List.mem_of_getElem? (i := 5) rfl)⟩
theorem zX10_bestAct : csZ mX10_bestAct 5 := ⟨⟨by decide +kernel, by decide +kernel, by decide +kernel⟩, in_r38 _ (List.mem_of_getElem? (i := 13) rfl), in_r1 _ (List.mem_of_getElem? (i := 2) rfl)⟩
theorem wX10_bestAct : csW mL 66 mX10_bestAct 10 5 := ⟨⟨⟨by decide, by decide⟩, zX10_bestAct⟩, in_r38 _ (List.mem_of_getElem? (i := 10) rfl), in_r38 _ (List.mem_of_getElem? (i := 11) rfl), in_r38 _ (List.mem_of_getElem? (i := 12) rfl)⟩
theorem zX11_bestAct : csZ mX11_bestAct 5 := ⟨⟨by decide +kernel, by decide +kernel, by decide +kernel⟩, in_r38 _ (List.mem_of_getElem? (i := 17) rfl), in_r1 _ (List.mem_of_getElem? (i := 5) rfl)⟩
theorem wX11_bestAct : csW mL 69 mX11_bestAct 11 5 := ⟨⟨⟨by decide, by decide⟩, zX11_bestAct⟩, in_r38 _ (List.mem_of_getElem? (i := 14) rfl), in_r38 _ (List.mem_of_getElem? (i := 15) rfl), in_r38 _ (List.mem_of_getElem? (i := 16) rfl)⟩
theorem zX10_wayAct : csZ mX10_wayAct 5 := ⟨⟨by decide +kernel, by decide +kernel, by decide +kernel⟩, in_r38 _ (List.mem_of_getElem? (i := 21) rfl), in_r1 _ (List.mem_of_getElem? (i := 2) rfl)⟩
theorem wX10_wayAct : csW mL 70 mX10_wayAct 10 5 := ⟨⟨⟨by decide, by decide⟩, zX10_wayAct⟩, in_r38 _ (List.mem_of_getElem? (i := 18) rfl), in_r38 _ (List.mem_of_getElem? (i := 19) rfl), in_r38 _ (List.mem_of_getElem? (i := 20) rfl)⟩
theorem zX11_wayAct : csZ mX11_wayAct 5 := ⟨⟨by decide +kernel, by decide +kernel, by decide +kernel⟩, in_r39 _ (List.mem_of_getElem? (i := 11) rfl), in_r1 _ (List.mem_of_getElem? (i := 5) rfl)⟩
theorem wX11_wayAct : csW mL 73 mX11_wayAct 11 5 := ⟨⟨⟨by decide, by decide⟩, zX11_wayAct⟩, in_r39 _ (List.mem_of_getElem? (i := 8) rfl), in_r39 _ (List.mem_of_getElem? (i := 9) rfl), in_r39 _ (List.mem_of_getElem? (i := 10) rfl)⟩
theorem zX10_way : csZ mX10_way 2 := ⟨⟨by decide +kernel, by decide +kernel, by decide +kernel⟩, in_r40 _ (List.mem_of_getElem? (i := 6) rfl), in_r1 _ (List.mem_of_getElem? (i := 2) rfl)⟩
theorem wX10_way : csW mL 74 mX10_way 10 2 := ⟨⟨⟨by decide, by decide⟩, zX10_way⟩, in_r40 _ (List.mem_of_getElem? (i := 3) rfl), in_r40 _ (List.mem_of_getElem? (i := 4) rfl), in_r40 _ (List.mem_of_getElem? (i := 5) rfl)⟩
theorem zX11_way : csZ mX11_way 2 := ⟨⟨by decide +kernel, by decide +kernel, by decide +kernel⟩, in_r40 _ (List.mem_of_getElem? (i := 10) rfl), in_r1 _ (List.mem_of_getElem? (i := 5) rfl)⟩
theorem wX11_way : csW mL 77 mX11_way 11 2 := ⟨⟨⟨by decide, by decide⟩, zX11_way⟩, in_r40 _ (List.mem_of_getElem? (i := 7) rfl), in_r40 _ (List.mem_of_getElem? (i := 8) rfl), in_r40 _ (List.mem_of_getElem? (i := 9) rfl)⟩
theorem zX10_pass : csZ mX10_pass 1 := ⟨⟨by decide +kernel, by decide +kernel, by decide +kernel⟩, in_r40 _ (List.mem_of_getElem? (i := 14) rfl), in_r1 _ (List.mem_of_getElem? (i := 2) rfl)⟩
theorem wX10_pass : csW mL 78 mX10_pass 10 1 := ⟨⟨⟨by decide, by decide⟩, zX10_pass⟩, in_r40 _ (List.mem_of_getElem? (i := 11) rfl), in_r40 _ (List.mem_of_getElem? (i := 12) rfl), in_r40 _ (List.mem_of_getElem? (i := 13) rfl)⟩
theorem zX11_pass : csZ mX11_pass 1 := ⟨⟨by decide +kernel, by decide +kernel, by decide +kernel⟩, in_r42 _ (List.mem_of_getElem? (i := 18) rfl), in_r1 _ (List.mem_of_getElem? (i := 5) rfl)⟩
theorem wX11_pass : csW mL 81 mX11_pass 11 1 := ⟨⟨⟨by decide, by decide⟩, zX11_pass⟩, in_r42 _ (List.mem_of_getElem? (i := 15) rfl), in_r42 _ (List.mem_of_getElem? (i := 16) rfl), in_r42 _ (List.mem_of_getElem? (i := 17) rfl)⟩
theorem zX10_run : csZ mX10_run 2 := ⟨⟨by decide +kernel, by decide +kernel, by decide +kernel⟩, in_r44 _ (List.mem_of_getElem? (i := 5) rfl), in_r1 _ (List.mem_of_getElem? (i := 2) rfl)⟩
theorem wX10_run : csW mL 82 mX10_run 10 2 := ⟨⟨⟨by decide, by decide⟩, zX10_run⟩, in_r44 _ (List.mem_of_getElem? (i := 2) rfl), in_r44 _ (List.mem_of_getElem? (i := 3) rfl), in_r44 _ (List.mem_of_getElem? (i := 4) rfl)⟩
theorem zX11_run : csZ mX11_run 2 := ⟨⟨by decide +kernel, by decide +kernel, by decide +kernel⟩, in_r44 _ (List.mem_of_getElem? (i := 10) rfl), in_r1 _ (List.mem_of_getElem? (i := 5) rfl)⟩
theorem wX11_run : csW mL 85 mX11_run 11 2 := ⟨⟨⟨by decide, by decide⟩, zX11_run⟩, in_r44 _ (List.mem_of_getElem? (i := 7) rfl), in_r44 _ (List.mem_of_getElem? (i := 8) rfl), in_r44 _ (List.mem_of_getElem? (i := 9) rfl)⟩
theorem zX10_all : csZ mX10_all 1 := ⟨⟨by decide +kernel, by decide +kernel, by decide +kernel⟩, in_r44 _ (List.mem_of_getElem? (i := 14) rfl), in_r1 _ (List.mem_of_getElem? (i := 2) rfl)⟩
theorem wX10_all : csW mL 86 mX10_all 10 1 := ⟨⟨⟨by decide, by decide⟩, zX10_all⟩, in_r44 _ (List.mem_of_getElem? (i := 11) rfl), in_r44 _ (List.mem_of_getElem? (i := 12) rfl), in_r44 _ (List.mem_of_getElem? (i := 13) rfl)⟩
theorem zX11_all : csZ mX11_all 1 := ⟨⟨by decide +kernel, by decide +kernel, by decide +kernel⟩, in_r45 _ (List.mem_of_getElem? (i := 9) rfl), in_r1 _ (List.mem_of_getElem? (i := 5) rfl)⟩
theorem wX11_all : csW mL 89 mX11_all 11 1 := ⟨⟨⟨by decide, by decide⟩, zX11_all⟩, in_r45 _ (List.mem_of_getElem? (i := 6) rfl), in_r45 _ (List.mem_of_getElem? (i := 7) rfl), in_r45 _ (List.mem_of_getElem? (i := 8) rfl)⟩
theorem zX10_anew : csZ mX10_anew 0 := ⟨⟨by decide +kernel, by decide +kernel, by decide +kernel⟩, in_r45 _ (List.mem_of_getElem? (i := 18) rfl), in_r1 _ (List.mem_of_getElem? (i := 2) rfl)⟩
theorem wX10_anew : csW mL 90 mX10_anew 10 0 := ⟨⟨⟨by decide, by decide⟩, zX10_anew⟩, in_r45 _ (List.mem_of_getElem? (i := 15) rfl), in_r45 _ (List.mem_of_getElem? (i := 16) rfl), in_r45 _ (List.mem_of_getElem? (i := 17) rfl)⟩
theorem zX11_anew : csZ mX11_anew 0 := ⟨⟨by decide +kernel, by decide +kernel, by decide +kernel⟩, in_r45 _ (List.mem_of_getElem? (i := 22) rfl), in_r1 _ (List.mem_of_getElem? (i := 5) rfl)⟩
theorem wX11_anew : csW mL 93 mX11_anew 11 0 := ⟨⟨⟨by decide, by decide⟩, zX11_anew⟩, in_r45 _ (List.mem_of_getElem? (i := 19) rfl), in_r45 _ (List.mem_of_getElem? (i := 20) rfl), in_r45 _ (List.mem_of_getElem? (i := 21) rfl)⟩
theorem zX10_keep : csZ mX10_keep 1 := ⟨⟨by decide +kernel, by decide +kernel, by decide +kernel⟩, in_r46 _ (List.mem_of_getElem? (i := 2) rfl), in_r1 _ (List.mem_of_getElem? (i := 2) rfl)⟩
theorem wX10_keep : csW mL 94 mX10_keep 10 1 := ⟨⟨⟨by decide, by decide⟩, zX10_keep⟩, in_r45 _ (List.mem_of_getElem? (i := 23) rfl), in_r46 _ (List.mem_of_getElem? (i := 0) rfl), in_r46 _ (List.mem_of_getElem? (i := 1) rfl)⟩
theorem zX11_keep : csZ mX11_keep 1 := ⟨⟨by decide +kernel, by decide +kernel, by decide +kernel⟩, in_r46 _ (List.mem_of_getElem? (i := 11) rfl), in_r1 _ (List.mem_of_getElem? (i := 5) rfl)⟩
theorem wX11_keep : csW mL 97 mX11_keep 11 1 := ⟨⟨⟨by decide, by decide⟩, zX11_keep⟩, in_r46 _ (List.mem_of_getElem? (i := 8) rfl), in_r46 _ (List.mem_of_getElem? (i := 9) rfl), in_r46 _ (List.mem_of_getElem? (i := 10) rfl)⟩
theorem zX10_take : csZ mX10_take 1 := ⟨⟨by decide +kernel, by decide +kernel, by decide +kernel⟩, in_r46 _ (List.mem_of_getElem? (i := 18) rfl), in_r1 _ (List.mem_of_getElem? (i := 2) rfl)⟩
theorem wX10_take : csW mL 98 mX10_take 10 1 := ⟨⟨⟨by decide, by decide⟩, zX10_take⟩, in_r46 _ (List.mem_of_getElem? (i := 15) rfl), in_r46 _ (List.mem_of_getElem? (i := 16) rfl), in_r46 _ (List.mem_of_getElem? (i := 17) rfl)⟩
theorem zX11_take : csZ mX11_take 1 := ⟨⟨by decide +kernel, by decide +kernel, by decide +kernel⟩, in_r46 _ (List.mem_of_getElem? (i := 22) rfl), in_r1 _ (List.mem_of_getElem? (i := 5) rfl)⟩
theorem wX11_take : csW mL 101 mX11_take 11 1 := ⟨⟨⟨by decide, by decide⟩, zX11_take⟩, in_r46 _ (List.mem_of_getElem? (i := 19) rfl), in_r46 _ (List.mem_of_getElem? (i := 20) rfl), in_r46 _ (List.mem_of_getElem? (i := 21) rfl)⟩
theorem zX10_worthAt : csZ mX10_worthAt 2 := ⟨⟨by decide +kernel, by decide +kernel, by decide +kernel⟩, in_r47 _ (List.mem_of_getElem? (i := 2) rfl), in_r1 _ (List.mem_of_getElem? (i := 2) rfl)⟩
theorem wX10_worthAt : csW mL 102 mX10_worthAt 10 2 := ⟨⟨⟨by decide, by decide⟩, zX10_worthAt⟩, in_r46 _ (List.mem_of_getElem? (i := 23) rfl), in_r47 _ (List.mem_of_getElem? (i := 0) rfl), in_r47 _ (List.mem_of_getElem? (i := 1) rfl)⟩
theorem zX11_worthAt : csZ mX11_worthAt 2 := ⟨⟨by decide +kernel, by decide +kernel, by decide +kernel⟩, in_r47 _ (List.mem_of_getElem? (i := 19) rfl), in_r1 _ (List.mem_of_getElem? (i := 5) rfl)⟩
theorem wX11_worthAt : csW mL 105 mX11_worthAt 11 2 := ⟨⟨⟨by decide, by decide⟩, zX11_worthAt⟩, in_r47 _ (List.mem_of_getElem? (i := 16) rfl), in_r47 _ (List.mem_of_getElem? (i := 17) rfl), in_r47 _ (List.mem_of_getElem? (i := 18) rfl)⟩
theorem zX10_rate : csZ mX10_rate 1 := ⟨⟨by decide +kernel, by decide +kernel, by decide +kernel⟩, in_r48 _ (List.mem_of_getElem? (i := 8) rfl), in_r1 _ (List.mem_of_getElem? (i := 2) rfl)⟩
theorem wX10_rate : csW mL 106 mX10_rate 10 1 := ⟨⟨⟨by decide, by decide⟩, zX10_rate⟩, in_r48 _ (List.mem_of_getElem? (i := 5) rfl), in_r48 _ (List.mem_of_getElem? (i := 6) rfl), in_r48 _ (List.mem_of_getElem? (i := 7) rfl)⟩
theorem zX11_rate : csZ mX11_rate 1 := ⟨⟨by decide +kernel, by decide +kernel, by decide +kernel⟩, in_r48 _ (List.mem_of_getElem? (i := 12) rfl), in_r1 _ (List.mem_of_getElem? (i := 5) rfl)⟩
theorem wX11_rate : csW mL 109 mX11_rate 11 1 := ⟨⟨⟨by decide, by decide⟩, zX11_rate⟩, in_r48 _ (List.mem_of_getElem? (i := 9) rfl), in_r48 _ (List.mem_of_getElem? (i := 10) rfl), in_r48 _ (List.mem_of_getElem? (i := 11) rfl)⟩
theorem zX10_rest : csZ mX10_rest 1 := ⟨⟨by decide +kernel, by decide +kernel, by decide +kernel⟩, in_r48 _ (List.mem_of_getElem? (i := 16) rfl), in_r1 _ (List.mem_of_getElem? (i := 2) rfl)⟩
theorem wX10_rest : csW mL 110 mX10_rest 10 1 := ⟨⟨⟨by decide, by decide⟩, zX10_rest⟩, in_r48 _ (List.mem_of_getElem? (i := 13) rfl), in_r48 _ (List.mem_of_getElem? (i := 14) rfl), in_r48 _ (List.mem_of_getElem? (i := 15) rfl)⟩
theorem zX11_rest : csZ mX11_rest 1 := ⟨⟨by decide +kernel, by decide +kernel, by decide +kernel⟩, in_r49 _ (List.mem_of_getElem? (i := 8) rfl), in_r1 _ (List.mem_of_getElem? (i := 5) rfl)⟩
theorem wX11_rest : csW mL 113 mX11_rest 11 1 := ⟨⟨⟨by decide, by decide⟩, zX11_rest⟩, in_r49 _ (List.mem_of_getElem? (i := 5) rfl), in_r49 _ (List.mem_of_getElem? (i := 6) rfl), in_r49 _ (List.mem_of_getElem? (i := 7) rfl)⟩
theorem zX10_restTurns : csZ mX10_restTurns 0 := ⟨⟨by decide +kernel, by decide +kernel, by decide +kernel⟩, in_r49 _ (List.mem_of_getElem? (i := 16) rfl), in_r1 _ (List.mem_of_getElem? (i := 2) rfl)⟩
theorem wX10_restTurns : csW mL 114 mX10_restTurns 10 0 := ⟨⟨⟨by decide, by decide⟩, zX10_restTurns⟩, in_r49 _ (List.mem_of_getElem? (i := 13) rfl), in_r49 _ (List.mem_of_getElem? (i := 14) rfl), in_r49 _ (List.mem_of_getElem? (i := 15) rfl)⟩
theorem zX11_restTurns : csZ mX11_restTurns 0 := ⟨⟨by decide +kernel, by decide +kernel, by decide +kernel⟩, in_r49 _ (List.mem_of_getElem? (i := 20) rfl), in_r1 _ (List.mem_of_getElem? (i := 5) rfl)⟩
theorem wX11_restTurns : csW mL 117 mX11_restTurns 11 0 := ⟨⟨⟨by decide, by decide⟩, zX11_restTurns⟩, in_r49 _ (List.mem_of_getElem? (i := 17) rfl), in_r49 _ (List.mem_of_getElem? (i := 18) rfl), in_r49 _ (List.mem_of_getElem? (i := 19) rfl)⟩
theorem zX10_two : csZ mX10_two 7 := ⟨⟨by decide +kernel, by decide +kernel, by decide +kernel⟩, in_r50 _ (List.mem_of_getElem? (i := 0) rfl), in_r1 _ (List.mem_of_getElem? (i := 2) rfl)⟩
theorem wX10_two : csW mL 118 mX10_two 10 7 := ⟨⟨⟨by decide, by decide⟩, zX10_two⟩, in_r49 _ (List.mem_of_getElem? (i := 21) rfl), in_r49 _ (List.mem_of_getElem? (i := 22) rfl), in_r49 _ (List.mem_of_getElem? (i := 23) rfl)⟩
theorem zX11_two : csZ mX11_two 7 := ⟨⟨by decide +kernel, by decide +kernel, by decide +kernel⟩, in_r51 _ (List.mem_of_getElem? (i := 13) rfl), in_r1 _ (List.mem_of_getElem? (i := 5) rfl)⟩
theorem wX11_two : csW mL 122 mX11_two 11 7 := ⟨⟨⟨by decide, by decide⟩, zX11_two⟩, in_r51 _ (List.mem_of_getElem? (i := 10) rfl), in_r51 _ (List.mem_of_getElem? (i := 11) rfl), in_r51 _ (List.mem_of_getElem? (i := 12) rfl)⟩
theorem zX10_lend : csZ mX10_lend 4 := ⟨⟨by decide +kernel, by decide +kernel, by decide +kernel⟩, in_r52 _ (List.mem_of_getElem? (i := 4) rfl), in_r1 _ (List.mem_of_getElem? (i := 2) rfl)⟩
theorem wX10_lend : csW mL 123 mX10_lend 10 4 := ⟨⟨⟨by decide, by decide⟩, zX10_lend⟩, in_r52 _ (List.mem_of_getElem? (i := 1) rfl), in_r52 _ (List.mem_of_getElem? (i := 2) rfl), in_r52 _ (List.mem_of_getElem? (i := 3) rfl)⟩
theorem zX11_lend : csZ mX11_lend 4 := ⟨⟨by decide +kernel, by decide +kernel, by decide +kernel⟩, in_r52 _ (List.mem_of_getElem? (i := 12) rfl), in_r1 _ (List.mem_of_getElem? (i := 5) rfl)⟩
theorem wX11_lend : csW mL 127 mX11_lend 11 4 := ⟨⟨⟨by decide, by decide⟩, zX11_lend⟩, in_r52 _ (List.mem_of_getElem? (i := 9) rfl), in_r52 _ (List.mem_of_getElem? (i := 10) rfl), in_r52 _ (List.mem_of_getElem? (i := 11) rfl)⟩
theorem zX10_early : csZ mX10_early 3 := ⟨⟨by decide +kernel, by decide +kernel, by decide +kernel⟩, in_r52 _ (List.mem_of_getElem? (i := 18) rfl), in_r1 _ (List.mem_of_getElem? (i := 2) rfl)⟩
theorem wX10_early : csW mL 128 mX10_early 10 3 := ⟨⟨⟨by decide, by decide⟩, zX10_early⟩, in_r52 _ (List.mem_of_getElem? (i := 15) rfl), in_r52 _ (List.mem_of_getElem? (i := 16) rfl), in_r52 _ (List.mem_of_getElem? (i := 17) rfl)⟩
theorem zX11_early : csZ mX11_early 3 := ⟨⟨by decide +kernel, by decide +kernel, by decide +kernel⟩, in_r53 _ (List.mem_of_getElem? (i := 3) rfl), in_r1 _ (List.mem_of_getElem? (i := 5) rfl)⟩
theorem wX11_early : csW mL 131 mX11_early 11 3 := ⟨⟨⟨by decide, by decide⟩, zX11_early⟩, in_r53 _ (List.mem_of_getElem? (i := 0) rfl), in_r53 _ (List.mem_of_getElem? (i := 1) rfl), in_r53 _ (List.mem_of_getElem? (i := 2) rfl)⟩
theorem zX10_values : csZ mX10_values 0 := ⟨⟨by decide +kernel, by decide +kernel, by decide +kernel⟩, in_r53 _ (List.mem_of_getElem? (i := 7) rfl), in_r1 _ (List.mem_of_getElem? (i := 2) rfl)⟩
theorem wX10_values : csW mL 132 mX10_values 10 0 := ⟨⟨⟨by decide, by decide⟩, zX10_values⟩, in_r53 _ (List.mem_of_getElem? (i := 4) rfl), in_r53 _ (List.mem_of_getElem? (i := 5) rfl), in_r53 _ (List.mem_of_getElem? (i := 6) rfl)⟩
theorem zX11_values : csZ mX11_values 0 := ⟨⟨by decide +kernel, by decide +kernel, by decide +kernel⟩, in_r53 _ (List.mem_of_getElem? (i := 22) rfl), in_r1 _ (List.mem_of_getElem? (i := 5) rfl)⟩
theorem wX11_values : csW mL 135 mX11_values 11 0 := ⟨⟨⟨by decide, by decide⟩, zX11_values⟩, in_r53 _ (List.mem_of_getElem? (i := 19) rfl), in_r53 _ (List.mem_of_getElem? (i := 20) rfl), in_r53 _ (List.mem_of_getElem? (i := 21) rfl)⟩
theorem zX10_meet : csZ mX10_meet 6 := ⟨⟨by decide +kernel, by decide +kernel, by decide +kernel⟩, in_r54 _ (List.mem_of_getElem? (i := 2) rfl), in_r1 _ (List.mem_of_getElem? (i := 2) rfl)⟩
theorem wX10_meet : csW mL 136 mX10_meet 10 6 := ⟨⟨⟨by decide, by decide⟩, zX10_meet⟩, in_r53 _ (List.mem_of_getElem? (i := 23) rfl), in_r54 _ (List.mem_of_getElem? (i := 0) rfl), in_r54 _ (List.mem_of_getElem? (i := 1) rfl)⟩
theorem zX11_meet : csZ mX11_meet 6 := ⟨⟨by decide +kernel, by decide +kernel, by decide +kernel⟩, in_r55 _ (List.mem_of_getElem? (i := 7) rfl), in_r1 _ (List.mem_of_getElem? (i := 5) rfl)⟩
theorem wX11_meet : csW mL 140 mX11_meet 11 6 := ⟨⟨⟨by decide, by decide⟩, zX11_meet⟩, in_r55 _ (List.mem_of_getElem? (i := 4) rfl), in_r55 _ (List.mem_of_getElem? (i := 5) rfl), in_r55 _ (List.mem_of_getElem? (i := 6) rfl)⟩
theorem zX10_rests : csZ mX10_rests 3 := ⟨⟨by decide +kernel, by decide +kernel, by decide +kernel⟩, in_r56 _ (List.mem_of_getElem? (i := 0) rfl), in_r1 _ (List.mem_of_getElem? (i := 2) rfl)⟩
theorem wX10_rests : csW mL 141 mX10_rests 10 3 := ⟨⟨⟨by decide, by decide⟩, zX10_rests⟩, in_r55 _ (List.mem_of_getElem? (i := 21) rfl), in_r55 _ (List.mem_of_getElem? (i := 22) rfl), in_r55 _ (List.mem_of_getElem? (i := 23) rfl)⟩
theorem zX11_rests : csZ mX11_rests 3 := ⟨⟨by decide +kernel, by decide +kernel, by decide +kernel⟩, in_r56 _ (List.mem_of_getElem? (i := 9) rfl), in_r1 _ (List.mem_of_getElem? (i := 5) rfl)⟩
theorem wX11_rests : csW mL 144 mX11_rests 11 3 := ⟨⟨⟨by decide, by decide⟩, zX11_rests⟩, in_r56 _ (List.mem_of_getElem? (i := 6) rfl), in_r56 _ (List.mem_of_getElem? (i := 7) rfl), in_r56 _ (List.mem_of_getElem? (i := 8) rfl)⟩
theorem zX10_book : csZ mX10_book 0 := ⟨⟨by decide +kernel, by decide +kernel, by decide +kernel⟩, in_r56 _ (List.mem_of_getElem? (i := 13) rfl), in_r1 _ (List.mem_of_getElem? (i := 2) rfl)⟩
theorem wX10_book : csW mL 145 mX10_book 10 0 := ⟨⟨⟨by decide, by decide⟩, zX10_book⟩, in_r56 _ (List.mem_of_getElem? (i := 10) rfl), in_r56 _ (List.mem_of_getElem? (i := 11) rfl), in_r56 _ (List.mem_of_getElem? (i := 12) rfl)⟩
theorem zX11_book : csZ mX11_book 0 := ⟨⟨by decide +kernel, by decide +kernel, by decide +kernel⟩, in_r57 _ (List.mem_of_getElem? (i := 1) rfl), in_r1 _ (List.mem_of_getElem? (i := 5) rfl)⟩
theorem wX11_book : csW mL 148 mX11_book 11 0 := ⟨⟨⟨by decide, by decide⟩, zX11_book⟩, in_r56 _ (List.mem_of_getElem? (i := 22) rfl), in_r56 _ (List.mem_of_getElem? (i := 23) rfl), in_r57 _ (List.mem_of_getElem? (i := 0) rfl)⟩
theorem zX10_count : csZ mX10_count 1 := ⟨⟨by decide +kernel, by decide +kernel, by decide +kernel⟩, in_r57 _ (List.mem_of_getElem? (i := 9) rfl), in_r1 _ (List.mem_of_getElem? (i := 2) rfl)⟩
theorem wX10_count : csW mL 149 mX10_count 10 1 := ⟨⟨⟨by decide, by decide⟩, zX10_count⟩, in_r57 _ (List.mem_of_getElem? (i := 6) rfl), in_r57 _ (List.mem_of_getElem? (i := 7) rfl), in_r57 _ (List.mem_of_getElem? (i := 8) rfl)⟩
theorem zX11_count : csZ mX11_count 1 := ⟨⟨by decide +kernel, by decide +kernel, by decide +kernel⟩, in_r57 _ (List.mem_of_getElem? (i := 13) rfl), in_r1 _ (List.mem_of_getElem? (i := 5) rfl)⟩
theorem wX11_count : csW mL 152 mX11_count 11 1 := ⟨⟨⟨by decide, by decide⟩, zX11_count⟩, in_r57 _ (List.mem_of_getElem? (i := 10) rfl), in_r57 _ (List.mem_of_getElem? (i := 11) rfl), in_r57 _ (List.mem_of_getElem? (i := 12) rfl)⟩
theorem ly_X {Z : LB} : LyX (gX Z) := gk_ly (B := zX Z) ⟨rfl, rfl⟩ 74
theorem ly_M {Z : LB} : Ly (gM Z) := gk_ly (B := zM Z) ⟨rfl, rfl⟩ 49
theorem ad_X {Z : LB} : ad (gX Z) 0 = z_h Z + 0 := gk_ad (B := zX Z) (k := 74) (i := 0) (by decide)
theorem ad_M {Z : LB} : ad (gM Z) 0 = z_h Z + 74 + 0 := gk_ad (B := zM Z) (k := 49) (i := 0) (by decide)
/-- what both sides share: the tape's bytes B, the town S, days, ways and slots D -/
def XR (g : GG) (B : Nat → Int32) (S : TwS) (I : pI) (J : pJ) (R : pR) : Prop := (∀ q, q < 900 → I (ad g 2) q = B q) ∧ TWX g S I J R
def MR (g : GG) (B : Nat → Int32) (S : TwS) (I : pI) (J : pJ) : Prop := (∀ q, q < 900 → I (ad g 1) q = B q) ∧ RTT g S I J
def REL (Z : LB) (B : Nat → Int32) (S : TwS) (D : DS) (Y : YY) : Prop := (XR (gX Z) B S Y.1.1 Y.1.2.1 Y.1.2.2 ∧ XDS (gX Z) D Y.1.1 ∧ XK (gX Z) S Y.1.1) ∧ MR (gM Z) B S Y.2.1 Y.2.2.1 ∧ MDS (gM Z) D Y.2.1
theorem REL_0 {Z : LB} {IX : pI} {JX : pJ} {RX : pR} {IM : pI} {JM : pJ} {RM : pR} (hX : XS0 (gX Z) IX RX) (hM : MS0 (gM Z) IM) : ∃ B S D, BYT B ∧ TGD S ∧ REL Z B S D ((IX, JX, RX), (IM, JM, RM)) := by
  obtain ⟨⟨x1, x2, x3, x4, x5, x6, x7, -, -, x8⟩, xd, xk⟩ := hX
  obtain ⟨⟨m1, m2, m3, m4, m5, m6, m7, -, -⟩, md⟩ := hM
  have s1 : (S0 (fun _ _ => 0)).1 0 1 = 0 := rfl
  have s2 : (S0 (fun _ _ => 0)).1 0 2 = 0 := rfl
  have hXR : XR (gX Z) (fun _ => 0) (S0 (fun _ _ => 0)) IX JX RX := by
    refine ⟨fun q _ => x1 q, Or.inl ⟨x8, ⟨by rw [x2]; rfl, by rw [x3]; rfl, by rw [x4]; rfl, by rw [x5]; rfl, by rw [x6]; rfl⟩, fun q hq => by rw [x7 q]; rfl, fun e he q hq => ?_, fun e he q hq => ?_, fun q hq => ?_, fun q hq => ?_⟩⟩
    all_goals (exfalso; first | (rw [s1] at hq; omega) | (rw [s2] at hq; omega) | exact absurd hq (Nat.not_lt_zero _))
  have hMR : MR (gM Z) (fun _ => 0) (S0 (fun _ _ => 0)) IM JM := by
    refine ⟨fun q _ => m1 q, ⟨by rw [m2]; rfl, by rw [m3]; rfl, by rw [m4]; rfl, by rw [m5]; rfl, by rw [m6]; rfl⟩, fun q hq => by rw [m7 q]; rfl, fun e he q hq => ?_, fun e he q hq => ?_, fun q hq => ?_, fun q hq => ?_⟩
    all_goals (exfalso; first | (rw [s1] at hq; omega) | (rw [s2] at hq; omega) | exact absurd hq (Nat.not_lt_zero _))
  exact ⟨fun _ => 0, S0 (fun _ _ => 0), dNew, fun q => by show -128 ≤ (0 : Int32).toInt ∧ (0 : Int32).toInt ≤ 127; decide, TGD_0, ⟨hXR, xd, xk⟩, hMR, md⟩

def IV (Z : LB) (n : Int) (L : Int32) (Y : YY) : Prop := (RfX (gX Z) Y.1.2.2 ∧ TS (gX Z) Y.1.2.2 ∧ NL (gX Z) Y.1.2.2) ∧ XI (gX Z) n L Y.1.1 ∧ Rf (gM Z) Y.2.2.2 ∧ MP (gM Z) n L Y.2.1 ∧ ∃ B S D, BYT B ∧ TGD S ∧ REL Z B S D Y
theorem IV_mono {Z : LB} {n n2 : Int} {L : Int32} {Y : YY} (h : IV Z n L Y) (hn : n ≤ n2) : IV Z n2 L Y := ⟨h.1, xi_mono h.2.1 hn, h.2.2.1, mp_mono h.2.2.2.1 hn, h.2.2.2.2⟩
theorem L_in {Z : LB} {i : Int32} (hi : 0 ≤ i.toInt ∧ i.toInt + 8 ≤ (z_L Z : Int)) (h4 : z_L Z ≤ 4096) (k : Int32) (hk : 0 ≤ k.toInt ∧ k.toInt ≤ 7) : vp_in (i + k) (z_L Z) := by
  have e : (i + k).toInt = i.toInt + k.toInt := ia (by omega) (by omega)
  exact vin (by omega) (by omega)
set_option maxHeartbeats 4000000 in
set_option maxRecDepth 100000 in
theorem L_feed {Z : LB} {i : Int32} {Y : YY} {n : Int} {L : Int32} (hi : 0 ≤ i.toInt ∧ i.toInt + 8 ≤ (z_L Z : Int)) (h4 : z_L Z ≤ 4096) (hn : 0 ≤ n ∧ n ≤ 39000) (hV : IV Z n L Y) (hk : ∀ (Y2 : YY) (L2 : Int32), IV Z (n + 70) L2 Y2 → WL Z mL 1375 [(0, .ref (z_b Z)), (1, .ref (z_h Z + 0)), (2, .ref (z_h Z + 74 + 0)), (3, .int i)] [] Y2) : WL Z mL 180 [(0, .ref (z_b Z)), (1, .ref (z_h Z + 0)), (2, .ref (z_h Z + 74 + 0)), (3, .int i)] [] Y := by
  obtain ⟨⟨hr, hT, hP⟩, hX, hrm, hM, Bz, Sz, Dz, hBz, hTG, ⟨hXR, hXD, hXK⟩, hMR, hMD⟩ := hV
  have hXN := xi_mono hX (show n ≤ n + 70 by omega)
  have hMN := mp_mono hM (show n ≤ n + 70 by omega)
  have hLb := BT_get hX.1 1 1 2 0 0 900 (by decide) 1 (by decide) (by decide)
  rw [hX.2] at hLb
  have hDb := BT_get hM.1.1 38 33 34 0 1 0 (by decide) 33 (by decide) (by decide)
  rw [hMD.1] at hDb
  have hD0 : 0 ≤ Dz.1.toInt := by omega
  have nxt : ∀ (L2 v : Int32) (I1 : pI) (J1 : pJ) (R1 : pR) (B2 : Nat → Int32) (S2 : TwS) (D2 : DS), (RfX (gX Z) R1 ∧ TS (gX Z) R1 ∧ NL (gX Z) R1) → XI (gX Z) (n + 70) L2 I1 → XR (gX Z) B2 S2 I1 J1 R1 → XDS (gX Z) D2 I1 → XK (gX Z) S2 I1 → ((880 < L.toInt ∧ L2.toInt = L.toInt ∨ L.toInt ≤ 880 ∧ L2.toInt = L.toInt + 20)) → (880 < L.toInt ∧ v.toInt = -3 ∨ L.toInt ≤ 880 ∧ v.toInt = L.toInt + 20) → ((∀ q, B2 q = (if 880 < L.toInt.toNat then Bz q else PUT5 Bz L.toInt.toNat (z_x Z (i + 1).toNatClampNeg) (z_x Z (i + 2).toNatClampNeg) (z_x Z (i + 3).toNatClampNeg) (z_x Z (i + 4).toNatClampNeg) (z_x Z (i + 5).toNatClampNeg) q)) ∧ S2 = Sz ∧ D2 = Dz) → WL Z mL 209 [(0, .ref (z_b Z)), (1, .ref (z_h Z + 0)), (2, .ref (z_h Z + 74 + 0)), (3, .int i)] [.int v] ((I1, J1, R1), Y.2) := by
    intro L2 v I1 J1 R1 B2 S2 D2 hR1 hX1 hXR1 hXD1 hXK1 hl hv hbr
    refine WL_pop dL_law_209 rfl ?_
    refine WL_aload_n dL_law_210 rfl ?_
    refine WL_aload_n dL_law_211 rfl ?_
    refine WL_iload_n dL_law_212 rfl ?_
    refine WL_iconst (1) dL_law_213 rfl ?_
    refine WL_iadd dL_law_214 ?_
    refine WL_sld dL_law_215 (L_in hi h4 (1) (by decide)) ?_
    refine WL_aload_n dL_law_216 rfl ?_
    refine WL_iload_n dL_law_217 rfl ?_
    refine WL_iconst (2) dL_law_218 rfl ?_
    refine WL_iadd dL_law_219 ?_
    refine WL_sld dL_law_220 (L_in hi h4 (2) (by decide)) ?_
    refine WL_aload_n dL_law_221 rfl ?_
    refine WL_iload_n dL_law_222 rfl ?_
    refine WL_iconst (3) dL_law_223 rfl ?_
    refine WL_iadd dL_law_224 ?_
    refine WL_sld dL_law_225 (L_in hi h4 (3) (by decide)) ?_
    refine WL_aload_n dL_law_226 rfl ?_
    refine WL_iload_n dL_law_227 rfl ?_
    refine WL_iconst (4) dL_law_228 rfl ?_
    refine WL_iadd dL_law_229 ?_
    refine WL_sld dL_law_230 (L_in hi h4 (4) (by decide)) ?_
    refine WL_aload_n dL_law_231 rfl ?_
    refine WL_iload_n dL_law_232 rfl ?_
    refine WL_iconst (5) dL_law_233 rfl ?_
    refine WL_iadd dL_law_234 ?_
    refine WL_sld dL_law_235 (L_in hi h4 (5) (by decide)) ?_
    have h := sm_feed (g := gM Z) (J := Y.2.2.1) ly_M hrm  hMN (z_x Z (i + 1).toNatClampNeg) (z_x Z (i + 2).toNatClampNeg) (z_x Z (i + 3).toNatClampNeg) (z_x Z (i + 4).toNatClampNeg) (z_x Z (i + 5).toNatClampNeg)
    have h := SP_and2 h (em_feed ly_M hrm (n := L.toInt.toNat) (z_x Z (i + 1).toNatClampNeg) (z_x Z (i + 2).toNatClampNeg) (z_x Z (i + 3).toNatClampNeg) (z_x Z (i + 4).toNatClampNeg) (z_x Z (i + 5).toNatClampNeg) (by rw [hMN.1.2]; omega) (by omega))
    rw [ad_M] at h
    refine WL_callM5 dL_law_236 wX11_feed h (Nat.le_of_ble_eq_true rfl) (fun r I2 J2 R2 hq => ?_)
    obtain ⟨⟨⟨⟨Lb, hIb, hlb⟩, ec, fib, fjb, fqb⟩, vb, rfl, hvb⟩, I9b, J9b, R9b, hEb, hAb⟩ := hq
    show WL Z mL _ _ (.int _ :: _) _
    rw [ec]
    have eL : Lb = L2 := (eq32 _ _).mpr (by omega)
    rw [eL] at hIb
    obtain ⟨hb1, eS, eD⟩ := hbr
    have hMD2 : MDS (gM Z) D2 I2 := by rw [eD]; exact MDS_fz hMD fib (by decide)
    rw [eS] at hXR1
    rw [eS] at hXK1
    have hMR2 : MR (gM Z) B2 Sz I2 J2 := by
      refine ⟨fun q hq => ?_, RTT_fz hMR.2 hTG.1 fib fjb fqb (by decide) (by decide) (by decide)⟩
      rw [agr_i hAb (ly_is ly_M 1 12 rfl) (Or.inl rfl) (ly_n ly_M 1 900 rfl) hq, hb1 q]
      rcases hEb with ⟨-, -, -, -, v9, -, ⟨h8, -, e9⟩ | ⟨h8, -, e9⟩⟩
      · rw [if_pos h8, e9]; exact hMR.1 q hq
      · rw [if_neg (by omega), e9]; exact PUT5_eq (hMR.1 q hq)
    have hBT2 : BYT B2 := by
      intro q
      rw [hb1 q]
      split
      · exact hBz q
      · exact PUT5_b hBz q
    have hTG2 := hTG
    refine WL_pop dL_law_239 rfl ?_
    refine WL_goto 1375 dL_law_240 rfl ?_
    exact hk _ L2 ⟨hR1, hX1, hrm, hIb, B2, Sz, D2, hBT2, hTG2, ⟨hXR1, hXD1, hXK1⟩, hMR2, hMD2⟩
  rcases hT with ⟨h5, h0⟩ | ⟨h5, h0⟩
  · have hW := TWX_at ly_X hXR.2 (p := 6) (by decide) h5
    refine WL_aload_n dL_law_180 rfl ?_
    refine WL_aload_n dL_law_181 rfl ?_
    refine WL_iload_n dL_law_182 rfl ?_
    refine WL_iconst (1) dL_law_183 rfl ?_
    refine WL_iadd dL_law_184 ?_
    refine WL_sld dL_law_185 (L_in hi h4 (1) (by decide)) ?_
    refine WL_aload_n dL_law_186 rfl ?_
    refine WL_iload_n dL_law_187 rfl ?_
    refine WL_iconst (2) dL_law_188 rfl ?_
    refine WL_iadd dL_law_189 ?_
    refine WL_sld dL_law_190 (L_in hi h4 (2) (by decide)) ?_
    refine WL_aload_n dL_law_191 rfl ?_
    refine WL_iload_n dL_law_192 rfl ?_
    refine WL_iconst (3) dL_law_193 rfl ?_
    refine WL_iadd dL_law_194 ?_
    refine WL_sld dL_law_195 (L_in hi h4 (3) (by decide)) ?_
    refine WL_aload_n dL_law_196 rfl ?_
    refine WL_iload_n dL_law_197 rfl ?_
    refine WL_iconst (4) dL_law_198 rfl ?_
    refine WL_iadd dL_law_199 ?_
    refine WL_sld dL_law_200 (L_in hi h4 (4) (by decide)) ?_
    refine WL_aload_n dL_law_201 rfl ?_
    refine WL_iload_n dL_law_202 rfl ?_
    refine WL_iconst (5) dL_law_203 rfl ?_
    refine WL_iadd dL_law_204 ?_
    refine WL_sld dL_law_205 (L_in hi h4 (5) (by decide)) ?_
    have h := sx_feed (g := gX Z) (J := Y.1.2.1) ly_X hr  hXN (z_x Z (i + 1).toNatClampNeg) (z_x Z (i + 2).toNatClampNeg) (z_x Z (i + 3).toNatClampNeg) (z_x Z (i + 4).toNatClampNeg) (z_x Z (i + 5).toNatClampNeg)
    have h := SP_and2 h (ex_feed ly_X hr (n := L.toInt.toNat) (z_x Z (i + 1).toNatClampNeg) (z_x Z (i + 2).toNatClampNeg) (z_x Z (i + 3).toNatClampNeg) (z_x Z (i + 4).toNatClampNeg) (z_x Z (i + 5).toNatClampNeg) (by rw [hXN.2]; omega) (by omega))
    rw [ad_X] at h
    refine WL_callX5 dL_law_206 wX10_feed h (Nat.le_of_ble_eq_true rfl) (fun r I1 J1 R1 hq => ?_)
    obtain ⟨⟨⟨⟨La, hIa, hla⟩, ec, fia, fja⟩, va, rfl, hva⟩, I9a, J9a, R9a, hEa, hAa⟩ := hq
    show WL Z mL _ _ (.int _ :: _) _
    rw [ec]
    obtain ⟨-, -, -, v9, -, hE⟩ := hEa
    have hbr : ∀ q, q < 900 → I1 (ad (gX Z) 2) q = (if 880 < L.toInt.toNat then Bz q else PUT5 Bz L.toInt.toNat (z_x Z (i + 1).toNatClampNeg) (z_x Z (i + 2).toNatClampNeg) (z_x Z (i + 3).toNatClampNeg) (z_x Z (i + 4).toNatClampNeg) (z_x Z (i + 5).toNatClampNeg) q) := fun q hq => by
      rw [agr_i hAa (lyx_is ly_X 2 12 rfl) (Or.inl rfl) (lyx_n ly_X 2 900 rfl) hq]
      rcases hE with ⟨h8, -, e9⟩ | ⟨h8, -, e9⟩
      · rw [if_pos h8, e9]; exact hXR.1 q hq
      · rw [if_neg (by omega), e9]; exact PUT5_eq (hXR.1 q hq)
    exact nxt La _ _ _ _ (fun q => if 880 < L.toInt.toNat then Bz q else PUT5 Bz L.toInt.toNat (z_x Z (i + 1).toNatClampNeg) (z_x Z (i + 2).toNatClampNeg) (z_x Z (i + 3).toNatClampNeg) (z_x Z (i + 4).toNatClampNeg) (z_x Z (i + 5).toNatClampNeg) q) Sz Dz ⟨hr, (Or.inl ⟨h5, h0⟩), hP⟩ hIa ⟨hbr, TWX_of (p := 6) (by decide) h5 (RTW_fz hW hTG.1 fia fja (by decide) (by decide))⟩ (XDS_fz hXD fia (by decide)) (XK_fz hXK fia (by decide)) hla hva ⟨fun q => rfl, rfl, rfl⟩
  · have hW := TWX_at ly_X hXR.2 (p := 27) (by decide) h5
    refine WL_aload_n dL_law_180 rfl ?_
    refine WL_aload_n dL_law_181 rfl ?_
    refine WL_iload_n dL_law_182 rfl ?_
    refine WL_iconst (1) dL_law_183 rfl ?_
    refine WL_iadd dL_law_184 ?_
    refine WL_sld dL_law_185 (L_in hi h4 (1) (by decide)) ?_
    refine WL_aload_n dL_law_186 rfl ?_
    refine WL_iload_n dL_law_187 rfl ?_
    refine WL_iconst (2) dL_law_188 rfl ?_
    refine WL_iadd dL_law_189 ?_
    refine WL_sld dL_law_190 (L_in hi h4 (2) (by decide)) ?_
    refine WL_aload_n dL_law_191 rfl ?_
    refine WL_iload_n dL_law_192 rfl ?_
    refine WL_iconst (3) dL_law_193 rfl ?_
    refine WL_iadd dL_law_194 ?_
    refine WL_sld dL_law_195 (L_in hi h4 (3) (by decide)) ?_
    refine WL_aload_n dL_law_196 rfl ?_
    refine WL_iload_n dL_law_197 rfl ?_
    refine WL_iconst (4) dL_law_198 rfl ?_
    refine WL_iadd dL_law_199 ?_
    refine WL_sld dL_law_200 (L_in hi h4 (4) (by decide)) ?_
    refine WL_aload_n dL_law_201 rfl ?_
    refine WL_iload_n dL_law_202 rfl ?_
    refine WL_iconst (5) dL_law_203 rfl ?_
    refine WL_iadd dL_law_204 ?_
    refine WL_sld dL_law_205 (L_in hi h4 (5) (by decide)) ?_
    have h := sx_feed (g := gX Z) (J := Y.1.2.1) ly_X hr  hXN (z_x Z (i + 1).toNatClampNeg) (z_x Z (i + 2).toNatClampNeg) (z_x Z (i + 3).toNatClampNeg) (z_x Z (i + 4).toNatClampNeg) (z_x Z (i + 5).toNatClampNeg)
    have h := SP_and2 h (ex_feed ly_X hr (n := L.toInt.toNat) (z_x Z (i + 1).toNatClampNeg) (z_x Z (i + 2).toNatClampNeg) (z_x Z (i + 3).toNatClampNeg) (z_x Z (i + 4).toNatClampNeg) (z_x Z (i + 5).toNatClampNeg) (by rw [hXN.2]; omega) (by omega))
    rw [ad_X] at h
    refine WL_callX5 dL_law_206 wX10_feed h (Nat.le_of_ble_eq_true rfl) (fun r I1 J1 R1 hq => ?_)
    obtain ⟨⟨⟨⟨La, hIa, hla⟩, ec, fia, fja⟩, va, rfl, hva⟩, I9a, J9a, R9a, hEa, hAa⟩ := hq
    show WL Z mL _ _ (.int _ :: _) _
    rw [ec]
    obtain ⟨-, -, -, v9, -, hE⟩ := hEa
    have hbr : ∀ q, q < 900 → I1 (ad (gX Z) 2) q = (if 880 < L.toInt.toNat then Bz q else PUT5 Bz L.toInt.toNat (z_x Z (i + 1).toNatClampNeg) (z_x Z (i + 2).toNatClampNeg) (z_x Z (i + 3).toNatClampNeg) (z_x Z (i + 4).toNatClampNeg) (z_x Z (i + 5).toNatClampNeg) q) := fun q hq => by
      rw [agr_i hAa (lyx_is ly_X 2 12 rfl) (Or.inl rfl) (lyx_n ly_X 2 900 rfl) hq]
      rcases hE with ⟨h8, -, e9⟩ | ⟨h8, -, e9⟩
      · rw [if_pos h8, e9]; exact hXR.1 q hq
      · rw [if_neg (by omega), e9]; exact PUT5_eq (hXR.1 q hq)
    exact nxt La _ _ _ _ (fun q => if 880 < L.toInt.toNat then Bz q else PUT5 Bz L.toInt.toNat (z_x Z (i + 1).toNatClampNeg) (z_x Z (i + 2).toNatClampNeg) (z_x Z (i + 3).toNatClampNeg) (z_x Z (i + 4).toNatClampNeg) (z_x Z (i + 5).toNatClampNeg) q) Sz Dz ⟨hr, (Or.inr ⟨h5, h0⟩), hP⟩ hIa ⟨hbr, TWX_of (p := 27) (by decide) h5 (RTW_fz hW hTG.1 fia fja (by decide) (by decide))⟩ (XDS_fz hXD fia (by decide)) (XK_fz hXK fia (by decide)) hla hva ⟨fun q => rfl, rfl, rfl⟩
set_option maxHeartbeats 4000000 in
set_option maxRecDepth 100000 in
theorem L_end {Z : LB} {i : Int32} {Y : YY} {n : Int} {L : Int32} (hi : 0 ≤ i.toInt ∧ i.toInt + 8 ≤ (z_L Z : Int)) (h4 : z_L Z ≤ 4096) (hn : 0 ≤ n ∧ n ≤ 39000) (hV : IV Z n L Y) (hk : ∀ (Y2 : YY) (L2 : Int32), IV Z (n + 70) L2 Y2 → WL Z mL 1375 [(0, .ref (z_b Z)), (1, .ref (z_h Z + 0)), (2, .ref (z_h Z + 74 + 0)), (3, .int i)] [] Y2) : WL Z mL 243 [(0, .ref (z_b Z)), (1, .ref (z_h Z + 0)), (2, .ref (z_h Z + 74 + 0)), (3, .int i)] [] Y := by
  obtain ⟨⟨hr, hT, hP⟩, hX, hrm, hM, Bz, Sz, Dz, hBz, hTG, ⟨hXR, hXD, hXK⟩, hMR, hMD⟩ := hV
  have hXN := xi_mono hX (show n ≤ n + 70 by omega)
  have hMN := mp_mono hM (show n ≤ n + 70 by omega)
  have hLb := BT_get hX.1 1 1 2 0 0 900 (by decide) 1 (by decide) (by decide)
  rw [hX.2] at hLb
  have hDb := BT_get hM.1.1 38 33 34 0 1 0 (by decide) 33 (by decide) (by decide)
  rw [hMD.1] at hDb
  have hD0 : 0 ≤ Dz.1.toInt := by omega
  have nxt : ∀ (L2 v : Int32) (I1 : pI) (J1 : pJ) (R1 : pR) (B2 : Nat → Int32) (S2 : TwS) (D2 : DS), (RfX (gX Z) R1 ∧ TS (gX Z) R1 ∧ NL (gX Z) R1) → XI (gX Z) (n + 70) L2 I1 → XR (gX Z) B2 S2 I1 J1 R1 → XDS (gX Z) D2 I1 → XK (gX Z) S2 I1 → (((0 ≤ (z_x Z (i + 1).toNatClampNeg).toInt ∧ (z_x Z (i + 1).toNatClampNeg).toInt ≤ L.toInt) ∧ L2.toInt = (z_x Z (i + 1).toNatClampNeg).toInt ∨ ¬ (0 ≤ (z_x Z (i + 1).toNatClampNeg).toInt ∧ (z_x Z (i + 1).toNatClampNeg).toInt ≤ L.toInt) ∧ L2.toInt = L.toInt)) → ((0 ≤ (z_x Z (i + 1).toNatClampNeg).toInt ∧ (z_x Z (i + 1).toNatClampNeg).toInt ≤ L.toInt) ∧ v.toInt = (z_x Z (i + 1).toNatClampNeg).toInt ∨ ¬ (0 ≤ (z_x Z (i + 1).toNatClampNeg).toInt ∧ (z_x Z (i + 1).toNatClampNeg).toInt ≤ L.toInt) ∧ v.toInt = -1) → (B2 = Bz ∧ S2 = Sz ∧ D2 = Dz) → WL Z mL 252 [(0, .ref (z_b Z)), (1, .ref (z_h Z + 0)), (2, .ref (z_h Z + 74 + 0)), (3, .int i)] [.int v] ((I1, J1, R1), Y.2) := by
    intro L2 v I1 J1 R1 B2 S2 D2 hR1 hX1 hXR1 hXD1 hXK1 hl hv hbr
    refine WL_pop dL_law_252 rfl ?_
    refine WL_aload_n dL_law_253 rfl ?_
    refine WL_aload_n dL_law_254 rfl ?_
    refine WL_iload_n dL_law_255 rfl ?_
    refine WL_iconst (1) dL_law_256 rfl ?_
    refine WL_iadd dL_law_257 ?_
    refine WL_sld dL_law_258 (L_in hi h4 (1) (by decide)) ?_
    have h := sm_end (g := gM Z) (J := Y.2.2.1) ly_M hrm  hMN (z_x Z (i + 1).toNatClampNeg)
    rw [ad_M] at h
    refine WL_callM1 dL_law_259 wX11_end h (Nat.le_of_ble_eq_true rfl) (fun r I2 J2 R2 hq => ?_)
    obtain ⟨⟨⟨Lb, hIb, hlb⟩, ec, fib, fjb, fqb⟩, vb, rfl, hvb⟩ := hq
    show WL Z mL _ _ (.int _ :: _) _
    rw [ec]
    have eL : Lb = L2 := (eq32 _ _).mpr (by omega)
    rw [eL] at hIb
    obtain ⟨eB, eS, hdr⟩ := hbr
    rw [eB, eS] at hXR1
    rw [eS] at hXK1
    have hMR2 : MR (gM Z) Bz Sz I2 J2 := ⟨fun q hq => by rw [fz_at fib 1 (by decide) (by decide)]; exact hMR.1 q hq, RTT_fz hMR.2 hTG.1 fib fjb fqb (by decide) (by decide) (by decide)⟩
    have hBT2 := hBz
    have hTG2 := hTG
    have hMD2 : MDS (gM Z) D2 I2 := by rw [hdr]; exact MDS_fz hMD fib (by decide)
    refine WL_pop dL_law_262 rfl ?_
    refine WL_goto 1375 dL_law_263 rfl ?_
    exact hk _ L2 ⟨hR1, hX1, hrm, hIb, Bz, Sz, D2, hBT2, hTG2, ⟨hXR1, hXD1, hXK1⟩, hMR2, hMD2⟩
  rcases hT with ⟨h5, h0⟩ | ⟨h5, h0⟩
  · have hW := TWX_at ly_X hXR.2 (p := 6) (by decide) h5
    refine WL_aload_n dL_law_243 rfl ?_
    refine WL_aload_n dL_law_244 rfl ?_
    refine WL_iload_n dL_law_245 rfl ?_
    refine WL_iconst (1) dL_law_246 rfl ?_
    refine WL_iadd dL_law_247 ?_
    refine WL_sld dL_law_248 (L_in hi h4 (1) (by decide)) ?_
    have h := sx_end (g := gX Z) (J := Y.1.2.1) ly_X hr  hXN (z_x Z (i + 1).toNatClampNeg)
    rw [ad_X] at h
    refine WL_callX1 dL_law_249 wX10_end h (Nat.le_of_ble_eq_true rfl) (fun r I1 J1 R1 hq => ?_)
    obtain ⟨⟨⟨La, hIa, hla⟩, ec, fia, fja⟩, va, rfl, hva⟩ := hq
    show WL Z mL _ _ (.int _ :: _) _
    rw [ec]
    exact nxt La _ _ _ _ Bz Sz Dz ⟨hr, (Or.inl ⟨h5, h0⟩), hP⟩ hIa ⟨fun q hq => by rw [fz_at fia 2 (by decide) (by decide)]; exact hXR.1 q hq, TWX_of (p := 6) (by decide) h5 (RTW_fz hW hTG.1 fia fja (by decide) (by decide))⟩ (XDS_fz hXD fia (by decide)) (XK_fz hXK fia (by decide)) hla hva ⟨rfl, rfl, rfl⟩
  · have hW := TWX_at ly_X hXR.2 (p := 27) (by decide) h5
    refine WL_aload_n dL_law_243 rfl ?_
    refine WL_aload_n dL_law_244 rfl ?_
    refine WL_iload_n dL_law_245 rfl ?_
    refine WL_iconst (1) dL_law_246 rfl ?_
    refine WL_iadd dL_law_247 ?_
    refine WL_sld dL_law_248 (L_in hi h4 (1) (by decide)) ?_
    have h := sx_end (g := gX Z) (J := Y.1.2.1) ly_X hr  hXN (z_x Z (i + 1).toNatClampNeg)
    rw [ad_X] at h
    refine WL_callX1 dL_law_249 wX10_end h (Nat.le_of_ble_eq_true rfl) (fun r I1 J1 R1 hq => ?_)
    obtain ⟨⟨⟨La, hIa, hla⟩, ec, fia, fja⟩, va, rfl, hva⟩ := hq
    show WL Z mL _ _ (.int _ :: _) _
    rw [ec]
    exact nxt La _ _ _ _ Bz Sz Dz ⟨hr, (Or.inr ⟨h5, h0⟩), hP⟩ hIa ⟨fun q hq => by rw [fz_at fia 2 (by decide) (by decide)]; exact hXR.1 q hq, TWX_of (p := 27) (by decide) h5 (RTW_fz hW hTG.1 fia fja (by decide) (by decide))⟩ (XDS_fz hXD fia (by decide)) (XK_fz hXK fia (by decide)) hla hva ⟨rfl, rfl, rfl⟩
set_option maxHeartbeats 4000000 in
set_option maxRecDepth 100000 in
theorem L_town {Z : LB} {i : Int32} {Y : YY} {n : Int} {L : Int32} (hi : 0 ≤ i.toInt ∧ i.toInt + 8 ≤ (z_L Z : Int)) (h4 : z_L Z ≤ 4096) (hn : 0 ≤ n ∧ n ≤ 39000) (hV : IV Z n L Y) (hk : ∀ (Y2 : YY) (L2 : Int32), IV Z (n + 70) L2 Y2 → WL Z mL 1375 [(0, .ref (z_b Z)), (1, .ref (z_h Z + 0)), (2, .ref (z_h Z + 74 + 0)), (3, .int i)] [] Y2) : WL Z mL 266 [(0, .ref (z_b Z)), (1, .ref (z_h Z + 0)), (2, .ref (z_h Z + 74 + 0)), (3, .int i)] [] Y := by
  obtain ⟨⟨hr, hT, hP⟩, hX, hrm, hM, Bz, Sz, Dz, hBz, hTG, ⟨hXR, hXD, hXK⟩, hMR, hMD⟩ := hV
  have hXN := xi_mono hX (show n ≤ n + 70 by omega)
  have hMN := mp_mono hM (show n ≤ n + 70 by omega)
  have hLb := BT_get hX.1 1 1 2 0 0 900 (by decide) 1 (by decide) (by decide)
  rw [hX.2] at hLb
  have hDb := BT_get hM.1.1 38 33 34 0 1 0 (by decide) 33 (by decide) (by decide)
  rw [hMD.1] at hDb
  have hD0 : 0 ≤ Dz.1.toInt := by omega
  have nxt : ∀ (L2 v : Int32) (I1 : pI) (J1 : pJ) (R1 : pR) (B2 : Nat → Int32) (S2 : TwS) (D2 : DS) (jz : Nat → Nat → Int), (RfX (gX Z) R1 ∧ TS (gX Z) R1 ∧ NL (gX Z) R1) → XI (gX Z) (n + 70) L2 I1 → XR (gX Z) B2 S2 I1 J1 R1 → XDS (gX Z) D2 I1 → XK (gX Z) S2 I1 → (L2.toInt = 0) → (B2 = Bz ∧ ((v.toInt = -1 ∧ (S2 = Sz ∧ D2 = Dz) ∧ ∃ er, town (fun q => (Bz q).toInt) L.toInt.toNat jz = .error er) ∨ (town (fun q => (Bz q).toInt) L.toInt.toNat jz = .ok S2 ∧ v.toInt = S2.1 0 0 ∧ D2 = dNew))) → WL Z mL 270 [(0, .ref (z_b Z)), (1, .ref (z_h Z + 0)), (2, .ref (z_h Z + 74 + 0)), (3, .int i)] [.int v] ((I1, J1, R1), Y.2) := by
    intro L2 v I1 J1 R1 B2 S2 D2 jz hR1 hX1 hXR1 hXD1 hXK1 hl hbr
    refine WL_pop dL_law_270 rfl ?_
    refine WL_aload_n dL_law_271 rfl ?_
    have h := sm_town (g := gM Z) (J := Y.2.2.1) ly_M hz_M hrm  hMN (by omega)
    have h := SP_and2 h (em_town ly_M hrm hz_M (B := fun q => (Bz q).toInt) (n := L.toInt.toNat) jz (by rw [hMN.1.2]; omega) (fun q hq => by rw [hMR.1 q hq]) (by omega) hBz)
    rw [ad_M] at h
    refine WL_callM0 dL_law_272 wX11_town h (Nat.le_of_ble_eq_true rfl) (fun r I2 J2 R2 hq => ?_)
    obtain ⟨⟨⟨⟨Lb, hIb, hlb⟩, ec, fib, fjb, fqb⟩, vb, rfl⟩, I9b, J9b, R9b, hEb, hAb⟩ := hq
    show WL Z mL _ _ (.int _ :: _) _
    rw [ec]
    have eL : Lb = L2 := (eq32 _ _).mpr (by omega)
    rw [eL] at hIb
    obtain ⟨eB, hbr⟩ := hbr
    rw [eB] at hXR1
    obtain ⟨-, -, -, -, v9, e9, hE⟩ := hEb
    obtain rfl : vb = v9 := by cases e9; rfl
    have key : v.toInt = vb.toInt ∧ RTT (gM Z) S2 I2 J2 ∧ TGD S2 ∧ MDS (gM Z) D2 I2 := by
      rcases hbr with ⟨b1, ⟨eS, eD⟩, er, b3⟩ | ⟨b1, b2, eD⟩
      · rw [eS, eD]
        rcases hE with ⟨z1, -, z2, z3, z4⟩ | ⟨S3, z1, -⟩
        · exact ⟨by omega, RTT_agr ly_M hTG.1 hAb (RTT_fc ly_M hMR.2 hTG.1 z2 z3 z4 (by decide) (by decide) (by decide)), hTG, MDS_agr ly_M hAb (MDS_fc ly_M hMD z2 (by decide))⟩
        · rw [b3] at z1; exact absurd z1 (by simp)
      · rcases hE with ⟨-, ⟨k, pl, z1, -⟩, -⟩ | ⟨S3, z1, z2, z3, z4⟩
        · rw [b1] at z1; exact absurd z1 (by simp)
        · obtain rfl : S2 = S3 := Except.ok.inj (b1.symm.trans z1)
          have hg := town_all b1
          exact ⟨by omega, RTT_agr ly_M hg.1 hAb z3, hg, by rw [eD]; exact MDS_agr ly_M hAb (MDS_new hg.1 z4)⟩
    have hMR2 : MR (gM Z) Bz S2 I2 J2 := ⟨fun q hq => by rw [fz_at fib 1 (by decide) (by decide)]; exact hMR.1 q hq, key.2.1⟩
    have hBT2 := hBz
    have hTG2 := key.2.2.1
    have hMD2 := key.2.2.2
    refine WL_pop dL_law_275 rfl ?_
    refine WL_goto 1375 dL_law_276 rfl ?_
    exact hk _ L2 ⟨hR1, hX1, hrm, hIb, Bz, S2, D2, hBT2, hTG2, ⟨hXR1, hXD1, hXK1⟩, hMR2, hMD2⟩
  rcases hT with ⟨h5, h0⟩ | ⟨h5, h0⟩
  · have hW := TWX_at ly_X hXR.2 (p := 6) (by decide) h5
    refine WL_aload_n dL_law_266 rfl ?_
    have h := sx_town_6 (g := gX Z) (J := Y.1.2.1) ly_X hz_X hr hP h5  hXN (by omega) h0
    have h := SP_and2 h (ex_towna ly_X hr hz_X (B := fun q => (Bz q).toInt) (n := L.toInt.toNat) h5 h0 ⟨by rw [hXN.2]; omega, fun q hq => by rw [hXR.1 q hq]⟩ (by omega))
    rw [ad_X] at h
    refine WL_callX0 dL_law_267 wX10_town h (Nat.le_of_ble_eq_true rfl) (fun r I1 J1 R1 hq => ?_)
    obtain ⟨⟨⟨⟨La, hIa, hla⟩, ⟨hra, htsa, hpa⟩, fia, fja⟩, va, rfl⟩, I9a, J9a, R9a, hEa, hAa⟩ := hq
    show WL Z mL _ _ (.int _ :: _) _
    obtain ⟨-, -, v9, e9, hE⟩ := hEa
    obtain rfl : va = v9 := by cases e9; rfl
    rcases hE with ⟨z1, z2, zF, j, k, pl, z3, -⟩ | ⟨j, S9, z1, z2, ⟨z3, z4, z5⟩, z6, z7, -⟩
    · have h5b : R1 (ad (gX Z) 5) 0 = some (ad (gX Z) 6) := agr_r hAa (lyx_is ly_X 5 0 rfl) (by decide) (by decide) rfl (by rw [z2]; exact h5)
      exact nxt La _ _ _ _ Bz Sz Dz j ⟨hra, htsa, hpa⟩ hIa ⟨fun q hq => by rw [fz_at fia 2 (by decide) (by decide)]; exact hXR.1 q hq, TWX_of (p := 6) (by decide) h5b (RTW_fz hW hTG.1 fia fja (by decide) (by decide))⟩ (XDS_agr ly_X hAa (XDS_fc ly_X hXD zF (by decide))) (XK_agr ly_X hAa (XK_fc ly_X hXK zF (by decide))) hla ⟨rfl, Or.inl ⟨z1, ⟨rfl, rfl⟩, _, z3⟩⟩
    · have h5b : R1 (ad (gX Z) 5) 0 = some (ad (gX Z) 27) := agr_r hAa (lyx_is ly_X 5 0 rfl) (by decide) (by decide) rfl z4
      have hg := town_all z1
      exact nxt La _ _ _ _ Bz S9 dNew j ⟨hra, htsa, hpa⟩ hIa ⟨fun q hq => by rw [fz_at fia 2 (by decide) (by decide)]; exact hXR.1 q hq, TWX_of (p := 27) (by decide) h5b (RTW_agr ly_X (by decide) hg.1 hAa (RTW_of z6 hg.1))⟩ (XDS_agr ly_X hAa (XDS_new z7)) (XK_agr ly_X hAa (XK_new z7.1)) hla ⟨rfl, Or.inr ⟨z1, z2, rfl⟩⟩
  · have hW := TWX_at ly_X hXR.2 (p := 27) (by decide) h5
    refine WL_aload_n dL_law_266 rfl ?_
    have h := sx_town_27 (g := gX Z) (J := Y.1.2.1) ly_X hz_X hr hP h5  hXN (by omega) h0
    have h := SP_and2 h (ex_townb ly_X hr hz_X (B := fun q => (Bz q).toInt) (n := L.toInt.toNat) h5 h0 ⟨by rw [hXN.2]; omega, fun q hq => by rw [hXR.1 q hq]⟩ (by omega))
    rw [ad_X] at h
    refine WL_callX0 dL_law_267 wX10_town h (Nat.le_of_ble_eq_true rfl) (fun r I1 J1 R1 hq => ?_)
    obtain ⟨⟨⟨⟨La, hIa, hla⟩, ⟨hra, htsa, hpa⟩, fia, fja⟩, va, rfl⟩, I9a, J9a, R9a, hEa, hAa⟩ := hq
    show WL Z mL _ _ (.int _ :: _) _
    obtain ⟨-, -, v9, e9, hE⟩ := hEa
    obtain rfl : va = v9 := by cases e9; rfl
    rcases hE with ⟨z1, z2, zF, j, k, pl, z3, -⟩ | ⟨j, S9, z1, z2, ⟨z3, z4, z5⟩, z6, z7, -⟩
    · have h5b : R1 (ad (gX Z) 5) 0 = some (ad (gX Z) 27) := agr_r hAa (lyx_is ly_X 5 0 rfl) (by decide) (by decide) rfl (by rw [z2]; exact h5)
      exact nxt La _ _ _ _ Bz Sz Dz j ⟨hra, htsa, hpa⟩ hIa ⟨fun q hq => by rw [fz_at fia 2 (by decide) (by decide)]; exact hXR.1 q hq, TWX_of (p := 27) (by decide) h5b (RTW_fz hW hTG.1 fia fja (by decide) (by decide))⟩ (XDS_agr ly_X hAa (XDS_fc ly_X hXD zF (by decide))) (XK_agr ly_X hAa (XK_fc ly_X hXK zF (by decide))) hla ⟨rfl, Or.inl ⟨z1, ⟨rfl, rfl⟩, _, z3⟩⟩
    · have h5b : R1 (ad (gX Z) 5) 0 = some (ad (gX Z) 6) := agr_r hAa (lyx_is ly_X 5 0 rfl) (by decide) (by decide) rfl z4
      have hg := town_all z1
      exact nxt La _ _ _ _ Bz S9 dNew j ⟨hra, htsa, hpa⟩ hIa ⟨fun q hq => by rw [fz_at fia 2 (by decide) (by decide)]; exact hXR.1 q hq, TWX_of (p := 6) (by decide) h5b (RTW_agr ly_X (by decide) hg.1 hAa (RTW_of z6 hg.1))⟩ (XDS_agr ly_X hAa (XDS_new z7)) (XK_agr ly_X hAa (XK_new z7.1)) hla ⟨rfl, Or.inr ⟨z1, z2, rfl⟩⟩
set_option maxHeartbeats 4000000 in
set_option maxRecDepth 100000 in
theorem L_fault {Z : LB} {i : Int32} {Y : YY} {n : Int} {L : Int32} (hi : 0 ≤ i.toInt ∧ i.toInt + 8 ≤ (z_L Z : Int)) (h4 : z_L Z ≤ 4096) (hn : 0 ≤ n ∧ n ≤ 39000) (hV : IV Z n L Y) (hk : ∀ (Y2 : YY) (L2 : Int32), IV Z (n + 70) L2 Y2 → WL Z mL 1375 [(0, .ref (z_b Z)), (1, .ref (z_h Z + 0)), (2, .ref (z_h Z + 74 + 0)), (3, .int i)] [] Y2) : WL Z mL 279 [(0, .ref (z_b Z)), (1, .ref (z_h Z + 0)), (2, .ref (z_h Z + 74 + 0)), (3, .int i)] [] Y := by
  obtain ⟨⟨hr, hT, hP⟩, hX, hrm, hM, Bz, Sz, Dz, hBz, hTG, ⟨hXR, hXD, hXK⟩, hMR, hMD⟩ := hV
  have hXN := xi_mono hX (show n ≤ n + 70 by omega)
  have hMN := mp_mono hM (show n ≤ n + 70 by omega)
  have hLb := BT_get hX.1 1 1 2 0 0 900 (by decide) 1 (by decide) (by decide)
  rw [hX.2] at hLb
  have hDb := BT_get hM.1.1 38 33 34 0 1 0 (by decide) 33 (by decide) (by decide)
  rw [hMD.1] at hDb
  have hD0 : 0 ≤ Dz.1.toInt := by omega
  have nxt : ∀ (L2 v : Int32) (I1 : pI) (J1 : pJ) (R1 : pR) (B2 : Nat → Int32) (S2 : TwS) (D2 : DS), (RfX (gX Z) R1 ∧ TS (gX Z) R1 ∧ NL (gX Z) R1) → XI (gX Z) (n + 70) L2 I1 → XR (gX Z) B2 S2 I1 J1 R1 → XDS (gX Z) D2 I1 → XK (gX Z) S2 I1 → (L2 = L) → (B2 = Bz ∧ S2 = Sz ∧ D2 = Dz) → WL Z mL 288 [(0, .ref (z_b Z)), (1, .ref (z_h Z + 0)), (2, .ref (z_h Z + 74 + 0)), (3, .int i)] [.int v] ((I1, J1, R1), Y.2) := by
    intro L2 v I1 J1 R1 B2 S2 D2 hR1 hX1 hXR1 hXD1 hXK1 hl hbr
    refine WL_pop dL_law_288 rfl ?_
    refine WL_aload_n dL_law_289 rfl ?_
    refine WL_aload_n dL_law_290 rfl ?_
    refine WL_iload_n dL_law_291 rfl ?_
    refine WL_iconst (1) dL_law_292 rfl ?_
    refine WL_iadd dL_law_293 ?_
    refine WL_sld dL_law_294 (L_in hi h4 (1) (by decide)) ?_
    have h := sm_fault (g := gM Z) (J := Y.2.2.1) ly_M hrm  hMN (z_x Z (i + 1).toNatClampNeg)
    rw [ad_M] at h
    refine WL_callM1 dL_law_295 wX11_fault h (Nat.le_of_ble_eq_true rfl) (fun r I2 J2 R2 hq => ?_)
    obtain ⟨⟨ea, eb, ec⟩, vb, rfl⟩ := hq
    show WL Z mL _ _ (.int _ :: _) _
    rw [ea, eb, ec]
    have eL : L = L2 := hl.symm
    have hMN2 := hMN
    rw [eL] at hMN2
    obtain ⟨eB, eS, eD⟩ := hbr
    rw [eB, eS] at hXR1
    rw [eS] at hXK1
    have hMR2 : MR (gM Z) Bz Sz Y.2.1 Y.2.2.1 := hMR
    have hMD2 : MDS (gM Z) D2 Y.2.1 := by rw [eD]; exact hMD
    have hBT2 := hBz
    have hTG2 := hTG
    refine WL_pop dL_law_298 rfl ?_
    refine WL_goto 1375 dL_law_299 rfl ?_
    exact hk _ L2 ⟨hR1, hX1, hrm, hMN2, Bz, Sz, D2, hBT2, hTG2, ⟨hXR1, hXD1, hXK1⟩, hMR2, hMD2⟩
  rcases hT with ⟨h5, h0⟩ | ⟨h5, h0⟩
  · have hW := TWX_at ly_X hXR.2 (p := 6) (by decide) h5
    refine WL_aload_n dL_law_279 rfl ?_
    refine WL_aload_n dL_law_280 rfl ?_
    refine WL_iload_n dL_law_281 rfl ?_
    refine WL_iconst (1) dL_law_282 rfl ?_
    refine WL_iadd dL_law_283 ?_
    refine WL_sld dL_law_284 (L_in hi h4 (1) (by decide)) ?_
    have h := sx_fault (g := gX Z) (J := Y.1.2.1) ly_X hr  hXN (z_x Z (i + 1).toNatClampNeg)
    rw [ad_X] at h
    refine WL_callX1 dL_law_285 wX10_fault h (Nat.le_of_ble_eq_true rfl) (fun r I1 J1 R1 hq => ?_)
    obtain ⟨⟨ea, eb, ec⟩, va, rfl⟩ := hq
    show WL Z mL _ _ (.int _ :: _) _
    rw [ea, eb, ec]
    exact nxt L _ _ _ _ Bz Sz Dz ⟨hr, (Or.inl ⟨h5, h0⟩), hP⟩ hXN hXR hXD hXK rfl ⟨rfl, rfl, rfl⟩
  · have hW := TWX_at ly_X hXR.2 (p := 27) (by decide) h5
    refine WL_aload_n dL_law_279 rfl ?_
    refine WL_aload_n dL_law_280 rfl ?_
    refine WL_iload_n dL_law_281 rfl ?_
    refine WL_iconst (1) dL_law_282 rfl ?_
    refine WL_iadd dL_law_283 ?_
    refine WL_sld dL_law_284 (L_in hi h4 (1) (by decide)) ?_
    have h := sx_fault (g := gX Z) (J := Y.1.2.1) ly_X hr  hXN (z_x Z (i + 1).toNatClampNeg)
    rw [ad_X] at h
    refine WL_callX1 dL_law_285 wX10_fault h (Nat.le_of_ble_eq_true rfl) (fun r I1 J1 R1 hq => ?_)
    obtain ⟨⟨ea, eb, ec⟩, va, rfl⟩ := hq
    show WL Z mL _ _ (.int _ :: _) _
    rw [ea, eb, ec]
    exact nxt L _ _ _ _ Bz Sz Dz ⟨hr, (Or.inr ⟨h5, h0⟩), hP⟩ hXN hXR hXD hXK rfl ⟨rfl, rfl, rfl⟩
set_option maxHeartbeats 4000000 in
set_option maxRecDepth 100000 in
theorem L_told {Z : LB} {i : Int32} {Y : YY} {n : Int} {L : Int32} (hi : 0 ≤ i.toInt ∧ i.toInt + 8 ≤ (z_L Z : Int)) (h4 : z_L Z ≤ 4096) (hn : 0 ≤ n ∧ n ≤ 39000) (hV : IV Z n L Y) (hk : ∀ (Y2 : YY) (L2 : Int32), IV Z (n + 70) L2 Y2 → WL Z mL 1375 [(0, .ref (z_b Z)), (1, .ref (z_h Z + 0)), (2, .ref (z_h Z + 74 + 0)), (3, .int i)] [] Y2) : WL Z mL 302 [(0, .ref (z_b Z)), (1, .ref (z_h Z + 0)), (2, .ref (z_h Z + 74 + 0)), (3, .int i)] [] Y := by
  obtain ⟨⟨hr, hT, hP⟩, hX, hrm, hM, Bz, Sz, Dz, hBz, hTG, ⟨hXR, hXD, hXK⟩, hMR, hMD⟩ := hV
  have hXN := xi_mono hX (show n ≤ n + 70 by omega)
  have hMN := mp_mono hM (show n ≤ n + 70 by omega)
  have hLb := BT_get hX.1 1 1 2 0 0 900 (by decide) 1 (by decide) (by decide)
  rw [hX.2] at hLb
  have hDb := BT_get hM.1.1 38 33 34 0 1 0 (by decide) 33 (by decide) (by decide)
  rw [hMD.1] at hDb
  have hD0 : 0 ≤ Dz.1.toInt := by omega
  have nxt : ∀ (L2 v : Int32) (I1 : pI) (J1 : pJ) (R1 : pR) (B2 : Nat → Int32) (S2 : TwS) (D2 : DS), (RfX (gX Z) R1 ∧ TS (gX Z) R1 ∧ NL (gX Z) R1) → XI (gX Z) (n + 70) L2 I1 → XR (gX Z) B2 S2 I1 J1 R1 → XDS (gX Z) D2 I1 → XK (gX Z) S2 I1 → (L2 = L) → (B2 = Bz ∧ S2 = Sz ∧ D2 = Dz) → WL Z mL 311 [(0, .ref (z_b Z)), (1, .ref (z_h Z + 0)), (2, .ref (z_h Z + 74 + 0)), (3, .int i)] [.int v] ((I1, J1, R1), Y.2) := by
    intro L2 v I1 J1 R1 B2 S2 D2 hR1 hX1 hXR1 hXD1 hXK1 hl hbr
    refine WL_pop dL_law_311 rfl ?_
    refine WL_aload_n dL_law_312 rfl ?_
    refine WL_aload_n dL_law_313 rfl ?_
    refine WL_iload_n dL_law_314 rfl ?_
    refine WL_iconst (1) dL_law_315 rfl ?_
    refine WL_iadd dL_law_316 ?_
    refine WL_sld dL_law_317 (L_in hi h4 (1) (by decide)) ?_
    have h := sm_told (g := gM Z) (J := Y.2.2.1) ly_M hrm  hMN (z_x Z (i + 1).toNatClampNeg)
    rw [ad_M] at h
    refine WL_callM1 dL_law_318 wX11_told h (Nat.le_of_ble_eq_true rfl) (fun r I2 J2 R2 hq => ?_)
    obtain ⟨⟨ea, eb, ec⟩, vb, rfl⟩ := hq
    show WL Z mL _ _ (.int _ :: _) _
    rw [ea, eb, ec]
    have eL : L = L2 := hl.symm
    have hMN2 := hMN
    rw [eL] at hMN2
    obtain ⟨eB, eS, eD⟩ := hbr
    rw [eB, eS] at hXR1
    rw [eS] at hXK1
    have hMR2 : MR (gM Z) Bz Sz Y.2.1 Y.2.2.1 := hMR
    have hMD2 : MDS (gM Z) D2 Y.2.1 := by rw [eD]; exact hMD
    have hBT2 := hBz
    have hTG2 := hTG
    refine WL_pop dL_law_321 rfl ?_
    refine WL_goto 1375 dL_law_322 rfl ?_
    exact hk _ L2 ⟨hR1, hX1, hrm, hMN2, Bz, Sz, D2, hBT2, hTG2, ⟨hXR1, hXD1, hXK1⟩, hMR2, hMD2⟩
  rcases hT with ⟨h5, h0⟩ | ⟨h5, h0⟩
  · have hW := TWX_at ly_X hXR.2 (p := 6) (by decide) h5
    refine WL_aload_n dL_law_302 rfl ?_
    refine WL_aload_n dL_law_303 rfl ?_
    refine WL_iload_n dL_law_304 rfl ?_
    refine WL_iconst (1) dL_law_305 rfl ?_
    refine WL_iadd dL_law_306 ?_
    refine WL_sld dL_law_307 (L_in hi h4 (1) (by decide)) ?_
    have h := sx_told_6 (g := gX Z) (J := Y.1.2.1) ly_X hr h5  hXN (z_x Z (i + 1).toNatClampNeg)
    rw [ad_X] at h
    refine WL_callX1 dL_law_308 wX10_told h (Nat.le_of_ble_eq_true rfl) (fun r I1 J1 R1 hq => ?_)
    obtain ⟨⟨ea, eb, ec⟩, va, rfl⟩ := hq
    show WL Z mL _ _ (.int _ :: _) _
    rw [ea, eb, ec]
    exact nxt L _ _ _ _ Bz Sz Dz ⟨hr, (Or.inl ⟨h5, h0⟩), hP⟩ hXN hXR hXD hXK rfl ⟨rfl, rfl, rfl⟩
  · have hW := TWX_at ly_X hXR.2 (p := 27) (by decide) h5
    refine WL_aload_n dL_law_302 rfl ?_
    refine WL_aload_n dL_law_303 rfl ?_
    refine WL_iload_n dL_law_304 rfl ?_
    refine WL_iconst (1) dL_law_305 rfl ?_
    refine WL_iadd dL_law_306 ?_
    refine WL_sld dL_law_307 (L_in hi h4 (1) (by decide)) ?_
    have h := sx_told_27 (g := gX Z) (J := Y.1.2.1) ly_X hr h5  hXN (z_x Z (i + 1).toNatClampNeg)
    rw [ad_X] at h
    refine WL_callX1 dL_law_308 wX10_told h (Nat.le_of_ble_eq_true rfl) (fun r I1 J1 R1 hq => ?_)
    obtain ⟨⟨ea, eb, ec⟩, va, rfl⟩ := hq
    show WL Z mL _ _ (.int _ :: _) _
    rw [ea, eb, ec]
    exact nxt L _ _ _ _ Bz Sz Dz ⟨hr, (Or.inr ⟨h5, h0⟩), hP⟩ hXN hXR hXD hXK rfl ⟨rfl, rfl, rfl⟩
set_option maxHeartbeats 4000000 in
set_option maxRecDepth 100000 in
theorem L_earns {Z : LB} {i : Int32} {Y : YY} {n : Int} {L : Int32} (hi : 0 ≤ i.toInt ∧ i.toInt + 8 ≤ (z_L Z : Int)) (h4 : z_L Z ≤ 4096) (hn : 0 ≤ n ∧ n ≤ 39000) (hV : IV Z n L Y) (hk : ∀ (Y2 : YY) (L2 : Int32), IV Z (n + 70) L2 Y2 → WL Z mL 1375 [(0, .ref (z_b Z)), (1, .ref (z_h Z + 0)), (2, .ref (z_h Z + 74 + 0)), (3, .int i)] [] Y2) : WL Z mL 325 [(0, .ref (z_b Z)), (1, .ref (z_h Z + 0)), (2, .ref (z_h Z + 74 + 0)), (3, .int i)] [] Y := by
  obtain ⟨⟨hr, hT, hP⟩, hX, hrm, hM, Bz, Sz, Dz, hBz, hTG, ⟨hXR, hXD, hXK⟩, hMR, hMD⟩ := hV
  have hXN := xi_mono hX (show n ≤ n + 70 by omega)
  have hMN := mp_mono hM (show n ≤ n + 70 by omega)
  have hLb := BT_get hX.1 1 1 2 0 0 900 (by decide) 1 (by decide) (by decide)
  rw [hX.2] at hLb
  have hDb := BT_get hM.1.1 38 33 34 0 1 0 (by decide) 33 (by decide) (by decide)
  rw [hMD.1] at hDb
  have hD0 : 0 ≤ Dz.1.toInt := by omega
  have nxt : ∀ (L2 v : Int32) (I1 : pI) (J1 : pJ) (R1 : pR) (B2 : Nat → Int32) (S2 : TwS) (D2 : DS), (RfX (gX Z) R1 ∧ TS (gX Z) R1 ∧ NL (gX Z) R1) → XI (gX Z) (n + 70) L2 I1 → XR (gX Z) B2 S2 I1 J1 R1 → XDS (gX Z) D2 I1 → XK (gX Z) S2 I1 → (L2 = L) → (B2 = Bz ∧ S2 = Sz ∧ D2 = Dz) → WL Z mL 339 [(0, .ref (z_b Z)), (1, .ref (z_h Z + 0)), (2, .ref (z_h Z + 74 + 0)), (3, .int i)] [.int v] ((I1, J1, R1), Y.2) := by
    intro L2 v I1 J1 R1 B2 S2 D2 hR1 hX1 hXR1 hXD1 hXK1 hl hbr
    refine WL_pop dL_law_339 rfl ?_
    refine WL_aload_n dL_law_340 rfl ?_
    refine WL_aload_n dL_law_341 rfl ?_
    refine WL_iload_n dL_law_342 rfl ?_
    refine WL_iconst (1) dL_law_343 rfl ?_
    refine WL_iadd dL_law_344 ?_
    refine WL_sld dL_law_345 (L_in hi h4 (1) (by decide)) ?_
    refine WL_aload_n dL_law_346 rfl ?_
    refine WL_iload_n dL_law_347 rfl ?_
    refine WL_iconst (2) dL_law_348 rfl ?_
    refine WL_iadd dL_law_349 ?_
    refine WL_sld dL_law_350 (L_in hi h4 (2) (by decide)) ?_
    have h := sm_earns (g := gM Z) (J := Y.2.2.1) ly_M hrm  hMN (z_x Z (i + 1).toNatClampNeg) (z_x Z (i + 2).toNatClampNeg)
    rw [ad_M] at h
    refine WL_callM2 dL_law_351 wX11_earns h (Nat.le_of_ble_eq_true rfl) (fun r I2 J2 R2 hq => ?_)
    obtain ⟨⟨ea, eb, ec⟩, vb, rfl⟩ := hq
    show WL Z mL _ _ (.int _ :: _) _
    rw [ea, eb, ec]
    have eL : L = L2 := hl.symm
    have hMN2 := hMN
    rw [eL] at hMN2
    obtain ⟨eB, eS, eD⟩ := hbr
    rw [eB, eS] at hXR1
    rw [eS] at hXK1
    have hMR2 : MR (gM Z) Bz Sz Y.2.1 Y.2.2.1 := hMR
    have hMD2 : MDS (gM Z) D2 Y.2.1 := by rw [eD]; exact hMD
    have hBT2 := hBz
    have hTG2 := hTG
    refine WL_pop dL_law_354 rfl ?_
    refine WL_goto 1375 dL_law_355 rfl ?_
    exact hk _ L2 ⟨hR1, hX1, hrm, hMN2, Bz, Sz, D2, hBT2, hTG2, ⟨hXR1, hXD1, hXK1⟩, hMR2, hMD2⟩
  rcases hT with ⟨h5, h0⟩ | ⟨h5, h0⟩
  · have hW := TWX_at ly_X hXR.2 (p := 6) (by decide) h5
    refine WL_aload_n dL_law_325 rfl ?_
    refine WL_aload_n dL_law_326 rfl ?_
    refine WL_iload_n dL_law_327 rfl ?_
    refine WL_iconst (1) dL_law_328 rfl ?_
    refine WL_iadd dL_law_329 ?_
    refine WL_sld dL_law_330 (L_in hi h4 (1) (by decide)) ?_
    refine WL_aload_n dL_law_331 rfl ?_
    refine WL_iload_n dL_law_332 rfl ?_
    refine WL_iconst (2) dL_law_333 rfl ?_
    refine WL_iadd dL_law_334 ?_
    refine WL_sld dL_law_335 (L_in hi h4 (2) (by decide)) ?_
    have h := sx_earns_6 (g := gX Z) (J := Y.1.2.1) ly_X hr h5  hXN (z_x Z (i + 1).toNatClampNeg) (z_x Z (i + 2).toNatClampNeg)
    rw [ad_X] at h
    refine WL_callX2 dL_law_336 wX10_earns h (Nat.le_of_ble_eq_true rfl) (fun r I1 J1 R1 hq => ?_)
    obtain ⟨⟨ea, eb, ec⟩, va, rfl⟩ := hq
    show WL Z mL _ _ (.int _ :: _) _
    rw [ea, eb, ec]
    exact nxt L _ _ _ _ Bz Sz Dz ⟨hr, (Or.inl ⟨h5, h0⟩), hP⟩ hXN hXR hXD hXK rfl ⟨rfl, rfl, rfl⟩
  · have hW := TWX_at ly_X hXR.2 (p := 27) (by decide) h5
    refine WL_aload_n dL_law_325 rfl ?_
    refine WL_aload_n dL_law_326 rfl ?_
    refine WL_iload_n dL_law_327 rfl ?_
    refine WL_iconst (1) dL_law_328 rfl ?_
    refine WL_iadd dL_law_329 ?_
    refine WL_sld dL_law_330 (L_in hi h4 (1) (by decide)) ?_
    refine WL_aload_n dL_law_331 rfl ?_
    refine WL_iload_n dL_law_332 rfl ?_
    refine WL_iconst (2) dL_law_333 rfl ?_
    refine WL_iadd dL_law_334 ?_
    refine WL_sld dL_law_335 (L_in hi h4 (2) (by decide)) ?_
    have h := sx_earns_27 (g := gX Z) (J := Y.1.2.1) ly_X hr h5  hXN (z_x Z (i + 1).toNatClampNeg) (z_x Z (i + 2).toNatClampNeg)
    rw [ad_X] at h
    refine WL_callX2 dL_law_336 wX10_earns h (Nat.le_of_ble_eq_true rfl) (fun r I1 J1 R1 hq => ?_)
    obtain ⟨⟨ea, eb, ec⟩, va, rfl⟩ := hq
    show WL Z mL _ _ (.int _ :: _) _
    rw [ea, eb, ec]
    exact nxt L _ _ _ _ Bz Sz Dz ⟨hr, (Or.inr ⟨h5, h0⟩), hP⟩ hXN hXR hXD hXK rfl ⟨rfl, rfl, rfl⟩
set_option maxHeartbeats 4000000 in
set_option maxRecDepth 100000 in
theorem L_price {Z : LB} {i : Int32} {Y : YY} {n : Int} {L : Int32} (hi : 0 ≤ i.toInt ∧ i.toInt + 8 ≤ (z_L Z : Int)) (h4 : z_L Z ≤ 4096) (hn : 0 ≤ n ∧ n ≤ 39000) (hV : IV Z n L Y) (hk : ∀ (Y2 : YY) (L2 : Int32), IV Z (n + 70) L2 Y2 → WL Z mL 1375 [(0, .ref (z_b Z)), (1, .ref (z_h Z + 0)), (2, .ref (z_h Z + 74 + 0)), (3, .int i)] [] Y2) : WL Z mL 358 [(0, .ref (z_b Z)), (1, .ref (z_h Z + 0)), (2, .ref (z_h Z + 74 + 0)), (3, .int i)] [] Y := by
  obtain ⟨⟨hr, hT, hP⟩, hX, hrm, hM, Bz, Sz, Dz, hBz, hTG, ⟨hXR, hXD, hXK⟩, hMR, hMD⟩ := hV
  have hXN := xi_mono hX (show n ≤ n + 70 by omega)
  have hMN := mp_mono hM (show n ≤ n + 70 by omega)
  have hLb := BT_get hX.1 1 1 2 0 0 900 (by decide) 1 (by decide) (by decide)
  rw [hX.2] at hLb
  have hDb := BT_get hM.1.1 38 33 34 0 1 0 (by decide) 33 (by decide) (by decide)
  rw [hMD.1] at hDb
  have hD0 : 0 ≤ Dz.1.toInt := by omega
  have nxt : ∀ (L2 v : Int32) (I1 : pI) (J1 : pJ) (R1 : pR) (B2 : Nat → Int32) (S2 : TwS) (D2 : DS), (RfX (gX Z) R1 ∧ TS (gX Z) R1 ∧ NL (gX Z) R1) → XI (gX Z) (n + 70) L2 I1 → XR (gX Z) B2 S2 I1 J1 R1 → XDS (gX Z) D2 I1 → XK (gX Z) S2 I1 → (L2 = L) → (B2 = Bz ∧ S2 = Sz ∧ D2 = Dz) → WL Z mL 372 [(0, .ref (z_b Z)), (1, .ref (z_h Z + 0)), (2, .ref (z_h Z + 74 + 0)), (3, .int i)] [.int v] ((I1, J1, R1), Y.2) := by
    intro L2 v I1 J1 R1 B2 S2 D2 hR1 hX1 hXR1 hXD1 hXK1 hl hbr
    refine WL_pop dL_law_372 rfl ?_
    refine WL_aload_n dL_law_373 rfl ?_
    refine WL_aload_n dL_law_374 rfl ?_
    refine WL_iload_n dL_law_375 rfl ?_
    refine WL_iconst (1) dL_law_376 rfl ?_
    refine WL_iadd dL_law_377 ?_
    refine WL_sld dL_law_378 (L_in hi h4 (1) (by decide)) ?_
    refine WL_aload_n dL_law_379 rfl ?_
    refine WL_iload_n dL_law_380 rfl ?_
    refine WL_iconst (2) dL_law_381 rfl ?_
    refine WL_iadd dL_law_382 ?_
    refine WL_sld dL_law_383 (L_in hi h4 (2) (by decide)) ?_
    have h := sm_price (g := gM Z) (J := Y.2.2.1) ly_M hrm  hMN (z_x Z (i + 1).toNatClampNeg) (z_x Z (i + 2).toNatClampNeg)
    rw [ad_M] at h
    refine WL_callM2 dL_law_384 wX11_price h (Nat.le_of_ble_eq_true rfl) (fun r I2 J2 R2 hq => ?_)
    obtain ⟨⟨ea, eb, ec⟩, vb, rfl⟩ := hq
    show WL Z mL _ _ (.int _ :: _) _
    rw [ea, eb, ec]
    have eL : L = L2 := hl.symm
    have hMN2 := hMN
    rw [eL] at hMN2
    obtain ⟨eB, eS, eD⟩ := hbr
    rw [eB, eS] at hXR1
    rw [eS] at hXK1
    have hMR2 : MR (gM Z) Bz Sz Y.2.1 Y.2.2.1 := hMR
    have hMD2 : MDS (gM Z) D2 Y.2.1 := by rw [eD]; exact hMD
    have hBT2 := hBz
    have hTG2 := hTG
    refine WL_pop dL_law_387 rfl ?_
    refine WL_goto 1375 dL_law_388 rfl ?_
    exact hk _ L2 ⟨hR1, hX1, hrm, hMN2, Bz, Sz, D2, hBT2, hTG2, ⟨hXR1, hXD1, hXK1⟩, hMR2, hMD2⟩
  rcases hT with ⟨h5, h0⟩ | ⟨h5, h0⟩
  · have hW := TWX_at ly_X hXR.2 (p := 6) (by decide) h5
    refine WL_aload_n dL_law_358 rfl ?_
    refine WL_aload_n dL_law_359 rfl ?_
    refine WL_iload_n dL_law_360 rfl ?_
    refine WL_iconst (1) dL_law_361 rfl ?_
    refine WL_iadd dL_law_362 ?_
    refine WL_sld dL_law_363 (L_in hi h4 (1) (by decide)) ?_
    refine WL_aload_n dL_law_364 rfl ?_
    refine WL_iload_n dL_law_365 rfl ?_
    refine WL_iconst (2) dL_law_366 rfl ?_
    refine WL_iadd dL_law_367 ?_
    refine WL_sld dL_law_368 (L_in hi h4 (2) (by decide)) ?_
    have h := sx_price_6 (g := gX Z) (J := Y.1.2.1) ly_X hr h5  hXN (z_x Z (i + 1).toNatClampNeg) (z_x Z (i + 2).toNatClampNeg)
    rw [ad_X] at h
    refine WL_callX2 dL_law_369 wX10_price h (Nat.le_of_ble_eq_true rfl) (fun r I1 J1 R1 hq => ?_)
    obtain ⟨⟨ea, eb, ec⟩, va, rfl⟩ := hq
    show WL Z mL _ _ (.int _ :: _) _
    rw [ea, eb, ec]
    exact nxt L _ _ _ _ Bz Sz Dz ⟨hr, (Or.inl ⟨h5, h0⟩), hP⟩ hXN hXR hXD hXK rfl ⟨rfl, rfl, rfl⟩
  · have hW := TWX_at ly_X hXR.2 (p := 27) (by decide) h5
    refine WL_aload_n dL_law_358 rfl ?_
    refine WL_aload_n dL_law_359 rfl ?_
    refine WL_iload_n dL_law_360 rfl ?_
    refine WL_iconst (1) dL_law_361 rfl ?_
    refine WL_iadd dL_law_362 ?_
    refine WL_sld dL_law_363 (L_in hi h4 (1) (by decide)) ?_
    refine WL_aload_n dL_law_364 rfl ?_
    refine WL_iload_n dL_law_365 rfl ?_
    refine WL_iconst (2) dL_law_366 rfl ?_
    refine WL_iadd dL_law_367 ?_
    refine WL_sld dL_law_368 (L_in hi h4 (2) (by decide)) ?_
    have h := sx_price_27 (g := gX Z) (J := Y.1.2.1) ly_X hr h5  hXN (z_x Z (i + 1).toNatClampNeg) (z_x Z (i + 2).toNatClampNeg)
    rw [ad_X] at h
    refine WL_callX2 dL_law_369 wX10_price h (Nat.le_of_ble_eq_true rfl) (fun r I1 J1 R1 hq => ?_)
    obtain ⟨⟨ea, eb, ec⟩, va, rfl⟩ := hq
    show WL Z mL _ _ (.int _ :: _) _
    rw [ea, eb, ec]
    exact nxt L _ _ _ _ Bz Sz Dz ⟨hr, (Or.inr ⟨h5, h0⟩), hP⟩ hXN hXR hXD hXK rfl ⟨rfl, rfl, rfl⟩
set_option maxHeartbeats 4000000 in
set_option maxRecDepth 100000 in
theorem L_made {Z : LB} {i : Int32} {Y : YY} {n : Int} {L : Int32} (hi : 0 ≤ i.toInt ∧ i.toInt + 8 ≤ (z_L Z : Int)) (h4 : z_L Z ≤ 4096) (hn : 0 ≤ n ∧ n ≤ 39000) (hV : IV Z n L Y) (hk : ∀ (Y2 : YY) (L2 : Int32), IV Z (n + 70) L2 Y2 → WL Z mL 1375 [(0, .ref (z_b Z)), (1, .ref (z_h Z + 0)), (2, .ref (z_h Z + 74 + 0)), (3, .int i)] [] Y2) : WL Z mL 391 [(0, .ref (z_b Z)), (1, .ref (z_h Z + 0)), (2, .ref (z_h Z + 74 + 0)), (3, .int i)] [] Y := by
  obtain ⟨⟨hr, hT, hP⟩, hX, hrm, hM, Bz, Sz, Dz, hBz, hTG, ⟨hXR, hXD, hXK⟩, hMR, hMD⟩ := hV
  have hXN := xi_mono hX (show n ≤ n + 70 by omega)
  have hMN := mp_mono hM (show n ≤ n + 70 by omega)
  have hLb := BT_get hX.1 1 1 2 0 0 900 (by decide) 1 (by decide) (by decide)
  rw [hX.2] at hLb
  have hDb := BT_get hM.1.1 38 33 34 0 1 0 (by decide) 33 (by decide) (by decide)
  rw [hMD.1] at hDb
  have hD0 : 0 ≤ Dz.1.toInt := by omega
  have nxt : ∀ (L2 v : Int32) (I1 : pI) (J1 : pJ) (R1 : pR) (B2 : Nat → Int32) (S2 : TwS) (D2 : DS), (RfX (gX Z) R1 ∧ TS (gX Z) R1 ∧ NL (gX Z) R1) → XI (gX Z) (n + 70) L2 I1 → XR (gX Z) B2 S2 I1 J1 R1 → XDS (gX Z) D2 I1 → XK (gX Z) S2 I1 → (L2 = L) → (B2 = Bz ∧ S2 = Sz ∧ D2 = Dz) → WL Z mL 405 [(0, .ref (z_b Z)), (1, .ref (z_h Z + 0)), (2, .ref (z_h Z + 74 + 0)), (3, .int i)] [.int v] ((I1, J1, R1), Y.2) := by
    intro L2 v I1 J1 R1 B2 S2 D2 hR1 hX1 hXR1 hXD1 hXK1 hl hbr
    refine WL_pop dL_law_405 rfl ?_
    refine WL_aload_n dL_law_406 rfl ?_
    refine WL_aload_n dL_law_407 rfl ?_
    refine WL_iload_n dL_law_408 rfl ?_
    refine WL_iconst (1) dL_law_409 rfl ?_
    refine WL_iadd dL_law_410 ?_
    refine WL_sld dL_law_411 (L_in hi h4 (1) (by decide)) ?_
    refine WL_aload_n dL_law_412 rfl ?_
    refine WL_iload_n dL_law_413 rfl ?_
    refine WL_iconst (2) dL_law_414 rfl ?_
    refine WL_iadd dL_law_415 ?_
    refine WL_sld dL_law_416 (L_in hi h4 (2) (by decide)) ?_
    have h := sm_made (g := gM Z) (J := Y.2.2.1) ly_M hrm  hMN (z_x Z (i + 1).toNatClampNeg) (z_x Z (i + 2).toNatClampNeg)
    rw [ad_M] at h
    refine WL_callM2 dL_law_417 wX11_made h (Nat.le_of_ble_eq_true rfl) (fun r I2 J2 R2 hq => ?_)
    obtain ⟨⟨ea, eb, ec⟩, vb, rfl⟩ := hq
    show WL Z mL _ _ (.int _ :: _) _
    rw [ea, eb, ec]
    have eL : L = L2 := hl.symm
    have hMN2 := hMN
    rw [eL] at hMN2
    obtain ⟨eB, eS, eD⟩ := hbr
    rw [eB, eS] at hXR1
    rw [eS] at hXK1
    have hMR2 : MR (gM Z) Bz Sz Y.2.1 Y.2.2.1 := hMR
    have hMD2 : MDS (gM Z) D2 Y.2.1 := by rw [eD]; exact hMD
    have hBT2 := hBz
    have hTG2 := hTG
    refine WL_pop dL_law_420 rfl ?_
    refine WL_goto 1375 dL_law_421 rfl ?_
    exact hk _ L2 ⟨hR1, hX1, hrm, hMN2, Bz, Sz, D2, hBT2, hTG2, ⟨hXR1, hXD1, hXK1⟩, hMR2, hMD2⟩
  rcases hT with ⟨h5, h0⟩ | ⟨h5, h0⟩
  · have hW := TWX_at ly_X hXR.2 (p := 6) (by decide) h5
    refine WL_aload_n dL_law_391 rfl ?_
    refine WL_aload_n dL_law_392 rfl ?_
    refine WL_iload_n dL_law_393 rfl ?_
    refine WL_iconst (1) dL_law_394 rfl ?_
    refine WL_iadd dL_law_395 ?_
    refine WL_sld dL_law_396 (L_in hi h4 (1) (by decide)) ?_
    refine WL_aload_n dL_law_397 rfl ?_
    refine WL_iload_n dL_law_398 rfl ?_
    refine WL_iconst (2) dL_law_399 rfl ?_
    refine WL_iadd dL_law_400 ?_
    refine WL_sld dL_law_401 (L_in hi h4 (2) (by decide)) ?_
    have h := sx_made_6 (g := gX Z) (J := Y.1.2.1) ly_X hr h5  hXN (z_x Z (i + 1).toNatClampNeg) (z_x Z (i + 2).toNatClampNeg)
    rw [ad_X] at h
    refine WL_callX2 dL_law_402 wX10_made h (Nat.le_of_ble_eq_true rfl) (fun r I1 J1 R1 hq => ?_)
    obtain ⟨⟨ea, eb, ec⟩, va, rfl⟩ := hq
    show WL Z mL _ _ (.int _ :: _) _
    rw [ea, eb, ec]
    exact nxt L _ _ _ _ Bz Sz Dz ⟨hr, (Or.inl ⟨h5, h0⟩), hP⟩ hXN hXR hXD hXK rfl ⟨rfl, rfl, rfl⟩
  · have hW := TWX_at ly_X hXR.2 (p := 27) (by decide) h5
    refine WL_aload_n dL_law_391 rfl ?_
    refine WL_aload_n dL_law_392 rfl ?_
    refine WL_iload_n dL_law_393 rfl ?_
    refine WL_iconst (1) dL_law_394 rfl ?_
    refine WL_iadd dL_law_395 ?_
    refine WL_sld dL_law_396 (L_in hi h4 (1) (by decide)) ?_
    refine WL_aload_n dL_law_397 rfl ?_
    refine WL_iload_n dL_law_398 rfl ?_
    refine WL_iconst (2) dL_law_399 rfl ?_
    refine WL_iadd dL_law_400 ?_
    refine WL_sld dL_law_401 (L_in hi h4 (2) (by decide)) ?_
    have h := sx_made_27 (g := gX Z) (J := Y.1.2.1) ly_X hr h5  hXN (z_x Z (i + 1).toNatClampNeg) (z_x Z (i + 2).toNatClampNeg)
    rw [ad_X] at h
    refine WL_callX2 dL_law_402 wX10_made h (Nat.le_of_ble_eq_true rfl) (fun r I1 J1 R1 hq => ?_)
    obtain ⟨⟨ea, eb, ec⟩, va, rfl⟩ := hq
    show WL Z mL _ _ (.int _ :: _) _
    rw [ea, eb, ec]
    exact nxt L _ _ _ _ Bz Sz Dz ⟨hr, (Or.inr ⟨h5, h0⟩), hP⟩ hXN hXR hXD hXK rfl ⟨rfl, rfl, rfl⟩
set_option maxHeartbeats 4000000 in
set_option maxRecDepth 100000 in
theorem L_wants {Z : LB} {i : Int32} {Y : YY} {n : Int} {L : Int32} (hi : 0 ≤ i.toInt ∧ i.toInt + 8 ≤ (z_L Z : Int)) (h4 : z_L Z ≤ 4096) (hn : 0 ≤ n ∧ n ≤ 39000) (hV : IV Z n L Y) (hk : ∀ (Y2 : YY) (L2 : Int32), IV Z (n + 70) L2 Y2 → WL Z mL 1375 [(0, .ref (z_b Z)), (1, .ref (z_h Z + 0)), (2, .ref (z_h Z + 74 + 0)), (3, .int i)] [] Y2) : WL Z mL 424 [(0, .ref (z_b Z)), (1, .ref (z_h Z + 0)), (2, .ref (z_h Z + 74 + 0)), (3, .int i)] [] Y := by
  obtain ⟨⟨hr, hT, hP⟩, hX, hrm, hM, Bz, Sz, Dz, hBz, hTG, ⟨hXR, hXD, hXK⟩, hMR, hMD⟩ := hV
  have hXN := xi_mono hX (show n ≤ n + 70 by omega)
  have hMN := mp_mono hM (show n ≤ n + 70 by omega)
  have hLb := BT_get hX.1 1 1 2 0 0 900 (by decide) 1 (by decide) (by decide)
  rw [hX.2] at hLb
  have hDb := BT_get hM.1.1 38 33 34 0 1 0 (by decide) 33 (by decide) (by decide)
  rw [hMD.1] at hDb
  have hD0 : 0 ≤ Dz.1.toInt := by omega
  have nxt : ∀ (L2 v : Int32) (I1 : pI) (J1 : pJ) (R1 : pR) (B2 : Nat → Int32) (S2 : TwS) (D2 : DS), (RfX (gX Z) R1 ∧ TS (gX Z) R1 ∧ NL (gX Z) R1) → XI (gX Z) (n + 70) L2 I1 → XR (gX Z) B2 S2 I1 J1 R1 → XDS (gX Z) D2 I1 → XK (gX Z) S2 I1 → (L2 = L) → (B2 = Bz ∧ S2 = Sz ∧ D2 = Dz) → WL Z mL 443 [(0, .ref (z_b Z)), (1, .ref (z_h Z + 0)), (2, .ref (z_h Z + 74 + 0)), (3, .int i)] [.int v] ((I1, J1, R1), Y.2) := by
    intro L2 v I1 J1 R1 B2 S2 D2 hR1 hX1 hXR1 hXD1 hXK1 hl hbr
    refine WL_pop dL_law_443 rfl ?_
    refine WL_aload_n dL_law_444 rfl ?_
    refine WL_aload_n dL_law_445 rfl ?_
    refine WL_iload_n dL_law_446 rfl ?_
    refine WL_iconst (1) dL_law_447 rfl ?_
    refine WL_iadd dL_law_448 ?_
    refine WL_sld dL_law_449 (L_in hi h4 (1) (by decide)) ?_
    refine WL_aload_n dL_law_450 rfl ?_
    refine WL_iload_n dL_law_451 rfl ?_
    refine WL_iconst (2) dL_law_452 rfl ?_
    refine WL_iadd dL_law_453 ?_
    refine WL_sld dL_law_454 (L_in hi h4 (2) (by decide)) ?_
    refine WL_aload_n dL_law_455 rfl ?_
    refine WL_iload_n dL_law_456 rfl ?_
    refine WL_iconst (3) dL_law_457 rfl ?_
    refine WL_iadd dL_law_458 ?_
    refine WL_sld dL_law_459 (L_in hi h4 (3) (by decide)) ?_
    have h := sm_wants (g := gM Z) (J := Y.2.2.1) ly_M hrm  hMN (z_x Z (i + 1).toNatClampNeg) (z_x Z (i + 2).toNatClampNeg) (z_x Z (i + 3).toNatClampNeg)
    rw [ad_M] at h
    refine WL_callM3 dL_law_460 wX11_wants h (Nat.le_of_ble_eq_true rfl) (fun r I2 J2 R2 hq => ?_)
    obtain ⟨⟨ea, eb, ec⟩, vb, rfl⟩ := hq
    show WL Z mL _ _ (.int _ :: _) _
    rw [ea, eb, ec]
    have eL : L = L2 := hl.symm
    have hMN2 := hMN
    rw [eL] at hMN2
    obtain ⟨eB, eS, eD⟩ := hbr
    rw [eB, eS] at hXR1
    rw [eS] at hXK1
    have hMR2 : MR (gM Z) Bz Sz Y.2.1 Y.2.2.1 := hMR
    have hMD2 : MDS (gM Z) D2 Y.2.1 := by rw [eD]; exact hMD
    have hBT2 := hBz
    have hTG2 := hTG
    refine WL_pop dL_law_463 rfl ?_
    refine WL_goto 1375 dL_law_464 rfl ?_
    exact hk _ L2 ⟨hR1, hX1, hrm, hMN2, Bz, Sz, D2, hBT2, hTG2, ⟨hXR1, hXD1, hXK1⟩, hMR2, hMD2⟩
  rcases hT with ⟨h5, h0⟩ | ⟨h5, h0⟩
  · have hW := TWX_at ly_X hXR.2 (p := 6) (by decide) h5
    refine WL_aload_n dL_law_424 rfl ?_
    refine WL_aload_n dL_law_425 rfl ?_
    refine WL_iload_n dL_law_426 rfl ?_
    refine WL_iconst (1) dL_law_427 rfl ?_
    refine WL_iadd dL_law_428 ?_
    refine WL_sld dL_law_429 (L_in hi h4 (1) (by decide)) ?_
    refine WL_aload_n dL_law_430 rfl ?_
    refine WL_iload_n dL_law_431 rfl ?_
    refine WL_iconst (2) dL_law_432 rfl ?_
    refine WL_iadd dL_law_433 ?_
    refine WL_sld dL_law_434 (L_in hi h4 (2) (by decide)) ?_
    refine WL_aload_n dL_law_435 rfl ?_
    refine WL_iload_n dL_law_436 rfl ?_
    refine WL_iconst (3) dL_law_437 rfl ?_
    refine WL_iadd dL_law_438 ?_
    refine WL_sld dL_law_439 (L_in hi h4 (3) (by decide)) ?_
    have h := sx_wants_6 (g := gX Z) (J := Y.1.2.1) ly_X hr h5  hXN (z_x Z (i + 1).toNatClampNeg) (z_x Z (i + 2).toNatClampNeg) (z_x Z (i + 3).toNatClampNeg)
    rw [ad_X] at h
    refine WL_callX3 dL_law_440 wX10_wants h (Nat.le_of_ble_eq_true rfl) (fun r I1 J1 R1 hq => ?_)
    obtain ⟨⟨ea, eb, ec⟩, va, rfl⟩ := hq
    show WL Z mL _ _ (.int _ :: _) _
    rw [ea, eb, ec]
    exact nxt L _ _ _ _ Bz Sz Dz ⟨hr, (Or.inl ⟨h5, h0⟩), hP⟩ hXN hXR hXD hXK rfl ⟨rfl, rfl, rfl⟩
  · have hW := TWX_at ly_X hXR.2 (p := 27) (by decide) h5
    refine WL_aload_n dL_law_424 rfl ?_
    refine WL_aload_n dL_law_425 rfl ?_
    refine WL_iload_n dL_law_426 rfl ?_
    refine WL_iconst (1) dL_law_427 rfl ?_
    refine WL_iadd dL_law_428 ?_
    refine WL_sld dL_law_429 (L_in hi h4 (1) (by decide)) ?_
    refine WL_aload_n dL_law_430 rfl ?_
    refine WL_iload_n dL_law_431 rfl ?_
    refine WL_iconst (2) dL_law_432 rfl ?_
    refine WL_iadd dL_law_433 ?_
    refine WL_sld dL_law_434 (L_in hi h4 (2) (by decide)) ?_
    refine WL_aload_n dL_law_435 rfl ?_
    refine WL_iload_n dL_law_436 rfl ?_
    refine WL_iconst (3) dL_law_437 rfl ?_
    refine WL_iadd dL_law_438 ?_
    refine WL_sld dL_law_439 (L_in hi h4 (3) (by decide)) ?_
    have h := sx_wants_27 (g := gX Z) (J := Y.1.2.1) ly_X hr h5  hXN (z_x Z (i + 1).toNatClampNeg) (z_x Z (i + 2).toNatClampNeg) (z_x Z (i + 3).toNatClampNeg)
    rw [ad_X] at h
    refine WL_callX3 dL_law_440 wX10_wants h (Nat.le_of_ble_eq_true rfl) (fun r I1 J1 R1 hq => ?_)
    obtain ⟨⟨ea, eb, ec⟩, va, rfl⟩ := hq
    show WL Z mL _ _ (.int _ :: _) _
    rw [ea, eb, ec]
    exact nxt L _ _ _ _ Bz Sz Dz ⟨hr, (Or.inr ⟨h5, h0⟩), hP⟩ hXN hXR hXD hXK rfl ⟨rfl, rfl, rfl⟩
set_option maxHeartbeats 4000000 in
set_option maxRecDepth 100000 in
theorem L_night {Z : LB} {i : Int32} {Y : YY} {n : Int} {L : Int32} (hi : 0 ≤ i.toInt ∧ i.toInt + 8 ≤ (z_L Z : Int)) (h4 : z_L Z ≤ 4096) (hn : 0 ≤ n ∧ n ≤ 39000) (hV : IV Z n L Y) (hk : ∀ (Y2 : YY) (L2 : Int32), IV Z (n + 70) L2 Y2 → WL Z mL 1375 [(0, .ref (z_b Z)), (1, .ref (z_h Z + 0)), (2, .ref (z_h Z + 74 + 0)), (3, .int i)] [] Y2) : WL Z mL 467 [(0, .ref (z_b Z)), (1, .ref (z_h Z + 0)), (2, .ref (z_h Z + 74 + 0)), (3, .int i)] [] Y := by
  obtain ⟨⟨hr, hT, hP⟩, hX, hrm, hM, Bz, Sz, Dz, hBz, hTG, ⟨hXR, hXD, hXK⟩, hMR, hMD⟩ := hV
  have hXN := xi_mono hX (show n ≤ n + 70 by omega)
  have hMN := mp_mono hM (show n ≤ n + 70 by omega)
  have hLb := BT_get hX.1 1 1 2 0 0 900 (by decide) 1 (by decide) (by decide)
  rw [hX.2] at hLb
  have hDb := BT_get hM.1.1 38 33 34 0 1 0 (by decide) 33 (by decide) (by decide)
  rw [hMD.1] at hDb
  have hD0 : 0 ≤ Dz.1.toInt := by omega
  have nxt : ∀ (L2 v : Int32) (I1 : pI) (J1 : pJ) (R1 : pR) (B2 : Nat → Int32) (S2 : TwS) (D2 : DS), (RfX (gX Z) R1 ∧ TS (gX Z) R1 ∧ NL (gX Z) R1) → XI (gX Z) (n + 70) L2 I1 → XR (gX Z) B2 S2 I1 J1 R1 → XDS (gX Z) D2 I1 → XK (gX Z) S2 I1 → (L2 = L) → (B2 = Bz ∧ S2 = Sz ∧ D2 = Dz) → WL Z mL 486 [(0, .ref (z_b Z)), (1, .ref (z_h Z + 0)), (2, .ref (z_h Z + 74 + 0)), (3, .int i)] [.int v] ((I1, J1, R1), Y.2) := by
    intro L2 v I1 J1 R1 B2 S2 D2 hR1 hX1 hXR1 hXD1 hXK1 hl hbr
    refine WL_pop dL_law_486 rfl ?_
    refine WL_aload_n dL_law_487 rfl ?_
    refine WL_aload_n dL_law_488 rfl ?_
    refine WL_iload_n dL_law_489 rfl ?_
    refine WL_iconst (1) dL_law_490 rfl ?_
    refine WL_iadd dL_law_491 ?_
    refine WL_sld dL_law_492 (L_in hi h4 (1) (by decide)) ?_
    refine WL_aload_n dL_law_493 rfl ?_
    refine WL_iload_n dL_law_494 rfl ?_
    refine WL_iconst (2) dL_law_495 rfl ?_
    refine WL_iadd dL_law_496 ?_
    refine WL_sld dL_law_497 (L_in hi h4 (2) (by decide)) ?_
    refine WL_aload_n dL_law_498 rfl ?_
    refine WL_iload_n dL_law_499 rfl ?_
    refine WL_iconst (3) dL_law_500 rfl ?_
    refine WL_iadd dL_law_501 ?_
    refine WL_sld dL_law_502 (L_in hi h4 (3) (by decide)) ?_
    have h := sm_night (g := gM Z) (J := Y.2.2.1) ly_M hrm  hMN (z_x Z (i + 1).toNatClampNeg) (z_x Z (i + 2).toNatClampNeg) (z_x Z (i + 3).toNatClampNeg)
    rw [ad_M] at h
    refine WL_callM3 dL_law_503 wX11_night h (Nat.le_of_ble_eq_true rfl) (fun r I2 J2 R2 hq => ?_)
    obtain ⟨⟨ea, eb, ec⟩, vb, rfl⟩ := hq
    show WL Z mL _ _ (.int _ :: _) _
    rw [ea, eb, ec]
    have eL : L = L2 := hl.symm
    have hMN2 := hMN
    rw [eL] at hMN2
    obtain ⟨eB, eS, eD⟩ := hbr
    rw [eB, eS] at hXR1
    rw [eS] at hXK1
    have hMR2 : MR (gM Z) Bz Sz Y.2.1 Y.2.2.1 := hMR
    have hMD2 : MDS (gM Z) D2 Y.2.1 := by rw [eD]; exact hMD
    have hBT2 := hBz
    have hTG2 := hTG
    refine WL_pop dL_law_506 rfl ?_
    refine WL_goto 1375 dL_law_507 rfl ?_
    exact hk _ L2 ⟨hR1, hX1, hrm, hMN2, Bz, Sz, D2, hBT2, hTG2, ⟨hXR1, hXD1, hXK1⟩, hMR2, hMD2⟩
  rcases hT with ⟨h5, h0⟩ | ⟨h5, h0⟩
  · have hW := TWX_at ly_X hXR.2 (p := 6) (by decide) h5
    refine WL_aload_n dL_law_467 rfl ?_
    refine WL_aload_n dL_law_468 rfl ?_
    refine WL_iload_n dL_law_469 rfl ?_
    refine WL_iconst (1) dL_law_470 rfl ?_
    refine WL_iadd dL_law_471 ?_
    refine WL_sld dL_law_472 (L_in hi h4 (1) (by decide)) ?_
    refine WL_aload_n dL_law_473 rfl ?_
    refine WL_iload_n dL_law_474 rfl ?_
    refine WL_iconst (2) dL_law_475 rfl ?_
    refine WL_iadd dL_law_476 ?_
    refine WL_sld dL_law_477 (L_in hi h4 (2) (by decide)) ?_
    refine WL_aload_n dL_law_478 rfl ?_
    refine WL_iload_n dL_law_479 rfl ?_
    refine WL_iconst (3) dL_law_480 rfl ?_
    refine WL_iadd dL_law_481 ?_
    refine WL_sld dL_law_482 (L_in hi h4 (3) (by decide)) ?_
    have h := sx_night_6 (g := gX Z) (J := Y.1.2.1) ly_X hr h5  hXN (z_x Z (i + 1).toNatClampNeg) (z_x Z (i + 2).toNatClampNeg) (z_x Z (i + 3).toNatClampNeg)
    rw [ad_X] at h
    refine WL_callX3 dL_law_483 wX10_night h (Nat.le_of_ble_eq_true rfl) (fun r I1 J1 R1 hq => ?_)
    obtain ⟨⟨ea, eb, ec⟩, va, rfl⟩ := hq
    show WL Z mL _ _ (.int _ :: _) _
    rw [ea, eb, ec]
    exact nxt L _ _ _ _ Bz Sz Dz ⟨hr, (Or.inl ⟨h5, h0⟩), hP⟩ hXN hXR hXD hXK rfl ⟨rfl, rfl, rfl⟩
  · have hW := TWX_at ly_X hXR.2 (p := 27) (by decide) h5
    refine WL_aload_n dL_law_467 rfl ?_
    refine WL_aload_n dL_law_468 rfl ?_
    refine WL_iload_n dL_law_469 rfl ?_
    refine WL_iconst (1) dL_law_470 rfl ?_
    refine WL_iadd dL_law_471 ?_
    refine WL_sld dL_law_472 (L_in hi h4 (1) (by decide)) ?_
    refine WL_aload_n dL_law_473 rfl ?_
    refine WL_iload_n dL_law_474 rfl ?_
    refine WL_iconst (2) dL_law_475 rfl ?_
    refine WL_iadd dL_law_476 ?_
    refine WL_sld dL_law_477 (L_in hi h4 (2) (by decide)) ?_
    refine WL_aload_n dL_law_478 rfl ?_
    refine WL_iload_n dL_law_479 rfl ?_
    refine WL_iconst (3) dL_law_480 rfl ?_
    refine WL_iadd dL_law_481 ?_
    refine WL_sld dL_law_482 (L_in hi h4 (3) (by decide)) ?_
    have h := sx_night_27 (g := gX Z) (J := Y.1.2.1) ly_X hr h5  hXN (z_x Z (i + 1).toNatClampNeg) (z_x Z (i + 2).toNatClampNeg) (z_x Z (i + 3).toNatClampNeg)
    rw [ad_X] at h
    refine WL_callX3 dL_law_483 wX10_night h (Nat.le_of_ble_eq_true rfl) (fun r I1 J1 R1 hq => ?_)
    obtain ⟨⟨ea, eb, ec⟩, va, rfl⟩ := hq
    show WL Z mL _ _ (.int _ :: _) _
    rw [ea, eb, ec]
    exact nxt L _ _ _ _ Bz Sz Dz ⟨hr, (Or.inr ⟨h5, h0⟩), hP⟩ hXN hXR hXD hXK rfl ⟨rfl, rfl, rfl⟩
set_option maxHeartbeats 4000000 in
set_option maxRecDepth 100000 in
theorem L_may {Z : LB} {i : Int32} {Y : YY} {n : Int} {L : Int32} (hi : 0 ≤ i.toInt ∧ i.toInt + 8 ≤ (z_L Z : Int)) (h4 : z_L Z ≤ 4096) (hn : 0 ≤ n ∧ n ≤ 39000) (hV : IV Z n L Y) (hk : ∀ (Y2 : YY) (L2 : Int32), IV Z (n + 70) L2 Y2 → WL Z mL 1375 [(0, .ref (z_b Z)), (1, .ref (z_h Z + 0)), (2, .ref (z_h Z + 74 + 0)), (3, .int i)] [] Y2) : WL Z mL 510 [(0, .ref (z_b Z)), (1, .ref (z_h Z + 0)), (2, .ref (z_h Z + 74 + 0)), (3, .int i)] [] Y := by
  obtain ⟨⟨hr, hT, hP⟩, hX, hrm, hM, Bz, Sz, Dz, hBz, hTG, ⟨hXR, hXD, hXK⟩, hMR, hMD⟩ := hV
  have hXN := xi_mono hX (show n ≤ n + 70 by omega)
  have hMN := mp_mono hM (show n ≤ n + 70 by omega)
  have hLb := BT_get hX.1 1 1 2 0 0 900 (by decide) 1 (by decide) (by decide)
  rw [hX.2] at hLb
  have hDb := BT_get hM.1.1 38 33 34 0 1 0 (by decide) 33 (by decide) (by decide)
  rw [hMD.1] at hDb
  have hD0 : 0 ≤ Dz.1.toInt := by omega
  have nxt : ∀ (L2 v : Int32) (I1 : pI) (J1 : pJ) (R1 : pR) (B2 : Nat → Int32) (S2 : TwS) (D2 : DS), (RfX (gX Z) R1 ∧ TS (gX Z) R1 ∧ NL (gX Z) R1) → XI (gX Z) (n + 70) L2 I1 → XR (gX Z) B2 S2 I1 J1 R1 → XDS (gX Z) D2 I1 → XK (gX Z) S2 I1 → (L2 = L) → (B2 = Bz ∧ S2 = Sz ∧ D2 = Dz) → WL Z mL 539 [(0, .ref (z_b Z)), (1, .ref (z_h Z + 0)), (2, .ref (z_h Z + 74 + 0)), (3, .int i)] [.int v] ((I1, J1, R1), Y.2) := by
    intro L2 v I1 J1 R1 B2 S2 D2 hR1 hX1 hXR1 hXD1 hXK1 hl hbr
    refine WL_pop dL_law_539 rfl ?_
    refine WL_aload_n dL_law_540 rfl ?_
    refine WL_aload_n dL_law_541 rfl ?_
    refine WL_iload_n dL_law_542 rfl ?_
    refine WL_iconst (1) dL_law_543 rfl ?_
    refine WL_iadd dL_law_544 ?_
    refine WL_sld dL_law_545 (L_in hi h4 (1) (by decide)) ?_
    refine WL_aload_n dL_law_546 rfl ?_
    refine WL_iload_n dL_law_547 rfl ?_
    refine WL_iconst (2) dL_law_548 rfl ?_
    refine WL_iadd dL_law_549 ?_
    refine WL_sld dL_law_550 (L_in hi h4 (2) (by decide)) ?_
    refine WL_aload_n dL_law_551 rfl ?_
    refine WL_iload_n dL_law_552 rfl ?_
    refine WL_iconst (3) dL_law_553 rfl ?_
    refine WL_iadd dL_law_554 ?_
    refine WL_sld dL_law_555 (L_in hi h4 (3) (by decide)) ?_
    refine WL_aload_n dL_law_556 rfl ?_
    refine WL_iload_n dL_law_557 rfl ?_
    refine WL_iconst (4) dL_law_558 rfl ?_
    refine WL_iadd dL_law_559 ?_
    refine WL_sld dL_law_560 (L_in hi h4 (4) (by decide)) ?_
    refine WL_aload_n dL_law_561 rfl ?_
    refine WL_iload_n dL_law_562 rfl ?_
    refine WL_iconst (5) dL_law_563 rfl ?_
    refine WL_iadd dL_law_564 ?_
    refine WL_sld dL_law_565 (L_in hi h4 (5) (by decide)) ?_
    have h := sm_may (g := gM Z) (J := Y.2.2.1) ly_M hrm  hMN (z_x Z (i + 1).toNatClampNeg) (z_x Z (i + 2).toNatClampNeg) (z_x Z (i + 3).toNatClampNeg) (z_x Z (i + 4).toNatClampNeg) (z_x Z (i + 5).toNatClampNeg)
    rw [ad_M] at h
    refine WL_callM5 dL_law_566 wX11_may h (Nat.le_of_ble_eq_true rfl) (fun r I2 J2 R2 hq => ?_)
    obtain ⟨⟨ea, eb, ec⟩, vb, rfl⟩ := hq
    show WL Z mL _ _ (.int _ :: _) _
    rw [ea, eb, ec]
    have eL : L = L2 := hl.symm
    have hMN2 := hMN
    rw [eL] at hMN2
    obtain ⟨eB, eS, eD⟩ := hbr
    rw [eB, eS] at hXR1
    rw [eS] at hXK1
    have hMR2 : MR (gM Z) Bz Sz Y.2.1 Y.2.2.1 := hMR
    have hMD2 : MDS (gM Z) D2 Y.2.1 := by rw [eD]; exact hMD
    have hBT2 := hBz
    have hTG2 := hTG
    refine WL_pop dL_law_569 rfl ?_
    refine WL_goto 1375 dL_law_570 rfl ?_
    exact hk _ L2 ⟨hR1, hX1, hrm, hMN2, Bz, Sz, D2, hBT2, hTG2, ⟨hXR1, hXD1, hXK1⟩, hMR2, hMD2⟩
  rcases hT with ⟨h5, h0⟩ | ⟨h5, h0⟩
  · have hW := TWX_at ly_X hXR.2 (p := 6) (by decide) h5
    refine WL_aload_n dL_law_510 rfl ?_
    refine WL_aload_n dL_law_511 rfl ?_
    refine WL_iload_n dL_law_512 rfl ?_
    refine WL_iconst (1) dL_law_513 rfl ?_
    refine WL_iadd dL_law_514 ?_
    refine WL_sld dL_law_515 (L_in hi h4 (1) (by decide)) ?_
    refine WL_aload_n dL_law_516 rfl ?_
    refine WL_iload_n dL_law_517 rfl ?_
    refine WL_iconst (2) dL_law_518 rfl ?_
    refine WL_iadd dL_law_519 ?_
    refine WL_sld dL_law_520 (L_in hi h4 (2) (by decide)) ?_
    refine WL_aload_n dL_law_521 rfl ?_
    refine WL_iload_n dL_law_522 rfl ?_
    refine WL_iconst (3) dL_law_523 rfl ?_
    refine WL_iadd dL_law_524 ?_
    refine WL_sld dL_law_525 (L_in hi h4 (3) (by decide)) ?_
    refine WL_aload_n dL_law_526 rfl ?_
    refine WL_iload_n dL_law_527 rfl ?_
    refine WL_iconst (4) dL_law_528 rfl ?_
    refine WL_iadd dL_law_529 ?_
    refine WL_sld dL_law_530 (L_in hi h4 (4) (by decide)) ?_
    refine WL_aload_n dL_law_531 rfl ?_
    refine WL_iload_n dL_law_532 rfl ?_
    refine WL_iconst (5) dL_law_533 rfl ?_
    refine WL_iadd dL_law_534 ?_
    refine WL_sld dL_law_535 (L_in hi h4 (5) (by decide)) ?_
    have h := sx_may_6 (g := gX Z) (J := Y.1.2.1) ly_X hr h5  hXN (z_x Z (i + 1).toNatClampNeg) (z_x Z (i + 2).toNatClampNeg) (z_x Z (i + 3).toNatClampNeg) (z_x Z (i + 4).toNatClampNeg) (z_x Z (i + 5).toNatClampNeg)
    rw [ad_X] at h
    refine WL_callX5 dL_law_536 wX10_may h (Nat.le_of_ble_eq_true rfl) (fun r I1 J1 R1 hq => ?_)
    obtain ⟨⟨hIa, ec, fia, fja⟩, va, rfl⟩ := hq
    show WL Z mL _ _ (.int _ :: _) _
    rw [ec]
    exact nxt L _ _ _ _ Bz Sz Dz ⟨hr, (Or.inl ⟨h5, h0⟩), hP⟩ hIa ⟨fun q hq => by rw [fz_at fia 2 (by decide) (by decide)]; exact hXR.1 q hq, TWX_of (p := 6) (by decide) h5 (RTW_fz hW hTG.1 fia fja (by decide) (by decide))⟩ (XDS_fz hXD fia (by decide)) (XK_fz hXK fia (by decide)) rfl ⟨rfl, rfl, rfl⟩
  · have hW := TWX_at ly_X hXR.2 (p := 27) (by decide) h5
    refine WL_aload_n dL_law_510 rfl ?_
    refine WL_aload_n dL_law_511 rfl ?_
    refine WL_iload_n dL_law_512 rfl ?_
    refine WL_iconst (1) dL_law_513 rfl ?_
    refine WL_iadd dL_law_514 ?_
    refine WL_sld dL_law_515 (L_in hi h4 (1) (by decide)) ?_
    refine WL_aload_n dL_law_516 rfl ?_
    refine WL_iload_n dL_law_517 rfl ?_
    refine WL_iconst (2) dL_law_518 rfl ?_
    refine WL_iadd dL_law_519 ?_
    refine WL_sld dL_law_520 (L_in hi h4 (2) (by decide)) ?_
    refine WL_aload_n dL_law_521 rfl ?_
    refine WL_iload_n dL_law_522 rfl ?_
    refine WL_iconst (3) dL_law_523 rfl ?_
    refine WL_iadd dL_law_524 ?_
    refine WL_sld dL_law_525 (L_in hi h4 (3) (by decide)) ?_
    refine WL_aload_n dL_law_526 rfl ?_
    refine WL_iload_n dL_law_527 rfl ?_
    refine WL_iconst (4) dL_law_528 rfl ?_
    refine WL_iadd dL_law_529 ?_
    refine WL_sld dL_law_530 (L_in hi h4 (4) (by decide)) ?_
    refine WL_aload_n dL_law_531 rfl ?_
    refine WL_iload_n dL_law_532 rfl ?_
    refine WL_iconst (5) dL_law_533 rfl ?_
    refine WL_iadd dL_law_534 ?_
    refine WL_sld dL_law_535 (L_in hi h4 (5) (by decide)) ?_
    have h := sx_may_27 (g := gX Z) (J := Y.1.2.1) ly_X hr h5  hXN (z_x Z (i + 1).toNatClampNeg) (z_x Z (i + 2).toNatClampNeg) (z_x Z (i + 3).toNatClampNeg) (z_x Z (i + 4).toNatClampNeg) (z_x Z (i + 5).toNatClampNeg)
    rw [ad_X] at h
    refine WL_callX5 dL_law_536 wX10_may h (Nat.le_of_ble_eq_true rfl) (fun r I1 J1 R1 hq => ?_)
    obtain ⟨⟨hIa, ec, fia, fja⟩, va, rfl⟩ := hq
    show WL Z mL _ _ (.int _ :: _) _
    rw [ec]
    exact nxt L _ _ _ _ Bz Sz Dz ⟨hr, (Or.inr ⟨h5, h0⟩), hP⟩ hIa ⟨fun q hq => by rw [fz_at fia 2 (by decide) (by decide)]; exact hXR.1 q hq, TWX_of (p := 27) (by decide) h5 (RTW_fz hW hTG.1 fia fja (by decide) (by decide))⟩ (XDS_fz hXD fia (by decide)) (XK_fz hXK fia (by decide)) rfl ⟨rfl, rfl, rfl⟩
set_option maxHeartbeats 4000000 in
set_option maxRecDepth 100000 in
theorem L_best {Z : LB} {i : Int32} {Y : YY} {n : Int} {L : Int32} (hi : 0 ≤ i.toInt ∧ i.toInt + 8 ≤ (z_L Z : Int)) (h4 : z_L Z ≤ 4096) (hn : 0 ≤ n ∧ n ≤ 39000) (hV : IV Z n L Y) (hk : ∀ (Y2 : YY) (L2 : Int32), IV Z (n + 70) L2 Y2 → WL Z mL 1375 [(0, .ref (z_b Z)), (1, .ref (z_h Z + 0)), (2, .ref (z_h Z + 74 + 0)), (3, .int i)] [] Y2) : WL Z mL 573 [(0, .ref (z_b Z)), (1, .ref (z_h Z + 0)), (2, .ref (z_h Z + 74 + 0)), (3, .int i)] [] Y := by
  obtain ⟨⟨hr, hT, hP⟩, hX, hrm, hM, Bz, Sz, Dz, hBz, hTG, ⟨hXR, hXD, hXK⟩, hMR, hMD⟩ := hV
  have hXN := xi_mono hX (show n ≤ n + 70 by omega)
  have hMN := mp_mono hM (show n ≤ n + 70 by omega)
  have hLb := BT_get hX.1 1 1 2 0 0 900 (by decide) 1 (by decide) (by decide)
  rw [hX.2] at hLb
  have hDb := BT_get hM.1.1 38 33 34 0 1 0 (by decide) 33 (by decide) (by decide)
  rw [hMD.1] at hDb
  have hD0 : 0 ≤ Dz.1.toInt := by omega
  have nxt : ∀ (L2 v : Int32) (I1 : pI) (J1 : pJ) (R1 : pR) (B2 : Nat → Int32) (S2 : TwS) (D2 : DS), (RfX (gX Z) R1 ∧ TS (gX Z) R1 ∧ NL (gX Z) R1) → XI (gX Z) (n + 70) L2 I1 → XR (gX Z) B2 S2 I1 J1 R1 → XDS (gX Z) D2 I1 → XK (gX Z) S2 I1 → (L2 = L) → (B2 = Bz ∧ S2 = Sz ∧ D2 = Dz) → WL Z mL 602 [(0, .ref (z_b Z)), (1, .ref (z_h Z + 0)), (2, .ref (z_h Z + 74 + 0)), (3, .int i)] [.int v] ((I1, J1, R1), Y.2) := by
    intro L2 v I1 J1 R1 B2 S2 D2 hR1 hX1 hXR1 hXD1 hXK1 hl hbr
    refine WL_pop dL_law_602 rfl ?_
    refine WL_aload_n dL_law_603 rfl ?_
    refine WL_aload_n dL_law_604 rfl ?_
    refine WL_iload_n dL_law_605 rfl ?_
    refine WL_iconst (1) dL_law_606 rfl ?_
    refine WL_iadd dL_law_607 ?_
    refine WL_sld dL_law_608 (L_in hi h4 (1) (by decide)) ?_
    refine WL_aload_n dL_law_609 rfl ?_
    refine WL_iload_n dL_law_610 rfl ?_
    refine WL_iconst (2) dL_law_611 rfl ?_
    refine WL_iadd dL_law_612 ?_
    refine WL_sld dL_law_613 (L_in hi h4 (2) (by decide)) ?_
    refine WL_aload_n dL_law_614 rfl ?_
    refine WL_iload_n dL_law_615 rfl ?_
    refine WL_iconst (3) dL_law_616 rfl ?_
    refine WL_iadd dL_law_617 ?_
    refine WL_sld dL_law_618 (L_in hi h4 (3) (by decide)) ?_
    refine WL_aload_n dL_law_619 rfl ?_
    refine WL_iload_n dL_law_620 rfl ?_
    refine WL_iconst (4) dL_law_621 rfl ?_
    refine WL_iadd dL_law_622 ?_
    refine WL_sld dL_law_623 (L_in hi h4 (4) (by decide)) ?_
    refine WL_aload_n dL_law_624 rfl ?_
    refine WL_iload_n dL_law_625 rfl ?_
    refine WL_iconst (5) dL_law_626 rfl ?_
    refine WL_iadd dL_law_627 ?_
    refine WL_sld dL_law_628 (L_in hi h4 (5) (by decide)) ?_
    have h := sm_best (g := gM Z) (J := Y.2.2.1) ly_M hrm  hMN (z_x Z (i + 1).toNatClampNeg) (z_x Z (i + 2).toNatClampNeg) (z_x Z (i + 3).toNatClampNeg) (z_x Z (i + 4).toNatClampNeg) (z_x Z (i + 5).toNatClampNeg)
    rw [ad_M] at h
    refine WL_callM5 dL_law_629 wX11_best h (Nat.le_of_ble_eq_true rfl) (fun r I2 J2 R2 hq => ?_)
    obtain ⟨⟨hIb, ec, fib, fjb, fqb⟩, vb, rfl⟩ := hq
    show WL Z mL _ _ (.int _ :: _) _
    rw [ec]
    have eL : L = L2 := hl.symm
    rw [eL] at hIb
    obtain ⟨eB, eS, hdr⟩ := hbr
    rw [eB, eS] at hXR1
    rw [eS] at hXK1
    have hMR2 : MR (gM Z) Bz Sz I2 J2 := ⟨fun q hq => by rw [fz_at fib 1 (by decide) (by decide)]; exact hMR.1 q hq, RTT_fz hMR.2 hTG.1 fib fjb fqb (by decide) (by decide) (by decide)⟩
    have hBT2 := hBz
    have hTG2 := hTG
    have hMD2 : MDS (gM Z) D2 I2 := by rw [hdr]; exact MDS_fz hMD fib (by decide)
    refine WL_pop dL_law_632 rfl ?_
    refine WL_goto 1375 dL_law_633 rfl ?_
    exact hk _ L2 ⟨hR1, hX1, hrm, hIb, Bz, Sz, D2, hBT2, hTG2, ⟨hXR1, hXD1, hXK1⟩, hMR2, hMD2⟩
  rcases hT with ⟨h5, h0⟩ | ⟨h5, h0⟩
  · have hW := TWX_at ly_X hXR.2 (p := 6) (by decide) h5
    refine WL_aload_n dL_law_573 rfl ?_
    refine WL_aload_n dL_law_574 rfl ?_
    refine WL_iload_n dL_law_575 rfl ?_
    refine WL_iconst (1) dL_law_576 rfl ?_
    refine WL_iadd dL_law_577 ?_
    refine WL_sld dL_law_578 (L_in hi h4 (1) (by decide)) ?_
    refine WL_aload_n dL_law_579 rfl ?_
    refine WL_iload_n dL_law_580 rfl ?_
    refine WL_iconst (2) dL_law_581 rfl ?_
    refine WL_iadd dL_law_582 ?_
    refine WL_sld dL_law_583 (L_in hi h4 (2) (by decide)) ?_
    refine WL_aload_n dL_law_584 rfl ?_
    refine WL_iload_n dL_law_585 rfl ?_
    refine WL_iconst (3) dL_law_586 rfl ?_
    refine WL_iadd dL_law_587 ?_
    refine WL_sld dL_law_588 (L_in hi h4 (3) (by decide)) ?_
    refine WL_aload_n dL_law_589 rfl ?_
    refine WL_iload_n dL_law_590 rfl ?_
    refine WL_iconst (4) dL_law_591 rfl ?_
    refine WL_iadd dL_law_592 ?_
    refine WL_sld dL_law_593 (L_in hi h4 (4) (by decide)) ?_
    refine WL_aload_n dL_law_594 rfl ?_
    refine WL_iload_n dL_law_595 rfl ?_
    refine WL_iconst (5) dL_law_596 rfl ?_
    refine WL_iadd dL_law_597 ?_
    refine WL_sld dL_law_598 (L_in hi h4 (5) (by decide)) ?_
    have h := sx_best_6 (g := gX Z) (J := Y.1.2.1) ly_X hr hP h5  hXN (z_x Z (i + 1).toNatClampNeg) (z_x Z (i + 2).toNatClampNeg) (z_x Z (i + 3).toNatClampNeg) (z_x Z (i + 4).toNatClampNeg) (z_x Z (i + 5).toNatClampNeg)
    rw [ad_X] at h
    refine WL_callX5 dL_law_599 wX10_best h (Nat.le_of_ble_eq_true rfl) (fun r I1 J1 R1 hq => ?_)
    obtain ⟨⟨hIa, ⟨hra, ⟨hta, hsa⟩, hpa⟩, fia, fja⟩, va, rfl⟩ := hq
    show WL Z mL _ _ (.int _ :: _) _
    exact nxt L _ _ _ _ Bz Sz Dz ⟨hra, Or.inl ⟨hta.trans h5, hsa.trans h0⟩, hpa⟩ hIa ⟨fun q hq => by rw [fz_at fia 2 (by decide) (by decide)]; exact hXR.1 q hq, TWX_of (p := 6) (by decide) (hta.trans h5) (RTW_fz hW hTG.1 fia fja (by decide) (by decide))⟩ (XDS_fz hXD fia (by decide)) (XK_fz hXK fia (by decide)) rfl ⟨rfl, rfl, rfl⟩
  · have hW := TWX_at ly_X hXR.2 (p := 27) (by decide) h5
    refine WL_aload_n dL_law_573 rfl ?_
    refine WL_aload_n dL_law_574 rfl ?_
    refine WL_iload_n dL_law_575 rfl ?_
    refine WL_iconst (1) dL_law_576 rfl ?_
    refine WL_iadd dL_law_577 ?_
    refine WL_sld dL_law_578 (L_in hi h4 (1) (by decide)) ?_
    refine WL_aload_n dL_law_579 rfl ?_
    refine WL_iload_n dL_law_580 rfl ?_
    refine WL_iconst (2) dL_law_581 rfl ?_
    refine WL_iadd dL_law_582 ?_
    refine WL_sld dL_law_583 (L_in hi h4 (2) (by decide)) ?_
    refine WL_aload_n dL_law_584 rfl ?_
    refine WL_iload_n dL_law_585 rfl ?_
    refine WL_iconst (3) dL_law_586 rfl ?_
    refine WL_iadd dL_law_587 ?_
    refine WL_sld dL_law_588 (L_in hi h4 (3) (by decide)) ?_
    refine WL_aload_n dL_law_589 rfl ?_
    refine WL_iload_n dL_law_590 rfl ?_
    refine WL_iconst (4) dL_law_591 rfl ?_
    refine WL_iadd dL_law_592 ?_
    refine WL_sld dL_law_593 (L_in hi h4 (4) (by decide)) ?_
    refine WL_aload_n dL_law_594 rfl ?_
    refine WL_iload_n dL_law_595 rfl ?_
    refine WL_iconst (5) dL_law_596 rfl ?_
    refine WL_iadd dL_law_597 ?_
    refine WL_sld dL_law_598 (L_in hi h4 (5) (by decide)) ?_
    have h := sx_best_27 (g := gX Z) (J := Y.1.2.1) ly_X hr hP h5  hXN (z_x Z (i + 1).toNatClampNeg) (z_x Z (i + 2).toNatClampNeg) (z_x Z (i + 3).toNatClampNeg) (z_x Z (i + 4).toNatClampNeg) (z_x Z (i + 5).toNatClampNeg)
    rw [ad_X] at h
    refine WL_callX5 dL_law_599 wX10_best h (Nat.le_of_ble_eq_true rfl) (fun r I1 J1 R1 hq => ?_)
    obtain ⟨⟨hIa, ⟨hra, ⟨hta, hsa⟩, hpa⟩, fia, fja⟩, va, rfl⟩ := hq
    show WL Z mL _ _ (.int _ :: _) _
    exact nxt L _ _ _ _ Bz Sz Dz ⟨hra, Or.inr ⟨hta.trans h5, hsa.trans h0⟩, hpa⟩ hIa ⟨fun q hq => by rw [fz_at fia 2 (by decide) (by decide)]; exact hXR.1 q hq, TWX_of (p := 27) (by decide) (hta.trans h5) (RTW_fz hW hTG.1 fia fja (by decide) (by decide))⟩ (XDS_fz hXD fia (by decide)) (XK_fz hXK fia (by decide)) rfl ⟨rfl, rfl, rfl⟩
set_option maxHeartbeats 4000000 in
set_option maxRecDepth 100000 in
theorem L_bestAct {Z : LB} {i : Int32} {Y : YY} {n : Int} {L : Int32} (hi : 0 ≤ i.toInt ∧ i.toInt + 8 ≤ (z_L Z : Int)) (h4 : z_L Z ≤ 4096) (hn : 0 ≤ n ∧ n ≤ 39000) (hV : IV Z n L Y) (hk : ∀ (Y2 : YY) (L2 : Int32), IV Z (n + 70) L2 Y2 → WL Z mL 1375 [(0, .ref (z_b Z)), (1, .ref (z_h Z + 0)), (2, .ref (z_h Z + 74 + 0)), (3, .int i)] [] Y2) : WL Z mL 636 [(0, .ref (z_b Z)), (1, .ref (z_h Z + 0)), (2, .ref (z_h Z + 74 + 0)), (3, .int i)] [] Y := by
  obtain ⟨⟨hr, hT, hP⟩, hX, hrm, hM, Bz, Sz, Dz, hBz, hTG, ⟨hXR, hXD, hXK⟩, hMR, hMD⟩ := hV
  have hXN := xi_mono hX (show n ≤ n + 70 by omega)
  have hMN := mp_mono hM (show n ≤ n + 70 by omega)
  have hLb := BT_get hX.1 1 1 2 0 0 900 (by decide) 1 (by decide) (by decide)
  rw [hX.2] at hLb
  have hDb := BT_get hM.1.1 38 33 34 0 1 0 (by decide) 33 (by decide) (by decide)
  rw [hMD.1] at hDb
  have hD0 : 0 ≤ Dz.1.toInt := by omega
  have nxt : ∀ (L2 v : Int32) (I1 : pI) (J1 : pJ) (R1 : pR) (B2 : Nat → Int32) (S2 : TwS) (D2 : DS), (RfX (gX Z) R1 ∧ TS (gX Z) R1 ∧ NL (gX Z) R1) → XI (gX Z) (n + 70) L2 I1 → XR (gX Z) B2 S2 I1 J1 R1 → XDS (gX Z) D2 I1 → XK (gX Z) S2 I1 → (L2 = L) → (B2 = Bz ∧ S2 = Sz ∧ D2 = Dz) → WL Z mL 665 [(0, .ref (z_b Z)), (1, .ref (z_h Z + 0)), (2, .ref (z_h Z + 74 + 0)), (3, .int i)] [.int v] ((I1, J1, R1), Y.2) := by
    intro L2 v I1 J1 R1 B2 S2 D2 hR1 hX1 hXR1 hXD1 hXK1 hl hbr
    refine WL_pop dL_law_665 rfl ?_
    refine WL_aload_n dL_law_666 rfl ?_
    refine WL_aload_n dL_law_667 rfl ?_
    refine WL_iload_n dL_law_668 rfl ?_
    refine WL_iconst (1) dL_law_669 rfl ?_
    refine WL_iadd dL_law_670 ?_
    refine WL_sld dL_law_671 (L_in hi h4 (1) (by decide)) ?_
    refine WL_aload_n dL_law_672 rfl ?_
    refine WL_iload_n dL_law_673 rfl ?_
    refine WL_iconst (2) dL_law_674 rfl ?_
    refine WL_iadd dL_law_675 ?_
    refine WL_sld dL_law_676 (L_in hi h4 (2) (by decide)) ?_
    refine WL_aload_n dL_law_677 rfl ?_
    refine WL_iload_n dL_law_678 rfl ?_
    refine WL_iconst (3) dL_law_679 rfl ?_
    refine WL_iadd dL_law_680 ?_
    refine WL_sld dL_law_681 (L_in hi h4 (3) (by decide)) ?_
    refine WL_aload_n dL_law_682 rfl ?_
    refine WL_iload_n dL_law_683 rfl ?_
    refine WL_iconst (4) dL_law_684 rfl ?_
    refine WL_iadd dL_law_685 ?_
    refine WL_sld dL_law_686 (L_in hi h4 (4) (by decide)) ?_
    refine WL_aload_n dL_law_687 rfl ?_
    refine WL_iload_n dL_law_688 rfl ?_
    refine WL_iconst (5) dL_law_689 rfl ?_
    refine WL_iadd dL_law_690 ?_
    refine WL_sld dL_law_691 (L_in hi h4 (5) (by decide)) ?_
    have h := sm_bestAct (g := gM Z) (J := Y.2.2.1) ly_M hrm  hMN (z_x Z (i + 1).toNatClampNeg) (z_x Z (i + 2).toNatClampNeg) (z_x Z (i + 3).toNatClampNeg) (z_x Z (i + 4).toNatClampNeg) (z_x Z (i + 5).toNatClampNeg)
    rw [ad_M] at h
    refine WL_callM5 dL_law_692 wX11_bestAct h (Nat.le_of_ble_eq_true rfl) (fun r I2 J2 R2 hq => ?_)
    obtain ⟨⟨hIb, ec, fib, fjb, fqb⟩, vb, rfl⟩ := hq
    show WL Z mL _ _ (.int _ :: _) _
    rw [ec]
    have eL : L = L2 := hl.symm
    rw [eL] at hIb
    obtain ⟨eB, eS, hdr⟩ := hbr
    rw [eB, eS] at hXR1
    rw [eS] at hXK1
    have hMR2 : MR (gM Z) Bz Sz I2 J2 := ⟨fun q hq => by rw [fz_at fib 1 (by decide) (by decide)]; exact hMR.1 q hq, RTT_fz hMR.2 hTG.1 fib fjb fqb (by decide) (by decide) (by decide)⟩
    have hBT2 := hBz
    have hTG2 := hTG
    have hMD2 : MDS (gM Z) D2 I2 := by rw [hdr]; exact MDS_fz hMD fib (by decide)
    refine WL_pop dL_law_695 rfl ?_
    refine WL_goto 1375 dL_law_696 rfl ?_
    exact hk _ L2 ⟨hR1, hX1, hrm, hIb, Bz, Sz, D2, hBT2, hTG2, ⟨hXR1, hXD1, hXK1⟩, hMR2, hMD2⟩
  rcases hT with ⟨h5, h0⟩ | ⟨h5, h0⟩
  · have hW := TWX_at ly_X hXR.2 (p := 6) (by decide) h5
    refine WL_aload_n dL_law_636 rfl ?_
    refine WL_aload_n dL_law_637 rfl ?_
    refine WL_iload_n dL_law_638 rfl ?_
    refine WL_iconst (1) dL_law_639 rfl ?_
    refine WL_iadd dL_law_640 ?_
    refine WL_sld dL_law_641 (L_in hi h4 (1) (by decide)) ?_
    refine WL_aload_n dL_law_642 rfl ?_
    refine WL_iload_n dL_law_643 rfl ?_
    refine WL_iconst (2) dL_law_644 rfl ?_
    refine WL_iadd dL_law_645 ?_
    refine WL_sld dL_law_646 (L_in hi h4 (2) (by decide)) ?_
    refine WL_aload_n dL_law_647 rfl ?_
    refine WL_iload_n dL_law_648 rfl ?_
    refine WL_iconst (3) dL_law_649 rfl ?_
    refine WL_iadd dL_law_650 ?_
    refine WL_sld dL_law_651 (L_in hi h4 (3) (by decide)) ?_
    refine WL_aload_n dL_law_652 rfl ?_
    refine WL_iload_n dL_law_653 rfl ?_
    refine WL_iconst (4) dL_law_654 rfl ?_
    refine WL_iadd dL_law_655 ?_
    refine WL_sld dL_law_656 (L_in hi h4 (4) (by decide)) ?_
    refine WL_aload_n dL_law_657 rfl ?_
    refine WL_iload_n dL_law_658 rfl ?_
    refine WL_iconst (5) dL_law_659 rfl ?_
    refine WL_iadd dL_law_660 ?_
    refine WL_sld dL_law_661 (L_in hi h4 (5) (by decide)) ?_
    have h := sx_bestAct_6 (g := gX Z) (J := Y.1.2.1) ly_X hr hP h5  hXN (z_x Z (i + 1).toNatClampNeg) (z_x Z (i + 2).toNatClampNeg) (z_x Z (i + 3).toNatClampNeg) (z_x Z (i + 4).toNatClampNeg) (z_x Z (i + 5).toNatClampNeg)
    rw [ad_X] at h
    refine WL_callX5 dL_law_662 wX10_bestAct h (Nat.le_of_ble_eq_true rfl) (fun r I1 J1 R1 hq => ?_)
    obtain ⟨⟨hIa, ⟨hra, ⟨hta, hsa⟩, hpa⟩, fia, fja⟩, va, rfl⟩ := hq
    show WL Z mL _ _ (.int _ :: _) _
    exact nxt L _ _ _ _ Bz Sz Dz ⟨hra, Or.inl ⟨hta.trans h5, hsa.trans h0⟩, hpa⟩ hIa ⟨fun q hq => by rw [fz_at fia 2 (by decide) (by decide)]; exact hXR.1 q hq, TWX_of (p := 6) (by decide) (hta.trans h5) (RTW_fz hW hTG.1 fia fja (by decide) (by decide))⟩ (XDS_fz hXD fia (by decide)) (XK_fz hXK fia (by decide)) rfl ⟨rfl, rfl, rfl⟩
  · have hW := TWX_at ly_X hXR.2 (p := 27) (by decide) h5
    refine WL_aload_n dL_law_636 rfl ?_
    refine WL_aload_n dL_law_637 rfl ?_
    refine WL_iload_n dL_law_638 rfl ?_
    refine WL_iconst (1) dL_law_639 rfl ?_
    refine WL_iadd dL_law_640 ?_
    refine WL_sld dL_law_641 (L_in hi h4 (1) (by decide)) ?_
    refine WL_aload_n dL_law_642 rfl ?_
    refine WL_iload_n dL_law_643 rfl ?_
    refine WL_iconst (2) dL_law_644 rfl ?_
    refine WL_iadd dL_law_645 ?_
    refine WL_sld dL_law_646 (L_in hi h4 (2) (by decide)) ?_
    refine WL_aload_n dL_law_647 rfl ?_
    refine WL_iload_n dL_law_648 rfl ?_
    refine WL_iconst (3) dL_law_649 rfl ?_
    refine WL_iadd dL_law_650 ?_
    refine WL_sld dL_law_651 (L_in hi h4 (3) (by decide)) ?_
    refine WL_aload_n dL_law_652 rfl ?_
    refine WL_iload_n dL_law_653 rfl ?_
    refine WL_iconst (4) dL_law_654 rfl ?_
    refine WL_iadd dL_law_655 ?_
    refine WL_sld dL_law_656 (L_in hi h4 (4) (by decide)) ?_
    refine WL_aload_n dL_law_657 rfl ?_
    refine WL_iload_n dL_law_658 rfl ?_
    refine WL_iconst (5) dL_law_659 rfl ?_
    refine WL_iadd dL_law_660 ?_
    refine WL_sld dL_law_661 (L_in hi h4 (5) (by decide)) ?_
    have h := sx_bestAct_27 (g := gX Z) (J := Y.1.2.1) ly_X hr hP h5  hXN (z_x Z (i + 1).toNatClampNeg) (z_x Z (i + 2).toNatClampNeg) (z_x Z (i + 3).toNatClampNeg) (z_x Z (i + 4).toNatClampNeg) (z_x Z (i + 5).toNatClampNeg)
    rw [ad_X] at h
    refine WL_callX5 dL_law_662 wX10_bestAct h (Nat.le_of_ble_eq_true rfl) (fun r I1 J1 R1 hq => ?_)
    obtain ⟨⟨hIa, ⟨hra, ⟨hta, hsa⟩, hpa⟩, fia, fja⟩, va, rfl⟩ := hq
    show WL Z mL _ _ (.int _ :: _) _
    exact nxt L _ _ _ _ Bz Sz Dz ⟨hra, Or.inr ⟨hta.trans h5, hsa.trans h0⟩, hpa⟩ hIa ⟨fun q hq => by rw [fz_at fia 2 (by decide) (by decide)]; exact hXR.1 q hq, TWX_of (p := 27) (by decide) (hta.trans h5) (RTW_fz hW hTG.1 fia fja (by decide) (by decide))⟩ (XDS_fz hXD fia (by decide)) (XK_fz hXK fia (by decide)) rfl ⟨rfl, rfl, rfl⟩
set_option maxHeartbeats 4000000 in
set_option maxRecDepth 100000 in
theorem L_wayAct {Z : LB} {i : Int32} {Y : YY} {n : Int} {L : Int32} (hi : 0 ≤ i.toInt ∧ i.toInt + 8 ≤ (z_L Z : Int)) (h4 : z_L Z ≤ 4096) (hn : 0 ≤ n ∧ n ≤ 39000) (hV : IV Z n L Y) (hk : ∀ (Y2 : YY) (L2 : Int32), IV Z (n + 70) L2 Y2 → WL Z mL 1375 [(0, .ref (z_b Z)), (1, .ref (z_h Z + 0)), (2, .ref (z_h Z + 74 + 0)), (3, .int i)] [] Y2) : WL Z mL 699 [(0, .ref (z_b Z)), (1, .ref (z_h Z + 0)), (2, .ref (z_h Z + 74 + 0)), (3, .int i)] [] Y := by
  obtain ⟨⟨hr, hT, hP⟩, hX, hrm, hM, Bz, Sz, Dz, hBz, hTG, ⟨hXR, hXD, hXK⟩, hMR, hMD⟩ := hV
  have hXN := xi_mono hX (show n ≤ n + 70 by omega)
  have hMN := mp_mono hM (show n ≤ n + 70 by omega)
  have hLb := BT_get hX.1 1 1 2 0 0 900 (by decide) 1 (by decide) (by decide)
  rw [hX.2] at hLb
  have hDb := BT_get hM.1.1 38 33 34 0 1 0 (by decide) 33 (by decide) (by decide)
  rw [hMD.1] at hDb
  have hD0 : 0 ≤ Dz.1.toInt := by omega
  have nxt : ∀ (L2 v : Int32) (I1 : pI) (J1 : pJ) (R1 : pR) (B2 : Nat → Int32) (S2 : TwS) (D2 : DS), (RfX (gX Z) R1 ∧ TS (gX Z) R1 ∧ NL (gX Z) R1) → XI (gX Z) (n + 70) L2 I1 → XR (gX Z) B2 S2 I1 J1 R1 → XDS (gX Z) D2 I1 → XK (gX Z) S2 I1 → (L2 = L) → (B2 = Bz ∧ S2 = Sz ∧ D2 = Dz) → WL Z mL 728 [(0, .ref (z_b Z)), (1, .ref (z_h Z + 0)), (2, .ref (z_h Z + 74 + 0)), (3, .int i)] [.int v] ((I1, J1, R1), Y.2) := by
    intro L2 v I1 J1 R1 B2 S2 D2 hR1 hX1 hXR1 hXD1 hXK1 hl hbr
    refine WL_pop dL_law_728 rfl ?_
    refine WL_aload_n dL_law_729 rfl ?_
    refine WL_aload_n dL_law_730 rfl ?_
    refine WL_iload_n dL_law_731 rfl ?_
    refine WL_iconst (1) dL_law_732 rfl ?_
    refine WL_iadd dL_law_733 ?_
    refine WL_sld dL_law_734 (L_in hi h4 (1) (by decide)) ?_
    refine WL_aload_n dL_law_735 rfl ?_
    refine WL_iload_n dL_law_736 rfl ?_
    refine WL_iconst (2) dL_law_737 rfl ?_
    refine WL_iadd dL_law_738 ?_
    refine WL_sld dL_law_739 (L_in hi h4 (2) (by decide)) ?_
    refine WL_aload_n dL_law_740 rfl ?_
    refine WL_iload_n dL_law_741 rfl ?_
    refine WL_iconst (3) dL_law_742 rfl ?_
    refine WL_iadd dL_law_743 ?_
    refine WL_sld dL_law_744 (L_in hi h4 (3) (by decide)) ?_
    refine WL_aload_n dL_law_745 rfl ?_
    refine WL_iload_n dL_law_746 rfl ?_
    refine WL_iconst (4) dL_law_747 rfl ?_
    refine WL_iadd dL_law_748 ?_
    refine WL_sld dL_law_749 (L_in hi h4 (4) (by decide)) ?_
    refine WL_aload_n dL_law_750 rfl ?_
    refine WL_iload_n dL_law_751 rfl ?_
    refine WL_iconst (5) dL_law_752 rfl ?_
    refine WL_iadd dL_law_753 ?_
    refine WL_sld dL_law_754 (L_in hi h4 (5) (by decide)) ?_
    have h := sm_wayAct (g := gM Z) (J := Y.2.2.1) ly_M hrm  hMN (z_x Z (i + 1).toNatClampNeg) (z_x Z (i + 2).toNatClampNeg) (z_x Z (i + 3).toNatClampNeg) (z_x Z (i + 4).toNatClampNeg) (z_x Z (i + 5).toNatClampNeg)
    rw [ad_M] at h
    refine WL_callM5 dL_law_755 wX11_wayAct h (Nat.le_of_ble_eq_true rfl) (fun r I2 J2 R2 hq => ?_)
    obtain ⟨⟨hIb, ec, fib, fjb, fqb⟩, vb, rfl⟩ := hq
    show WL Z mL _ _ (.int _ :: _) _
    rw [ec]
    have eL : L = L2 := hl.symm
    rw [eL] at hIb
    obtain ⟨eB, eS, hdr⟩ := hbr
    rw [eB, eS] at hXR1
    rw [eS] at hXK1
    have hMR2 : MR (gM Z) Bz Sz I2 J2 := ⟨fun q hq => by rw [fz_at fib 1 (by decide) (by decide)]; exact hMR.1 q hq, RTT_fz hMR.2 hTG.1 fib fjb fqb (by decide) (by decide) (by decide)⟩
    have hBT2 := hBz
    have hTG2 := hTG
    have hMD2 : MDS (gM Z) D2 I2 := by rw [hdr]; exact MDS_fz hMD fib (by decide)
    refine WL_pop dL_law_758 rfl ?_
    refine WL_goto 1375 dL_law_759 rfl ?_
    exact hk _ L2 ⟨hR1, hX1, hrm, hIb, Bz, Sz, D2, hBT2, hTG2, ⟨hXR1, hXD1, hXK1⟩, hMR2, hMD2⟩
  rcases hT with ⟨h5, h0⟩ | ⟨h5, h0⟩
  · have hW := TWX_at ly_X hXR.2 (p := 6) (by decide) h5
    refine WL_aload_n dL_law_699 rfl ?_
    refine WL_aload_n dL_law_700 rfl ?_
    refine WL_iload_n dL_law_701 rfl ?_
    refine WL_iconst (1) dL_law_702 rfl ?_
    refine WL_iadd dL_law_703 ?_
    refine WL_sld dL_law_704 (L_in hi h4 (1) (by decide)) ?_
    refine WL_aload_n dL_law_705 rfl ?_
    refine WL_iload_n dL_law_706 rfl ?_
    refine WL_iconst (2) dL_law_707 rfl ?_
    refine WL_iadd dL_law_708 ?_
    refine WL_sld dL_law_709 (L_in hi h4 (2) (by decide)) ?_
    refine WL_aload_n dL_law_710 rfl ?_
    refine WL_iload_n dL_law_711 rfl ?_
    refine WL_iconst (3) dL_law_712 rfl ?_
    refine WL_iadd dL_law_713 ?_
    refine WL_sld dL_law_714 (L_in hi h4 (3) (by decide)) ?_
    refine WL_aload_n dL_law_715 rfl ?_
    refine WL_iload_n dL_law_716 rfl ?_
    refine WL_iconst (4) dL_law_717 rfl ?_
    refine WL_iadd dL_law_718 ?_
    refine WL_sld dL_law_719 (L_in hi h4 (4) (by decide)) ?_
    refine WL_aload_n dL_law_720 rfl ?_
    refine WL_iload_n dL_law_721 rfl ?_
    refine WL_iconst (5) dL_law_722 rfl ?_
    refine WL_iadd dL_law_723 ?_
    refine WL_sld dL_law_724 (L_in hi h4 (5) (by decide)) ?_
    have h := sx_wayAct_6 (g := gX Z) (J := Y.1.2.1) ly_X hr hP h5  hXN (z_x Z (i + 1).toNatClampNeg) (z_x Z (i + 2).toNatClampNeg) (z_x Z (i + 3).toNatClampNeg) (z_x Z (i + 4).toNatClampNeg) (z_x Z (i + 5).toNatClampNeg)
    rw [ad_X] at h
    refine WL_callX5 dL_law_725 wX10_wayAct h (Nat.le_of_ble_eq_true rfl) (fun r I1 J1 R1 hq => ?_)
    obtain ⟨⟨hIa, ⟨hra, ⟨hta, hsa⟩, hpa⟩, fia, fja⟩, va, rfl⟩ := hq
    show WL Z mL _ _ (.int _ :: _) _
    exact nxt L _ _ _ _ Bz Sz Dz ⟨hra, Or.inl ⟨hta.trans h5, hsa.trans h0⟩, hpa⟩ hIa ⟨fun q hq => by rw [fz_at fia 2 (by decide) (by decide)]; exact hXR.1 q hq, TWX_of (p := 6) (by decide) (hta.trans h5) (RTW_fz hW hTG.1 fia fja (by decide) (by decide))⟩ (XDS_fz hXD fia (by decide)) (XK_fz hXK fia (by decide)) rfl ⟨rfl, rfl, rfl⟩
  · have hW := TWX_at ly_X hXR.2 (p := 27) (by decide) h5
    refine WL_aload_n dL_law_699 rfl ?_
    refine WL_aload_n dL_law_700 rfl ?_
    refine WL_iload_n dL_law_701 rfl ?_
    refine WL_iconst (1) dL_law_702 rfl ?_
    refine WL_iadd dL_law_703 ?_
    refine WL_sld dL_law_704 (L_in hi h4 (1) (by decide)) ?_
    refine WL_aload_n dL_law_705 rfl ?_
    refine WL_iload_n dL_law_706 rfl ?_
    refine WL_iconst (2) dL_law_707 rfl ?_
    refine WL_iadd dL_law_708 ?_
    refine WL_sld dL_law_709 (L_in hi h4 (2) (by decide)) ?_
    refine WL_aload_n dL_law_710 rfl ?_
    refine WL_iload_n dL_law_711 rfl ?_
    refine WL_iconst (3) dL_law_712 rfl ?_
    refine WL_iadd dL_law_713 ?_
    refine WL_sld dL_law_714 (L_in hi h4 (3) (by decide)) ?_
    refine WL_aload_n dL_law_715 rfl ?_
    refine WL_iload_n dL_law_716 rfl ?_
    refine WL_iconst (4) dL_law_717 rfl ?_
    refine WL_iadd dL_law_718 ?_
    refine WL_sld dL_law_719 (L_in hi h4 (4) (by decide)) ?_
    refine WL_aload_n dL_law_720 rfl ?_
    refine WL_iload_n dL_law_721 rfl ?_
    refine WL_iconst (5) dL_law_722 rfl ?_
    refine WL_iadd dL_law_723 ?_
    refine WL_sld dL_law_724 (L_in hi h4 (5) (by decide)) ?_
    have h := sx_wayAct_27 (g := gX Z) (J := Y.1.2.1) ly_X hr hP h5  hXN (z_x Z (i + 1).toNatClampNeg) (z_x Z (i + 2).toNatClampNeg) (z_x Z (i + 3).toNatClampNeg) (z_x Z (i + 4).toNatClampNeg) (z_x Z (i + 5).toNatClampNeg)
    rw [ad_X] at h
    refine WL_callX5 dL_law_725 wX10_wayAct h (Nat.le_of_ble_eq_true rfl) (fun r I1 J1 R1 hq => ?_)
    obtain ⟨⟨hIa, ⟨hra, ⟨hta, hsa⟩, hpa⟩, fia, fja⟩, va, rfl⟩ := hq
    show WL Z mL _ _ (.int _ :: _) _
    exact nxt L _ _ _ _ Bz Sz Dz ⟨hra, Or.inr ⟨hta.trans h5, hsa.trans h0⟩, hpa⟩ hIa ⟨fun q hq => by rw [fz_at fia 2 (by decide) (by decide)]; exact hXR.1 q hq, TWX_of (p := 27) (by decide) (hta.trans h5) (RTW_fz hW hTG.1 fia fja (by decide) (by decide))⟩ (XDS_fz hXD fia (by decide)) (XK_fz hXK fia (by decide)) rfl ⟨rfl, rfl, rfl⟩
set_option maxHeartbeats 4000000 in
set_option maxRecDepth 100000 in
theorem L_way {Z : LB} {i : Int32} {Y : YY} {n : Int} {L : Int32} (hi : 0 ≤ i.toInt ∧ i.toInt + 8 ≤ (z_L Z : Int)) (h4 : z_L Z ≤ 4096) (hn : 0 ≤ n ∧ n ≤ 39000) (hV : IV Z n L Y) (hk : ∀ (Y2 : YY) (L2 : Int32), IV Z (n + 70) L2 Y2 → WL Z mL 1375 [(0, .ref (z_b Z)), (1, .ref (z_h Z + 0)), (2, .ref (z_h Z + 74 + 0)), (3, .int i)] [] Y2) : WL Z mL 762 [(0, .ref (z_b Z)), (1, .ref (z_h Z + 0)), (2, .ref (z_h Z + 74 + 0)), (3, .int i)] [] Y := by
  obtain ⟨⟨hr, hT, hP⟩, hX, hrm, hM, Bz, Sz, Dz, hBz, hTG, ⟨hXR, hXD, hXK⟩, hMR, hMD⟩ := hV
  have hXN := xi_mono hX (show n ≤ n + 70 by omega)
  have hMN := mp_mono hM (show n ≤ n + 70 by omega)
  have hLb := BT_get hX.1 1 1 2 0 0 900 (by decide) 1 (by decide) (by decide)
  rw [hX.2] at hLb
  have hDb := BT_get hM.1.1 38 33 34 0 1 0 (by decide) 33 (by decide) (by decide)
  rw [hMD.1] at hDb
  have hD0 : 0 ≤ Dz.1.toInt := by omega
  have nxt : ∀ (L2 v : Int32) (I1 : pI) (J1 : pJ) (R1 : pR) (B2 : Nat → Int32) (S2 : TwS) (D2 : DS), (RfX (gX Z) R1 ∧ TS (gX Z) R1 ∧ NL (gX Z) R1) → XI (gX Z) (n + 70) L2 I1 → XR (gX Z) B2 S2 I1 J1 R1 → XDS (gX Z) D2 I1 → XK (gX Z) S2 I1 → (L2 = L) → (B2 = Bz ∧ S2 = Sz ∧ ((((0 ≤ (z_x Z (i + 1).toNatClampNeg).toInt ∧ (z_x Z (i + 1).toNatClampNeg).toInt < Sz.1 0 1) ∧ (0 ≤ (z_x Z (i + 2).toNatClampNeg).toInt ∧ (z_x Z (i + 2).toNatClampNeg).toInt ≤ 4)) ∧ D2 = dWay Dz (z_x Z (i + 1).toNatClampNeg).toInt.toNat (z_x Z (i + 2).toNatClampNeg) ∧ v = Dz.2.1 (z_x Z (i + 1).toNatClampNeg).toInt.toNat) ∨ (¬ ((0 ≤ (z_x Z (i + 1).toNatClampNeg).toInt ∧ (z_x Z (i + 1).toNatClampNeg).toInt < Sz.1 0 1) ∧ (0 ≤ (z_x Z (i + 2).toNatClampNeg).toInt ∧ (z_x Z (i + 2).toNatClampNeg).toInt ≤ 4)) ∧ D2 = Dz ∧ v.toInt = -2))) → WL Z mL 776 [(0, .ref (z_b Z)), (1, .ref (z_h Z + 0)), (2, .ref (z_h Z + 74 + 0)), (3, .int i)] [.int v] ((I1, J1, R1), Y.2) := by
    intro L2 v I1 J1 R1 B2 S2 D2 hR1 hX1 hXR1 hXD1 hXK1 hl hbr
    refine WL_pop dL_law_776 rfl ?_
    refine WL_aload_n dL_law_777 rfl ?_
    refine WL_aload_n dL_law_778 rfl ?_
    refine WL_iload_n dL_law_779 rfl ?_
    refine WL_iconst (1) dL_law_780 rfl ?_
    refine WL_iadd dL_law_781 ?_
    refine WL_sld dL_law_782 (L_in hi h4 (1) (by decide)) ?_
    refine WL_aload_n dL_law_783 rfl ?_
    refine WL_iload_n dL_law_784 rfl ?_
    refine WL_iconst (2) dL_law_785 rfl ?_
    refine WL_iadd dL_law_786 ?_
    refine WL_sld dL_law_787 (L_in hi h4 (2) (by decide)) ?_
    have h := sm_way (g := gM Z) (J := Y.2.2.1) ly_M hrm  hMN (z_x Z (i + 1).toNatClampNeg) (z_x Z (i + 2).toNatClampNeg)
    have h := SP_and2 h (em_way ly_M hrm (z_x Z (i + 1).toNatClampNeg) (z_x Z (i + 2).toNatClampNeg) hMR.2 hTG.1)
    rw [ad_M] at h
    refine WL_callM2 dL_law_788 wX11_way h (Nat.le_of_ble_eq_true rfl) (fun r I2 J2 R2 hq => ?_)
    obtain ⟨⟨⟨hIb, ec, fib, fjb, fqb⟩, vb, rfl⟩, I9b, J9b, R9b, hEb, hAb⟩ := hq
    show WL Z mL _ _ (.int _ :: _) _
    rw [ec]
    have eL : L = L2 := hl.symm
    rw [eL] at hIb
    obtain ⟨eB, eS, hdr⟩ := hbr
    rw [eB, eS] at hXR1
    rw [eS] at hXK1
    have hMR2 : MR (gM Z) Bz Sz I2 J2 := ⟨fun q hq => by rw [fz_at fib 1 (by decide) (by decide)]; exact hMR.1 q hq, RTT_fz hMR.2 hTG.1 fib fjb fqb (by decide) (by decide) (by decide)⟩
    have hBT2 := hBz
    have hTG2 := hTG
    obtain ⟨-, fw, -, -, v9, e9, hE⟩ := hEb
    obtain rfl : vb = v9 := by cases e9; rfl
    have key : v.toInt = vb.toInt ∧ MDS (gM Z) D2 I2 := by
      rcases hE with ⟨q1, q2, q3, q4⟩ | ⟨q1, q2, q3⟩
      · rcases hdr with ⟨r1, r2, r3⟩ | ⟨r1, -⟩
        · rw [r2]
          exact ⟨by rw [r3, q3]; exact congrArg Int32.toInt (hMD.2.1 _ (by have z := hTG.1; unfold SBn at z; omega)).symm, MDS_agr ly_M hAb (MDS_way ly_M (by have z := hTG.1; unfold SBn at z; omega) hMD fw q4)⟩
        · exact absurd ⟨q1, q2⟩ r1
      · rcases hdr with ⟨r1, -⟩ | ⟨r1, r2, r3⟩
        · exact absurd r1 q1
        · rw [r2]
          exact ⟨r3.trans q2.symm, MDS_agr ly_M hAb (MDS_way0 ly_M hMD fw q3)⟩
    have hMD2 := key.2
    refine WL_pop dL_law_791 rfl ?_
    refine WL_goto 1375 dL_law_792 rfl ?_
    exact hk _ L2 ⟨hR1, hX1, hrm, hIb, Bz, Sz, D2, hBT2, hTG2, ⟨hXR1, hXD1, hXK1⟩, hMR2, hMD2⟩
  rcases hT with ⟨h5, h0⟩ | ⟨h5, h0⟩
  · have hW := TWX_at ly_X hXR.2 (p := 6) (by decide) h5
    refine WL_aload_n dL_law_762 rfl ?_
    refine WL_aload_n dL_law_763 rfl ?_
    refine WL_iload_n dL_law_764 rfl ?_
    refine WL_iconst (1) dL_law_765 rfl ?_
    refine WL_iadd dL_law_766 ?_
    refine WL_sld dL_law_767 (L_in hi h4 (1) (by decide)) ?_
    refine WL_aload_n dL_law_768 rfl ?_
    refine WL_iload_n dL_law_769 rfl ?_
    refine WL_iconst (2) dL_law_770 rfl ?_
    refine WL_iadd dL_law_771 ?_
    refine WL_sld dL_law_772 (L_in hi h4 (2) (by decide)) ?_
    have h := sx_way_6 (g := gX Z) (J := Y.1.2.1) ly_X hr h5  hXN (z_x Z (i + 1).toNatClampNeg) (z_x Z (i + 2).toNatClampNeg)
    have h := SP_and2 h (ex_waya ly_X hr (z_x Z (i + 1).toNatClampNeg) (z_x Z (i + 2).toNatClampNeg) h5 hW hTG.1)
    rw [ad_X] at h
    refine WL_callX2 dL_law_773 wX10_way h (Nat.le_of_ble_eq_true rfl) (fun r I1 J1 R1 hq => ?_)
    obtain ⟨⟨⟨hIa, ec, fia, fja⟩, va, rfl⟩, I9a, J9a, R9a, hEa, hAa⟩ := hq
    show WL Z mL _ _ (.int _ :: _) _
    rw [ec]
    obtain ⟨-, fw, -, v9, e9, hE⟩ := hEa
    obtain rfl : va = v9 := by cases e9; rfl
    rcases hE with ⟨q1, q2, q3, q4⟩ | ⟨q1, q2, q3⟩
    · exact nxt L _ _ _ _ Bz Sz (dWay Dz (z_x Z (i + 1).toNatClampNeg).toInt.toNat (z_x Z (i + 2).toNatClampNeg)) ⟨hr, (Or.inl ⟨h5, h0⟩), hP⟩ hIa ⟨fun q hq => by rw [fz_at fia 2 (by decide) (by decide)]; exact hXR.1 q hq, TWX_of (p := 6) (by decide) h5 (RTW_fz hW hTG.1 fia fja (by decide) (by decide))⟩ (XDS_agr ly_X hAa (XDS_way ly_X hXD fw q4)) (XK_fz hXK fia (by decide)) rfl ⟨rfl, rfl, Or.inl ⟨⟨q1, q2⟩, rfl, q3.trans (hXD.2.1 _ (by have z := hTG.1; unfold SBn at z; omega))⟩⟩
    · exact nxt L _ _ _ _ Bz Sz (Dz) ⟨hr, (Or.inl ⟨h5, h0⟩), hP⟩ hIa ⟨fun q hq => by rw [fz_at fia 2 (by decide) (by decide)]; exact hXR.1 q hq, TWX_of (p := 6) (by decide) h5 (RTW_fz hW hTG.1 fia fja (by decide) (by decide))⟩ (XDS_agr ly_X hAa (XDS_way0 ly_X hXD fw q3)) (XK_fz hXK fia (by decide)) rfl ⟨rfl, rfl, Or.inr ⟨q1, rfl, q2⟩⟩
  · have hW := TWX_at ly_X hXR.2 (p := 27) (by decide) h5
    refine WL_aload_n dL_law_762 rfl ?_
    refine WL_aload_n dL_law_763 rfl ?_
    refine WL_iload_n dL_law_764 rfl ?_
    refine WL_iconst (1) dL_law_765 rfl ?_
    refine WL_iadd dL_law_766 ?_
    refine WL_sld dL_law_767 (L_in hi h4 (1) (by decide)) ?_
    refine WL_aload_n dL_law_768 rfl ?_
    refine WL_iload_n dL_law_769 rfl ?_
    refine WL_iconst (2) dL_law_770 rfl ?_
    refine WL_iadd dL_law_771 ?_
    refine WL_sld dL_law_772 (L_in hi h4 (2) (by decide)) ?_
    have h := sx_way_27 (g := gX Z) (J := Y.1.2.1) ly_X hr h5  hXN (z_x Z (i + 1).toNatClampNeg) (z_x Z (i + 2).toNatClampNeg)
    have h := SP_and2 h (ex_wayb ly_X hr (z_x Z (i + 1).toNatClampNeg) (z_x Z (i + 2).toNatClampNeg) h5 hW hTG.1)
    rw [ad_X] at h
    refine WL_callX2 dL_law_773 wX10_way h (Nat.le_of_ble_eq_true rfl) (fun r I1 J1 R1 hq => ?_)
    obtain ⟨⟨⟨hIa, ec, fia, fja⟩, va, rfl⟩, I9a, J9a, R9a, hEa, hAa⟩ := hq
    show WL Z mL _ _ (.int _ :: _) _
    rw [ec]
    obtain ⟨-, fw, -, v9, e9, hE⟩ := hEa
    obtain rfl : va = v9 := by cases e9; rfl
    rcases hE with ⟨q1, q2, q3, q4⟩ | ⟨q1, q2, q3⟩
    · exact nxt L _ _ _ _ Bz Sz (dWay Dz (z_x Z (i + 1).toNatClampNeg).toInt.toNat (z_x Z (i + 2).toNatClampNeg)) ⟨hr, (Or.inr ⟨h5, h0⟩), hP⟩ hIa ⟨fun q hq => by rw [fz_at fia 2 (by decide) (by decide)]; exact hXR.1 q hq, TWX_of (p := 27) (by decide) h5 (RTW_fz hW hTG.1 fia fja (by decide) (by decide))⟩ (XDS_agr ly_X hAa (XDS_way ly_X hXD fw q4)) (XK_fz hXK fia (by decide)) rfl ⟨rfl, rfl, Or.inl ⟨⟨q1, q2⟩, rfl, q3.trans (hXD.2.1 _ (by have z := hTG.1; unfold SBn at z; omega))⟩⟩
    · exact nxt L _ _ _ _ Bz Sz (Dz) ⟨hr, (Or.inr ⟨h5, h0⟩), hP⟩ hIa ⟨fun q hq => by rw [fz_at fia 2 (by decide) (by decide)]; exact hXR.1 q hq, TWX_of (p := 27) (by decide) h5 (RTW_fz hW hTG.1 fia fja (by decide) (by decide))⟩ (XDS_agr ly_X hAa (XDS_way0 ly_X hXD fw q3)) (XK_fz hXK fia (by decide)) rfl ⟨rfl, rfl, Or.inr ⟨q1, rfl, q2⟩⟩
set_option maxHeartbeats 4000000 in
set_option maxRecDepth 100000 in
theorem L_pass {Z : LB} {i : Int32} {Y : YY} {n : Int} {L : Int32} (hi : 0 ≤ i.toInt ∧ i.toInt + 8 ≤ (z_L Z : Int)) (h4 : z_L Z ≤ 4096) (hn : 0 ≤ n ∧ n ≤ 39000) (hV : IV Z n L Y) (hk : ∀ (Y2 : YY) (L2 : Int32), IV Z (n + 70) L2 Y2 → WL Z mL 1375 [(0, .ref (z_b Z)), (1, .ref (z_h Z + 0)), (2, .ref (z_h Z + 74 + 0)), (3, .int i)] [] Y2) : WL Z mL 795 [(0, .ref (z_b Z)), (1, .ref (z_h Z + 0)), (2, .ref (z_h Z + 74 + 0)), (3, .int i)] [] Y := by
  obtain ⟨⟨hr, hT, hP⟩, hX, hrm, hM, Bz, Sz, Dz, hBz, hTG, ⟨hXR, hXD, hXK⟩, hMR, hMD⟩ := hV
  have hXN := xi_mono hX (show n ≤ n + 70 by omega)
  have hMN := mp_mono hM (show n ≤ n + 70 by omega)
  have hLb := BT_get hX.1 1 1 2 0 0 900 (by decide) 1 (by decide) (by decide)
  rw [hX.2] at hLb
  have hDb := BT_get hM.1.1 38 33 34 0 1 0 (by decide) 33 (by decide) (by decide)
  rw [hMD.1] at hDb
  have hD0 : 0 ≤ Dz.1.toInt := by omega
  have hbX : (Y.1.1 (ad (gX Z) 53) 1).toInt ≤ 23760 * (n + 70) - 1663200 ∧ 0 ≤ (Y.1.1 (ad (gX Z) 53) 0).toInt ∧ (Y.1.1 (ad (gX Z) 53) 0).toInt ≤ 39900 := by have b := BT_get hX.1 53 1 2 0 23760 0 (by decide) 1 (by decide) (by decide); rw [hXD.1]; omega
  have hbM : (Y.2.1 (ad (gM Z) 38) 32).toInt ≤ 23760 * (n + 70) - 1663200 ∧ (Y.2.1 (ad (gM Z) 38) 33).toInt ≤ n + 70 - 70 := by have b := BT_get hM.1.1 38 32 33 0 23760 0 (by decide) 32 (by decide) (by decide); rw [hMD.1]; omega
  have nxt : ∀ (L2 v : Int32) (I1 : pI) (J1 : pJ) (R1 : pR) (B2 : Nat → Int32) (S2 : TwS) (D2 : DS), (RfX (gX Z) R1 ∧ TS (gX Z) R1 ∧ NL (gX Z) R1) → XI (gX Z) (n + 70) L2 I1 → XR (gX Z) B2 S2 I1 J1 R1 → XDS (gX Z) D2 I1 → XK (gX Z) S2 I1 → (L2 = L) → (B2 = Bz ∧ S2 = Sz ∧ (∃ d9 : Int32, D2 = dDay Dz d9 ∧ ((0 ≤ (z_x Z (i + 1).toNatClampNeg).toInt ∧ (z_x Z (i + 1).toNatClampNeg).toInt ≤ 70) ∧ d9.toInt = Dz.1.toInt + (z_x Z (i + 1).toNatClampNeg).toInt ∧ v.toInt = Dz.1.toInt + (z_x Z (i + 1).toNatClampNeg).toInt ∨ ¬ (0 ≤ (z_x Z (i + 1).toNatClampNeg).toInt ∧ (z_x Z (i + 1).toNatClampNeg).toInt ≤ 70) ∧ d9.toInt = Dz.1.toInt ∧ v.toInt = -2))) → WL Z mL 804 [(0, .ref (z_b Z)), (1, .ref (z_h Z + 0)), (2, .ref (z_h Z + 74 + 0)), (3, .int i)] [.int v] ((I1, J1, R1), Y.2) := by
    intro L2 v I1 J1 R1 B2 S2 D2 hR1 hX1 hXR1 hXD1 hXK1 hl hbr
    refine WL_pop dL_law_804 rfl ?_
    refine WL_aload_n dL_law_805 rfl ?_
    refine WL_aload_n dL_law_806 rfl ?_
    refine WL_iload_n dL_law_807 rfl ?_
    refine WL_iconst (1) dL_law_808 rfl ?_
    refine WL_iadd dL_law_809 ?_
    refine WL_sld dL_law_810 (L_in hi h4 (1) (by decide)) ?_
    have h := sm_pass (g := gM Z) (J := Y.2.2.1) ly_M hrm  hMN (z_x Z (i + 1).toNatClampNeg) (by omega) hbM
    rw [ad_M] at h
    refine WL_callM1 dL_law_811 wX11_pass h (Nat.le_of_ble_eq_true rfl) (fun r I2 J2 R2 hq => ?_)
    obtain ⟨⟨hIb, ec, fib, fjb, fqb, pob⟩, vb, rfl, hvb⟩ := hq
    show WL Z mL _ _ (.int _ :: _) _
    rw [ec]
    have eL : L = L2 := hl.symm
    rw [eL] at hIb
    obtain ⟨eB, eS, hdr⟩ := hbr
    rw [eB, eS] at hXR1
    rw [eS] at hXK1
    have hMR2 : MR (gM Z) Bz Sz I2 J2 := ⟨fun q hq => by rw [fz_at fib 1 (by decide) (by decide)]; exact hMR.1 q hq, RTT_fz hMR.2 hTG.1 fib fjb fqb (by decide) (by decide) (by decide)⟩
    have hBT2 := hBz
    have hTG2 := hTG
    have key : v.toInt = vb.toInt ∧ MDS (gM Z) D2 I2 := by
      obtain ⟨d9, r2, r3⟩ := hdr
      obtain ⟨p1, w0, w1, w2, w3⟩ := pob
      rw [hMD.1] at p1 hvb
      rw [r2]
      refine ⟨by omega, MDS_day hMD ((eq32 _ _).mpr (by omega)) (fun q hq => ?_) (fun c hc => fz_at fib c (by revert c; decide) (by revert c; decide))⟩
      rcases (show q = 0 ∨ q = 1 ∨ q = 2 ∨ q = 3 by omega) with e | e | e | e <;> subst e
      · exact w0
      · exact w1
      · exact w2
      · exact w3
    have hMD2 := key.2
    refine WL_pop dL_law_814 rfl ?_
    refine WL_goto 1375 dL_law_815 rfl ?_
    exact hk _ L2 ⟨hR1, hX1, hrm, hIb, Bz, Sz, D2, hBT2, hTG2, ⟨hXR1, hXD1, hXK1⟩, hMR2, hMD2⟩
  rcases hT with ⟨h5, h0⟩ | ⟨h5, h0⟩
  · have hW := TWX_at ly_X hXR.2 (p := 6) (by decide) h5
    refine WL_aload_n dL_law_795 rfl ?_
    refine WL_aload_n dL_law_796 rfl ?_
    refine WL_iload_n dL_law_797 rfl ?_
    refine WL_iconst (1) dL_law_798 rfl ?_
    refine WL_iadd dL_law_799 ?_
    refine WL_sld dL_law_800 (L_in hi h4 (1) (by decide)) ?_
    have h := sx_pass_6 (g := gX Z) (J := Y.1.2.1) ly_X hr hP h5  hXN (z_x Z (i + 1).toNatClampNeg) (by omega) hbX
    rw [ad_X] at h
    refine WL_callX1 dL_law_801 wX10_pass h (Nat.le_of_ble_eq_true rfl) (fun r I1 J1 R1 hq => ?_)
    obtain ⟨⟨hIa, ⟨hra, ⟨hta, hsa⟩, hpa⟩, fia, fja, poa⟩, va, rfl, hva⟩ := hq
    show WL Z mL _ _ (.int _ :: _) _
    have p1 := poa
    rw [hXD.1] at p1 hva
    exact nxt L _ _ _ _ Bz Sz (dDay Dz (I1 (ad (gX Z) 53) 0)) ⟨hra, Or.inl ⟨hta.trans h5, hsa.trans h0⟩, hpa⟩ hIa ⟨fun q hq => by rw [fz_at fia 2 (by decide) (by decide)]; exact hXR.1 q hq, TWX_of (p := 6) (by decide) (hta.trans h5) (RTW_fz hW hTG.1 fia fja (by decide) (by decide))⟩ (XDS_day hXD rfl (fun c hc => fz_at fia c (by revert c; decide) (by revert c; decide))) (XK_fz hXK fia (by decide)) rfl ⟨rfl, rfl, _, rfl, by omega⟩
  · have hW := TWX_at ly_X hXR.2 (p := 27) (by decide) h5
    refine WL_aload_n dL_law_795 rfl ?_
    refine WL_aload_n dL_law_796 rfl ?_
    refine WL_iload_n dL_law_797 rfl ?_
    refine WL_iconst (1) dL_law_798 rfl ?_
    refine WL_iadd dL_law_799 ?_
    refine WL_sld dL_law_800 (L_in hi h4 (1) (by decide)) ?_
    have h := sx_pass_27 (g := gX Z) (J := Y.1.2.1) ly_X hr hP h5  hXN (z_x Z (i + 1).toNatClampNeg) (by omega) hbX
    rw [ad_X] at h
    refine WL_callX1 dL_law_801 wX10_pass h (Nat.le_of_ble_eq_true rfl) (fun r I1 J1 R1 hq => ?_)
    obtain ⟨⟨hIa, ⟨hra, ⟨hta, hsa⟩, hpa⟩, fia, fja, poa⟩, va, rfl, hva⟩ := hq
    show WL Z mL _ _ (.int _ :: _) _
    have p1 := poa
    rw [hXD.1] at p1 hva
    exact nxt L _ _ _ _ Bz Sz (dDay Dz (I1 (ad (gX Z) 53) 0)) ⟨hra, Or.inr ⟨hta.trans h5, hsa.trans h0⟩, hpa⟩ hIa ⟨fun q hq => by rw [fz_at fia 2 (by decide) (by decide)]; exact hXR.1 q hq, TWX_of (p := 27) (by decide) (hta.trans h5) (RTW_fz hW hTG.1 fia fja (by decide) (by decide))⟩ (XDS_day hXD rfl (fun c hc => fz_at fia c (by revert c; decide) (by revert c; decide))) (XK_fz hXK fia (by decide)) rfl ⟨rfl, rfl, _, rfl, by omega⟩
set_option maxHeartbeats 4000000 in
set_option maxRecDepth 100000 in
theorem L_run {Z : LB} {i : Int32} {Y : YY} {n : Int} {L : Int32} (hi : 0 ≤ i.toInt ∧ i.toInt + 8 ≤ (z_L Z : Int)) (h4 : z_L Z ≤ 4096) (hn : 0 ≤ n ∧ n ≤ 39000) (hV : IV Z n L Y) (hk : ∀ (Y2 : YY) (L2 : Int32), IV Z (n + 70) L2 Y2 → WL Z mL 1375 [(0, .ref (z_b Z)), (1, .ref (z_h Z + 0)), (2, .ref (z_h Z + 74 + 0)), (3, .int i)] [] Y2) : WL Z mL 818 [(0, .ref (z_b Z)), (1, .ref (z_h Z + 0)), (2, .ref (z_h Z + 74 + 0)), (3, .int i)] [] Y := by
  obtain ⟨⟨hr, hT, hP⟩, hX, hrm, hM, Bz, Sz, Dz, hBz, hTG, ⟨hXR, hXD, hXK⟩, hMR, hMD⟩ := hV
  have hXN := xi_mono hX (show n ≤ n + 70 by omega)
  have hMN := mp_mono hM (show n ≤ n + 70 by omega)
  have hLb := BT_get hX.1 1 1 2 0 0 900 (by decide) 1 (by decide) (by decide)
  rw [hX.2] at hLb
  have hDb := BT_get hM.1.1 38 33 34 0 1 0 (by decide) 33 (by decide) (by decide)
  rw [hMD.1] at hDb
  have hD0 : 0 ≤ Dz.1.toInt := by omega
  have nxt : ∀ (L2 v : Int32) (I1 : pI) (J1 : pJ) (R1 : pR) (B2 : Nat → Int32) (S2 : TwS) (D2 : DS), (RfX (gX Z) R1 ∧ TS (gX Z) R1 ∧ NL (gX Z) R1) → XI (gX Z) (n + 70) L2 I1 → XR (gX Z) B2 S2 I1 J1 R1 → XDS (gX Z) D2 I1 → XK (gX Z) S2 I1 → (L2 = L) → (B2 = Bz ∧ S2 = Sz ∧ D2 = Dz) → WL Z mL 832 [(0, .ref (z_b Z)), (1, .ref (z_h Z + 0)), (2, .ref (z_h Z + 74 + 0)), (3, .int i)] [.int v] ((I1, J1, R1), Y.2) := by
    intro L2 v I1 J1 R1 B2 S2 D2 hR1 hX1 hXR1 hXD1 hXK1 hl hbr
    refine WL_pop dL_law_832 rfl ?_
    refine WL_aload_n dL_law_833 rfl ?_
    refine WL_aload_n dL_law_834 rfl ?_
    refine WL_iload_n dL_law_835 rfl ?_
    refine WL_iconst (1) dL_law_836 rfl ?_
    refine WL_iadd dL_law_837 ?_
    refine WL_sld dL_law_838 (L_in hi h4 (1) (by decide)) ?_
    refine WL_aload_n dL_law_839 rfl ?_
    refine WL_iload_n dL_law_840 rfl ?_
    refine WL_iconst (2) dL_law_841 rfl ?_
    refine WL_iadd dL_law_842 ?_
    refine WL_sld dL_law_843 (L_in hi h4 (2) (by decide)) ?_
    have h := sm_run (g := gM Z) (J := Y.2.2.1) ly_M hrm  hMN (z_x Z (i + 1).toNatClampNeg) (z_x Z (i + 2).toNatClampNeg)
    rw [ad_M] at h
    refine WL_callM2 dL_law_844 wX11_run h (Nat.le_of_ble_eq_true rfl) (fun r I2 J2 R2 hq => ?_)
    obtain ⟨⟨ea, eb, ec⟩, vb, rfl⟩ := hq
    show WL Z mL _ _ (.int _ :: _) _
    rw [ea, eb, ec]
    have eL : L = L2 := hl.symm
    have hMN2 := hMN
    rw [eL] at hMN2
    obtain ⟨eB, eS, eD⟩ := hbr
    rw [eB, eS] at hXR1
    rw [eS] at hXK1
    have hMR2 : MR (gM Z) Bz Sz Y.2.1 Y.2.2.1 := hMR
    have hMD2 : MDS (gM Z) D2 Y.2.1 := by rw [eD]; exact hMD
    have hBT2 := hBz
    have hTG2 := hTG
    refine WL_pop dL_law_847 rfl ?_
    refine WL_goto 1375 dL_law_848 rfl ?_
    exact hk _ L2 ⟨hR1, hX1, hrm, hMN2, Bz, Sz, D2, hBT2, hTG2, ⟨hXR1, hXD1, hXK1⟩, hMR2, hMD2⟩
  rcases hT with ⟨h5, h0⟩ | ⟨h5, h0⟩
  · have hW := TWX_at ly_X hXR.2 (p := 6) (by decide) h5
    refine WL_aload_n dL_law_818 rfl ?_
    refine WL_aload_n dL_law_819 rfl ?_
    refine WL_iload_n dL_law_820 rfl ?_
    refine WL_iconst (1) dL_law_821 rfl ?_
    refine WL_iadd dL_law_822 ?_
    refine WL_sld dL_law_823 (L_in hi h4 (1) (by decide)) ?_
    refine WL_aload_n dL_law_824 rfl ?_
    refine WL_iload_n dL_law_825 rfl ?_
    refine WL_iconst (2) dL_law_826 rfl ?_
    refine WL_iadd dL_law_827 ?_
    refine WL_sld dL_law_828 (L_in hi h4 (2) (by decide)) ?_
    have h := sx_run_6 (g := gX Z) (J := Y.1.2.1) ly_X hr h5  hXN (z_x Z (i + 1).toNatClampNeg) (z_x Z (i + 2).toNatClampNeg)
    rw [ad_X] at h
    refine WL_callX2 dL_law_829 wX10_run h (Nat.le_of_ble_eq_true rfl) (fun r I1 J1 R1 hq => ?_)
    obtain ⟨⟨ea, eb, ec⟩, va, rfl⟩ := hq
    show WL Z mL _ _ (.int _ :: _) _
    rw [ea, eb, ec]
    exact nxt L _ _ _ _ Bz Sz Dz ⟨hr, (Or.inl ⟨h5, h0⟩), hP⟩ hXN hXR hXD hXK rfl ⟨rfl, rfl, rfl⟩
  · have hW := TWX_at ly_X hXR.2 (p := 27) (by decide) h5
    refine WL_aload_n dL_law_818 rfl ?_
    refine WL_aload_n dL_law_819 rfl ?_
    refine WL_iload_n dL_law_820 rfl ?_
    refine WL_iconst (1) dL_law_821 rfl ?_
    refine WL_iadd dL_law_822 ?_
    refine WL_sld dL_law_823 (L_in hi h4 (1) (by decide)) ?_
    refine WL_aload_n dL_law_824 rfl ?_
    refine WL_iload_n dL_law_825 rfl ?_
    refine WL_iconst (2) dL_law_826 rfl ?_
    refine WL_iadd dL_law_827 ?_
    refine WL_sld dL_law_828 (L_in hi h4 (2) (by decide)) ?_
    have h := sx_run_27 (g := gX Z) (J := Y.1.2.1) ly_X hr h5  hXN (z_x Z (i + 1).toNatClampNeg) (z_x Z (i + 2).toNatClampNeg)
    rw [ad_X] at h
    refine WL_callX2 dL_law_829 wX10_run h (Nat.le_of_ble_eq_true rfl) (fun r I1 J1 R1 hq => ?_)
    obtain ⟨⟨ea, eb, ec⟩, va, rfl⟩ := hq
    show WL Z mL _ _ (.int _ :: _) _
    rw [ea, eb, ec]
    exact nxt L _ _ _ _ Bz Sz Dz ⟨hr, (Or.inr ⟨h5, h0⟩), hP⟩ hXN hXR hXD hXK rfl ⟨rfl, rfl, rfl⟩
set_option maxHeartbeats 4000000 in
set_option maxRecDepth 100000 in
theorem L_all {Z : LB} {i : Int32} {Y : YY} {n : Int} {L : Int32} (hi : 0 ≤ i.toInt ∧ i.toInt + 8 ≤ (z_L Z : Int)) (h4 : z_L Z ≤ 4096) (hn : 0 ≤ n ∧ n ≤ 39000) (hV : IV Z n L Y) (hk : ∀ (Y2 : YY) (L2 : Int32), IV Z (n + 70) L2 Y2 → WL Z mL 1375 [(0, .ref (z_b Z)), (1, .ref (z_h Z + 0)), (2, .ref (z_h Z + 74 + 0)), (3, .int i)] [] Y2) : WL Z mL 851 [(0, .ref (z_b Z)), (1, .ref (z_h Z + 0)), (2, .ref (z_h Z + 74 + 0)), (3, .int i)] [] Y := by
  obtain ⟨⟨hr, hT, hP⟩, hX, hrm, hM, Bz, Sz, Dz, hBz, hTG, ⟨hXR, hXD, hXK⟩, hMR, hMD⟩ := hV
  have hXN := xi_mono hX (show n ≤ n + 70 by omega)
  have hMN := mp_mono hM (show n ≤ n + 70 by omega)
  have hLb := BT_get hX.1 1 1 2 0 0 900 (by decide) 1 (by decide) (by decide)
  rw [hX.2] at hLb
  have hDb := BT_get hM.1.1 38 33 34 0 1 0 (by decide) 33 (by decide) (by decide)
  rw [hMD.1] at hDb
  have hD0 : 0 ≤ Dz.1.toInt := by omega
  have nxt : ∀ (L2 v : Int32) (I1 : pI) (J1 : pJ) (R1 : pR) (B2 : Nat → Int32) (S2 : TwS) (D2 : DS), (RfX (gX Z) R1 ∧ TS (gX Z) R1 ∧ NL (gX Z) R1) → XI (gX Z) (n + 70) L2 I1 → XR (gX Z) B2 S2 I1 J1 R1 → XDS (gX Z) D2 I1 → XK (gX Z) S2 I1 → (L2 = L) → (B2 = Bz ∧ S2 = Sz ∧ D2 = Dz) → WL Z mL 860 [(0, .ref (z_b Z)), (1, .ref (z_h Z + 0)), (2, .ref (z_h Z + 74 + 0)), (3, .int i)] [.int v] ((I1, J1, R1), Y.2) := by
    intro L2 v I1 J1 R1 B2 S2 D2 hR1 hX1 hXR1 hXD1 hXK1 hl hbr
    refine WL_pop dL_law_860 rfl ?_
    refine WL_aload_n dL_law_861 rfl ?_
    refine WL_aload_n dL_law_862 rfl ?_
    refine WL_iload_n dL_law_863 rfl ?_
    refine WL_iconst (1) dL_law_864 rfl ?_
    refine WL_iadd dL_law_865 ?_
    refine WL_sld dL_law_866 (L_in hi h4 (1) (by decide)) ?_
    have h := sm_all (g := gM Z) (J := Y.2.2.1) ly_M hrm  hMN (z_x Z (i + 1).toNatClampNeg)
    rw [ad_M] at h
    refine WL_callM1 dL_law_867 wX11_all h (Nat.le_of_ble_eq_true rfl) (fun r I2 J2 R2 hq => ?_)
    obtain ⟨⟨ea, eb, ec⟩, vb, rfl⟩ := hq
    show WL Z mL _ _ (.int _ :: _) _
    rw [ea, eb, ec]
    have eL : L = L2 := hl.symm
    have hMN2 := hMN
    rw [eL] at hMN2
    obtain ⟨eB, eS, eD⟩ := hbr
    rw [eB, eS] at hXR1
    rw [eS] at hXK1
    have hMR2 : MR (gM Z) Bz Sz Y.2.1 Y.2.2.1 := hMR
    have hMD2 : MDS (gM Z) D2 Y.2.1 := by rw [eD]; exact hMD
    have hBT2 := hBz
    have hTG2 := hTG
    refine WL_pop dL_law_870 rfl ?_
    refine WL_goto 1375 dL_law_871 rfl ?_
    exact hk _ L2 ⟨hR1, hX1, hrm, hMN2, Bz, Sz, D2, hBT2, hTG2, ⟨hXR1, hXD1, hXK1⟩, hMR2, hMD2⟩
  rcases hT with ⟨h5, h0⟩ | ⟨h5, h0⟩
  · have hW := TWX_at ly_X hXR.2 (p := 6) (by decide) h5
    refine WL_aload_n dL_law_851 rfl ?_
    refine WL_aload_n dL_law_852 rfl ?_
    refine WL_iload_n dL_law_853 rfl ?_
    refine WL_iconst (1) dL_law_854 rfl ?_
    refine WL_iadd dL_law_855 ?_
    refine WL_sld dL_law_856 (L_in hi h4 (1) (by decide)) ?_
    have h := sx_all (g := gX Z) (J := Y.1.2.1) ly_X hr  hXN (z_x Z (i + 1).toNatClampNeg)
    rw [ad_X] at h
    refine WL_callX1 dL_law_857 wX10_all h (Nat.le_of_ble_eq_true rfl) (fun r I1 J1 R1 hq => ?_)
    obtain ⟨⟨ea, eb, ec⟩, va, rfl⟩ := hq
    show WL Z mL _ _ (.int _ :: _) _
    rw [ea, eb, ec]
    exact nxt L _ _ _ _ Bz Sz Dz ⟨hr, (Or.inl ⟨h5, h0⟩), hP⟩ hXN hXR hXD hXK rfl ⟨rfl, rfl, rfl⟩
  · have hW := TWX_at ly_X hXR.2 (p := 27) (by decide) h5
    refine WL_aload_n dL_law_851 rfl ?_
    refine WL_aload_n dL_law_852 rfl ?_
    refine WL_iload_n dL_law_853 rfl ?_
    refine WL_iconst (1) dL_law_854 rfl ?_
    refine WL_iadd dL_law_855 ?_
    refine WL_sld dL_law_856 (L_in hi h4 (1) (by decide)) ?_
    have h := sx_all (g := gX Z) (J := Y.1.2.1) ly_X hr  hXN (z_x Z (i + 1).toNatClampNeg)
    rw [ad_X] at h
    refine WL_callX1 dL_law_857 wX10_all h (Nat.le_of_ble_eq_true rfl) (fun r I1 J1 R1 hq => ?_)
    obtain ⟨⟨ea, eb, ec⟩, va, rfl⟩ := hq
    show WL Z mL _ _ (.int _ :: _) _
    rw [ea, eb, ec]
    exact nxt L _ _ _ _ Bz Sz Dz ⟨hr, (Or.inr ⟨h5, h0⟩), hP⟩ hXN hXR hXD hXK rfl ⟨rfl, rfl, rfl⟩
set_option maxHeartbeats 4000000 in
set_option maxRecDepth 100000 in
theorem L_anew {Z : LB} {i : Int32} {Y : YY} {n : Int} {L : Int32} (hi : 0 ≤ i.toInt ∧ i.toInt + 8 ≤ (z_L Z : Int)) (h4 : z_L Z ≤ 4096) (hn : 0 ≤ n ∧ n ≤ 39000) (hV : IV Z n L Y) (hk : ∀ (Y2 : YY) (L2 : Int32), IV Z (n + 70) L2 Y2 → WL Z mL 1375 [(0, .ref (z_b Z)), (1, .ref (z_h Z + 0)), (2, .ref (z_h Z + 74 + 0)), (3, .int i)] [] Y2) : WL Z mL 874 [(0, .ref (z_b Z)), (1, .ref (z_h Z + 0)), (2, .ref (z_h Z + 74 + 0)), (3, .int i)] [] Y := by
  obtain ⟨⟨hr, hT, hP⟩, hX, hrm, hM, Bz, Sz, Dz, hBz, hTG, ⟨hXR, hXD, hXK⟩, hMR, hMD⟩ := hV
  have hXN := xi_mono hX (show n ≤ n + 70 by omega)
  have hMN := mp_mono hM (show n ≤ n + 70 by omega)
  have hLb := BT_get hX.1 1 1 2 0 0 900 (by decide) 1 (by decide) (by decide)
  rw [hX.2] at hLb
  have hDb := BT_get hM.1.1 38 33 34 0 1 0 (by decide) 33 (by decide) (by decide)
  rw [hMD.1] at hDb
  have hD0 : 0 ≤ Dz.1.toInt := by omega
  have nxt : ∀ (L2 v : Int32) (I1 : pI) (J1 : pJ) (R1 : pR) (B2 : Nat → Int32) (S2 : TwS) (D2 : DS), (RfX (gX Z) R1 ∧ TS (gX Z) R1 ∧ NL (gX Z) R1) → XI (gX Z) (n + 70) L2 I1 → XR (gX Z) B2 S2 I1 J1 R1 → XDS (gX Z) D2 I1 → XK (gX Z) S2 I1 → (L2 = L) → (B2 = Bz ∧ S2 = Sz ∧ (D2 = dDay Dz 0 ∧ v = Dz.1)) → WL Z mL 878 [(0, .ref (z_b Z)), (1, .ref (z_h Z + 0)), (2, .ref (z_h Z + 74 + 0)), (3, .int i)] [.int v] ((I1, J1, R1), Y.2) := by
    intro L2 v I1 J1 R1 B2 S2 D2 hR1 hX1 hXR1 hXD1 hXK1 hl hbr
    refine WL_pop dL_law_878 rfl ?_
    refine WL_aload_n dL_law_879 rfl ?_
    have h := sm_anew (g := gM Z) (J := Y.2.2.1) ly_M hrm  hMN (by omega)
    have h := SP_and2 h (em_anew ly_M hrm hMR.2 hTG.1)
    rw [ad_M] at h
    refine WL_callM0 dL_law_880 wX11_anew h (Nat.le_of_ble_eq_true rfl) (fun r I2 J2 R2 hq => ?_)
    obtain ⟨⟨⟨hIb, ec, fib, fjb, fqb⟩, vb, rfl⟩, I9b, J9b, R9b, hEb, hAb⟩ := hq
    show WL Z mL _ _ (.int _ :: _) _
    rw [ec]
    have eL : L = L2 := hl.symm
    rw [eL] at hIb
    obtain ⟨eB, eS, hdr⟩ := hbr
    rw [eB, eS] at hXR1
    rw [eS] at hXK1
    have hMR2 : MR (gM Z) Bz Sz I2 J2 := ⟨fun q hq => by rw [fz_at fib 1 (by decide) (by decide)]; exact hMR.1 q hq, RTT_fz hMR.2 hTG.1 fib fjb fqb (by decide) (by decide) (by decide)⟩
    have hBT2 := hBz
    have hTG2 := hTG
    obtain ⟨-, fw, -, -, v9, e9, hE⟩ := hEb
    obtain rfl : vb = v9 := by cases e9; rfl
    have key : v.toInt = vb.toInt ∧ MDS (gM Z) D2 I2 := by
      obtain ⟨r2, r3⟩ := hdr
      obtain ⟨q1, q2, q3, -⟩ := hE
      rw [r2]
      exact ⟨by rw [r3, q1]; exact congrArg Int32.toInt hMD.1.symm, MDS_agr ly_M hAb (MDS_day hMD ((eq32 _ 0).mpr q2) (fun q hq => q3 (28 + q) (by omega) (by omega)) (fun c hc => FC_at ly_M fw c (by revert c; decide) (by revert c; decide)))⟩
    have hMD2 := key.2
    refine WL_pop dL_law_883 rfl ?_
    refine WL_goto 1375 dL_law_884 rfl ?_
    exact hk _ L2 ⟨hR1, hX1, hrm, hIb, Bz, Sz, D2, hBT2, hTG2, ⟨hXR1, hXD1, hXK1⟩, hMR2, hMD2⟩
  rcases hT with ⟨h5, h0⟩ | ⟨h5, h0⟩
  · have hW := TWX_at ly_X hXR.2 (p := 6) (by decide) h5
    refine WL_aload_n dL_law_874 rfl ?_
    have h := sx_anew_6 (g := gX Z) (J := Y.1.2.1) ly_X hr h5  hXN (by omega)
    have h := SP_and2 h (ex_anewa ly_X hr h5 hW hTG.1)
    rw [ad_X] at h
    refine WL_callX0 dL_law_875 wX10_anew h (Nat.le_of_ble_eq_true rfl) (fun r I1 J1 R1 hq => ?_)
    obtain ⟨⟨⟨hIa, ec, fia, fja⟩, va, rfl⟩, I9a, J9a, R9a, hEa, hAa⟩ := hq
    show WL Z mL _ _ (.int _ :: _) _
    rw [ec]
    obtain ⟨-, fw, -, v9, e9, hE⟩ := hEa
    obtain rfl : va = v9 := by cases e9; rfl
    obtain ⟨q1, q2⟩ := hE
    exact nxt L _ _ _ _ Bz Sz (dDay Dz 0) ⟨hr, (Or.inl ⟨h5, h0⟩), hP⟩ hIa ⟨fun q hq => by rw [fz_at fia 2 (by decide) (by decide)]; exact hXR.1 q hq, TWX_of (p := 6) (by decide) h5 (RTW_fz hW hTG.1 fia fja (by decide) (by decide))⟩ (XDS_agr ly_X hAa (XDS_day hXD ((eq32 _ 0).mpr q2) (fun c hc => FCx_at ly_X fw c (by revert c; decide) (by revert c; decide)))) (XK_fz hXK fia (by decide)) rfl ⟨rfl, rfl, ⟨rfl, q1.trans hXD.1⟩⟩
  · have hW := TWX_at ly_X hXR.2 (p := 27) (by decide) h5
    refine WL_aload_n dL_law_874 rfl ?_
    have h := sx_anew_27 (g := gX Z) (J := Y.1.2.1) ly_X hr h5  hXN (by omega)
    have h := SP_and2 h (ex_anewb ly_X hr h5 hW hTG.1)
    rw [ad_X] at h
    refine WL_callX0 dL_law_875 wX10_anew h (Nat.le_of_ble_eq_true rfl) (fun r I1 J1 R1 hq => ?_)
    obtain ⟨⟨⟨hIa, ec, fia, fja⟩, va, rfl⟩, I9a, J9a, R9a, hEa, hAa⟩ := hq
    show WL Z mL _ _ (.int _ :: _) _
    rw [ec]
    obtain ⟨-, fw, -, v9, e9, hE⟩ := hEa
    obtain rfl : va = v9 := by cases e9; rfl
    obtain ⟨q1, q2⟩ := hE
    exact nxt L _ _ _ _ Bz Sz (dDay Dz 0) ⟨hr, (Or.inr ⟨h5, h0⟩), hP⟩ hIa ⟨fun q hq => by rw [fz_at fia 2 (by decide) (by decide)]; exact hXR.1 q hq, TWX_of (p := 27) (by decide) h5 (RTW_fz hW hTG.1 fia fja (by decide) (by decide))⟩ (XDS_agr ly_X hAa (XDS_day hXD ((eq32 _ 0).mpr q2) (fun c hc => FCx_at ly_X fw c (by revert c; decide) (by revert c; decide)))) (XK_fz hXK fia (by decide)) rfl ⟨rfl, rfl, ⟨rfl, q1.trans hXD.1⟩⟩
set_option maxHeartbeats 4000000 in
set_option maxRecDepth 100000 in
theorem L_keep {Z : LB} {i : Int32} {Y : YY} {n : Int} {L : Int32} (hi : 0 ≤ i.toInt ∧ i.toInt + 8 ≤ (z_L Z : Int)) (h4 : z_L Z ≤ 4096) (hn : 0 ≤ n ∧ n ≤ 39000) (hV : IV Z n L Y) (hk : ∀ (Y2 : YY) (L2 : Int32), IV Z (n + 70) L2 Y2 → WL Z mL 1375 [(0, .ref (z_b Z)), (1, .ref (z_h Z + 0)), (2, .ref (z_h Z + 74 + 0)), (3, .int i)] [] Y2) : WL Z mL 887 [(0, .ref (z_b Z)), (1, .ref (z_h Z + 0)), (2, .ref (z_h Z + 74 + 0)), (3, .int i)] [] Y := by
  obtain ⟨⟨hr, hT, hP⟩, hX, hrm, hM, Bz, Sz, Dz, hBz, hTG, ⟨hXR, hXD, hXK⟩, hMR, hMD⟩ := hV
  have hXN := xi_mono hX (show n ≤ n + 70 by omega)
  have hMN := mp_mono hM (show n ≤ n + 70 by omega)
  have hLb := BT_get hX.1 1 1 2 0 0 900 (by decide) 1 (by decide) (by decide)
  rw [hX.2] at hLb
  have hDb := BT_get hM.1.1 38 33 34 0 1 0 (by decide) 33 (by decide) (by decide)
  rw [hMD.1] at hDb
  have hD0 : 0 ≤ Dz.1.toInt := by omega
  have nxt : ∀ (L2 v : Int32) (I1 : pI) (J1 : pJ) (R1 : pR) (B2 : Nat → Int32) (S2 : TwS) (D2 : DS), (RfX (gX Z) R1 ∧ TS (gX Z) R1 ∧ NL (gX Z) R1) → XI (gX Z) (n + 70) L2 I1 → XR (gX Z) B2 S2 I1 J1 R1 → XDS (gX Z) D2 I1 → XK (gX Z) S2 I1 → (L2 = L) → (B2 = Bz ∧ S2 = Sz ∧ ((∃ k : Nat, k < 3 ∧ (z_x Z (i + 1).toNatClampNeg).toInt = (k : Int) ∧ D2 = dKeep Dz k ∧ v = Dz.1) ∨ (¬ (0 ≤ (z_x Z (i + 1).toNatClampNeg).toInt ∧ (z_x Z (i + 1).toNatClampNeg).toInt < 3) ∧ D2 = Dz ∧ v.toInt = -2))) → WL Z mL 896 [(0, .ref (z_b Z)), (1, .ref (z_h Z + 0)), (2, .ref (z_h Z + 74 + 0)), (3, .int i)] [.int v] ((I1, J1, R1), Y.2) := by
    intro L2 v I1 J1 R1 B2 S2 D2 hR1 hX1 hXR1 hXD1 hXK1 hl hbr
    refine WL_pop dL_law_896 rfl ?_
    refine WL_aload_n dL_law_897 rfl ?_
    refine WL_aload_n dL_law_898 rfl ?_
    refine WL_iload_n dL_law_899 rfl ?_
    refine WL_iconst (1) dL_law_900 rfl ?_
    refine WL_iadd dL_law_901 ?_
    refine WL_sld dL_law_902 (L_in hi h4 (1) (by decide)) ?_
    have h := sm_keep (g := gM Z) (J := Y.2.2.1) ly_M hrm  hMN (z_x Z (i + 1).toNatClampNeg)
    have h := SP_and2 h (em_keep ly_M hrm (z_x Z (i + 1).toNatClampNeg))
    rw [ad_M] at h
    refine WL_callM1 dL_law_903 wX11_keep h (Nat.le_of_ble_eq_true rfl) (fun r I2 J2 R2 hq => ?_)
    obtain ⟨⟨⟨hIb, ec, fib, fjb, fqb⟩, vb, rfl⟩, I9b, J9b, R9b, hEb, hAb⟩ := hq
    show WL Z mL _ _ (.int _ :: _) _
    rw [ec]
    have eL : L = L2 := hl.symm
    rw [eL] at hIb
    obtain ⟨eB, eS, hdr⟩ := hbr
    rw [eB, eS] at hXR1
    rw [eS] at hXK1
    have hMR2 : MR (gM Z) Bz Sz I2 J2 := ⟨fun q hq => by rw [fz_at fib 1 (by decide) (by decide)]; exact hMR.1 q hq, RTT_fz hMR.2 hTG.1 fib fjb fqb (by decide) (by decide) (by decide)⟩
    have hBT2 := hBz
    have hTG2 := hTG
    obtain ⟨-, fw, -, -, v9, e9, hE⟩ := hEb
    obtain rfl : vb = v9 := by cases e9; rfl
    have key : v.toInt = vb.toInt ∧ MDS (gM Z) D2 I2 := by
      rcases hE with ⟨k, k1, k2, k3, k4, k5, k6, k7, -⟩ | ⟨q1, q2, q3, -⟩
      · rcases hdr with ⟨j, j1, j2, j3, j4⟩ | ⟨r1, -⟩
        · obtain rfl : j = k := by omega
          rw [j3]
          exact ⟨by rw [j4, k3]; exact congrArg Int32.toInt hMD.1.symm, MDS_agr ly_M hAb (MDS_keep ly_M k1 hMD fw k4 k5 k6 k7)⟩
        · exact absurd r1 (by omega)
      · rcases hdr with ⟨j, j1, j2, -⟩ | ⟨r1, r2, r3⟩
        · exact absurd q1 (by omega)
        · rw [r2]
          exact ⟨r3.trans q2.symm, MDS_agr ly_M hAb (by rw [q3]; exact hMD)⟩
    have hMD2 := key.2
    refine WL_pop dL_law_906 rfl ?_
    refine WL_goto 1375 dL_law_907 rfl ?_
    exact hk _ L2 ⟨hR1, hX1, hrm, hIb, Bz, Sz, D2, hBT2, hTG2, ⟨hXR1, hXD1, hXK1⟩, hMR2, hMD2⟩
  rcases hT with ⟨h5, h0⟩ | ⟨h5, h0⟩
  · have hW := TWX_at ly_X hXR.2 (p := 6) (by decide) h5
    refine WL_aload_n dL_law_887 rfl ?_
    refine WL_aload_n dL_law_888 rfl ?_
    refine WL_iload_n dL_law_889 rfl ?_
    refine WL_iconst (1) dL_law_890 rfl ?_
    refine WL_iadd dL_law_891 ?_
    refine WL_sld dL_law_892 (L_in hi h4 (1) (by decide)) ?_
    have h := sx_keep (g := gX Z) (J := Y.1.2.1) ly_X hr  hXN (z_x Z (i + 1).toNatClampNeg)
    have h := SP_and2 h (ex_keep ly_X hr (z_x Z (i + 1).toNatClampNeg))
    rw [ad_X] at h
    refine WL_callX1 dL_law_893 wX10_keep h (Nat.le_of_ble_eq_true rfl) (fun r I1 J1 R1 hq => ?_)
    obtain ⟨⟨⟨hIa, ec, fia, fja⟩, va, rfl⟩, I9a, J9a, R9a, hEa, hAa⟩ := hq
    show WL Z mL _ _ (.int _ :: _) _
    rw [ec]
    obtain ⟨-, fw, -, v9, e9, hE⟩ := hEa
    obtain rfl : va = v9 := by cases e9; rfl
    rcases hE with ⟨k, k1, k2, k3, k4, k5⟩ | ⟨q1, q2, q3⟩
    · exact nxt L _ _ _ _ Bz Sz (dKeep Dz k) ⟨hr, (Or.inl ⟨h5, h0⟩), hP⟩ hIa ⟨fun q hq => by rw [fz_at fia 2 (by decide) (by decide)]; exact hXR.1 q hq, TWX_of (p := 6) (by decide) h5 (RTW_fz hW hTG.1 fia fja (by decide) (by decide))⟩ (XDS_agr ly_X hAa (XDS_keep ly_X k1 hD0 hXD k4 k5)) (XK_fz hXK fia (by decide)) rfl ⟨rfl, rfl, Or.inl ⟨k, k1, k2, rfl, k3.trans hXD.1⟩⟩
    · exact nxt L _ _ _ _ Bz Sz (Dz) ⟨hr, (Or.inl ⟨h5, h0⟩), hP⟩ hIa ⟨fun q hq => by rw [fz_at fia 2 (by decide) (by decide)]; exact hXR.1 q hq, TWX_of (p := 6) (by decide) h5 (RTW_fz hW hTG.1 fia fja (by decide) (by decide))⟩ (XDS_agr ly_X hAa (by rw [q3]; exact hXD)) (XK_fz hXK fia (by decide)) rfl ⟨rfl, rfl, Or.inr ⟨q1, rfl, q2⟩⟩
  · have hW := TWX_at ly_X hXR.2 (p := 27) (by decide) h5
    refine WL_aload_n dL_law_887 rfl ?_
    refine WL_aload_n dL_law_888 rfl ?_
    refine WL_iload_n dL_law_889 rfl ?_
    refine WL_iconst (1) dL_law_890 rfl ?_
    refine WL_iadd dL_law_891 ?_
    refine WL_sld dL_law_892 (L_in hi h4 (1) (by decide)) ?_
    have h := sx_keep (g := gX Z) (J := Y.1.2.1) ly_X hr  hXN (z_x Z (i + 1).toNatClampNeg)
    have h := SP_and2 h (ex_keep ly_X hr (z_x Z (i + 1).toNatClampNeg))
    rw [ad_X] at h
    refine WL_callX1 dL_law_893 wX10_keep h (Nat.le_of_ble_eq_true rfl) (fun r I1 J1 R1 hq => ?_)
    obtain ⟨⟨⟨hIa, ec, fia, fja⟩, va, rfl⟩, I9a, J9a, R9a, hEa, hAa⟩ := hq
    show WL Z mL _ _ (.int _ :: _) _
    rw [ec]
    obtain ⟨-, fw, -, v9, e9, hE⟩ := hEa
    obtain rfl : va = v9 := by cases e9; rfl
    rcases hE with ⟨k, k1, k2, k3, k4, k5⟩ | ⟨q1, q2, q3⟩
    · exact nxt L _ _ _ _ Bz Sz (dKeep Dz k) ⟨hr, (Or.inr ⟨h5, h0⟩), hP⟩ hIa ⟨fun q hq => by rw [fz_at fia 2 (by decide) (by decide)]; exact hXR.1 q hq, TWX_of (p := 27) (by decide) h5 (RTW_fz hW hTG.1 fia fja (by decide) (by decide))⟩ (XDS_agr ly_X hAa (XDS_keep ly_X k1 hD0 hXD k4 k5)) (XK_fz hXK fia (by decide)) rfl ⟨rfl, rfl, Or.inl ⟨k, k1, k2, rfl, k3.trans hXD.1⟩⟩
    · exact nxt L _ _ _ _ Bz Sz (Dz) ⟨hr, (Or.inr ⟨h5, h0⟩), hP⟩ hIa ⟨fun q hq => by rw [fz_at fia 2 (by decide) (by decide)]; exact hXR.1 q hq, TWX_of (p := 27) (by decide) h5 (RTW_fz hW hTG.1 fia fja (by decide) (by decide))⟩ (XDS_agr ly_X hAa (by rw [q3]; exact hXD)) (XK_fz hXK fia (by decide)) rfl ⟨rfl, rfl, Or.inr ⟨q1, rfl, q2⟩⟩
set_option maxHeartbeats 4000000 in
set_option maxRecDepth 100000 in
theorem L_take {Z : LB} {i : Int32} {Y : YY} {n : Int} {L : Int32} (hi : 0 ≤ i.toInt ∧ i.toInt + 8 ≤ (z_L Z : Int)) (h4 : z_L Z ≤ 4096) (hn : 0 ≤ n ∧ n ≤ 39000) (hV : IV Z n L Y) (hk : ∀ (Y2 : YY) (L2 : Int32), IV Z (n + 70) L2 Y2 → WL Z mL 1375 [(0, .ref (z_b Z)), (1, .ref (z_h Z + 0)), (2, .ref (z_h Z + 74 + 0)), (3, .int i)] [] Y2) : WL Z mL 910 [(0, .ref (z_b Z)), (1, .ref (z_h Z + 0)), (2, .ref (z_h Z + 74 + 0)), (3, .int i)] [] Y := by
  obtain ⟨⟨hr, hT, hP⟩, hX, hrm, hM, Bz, Sz, Dz, hBz, hTG, ⟨hXR, hXD, hXK⟩, hMR, hMD⟩ := hV
  have hXN := xi_mono hX (show n ≤ n + 70 by omega)
  have hMN := mp_mono hM (show n ≤ n + 70 by omega)
  have hLb := BT_get hX.1 1 1 2 0 0 900 (by decide) 1 (by decide) (by decide)
  rw [hX.2] at hLb
  have hDb := BT_get hM.1.1 38 33 34 0 1 0 (by decide) 33 (by decide) (by decide)
  rw [hMD.1] at hDb
  have hD0 : 0 ≤ Dz.1.toInt := by omega
  have nxt : ∀ (L2 v : Int32) (I1 : pI) (J1 : pJ) (R1 : pR) (B2 : Nat → Int32) (S2 : TwS) (D2 : DS), (RfX (gX Z) R1 ∧ TS (gX Z) R1 ∧ NL (gX Z) R1) → XI (gX Z) (n + 70) L2 I1 → XR (gX Z) B2 S2 I1 J1 R1 → XDS (gX Z) D2 I1 → XK (gX Z) S2 I1 → (L2 = L) → (B2 = Bz ∧ S2 = Sz ∧ ((∃ k : Nat, k < 3 ∧ (z_x Z (i + 1).toNatClampNeg).toInt = (k : Int) ∧ ((Dz.2.2 k = none ∧ D2 = Dz ∧ v.toInt = -4) ∨ (∃ p, Dz.2.2 k = some p ∧ D2 = dTake Dz p ∧ v = p.1))) ∨ (¬ (0 ≤ (z_x Z (i + 1).toNatClampNeg).toInt ∧ (z_x Z (i + 1).toNatClampNeg).toInt < 3) ∧ D2 = Dz ∧ v.toInt = -2))) → WL Z mL 919 [(0, .ref (z_b Z)), (1, .ref (z_h Z + 0)), (2, .ref (z_h Z + 74 + 0)), (3, .int i)] [.int v] ((I1, J1, R1), Y.2) := by
    intro L2 v I1 J1 R1 B2 S2 D2 hR1 hX1 hXR1 hXD1 hXK1 hl hbr
    refine WL_aload_n dL_law_919 rfl ?_
    refine WL_aload_n dL_law_920 rfl ?_
    refine WL_iload_n dL_law_921 rfl ?_
    refine WL_iconst (1) dL_law_922 rfl ?_
    refine WL_iadd dL_law_923 ?_
    refine WL_sld dL_law_924 (L_in hi h4 (1) (by decide)) ?_
    have h := sm_take (g := gM Z) (J := Y.2.2.1) ly_M hrm  hMN (z_x Z (i + 1).toNatClampNeg)
    have h := SP_and2 h (em_take ly_M hrm (z_x Z (i + 1).toNatClampNeg))
    rw [ad_M] at h
    refine WL_callM1 dL_law_925 wX11_take h (Nat.le_of_ble_eq_true rfl) (fun r I2 J2 R2 hq => ?_)
    obtain ⟨⟨⟨hIb, ec, fib, fjb, fqb⟩, vb, rfl⟩, I9b, J9b, R9b, hEb, hAb⟩ := hq
    show WL Z mL _ _ (.int _ :: _) _
    rw [ec]
    have eL : L = L2 := hl.symm
    rw [eL] at hIb
    obtain ⟨eB, eS, hdr⟩ := hbr
    rw [eB, eS] at hXR1
    rw [eS] at hXK1
    have hMR2 : MR (gM Z) Bz Sz I2 J2 := ⟨fun q hq => by rw [fz_at fib 1 (by decide) (by decide)]; exact hMR.1 q hq, RTT_fz hMR.2 hTG.1 fib fjb fqb (by decide) (by decide) (by decide)⟩
    have hBT2 := hBz
    have hTG2 := hTG
    obtain ⟨-, fw, -, -, v9, e9, hE⟩ := hEb
    obtain rfl : vb = v9 := by cases e9; rfl
    have key : v.toInt = vb.toInt ∧ MDS (gM Z) D2 I2 := by
      rcases hE with ⟨k, k1, k2, hE2⟩ | ⟨q1, q2, q3, -⟩
      · rcases hdr with ⟨j, j1, j2, hD2⟩ | ⟨r1, -⟩
        · obtain rfl : j = k := by omega
          have hn := MSL_none (hMD.2.2 j k1)
          rcases hE2 with ⟨q1, q2, q3, -⟩ | ⟨q1, q2, q3, -⟩
          · rcases hD2 with ⟨-, r2, r3⟩ | ⟨p, r1, -⟩
            · rw [r2]
              exact ⟨r3.trans q2.symm, MDS_agr ly_M hAb (by rw [q3]; exact hMD)⟩
            · exact absurd (r1.symm.trans (hn.mpr q1)) (by simp)
          · rcases hD2 with ⟨r1, -⟩ | ⟨p, r1, r2, r3⟩
            · exact absurd (hn.mp r1) q1
            · have hs := hMD.2.2 j k1
              rw [r1] at hs
              rw [r2]
              exact ⟨by rw [r3, q2]; exact congrArg Int32.toInt hs.2.1.symm, MDS_agr ly_M hAb (MDS_take ly_M k1 r1 hMD fw q3)⟩
        · exact absurd r1 (by omega)
      · rcases hdr with ⟨j, j1, j2, -⟩ | ⟨r1, r2, r3⟩
        · exact absurd q1 (by omega)
        · rw [r2]
          exact ⟨r3.trans q2.symm, MDS_agr ly_M hAb (by rw [q3]; exact hMD)⟩
    have hMD2 := key.2
    exact WL_icmp_eq 1375 dL_law_928 rfl (fun _ => hk _ L2 ⟨hR1, hX1, hrm, hIb, Bz, Sz, D2, hBT2, hTG2, ⟨hXR1, hXD1, hXK1⟩, hMR2, hMD2⟩) (fun z => absurd ((eq32 _ _).mpr key.1) z)
  rcases hT with ⟨h5, h0⟩ | ⟨h5, h0⟩
  · have hW := TWX_at ly_X hXR.2 (p := 6) (by decide) h5
    refine WL_aload_n dL_law_910 rfl ?_
    refine WL_aload_n dL_law_911 rfl ?_
    refine WL_iload_n dL_law_912 rfl ?_
    refine WL_iconst (1) dL_law_913 rfl ?_
    refine WL_iadd dL_law_914 ?_
    refine WL_sld dL_law_915 (L_in hi h4 (1) (by decide)) ?_
    have h := sx_take (g := gX Z) (J := Y.1.2.1) ly_X hr  hXN (z_x Z (i + 1).toNatClampNeg)
    have h := SP_and2 h (ex_take ly_X hr (z_x Z (i + 1).toNatClampNeg))
    rw [ad_X] at h
    refine WL_callX1 dL_law_916 wX10_take h (Nat.le_of_ble_eq_true rfl) (fun r I1 J1 R1 hq => ?_)
    obtain ⟨⟨⟨hIa, ec, fia, fja⟩, va, rfl⟩, I9a, J9a, R9a, hEa, hAa⟩ := hq
    show WL Z mL _ _ (.int _ :: _) _
    rw [ec]
    obtain ⟨-, fw, -, v9, e9, hE⟩ := hEa
    obtain rfl : va = v9 := by cases e9; rfl
    rcases hE with ⟨k, k1, k2, hE2⟩ | ⟨q1, q2, q3⟩
    · have hn := XSL_none (hXD.2.2 k k1)
      rcases hE2 with ⟨q1, q2, q3⟩ | ⟨q1, q2, q3⟩
      · exact nxt L _ _ _ _ Bz Sz (Dz) ⟨hr, (Or.inl ⟨h5, h0⟩), hP⟩ hIa ⟨fun q hq => by rw [fz_at fia 2 (by decide) (by decide)]; exact hXR.1 q hq, TWX_of (p := 6) (by decide) h5 (RTW_fz hW hTG.1 fia fja (by decide) (by decide))⟩ (XDS_agr ly_X hAa (by rw [q3]; exact hXD)) (XK_fz hXK fia (by decide)) rfl ⟨rfl, rfl, Or.inl ⟨k, k1, k2, Or.inl ⟨hn.mpr q1, rfl, q2⟩⟩⟩
      · obtain ⟨p, hp⟩ : ∃ p, Dz.2.2 k = some p := by
          cases h9 : Dz.2.2 k with
          | none => exact absurd (hn.mp h9) q1
          | some p => exact ⟨p, rfl⟩
        have hs := hXD.2.2 k k1
        rw [hp] at hs
        exact nxt L _ _ _ _ Bz Sz (dTake Dz p) ⟨hr, (Or.inl ⟨h5, h0⟩), hP⟩ hIa ⟨fun q hq => by rw [fz_at fia 2 (by decide) (by decide)]; exact hXR.1 q hq, TWX_of (p := 6) (by decide) h5 (RTW_fz hW hTG.1 fia fja (by decide) (by decide))⟩ (XDS_agr ly_X hAa (XDS_take ly_X k1 hp hXD q3 fw)) (XK_fz hXK fia (by decide)) rfl ⟨rfl, rfl, Or.inl ⟨k, k1, k2, Or.inr ⟨p, hp, rfl, q2.trans hs.1⟩⟩⟩
    · exact nxt L _ _ _ _ Bz Sz (Dz) ⟨hr, (Or.inl ⟨h5, h0⟩), hP⟩ hIa ⟨fun q hq => by rw [fz_at fia 2 (by decide) (by decide)]; exact hXR.1 q hq, TWX_of (p := 6) (by decide) h5 (RTW_fz hW hTG.1 fia fja (by decide) (by decide))⟩ (XDS_agr ly_X hAa (by rw [q3]; exact hXD)) (XK_fz hXK fia (by decide)) rfl ⟨rfl, rfl, Or.inr ⟨q1, rfl, q2⟩⟩
  · have hW := TWX_at ly_X hXR.2 (p := 27) (by decide) h5
    refine WL_aload_n dL_law_910 rfl ?_
    refine WL_aload_n dL_law_911 rfl ?_
    refine WL_iload_n dL_law_912 rfl ?_
    refine WL_iconst (1) dL_law_913 rfl ?_
    refine WL_iadd dL_law_914 ?_
    refine WL_sld dL_law_915 (L_in hi h4 (1) (by decide)) ?_
    have h := sx_take (g := gX Z) (J := Y.1.2.1) ly_X hr  hXN (z_x Z (i + 1).toNatClampNeg)
    have h := SP_and2 h (ex_take ly_X hr (z_x Z (i + 1).toNatClampNeg))
    rw [ad_X] at h
    refine WL_callX1 dL_law_916 wX10_take h (Nat.le_of_ble_eq_true rfl) (fun r I1 J1 R1 hq => ?_)
    obtain ⟨⟨⟨hIa, ec, fia, fja⟩, va, rfl⟩, I9a, J9a, R9a, hEa, hAa⟩ := hq
    show WL Z mL _ _ (.int _ :: _) _
    rw [ec]
    obtain ⟨-, fw, -, v9, e9, hE⟩ := hEa
    obtain rfl : va = v9 := by cases e9; rfl
    rcases hE with ⟨k, k1, k2, hE2⟩ | ⟨q1, q2, q3⟩
    · have hn := XSL_none (hXD.2.2 k k1)
      rcases hE2 with ⟨q1, q2, q3⟩ | ⟨q1, q2, q3⟩
      · exact nxt L _ _ _ _ Bz Sz (Dz) ⟨hr, (Or.inr ⟨h5, h0⟩), hP⟩ hIa ⟨fun q hq => by rw [fz_at fia 2 (by decide) (by decide)]; exact hXR.1 q hq, TWX_of (p := 27) (by decide) h5 (RTW_fz hW hTG.1 fia fja (by decide) (by decide))⟩ (XDS_agr ly_X hAa (by rw [q3]; exact hXD)) (XK_fz hXK fia (by decide)) rfl ⟨rfl, rfl, Or.inl ⟨k, k1, k2, Or.inl ⟨hn.mpr q1, rfl, q2⟩⟩⟩
      · obtain ⟨p, hp⟩ : ∃ p, Dz.2.2 k = some p := by
          cases h9 : Dz.2.2 k with
          | none => exact absurd (hn.mp h9) q1
          | some p => exact ⟨p, rfl⟩
        have hs := hXD.2.2 k k1
        rw [hp] at hs
        exact nxt L _ _ _ _ Bz Sz (dTake Dz p) ⟨hr, (Or.inr ⟨h5, h0⟩), hP⟩ hIa ⟨fun q hq => by rw [fz_at fia 2 (by decide) (by decide)]; exact hXR.1 q hq, TWX_of (p := 27) (by decide) h5 (RTW_fz hW hTG.1 fia fja (by decide) (by decide))⟩ (XDS_agr ly_X hAa (XDS_take ly_X k1 hp hXD q3 fw)) (XK_fz hXK fia (by decide)) rfl ⟨rfl, rfl, Or.inl ⟨k, k1, k2, Or.inr ⟨p, hp, rfl, q2.trans hs.1⟩⟩⟩
    · exact nxt L _ _ _ _ Bz Sz (Dz) ⟨hr, (Or.inr ⟨h5, h0⟩), hP⟩ hIa ⟨fun q hq => by rw [fz_at fia 2 (by decide) (by decide)]; exact hXR.1 q hq, TWX_of (p := 27) (by decide) h5 (RTW_fz hW hTG.1 fia fja (by decide) (by decide))⟩ (XDS_agr ly_X hAa (by rw [q3]; exact hXD)) (XK_fz hXK fia (by decide)) rfl ⟨rfl, rfl, Or.inr ⟨q1, rfl, q2⟩⟩
set_option maxHeartbeats 4000000 in
set_option maxRecDepth 100000 in
theorem L_worthAt {Z : LB} {i : Int32} {Y : YY} {n : Int} {L : Int32} (hi : 0 ≤ i.toInt ∧ i.toInt + 8 ≤ (z_L Z : Int)) (h4 : z_L Z ≤ 4096) (hn : 0 ≤ n ∧ n ≤ 39000) (hV : IV Z n L Y) (hk : ∀ (Y2 : YY) (L2 : Int32), IV Z (n + 70) L2 Y2 → WL Z mL 1375 [(0, .ref (z_b Z)), (1, .ref (z_h Z + 0)), (2, .ref (z_h Z + 74 + 0)), (3, .int i)] [] Y2) : WL Z mL 933 [(0, .ref (z_b Z)), (1, .ref (z_h Z + 0)), (2, .ref (z_h Z + 74 + 0)), (3, .int i)] [] Y := by
  obtain ⟨⟨hr, hT, hP⟩, hX, hrm, hM, Bz, Sz, Dz, hBz, hTG, ⟨hXR, hXD, hXK⟩, hMR, hMD⟩ := hV
  have hXN := xi_mono hX (show n ≤ n + 70 by omega)
  have hMN := mp_mono hM (show n ≤ n + 70 by omega)
  have hLb := BT_get hX.1 1 1 2 0 0 900 (by decide) 1 (by decide) (by decide)
  rw [hX.2] at hLb
  have hDb := BT_get hM.1.1 38 33 34 0 1 0 (by decide) 33 (by decide) (by decide)
  rw [hMD.1] at hDb
  have hD0 : 0 ≤ Dz.1.toInt := by omega
  have nxt : ∀ (L2 v : Int32) (I1 : pI) (J1 : pJ) (R1 : pR) (B2 : Nat → Int32) (S2 : TwS) (D2 : DS), (RfX (gX Z) R1 ∧ TS (gX Z) R1 ∧ NL (gX Z) R1) → XI (gX Z) (n + 70) L2 I1 → XR (gX Z) B2 S2 I1 J1 R1 → XDS (gX Z) D2 I1 → XK (gX Z) S2 I1 → (L2 = L) → (B2 = Bz ∧ S2 = Sz ∧ D2 = Dz) → WL Z mL 947 [(0, .ref (z_b Z)), (1, .ref (z_h Z + 0)), (2, .ref (z_h Z + 74 + 0)), (3, .int i)] [.int v] ((I1, J1, R1), Y.2) := by
    intro L2 v I1 J1 R1 B2 S2 D2 hR1 hX1 hXR1 hXD1 hXK1 hl hbr
    refine WL_pop dL_law_947 rfl ?_
    refine WL_aload_n dL_law_948 rfl ?_
    refine WL_aload_n dL_law_949 rfl ?_
    refine WL_iload_n dL_law_950 rfl ?_
    refine WL_iconst (1) dL_law_951 rfl ?_
    refine WL_iadd dL_law_952 ?_
    refine WL_sld dL_law_953 (L_in hi h4 (1) (by decide)) ?_
    refine WL_aload_n dL_law_954 rfl ?_
    refine WL_iload_n dL_law_955 rfl ?_
    refine WL_iconst (2) dL_law_956 rfl ?_
    refine WL_iadd dL_law_957 ?_
    refine WL_sld dL_law_958 (L_in hi h4 (2) (by decide)) ?_
    have h := sm_worthAt (g := gM Z) (J := Y.2.2.1) ly_M hrm  hMN (z_x Z (i + 1).toNatClampNeg) (z_x Z (i + 2).toNatClampNeg) (by omega)
    rw [ad_M] at h
    refine WL_callM2 dL_law_959 wX11_worthAt h (Nat.le_of_ble_eq_true rfl) (fun r I2 J2 R2 hq => ?_)
    obtain ⟨⟨hIb, ec, fib, fjb, fqb⟩, vb, rfl⟩ := hq
    show WL Z mL _ _ (.int _ :: _) _
    rw [ec]
    have eL : L = L2 := hl.symm
    rw [eL] at hIb
    obtain ⟨eB, eS, hdr⟩ := hbr
    rw [eB, eS] at hXR1
    rw [eS] at hXK1
    have hMR2 : MR (gM Z) Bz Sz I2 J2 := ⟨fun q hq => by rw [fz_at fib 1 (by decide) (by decide)]; exact hMR.1 q hq, RTT_fz hMR.2 hTG.1 fib fjb fqb (by decide) (by decide) (by decide)⟩
    have hBT2 := hBz
    have hTG2 := hTG
    have hMD2 : MDS (gM Z) D2 I2 := by rw [hdr]; exact MDS_fz hMD fib (by decide)
    refine WL_pop dL_law_962 rfl ?_
    refine WL_goto 1375 dL_law_963 rfl ?_
    exact hk _ L2 ⟨hR1, hX1, hrm, hIb, Bz, Sz, D2, hBT2, hTG2, ⟨hXR1, hXD1, hXK1⟩, hMR2, hMD2⟩
  rcases hT with ⟨h5, h0⟩ | ⟨h5, h0⟩
  · have hW := TWX_at ly_X hXR.2 (p := 6) (by decide) h5
    refine WL_aload_n dL_law_933 rfl ?_
    refine WL_aload_n dL_law_934 rfl ?_
    refine WL_iload_n dL_law_935 rfl ?_
    refine WL_iconst (1) dL_law_936 rfl ?_
    refine WL_iadd dL_law_937 ?_
    refine WL_sld dL_law_938 (L_in hi h4 (1) (by decide)) ?_
    refine WL_aload_n dL_law_939 rfl ?_
    refine WL_iload_n dL_law_940 rfl ?_
    refine WL_iconst (2) dL_law_941 rfl ?_
    refine WL_iadd dL_law_942 ?_
    refine WL_sld dL_law_943 (L_in hi h4 (2) (by decide)) ?_
    have h := sx_worthAt_6 (g := gX Z) (J := Y.1.2.1) ly_X hr hP h5  hXN (z_x Z (i + 1).toNatClampNeg) (z_x Z (i + 2).toNatClampNeg) (by omega)
    rw [ad_X] at h
    refine WL_callX2 dL_law_944 wX10_worthAt h (Nat.le_of_ble_eq_true rfl) (fun r I1 J1 R1 hq => ?_)
    obtain ⟨⟨hIa, ⟨hra, ⟨hta, hsa⟩, hpa⟩, fia, fja, poa⟩, va, rfl⟩ := hq
    show WL Z mL _ _ (.int _ :: _) _
    have hWn := RTW_fz hW hTG.1 fia fja (by decide) (by decide)
    exact nxt L _ _ _ _ Bz Sz Dz ⟨hra, Or.inl ⟨hta.trans h5, hsa.trans h0⟩, hpa⟩ hIa ⟨fun q hq => by rw [fz_at fia 2 (by decide) (by decide)]; exact hXR.1 q hq, TWX_of (p := 6) (by decide) (hta.trans h5) (RTW_fz hW hTG.1 fia fja (by decide) (by decide))⟩ (XDS_fz hXD fia (by decide)) (XK_ltx (p := 6) hXK fia (by decide) hWn (poa (LTX_of hXK hW))) rfl ⟨rfl, rfl, rfl⟩
  · have hW := TWX_at ly_X hXR.2 (p := 27) (by decide) h5
    refine WL_aload_n dL_law_933 rfl ?_
    refine WL_aload_n dL_law_934 rfl ?_
    refine WL_iload_n dL_law_935 rfl ?_
    refine WL_iconst (1) dL_law_936 rfl ?_
    refine WL_iadd dL_law_937 ?_
    refine WL_sld dL_law_938 (L_in hi h4 (1) (by decide)) ?_
    refine WL_aload_n dL_law_939 rfl ?_
    refine WL_iload_n dL_law_940 rfl ?_
    refine WL_iconst (2) dL_law_941 rfl ?_
    refine WL_iadd dL_law_942 ?_
    refine WL_sld dL_law_943 (L_in hi h4 (2) (by decide)) ?_
    have h := sx_worthAt_27 (g := gX Z) (J := Y.1.2.1) ly_X hr hP h5  hXN (z_x Z (i + 1).toNatClampNeg) (z_x Z (i + 2).toNatClampNeg) (by omega)
    rw [ad_X] at h
    refine WL_callX2 dL_law_944 wX10_worthAt h (Nat.le_of_ble_eq_true rfl) (fun r I1 J1 R1 hq => ?_)
    obtain ⟨⟨hIa, ⟨hra, ⟨hta, hsa⟩, hpa⟩, fia, fja, poa⟩, va, rfl⟩ := hq
    show WL Z mL _ _ (.int _ :: _) _
    have hWn := RTW_fz hW hTG.1 fia fja (by decide) (by decide)
    exact nxt L _ _ _ _ Bz Sz Dz ⟨hra, Or.inr ⟨hta.trans h5, hsa.trans h0⟩, hpa⟩ hIa ⟨fun q hq => by rw [fz_at fia 2 (by decide) (by decide)]; exact hXR.1 q hq, TWX_of (p := 27) (by decide) (hta.trans h5) (RTW_fz hW hTG.1 fia fja (by decide) (by decide))⟩ (XDS_fz hXD fia (by decide)) (XK_ltx (p := 27) hXK fia (by decide) hWn (poa (LTX_of hXK hW))) rfl ⟨rfl, rfl, rfl⟩
set_option maxHeartbeats 4000000 in
set_option maxRecDepth 100000 in
theorem L_rate {Z : LB} {i : Int32} {Y : YY} {n : Int} {L : Int32} (hi : 0 ≤ i.toInt ∧ i.toInt + 8 ≤ (z_L Z : Int)) (h4 : z_L Z ≤ 4096) (hn : 0 ≤ n ∧ n ≤ 39000) (hV : IV Z n L Y) (hk : ∀ (Y2 : YY) (L2 : Int32), IV Z (n + 70) L2 Y2 → WL Z mL 1375 [(0, .ref (z_b Z)), (1, .ref (z_h Z + 0)), (2, .ref (z_h Z + 74 + 0)), (3, .int i)] [] Y2) : WL Z mL 966 [(0, .ref (z_b Z)), (1, .ref (z_h Z + 0)), (2, .ref (z_h Z + 74 + 0)), (3, .int i)] [] Y := by
  obtain ⟨⟨hr, hT, hP⟩, hX, hrm, hM, Bz, Sz, Dz, hBz, hTG, ⟨hXR, hXD, hXK⟩, hMR, hMD⟩ := hV
  have hXN := xi_mono hX (show n ≤ n + 70 by omega)
  have hMN := mp_mono hM (show n ≤ n + 70 by omega)
  have hLb := BT_get hX.1 1 1 2 0 0 900 (by decide) 1 (by decide) (by decide)
  rw [hX.2] at hLb
  have hDb := BT_get hM.1.1 38 33 34 0 1 0 (by decide) 33 (by decide) (by decide)
  rw [hMD.1] at hDb
  have hD0 : 0 ≤ Dz.1.toInt := by omega
  have nxt : ∀ (L2 v : Int32) (I1 : pI) (J1 : pJ) (R1 : pR) (B2 : Nat → Int32) (S2 : TwS) (D2 : DS), (RfX (gX Z) R1 ∧ TS (gX Z) R1 ∧ NL (gX Z) R1) → XI (gX Z) (n + 70) L2 I1 → XR (gX Z) B2 S2 I1 J1 R1 → XDS (gX Z) D2 I1 → XK (gX Z) S2 I1 → (L2 = L) → (B2 = Bz ∧ S2 = Sz ∧ D2 = Dz) → WL Z mL 975 [(0, .ref (z_b Z)), (1, .ref (z_h Z + 0)), (2, .ref (z_h Z + 74 + 0)), (3, .int i)] [.int v] ((I1, J1, R1), Y.2) := by
    intro L2 v I1 J1 R1 B2 S2 D2 hR1 hX1 hXR1 hXD1 hXK1 hl hbr
    refine WL_pop dL_law_975 rfl ?_
    refine WL_aload_n dL_law_976 rfl ?_
    refine WL_aload_n dL_law_977 rfl ?_
    refine WL_iload_n dL_law_978 rfl ?_
    refine WL_iconst (1) dL_law_979 rfl ?_
    refine WL_iadd dL_law_980 ?_
    refine WL_sld dL_law_981 (L_in hi h4 (1) (by decide)) ?_
    have h := sm_rate (g := gM Z) (J := Y.2.2.1) ly_M hrm  hMN (z_x Z (i + 1).toNatClampNeg) (by omega)
    rw [ad_M] at h
    refine WL_callM1 dL_law_982 wX11_rate h (Nat.le_of_ble_eq_true rfl) (fun r I2 J2 R2 hq => ?_)
    obtain ⟨⟨hIb, ec, fib, fjb, fqb⟩, vb, rfl⟩ := hq
    show WL Z mL _ _ (.int _ :: _) _
    rw [ec]
    have eL : L = L2 := hl.symm
    rw [eL] at hIb
    obtain ⟨eB, eS, hdr⟩ := hbr
    rw [eB, eS] at hXR1
    rw [eS] at hXK1
    have hMR2 : MR (gM Z) Bz Sz I2 J2 := ⟨fun q hq => by rw [fz_at fib 1 (by decide) (by decide)]; exact hMR.1 q hq, RTT_fz hMR.2 hTG.1 fib fjb fqb (by decide) (by decide) (by decide)⟩
    have hBT2 := hBz
    have hTG2 := hTG
    have hMD2 : MDS (gM Z) D2 I2 := by rw [hdr]; exact MDS_fz hMD fib (by decide)
    refine WL_pop dL_law_985 rfl ?_
    refine WL_goto 1375 dL_law_986 rfl ?_
    exact hk _ L2 ⟨hR1, hX1, hrm, hIb, Bz, Sz, D2, hBT2, hTG2, ⟨hXR1, hXD1, hXK1⟩, hMR2, hMD2⟩
  rcases hT with ⟨h5, h0⟩ | ⟨h5, h0⟩
  · have hW := TWX_at ly_X hXR.2 (p := 6) (by decide) h5
    refine WL_aload_n dL_law_966 rfl ?_
    refine WL_aload_n dL_law_967 rfl ?_
    refine WL_iload_n dL_law_968 rfl ?_
    refine WL_iconst (1) dL_law_969 rfl ?_
    refine WL_iadd dL_law_970 ?_
    refine WL_sld dL_law_971 (L_in hi h4 (1) (by decide)) ?_
    have h := sx_rate_6 (g := gX Z) (J := Y.1.2.1) ly_X hr hP h5  hXN (z_x Z (i + 1).toNatClampNeg) (by omega)
    rw [ad_X] at h
    refine WL_callX1 dL_law_972 wX10_rate h (Nat.le_of_ble_eq_true rfl) (fun r I1 J1 R1 hq => ?_)
    obtain ⟨⟨hIa, ⟨hra, ⟨hta, hsa⟩, hpa⟩, fia, fja, poa⟩, va, rfl⟩ := hq
    show WL Z mL _ _ (.int _ :: _) _
    have hWn := RTW_fz hW hTG.1 fia fja (by decide) (by decide)
    exact nxt L _ _ _ _ Bz Sz Dz ⟨hra, Or.inl ⟨hta.trans h5, hsa.trans h0⟩, hpa⟩ hIa ⟨fun q hq => by rw [fz_at fia 2 (by decide) (by decide)]; exact hXR.1 q hq, TWX_of (p := 6) (by decide) (hta.trans h5) (RTW_fz hW hTG.1 fia fja (by decide) (by decide))⟩ (XDS_fz hXD fia (by decide)) (XK_ltx (p := 6) hXK fia (by decide) hWn (poa (LTX_of hXK hW))) rfl ⟨rfl, rfl, rfl⟩
  · have hW := TWX_at ly_X hXR.2 (p := 27) (by decide) h5
    refine WL_aload_n dL_law_966 rfl ?_
    refine WL_aload_n dL_law_967 rfl ?_
    refine WL_iload_n dL_law_968 rfl ?_
    refine WL_iconst (1) dL_law_969 rfl ?_
    refine WL_iadd dL_law_970 ?_
    refine WL_sld dL_law_971 (L_in hi h4 (1) (by decide)) ?_
    have h := sx_rate_27 (g := gX Z) (J := Y.1.2.1) ly_X hr hP h5  hXN (z_x Z (i + 1).toNatClampNeg) (by omega)
    rw [ad_X] at h
    refine WL_callX1 dL_law_972 wX10_rate h (Nat.le_of_ble_eq_true rfl) (fun r I1 J1 R1 hq => ?_)
    obtain ⟨⟨hIa, ⟨hra, ⟨hta, hsa⟩, hpa⟩, fia, fja, poa⟩, va, rfl⟩ := hq
    show WL Z mL _ _ (.int _ :: _) _
    have hWn := RTW_fz hW hTG.1 fia fja (by decide) (by decide)
    exact nxt L _ _ _ _ Bz Sz Dz ⟨hra, Or.inr ⟨hta.trans h5, hsa.trans h0⟩, hpa⟩ hIa ⟨fun q hq => by rw [fz_at fia 2 (by decide) (by decide)]; exact hXR.1 q hq, TWX_of (p := 27) (by decide) (hta.trans h5) (RTW_fz hW hTG.1 fia fja (by decide) (by decide))⟩ (XDS_fz hXD fia (by decide)) (XK_ltx (p := 27) hXK fia (by decide) hWn (poa (LTX_of hXK hW))) rfl ⟨rfl, rfl, rfl⟩
set_option maxHeartbeats 4000000 in
set_option maxRecDepth 100000 in
theorem L_rest {Z : LB} {i : Int32} {Y : YY} {n : Int} {L : Int32} (hi : 0 ≤ i.toInt ∧ i.toInt + 8 ≤ (z_L Z : Int)) (h4 : z_L Z ≤ 4096) (hn : 0 ≤ n ∧ n ≤ 39000) (hV : IV Z n L Y) (hk : ∀ (Y2 : YY) (L2 : Int32), IV Z (n + 70) L2 Y2 → WL Z mL 1375 [(0, .ref (z_b Z)), (1, .ref (z_h Z + 0)), (2, .ref (z_h Z + 74 + 0)), (3, .int i)] [] Y2) : WL Z mL 989 [(0, .ref (z_b Z)), (1, .ref (z_h Z + 0)), (2, .ref (z_h Z + 74 + 0)), (3, .int i)] [] Y := by
  obtain ⟨⟨hr, hT, hP⟩, hX, hrm, hM, Bz, Sz, Dz, hBz, hTG, ⟨hXR, hXD, hXK⟩, hMR, hMD⟩ := hV
  have hXN := xi_mono hX (show n ≤ n + 70 by omega)
  have hMN := mp_mono hM (show n ≤ n + 70 by omega)
  have hLb := BT_get hX.1 1 1 2 0 0 900 (by decide) 1 (by decide) (by decide)
  rw [hX.2] at hLb
  have hDb := BT_get hM.1.1 38 33 34 0 1 0 (by decide) 33 (by decide) (by decide)
  rw [hMD.1] at hDb
  have hD0 : 0 ≤ Dz.1.toInt := by omega
  have nxt : ∀ (L2 v : Int32) (I1 : pI) (J1 : pJ) (R1 : pR) (B2 : Nat → Int32) (S2 : TwS) (D2 : DS), (RfX (gX Z) R1 ∧ TS (gX Z) R1 ∧ NL (gX Z) R1) → XI (gX Z) (n + 70) L2 I1 → XR (gX Z) B2 S2 I1 J1 R1 → XDS (gX Z) D2 I1 → XK (gX Z) S2 I1 → (L2 = L) → (B2 = Bz ∧ S2 = Sz ∧ D2 = Dz) → WL Z mL 998 [(0, .ref (z_b Z)), (1, .ref (z_h Z + 0)), (2, .ref (z_h Z + 74 + 0)), (3, .int i)] [.int v] ((I1, J1, R1), Y.2) := by
    intro L2 v I1 J1 R1 B2 S2 D2 hR1 hX1 hXR1 hXD1 hXK1 hl hbr
    refine WL_pop dL_law_998 rfl ?_
    refine WL_aload_n dL_law_999 rfl ?_
    refine WL_aload_n dL_law_1000 rfl ?_
    refine WL_iload_n dL_law_1001 rfl ?_
    refine WL_iconst (1) dL_law_1002 rfl ?_
    refine WL_iadd dL_law_1003 ?_
    refine WL_sld dL_law_1004 (L_in hi h4 (1) (by decide)) ?_
    have h := sm_rest (g := gM Z) (J := Y.2.2.1) ly_M hrm  hMN (z_x Z (i + 1).toNatClampNeg) (by omega)
    rw [ad_M] at h
    refine WL_callM1 dL_law_1005 wX11_rest h (Nat.le_of_ble_eq_true rfl) (fun r I2 J2 R2 hq => ?_)
    obtain ⟨⟨hIb, ec, fib, fjb, fqb⟩, vb, rfl⟩ := hq
    show WL Z mL _ _ (.int _ :: _) _
    rw [ec]
    have eL : L = L2 := hl.symm
    rw [eL] at hIb
    obtain ⟨eB, eS, hdr⟩ := hbr
    rw [eB, eS] at hXR1
    rw [eS] at hXK1
    have hMR2 : MR (gM Z) Bz Sz I2 J2 := ⟨fun q hq => by rw [fz_at fib 1 (by decide) (by decide)]; exact hMR.1 q hq, RTT_fz hMR.2 hTG.1 fib fjb fqb (by decide) (by decide) (by decide)⟩
    have hBT2 := hBz
    have hTG2 := hTG
    have hMD2 : MDS (gM Z) D2 I2 := by rw [hdr]; exact MDS_fz hMD fib (by decide)
    refine WL_pop dL_law_1008 rfl ?_
    refine WL_goto 1375 dL_law_1009 rfl ?_
    exact hk _ L2 ⟨hR1, hX1, hrm, hIb, Bz, Sz, D2, hBT2, hTG2, ⟨hXR1, hXD1, hXK1⟩, hMR2, hMD2⟩
  rcases hT with ⟨h5, h0⟩ | ⟨h5, h0⟩
  · have hW := TWX_at ly_X hXR.2 (p := 6) (by decide) h5
    refine WL_aload_n dL_law_989 rfl ?_
    refine WL_aload_n dL_law_990 rfl ?_
    refine WL_iload_n dL_law_991 rfl ?_
    refine WL_iconst (1) dL_law_992 rfl ?_
    refine WL_iadd dL_law_993 ?_
    refine WL_sld dL_law_994 (L_in hi h4 (1) (by decide)) ?_
    have h := sx_rest_6 (g := gX Z) (J := Y.1.2.1) ly_X hr hP h5  hXN (z_x Z (i + 1).toNatClampNeg) (by omega)
    rw [ad_X] at h
    refine WL_callX1 dL_law_995 wX10_rest h (Nat.le_of_ble_eq_true rfl) (fun r I1 J1 R1 hq => ?_)
    obtain ⟨⟨hIa, ⟨hra, ⟨hta, hsa⟩, hpa⟩, fia, fja⟩, va, rfl⟩ := hq
    show WL Z mL _ _ (.int _ :: _) _
    exact nxt L _ _ _ _ Bz Sz Dz ⟨hra, Or.inl ⟨hta.trans h5, hsa.trans h0⟩, hpa⟩ hIa ⟨fun q hq => by rw [fz_at fia 2 (by decide) (by decide)]; exact hXR.1 q hq, TWX_of (p := 6) (by decide) (hta.trans h5) (RTW_fz hW hTG.1 fia fja (by decide) (by decide))⟩ (XDS_fz hXD fia (by decide)) (XK_fz hXK fia (by decide)) rfl ⟨rfl, rfl, rfl⟩
  · have hW := TWX_at ly_X hXR.2 (p := 27) (by decide) h5
    refine WL_aload_n dL_law_989 rfl ?_
    refine WL_aload_n dL_law_990 rfl ?_
    refine WL_iload_n dL_law_991 rfl ?_
    refine WL_iconst (1) dL_law_992 rfl ?_
    refine WL_iadd dL_law_993 ?_
    refine WL_sld dL_law_994 (L_in hi h4 (1) (by decide)) ?_
    have h := sx_rest_27 (g := gX Z) (J := Y.1.2.1) ly_X hr hP h5  hXN (z_x Z (i + 1).toNatClampNeg) (by omega)
    rw [ad_X] at h
    refine WL_callX1 dL_law_995 wX10_rest h (Nat.le_of_ble_eq_true rfl) (fun r I1 J1 R1 hq => ?_)
    obtain ⟨⟨hIa, ⟨hra, ⟨hta, hsa⟩, hpa⟩, fia, fja⟩, va, rfl⟩ := hq
    show WL Z mL _ _ (.int _ :: _) _
    exact nxt L _ _ _ _ Bz Sz Dz ⟨hra, Or.inr ⟨hta.trans h5, hsa.trans h0⟩, hpa⟩ hIa ⟨fun q hq => by rw [fz_at fia 2 (by decide) (by decide)]; exact hXR.1 q hq, TWX_of (p := 27) (by decide) (hta.trans h5) (RTW_fz hW hTG.1 fia fja (by decide) (by decide))⟩ (XDS_fz hXD fia (by decide)) (XK_fz hXK fia (by decide)) rfl ⟨rfl, rfl, rfl⟩
set_option maxHeartbeats 4000000 in
set_option maxRecDepth 100000 in
theorem L_restTurns {Z : LB} {i : Int32} {Y : YY} {n : Int} {L : Int32} (hi : 0 ≤ i.toInt ∧ i.toInt + 8 ≤ (z_L Z : Int)) (h4 : z_L Z ≤ 4096) (hn : 0 ≤ n ∧ n ≤ 39000) (hV : IV Z n L Y) (hk : ∀ (Y2 : YY) (L2 : Int32), IV Z (n + 70) L2 Y2 → WL Z mL 1375 [(0, .ref (z_b Z)), (1, .ref (z_h Z + 0)), (2, .ref (z_h Z + 74 + 0)), (3, .int i)] [] Y2) : WL Z mL 1012 [(0, .ref (z_b Z)), (1, .ref (z_h Z + 0)), (2, .ref (z_h Z + 74 + 0)), (3, .int i)] [] Y := by
  obtain ⟨⟨hr, hT, hP⟩, hX, hrm, hM, Bz, Sz, Dz, hBz, hTG, ⟨hXR, hXD, hXK⟩, hMR, hMD⟩ := hV
  have hXN := xi_mono hX (show n ≤ n + 70 by omega)
  have hMN := mp_mono hM (show n ≤ n + 70 by omega)
  have hLb := BT_get hX.1 1 1 2 0 0 900 (by decide) 1 (by decide) (by decide)
  rw [hX.2] at hLb
  have hDb := BT_get hM.1.1 38 33 34 0 1 0 (by decide) 33 (by decide) (by decide)
  rw [hMD.1] at hDb
  have hD0 : 0 ≤ Dz.1.toInt := by omega
  have nxt : ∀ (L2 v : Int32) (I1 : pI) (J1 : pJ) (R1 : pR) (B2 : Nat → Int32) (S2 : TwS) (D2 : DS), (RfX (gX Z) R1 ∧ TS (gX Z) R1 ∧ NL (gX Z) R1) → XI (gX Z) (n + 70) L2 I1 → XR (gX Z) B2 S2 I1 J1 R1 → XDS (gX Z) D2 I1 → XK (gX Z) S2 I1 → (L2 = L) → (B2 = Bz ∧ S2 = Sz ∧ D2 = Dz) → WL Z mL 1016 [(0, .ref (z_b Z)), (1, .ref (z_h Z + 0)), (2, .ref (z_h Z + 74 + 0)), (3, .int i)] [.int v] ((I1, J1, R1), Y.2) := by
    intro L2 v I1 J1 R1 B2 S2 D2 hR1 hX1 hXR1 hXD1 hXK1 hl hbr
    refine WL_pop dL_law_1016 rfl ?_
    refine WL_aload_n dL_law_1017 rfl ?_
    have h := sm_restTurns (g := gM Z) (J := Y.2.2.1) ly_M hrm  hMN
    rw [ad_M] at h
    refine WL_callM0 dL_law_1018 wX11_restTurns h (Nat.le_of_ble_eq_true rfl) (fun r I2 J2 R2 hq => ?_)
    obtain ⟨⟨ea, eb, ec⟩, vb, rfl⟩ := hq
    show WL Z mL _ _ (.int _ :: _) _
    rw [ea, eb, ec]
    have eL : L = L2 := hl.symm
    have hMN2 := hMN
    rw [eL] at hMN2
    obtain ⟨eB, eS, eD⟩ := hbr
    rw [eB, eS] at hXR1
    rw [eS] at hXK1
    have hMR2 : MR (gM Z) Bz Sz Y.2.1 Y.2.2.1 := hMR
    have hMD2 : MDS (gM Z) D2 Y.2.1 := by rw [eD]; exact hMD
    have hBT2 := hBz
    have hTG2 := hTG
    refine WL_pop dL_law_1021 rfl ?_
    refine WL_goto 1375 dL_law_1022 rfl ?_
    exact hk _ L2 ⟨hR1, hX1, hrm, hMN2, Bz, Sz, D2, hBT2, hTG2, ⟨hXR1, hXD1, hXK1⟩, hMR2, hMD2⟩
  rcases hT with ⟨h5, h0⟩ | ⟨h5, h0⟩
  · have hW := TWX_at ly_X hXR.2 (p := 6) (by decide) h5
    refine WL_aload_n dL_law_1012 rfl ?_
    have h := sx_restTurns (g := gX Z) (J := Y.1.2.1) ly_X hr  hXN
    rw [ad_X] at h
    refine WL_callX0 dL_law_1013 wX10_restTurns h (Nat.le_of_ble_eq_true rfl) (fun r I1 J1 R1 hq => ?_)
    obtain ⟨⟨ea, eb, ec⟩, va, rfl⟩ := hq
    show WL Z mL _ _ (.int _ :: _) _
    rw [ea, eb, ec]
    exact nxt L _ _ _ _ Bz Sz Dz ⟨hr, (Or.inl ⟨h5, h0⟩), hP⟩ hXN hXR hXD hXK rfl ⟨rfl, rfl, rfl⟩
  · have hW := TWX_at ly_X hXR.2 (p := 27) (by decide) h5
    refine WL_aload_n dL_law_1012 rfl ?_
    have h := sx_restTurns (g := gX Z) (J := Y.1.2.1) ly_X hr  hXN
    rw [ad_X] at h
    refine WL_callX0 dL_law_1013 wX10_restTurns h (Nat.le_of_ble_eq_true rfl) (fun r I1 J1 R1 hq => ?_)
    obtain ⟨⟨ea, eb, ec⟩, va, rfl⟩ := hq
    show WL Z mL _ _ (.int _ :: _) _
    rw [ea, eb, ec]
    exact nxt L _ _ _ _ Bz Sz Dz ⟨hr, (Or.inr ⟨h5, h0⟩), hP⟩ hXN hXR hXD hXK rfl ⟨rfl, rfl, rfl⟩
set_option maxHeartbeats 4000000 in
set_option maxRecDepth 100000 in
theorem L_two {Z : LB} {i : Int32} {Y : YY} {n : Int} {L : Int32} (hi : 0 ≤ i.toInt ∧ i.toInt + 8 ≤ (z_L Z : Int)) (h4 : z_L Z ≤ 4096) (hn : 0 ≤ n ∧ n ≤ 39000) (hV : IV Z n L Y) (hk : ∀ (Y2 : YY) (L2 : Int32), IV Z (n + 70) L2 Y2 → WL Z mL 1375 [(0, .ref (z_b Z)), (1, .ref (z_h Z + 0)), (2, .ref (z_h Z + 74 + 0)), (3, .int i)] [] Y2) : WL Z mL 1025 [(0, .ref (z_b Z)), (1, .ref (z_h Z + 0)), (2, .ref (z_h Z + 74 + 0)), (3, .int i)] [] Y := by
  obtain ⟨⟨hr, hT, hP⟩, hX, hrm, hM, Bz, Sz, Dz, hBz, hTG, ⟨hXR, hXD, hXK⟩, hMR, hMD⟩ := hV
  have hXN := xi_mono hX (show n ≤ n + 70 by omega)
  have hMN := mp_mono hM (show n ≤ n + 70 by omega)
  have hLb := BT_get hX.1 1 1 2 0 0 900 (by decide) 1 (by decide) (by decide)
  rw [hX.2] at hLb
  have hDb := BT_get hM.1.1 38 33 34 0 1 0 (by decide) 33 (by decide) (by decide)
  rw [hMD.1] at hDb
  have hD0 : 0 ≤ Dz.1.toInt := by omega
  have nxt : ∀ (L2 v : Int32) (I1 : pI) (J1 : pJ) (R1 : pR) (B2 : Nat → Int32) (S2 : TwS) (D2 : DS), (RfX (gX Z) R1 ∧ TS (gX Z) R1 ∧ NL (gX Z) R1) → XI (gX Z) (n + 70) L2 I1 → XR (gX Z) B2 S2 I1 J1 R1 → XDS (gX Z) D2 I1 → XK (gX Z) S2 I1 → (L2 = L) → (B2 = Bz ∧ S2 = Sz ∧ D2 = Dz) → WL Z mL 1066 [(0, .ref (z_b Z)), (1, .ref (z_h Z + 0)), (2, .ref (z_h Z + 74 + 0)), (3, .int i)] [.int v] ((I1, J1, R1), Y.2) := by
    intro L2 v I1 J1 R1 B2 S2 D2 hR1 hX1 hXR1 hXD1 hXK1 hl hbr
    refine WL_pop dL_law_1066 rfl ?_
    refine WL_aload_n dL_law_1067 rfl ?_
    refine WL_aload_n dL_law_1068 rfl ?_
    refine WL_iload_n dL_law_1069 rfl ?_
    refine WL_iconst (1) dL_law_1070 rfl ?_
    refine WL_iadd dL_law_1071 ?_
    refine WL_sld dL_law_1072 (L_in hi h4 (1) (by decide)) ?_
    refine WL_aload_n dL_law_1073 rfl ?_
    refine WL_iload_n dL_law_1074 rfl ?_
    refine WL_iconst (2) dL_law_1075 rfl ?_
    refine WL_iadd dL_law_1076 ?_
    refine WL_sld dL_law_1077 (L_in hi h4 (2) (by decide)) ?_
    refine WL_aload_n dL_law_1078 rfl ?_
    refine WL_iload_n dL_law_1079 rfl ?_
    refine WL_iconst (3) dL_law_1080 rfl ?_
    refine WL_iadd dL_law_1081 ?_
    refine WL_sld dL_law_1082 (L_in hi h4 (3) (by decide)) ?_
    refine WL_aload_n dL_law_1083 rfl ?_
    refine WL_iload_n dL_law_1084 rfl ?_
    refine WL_iconst (4) dL_law_1085 rfl ?_
    refine WL_iadd dL_law_1086 ?_
    refine WL_sld dL_law_1087 (L_in hi h4 (4) (by decide)) ?_
    refine WL_aload_n dL_law_1088 rfl ?_
    refine WL_iload_n dL_law_1089 rfl ?_
    refine WL_iconst (5) dL_law_1090 rfl ?_
    refine WL_iadd dL_law_1091 ?_
    refine WL_sld dL_law_1092 (L_in hi h4 (5) (by decide)) ?_
    refine WL_aload_n dL_law_1093 rfl ?_
    refine WL_iload_n dL_law_1094 rfl ?_
    refine WL_bipush (6) dL_law_1095 rfl ?_
    refine WL_iadd dL_law_1097 ?_
    refine WL_sld dL_law_1098 (L_in hi h4 (6) (by decide)) ?_
    refine WL_aload_n dL_law_1099 rfl ?_
    refine WL_iload_n dL_law_1100 rfl ?_
    refine WL_bipush (7) dL_law_1101 rfl ?_
    refine WL_iadd dL_law_1103 ?_
    refine WL_sld dL_law_1104 (L_in hi h4 (7) (by decide)) ?_
    have h := sm_two (g := gM Z) (J := Y.2.2.1) ly_M hrm  hMN (z_x Z (i + 1).toNatClampNeg) (z_x Z (i + 2).toNatClampNeg) (z_x Z (i + 3).toNatClampNeg) (z_x Z (i + 4).toNatClampNeg) (z_x Z (i + 5).toNatClampNeg) (z_x Z (i + 6).toNatClampNeg) (z_x Z (i + 7).toNatClampNeg)
    rw [ad_M] at h
    refine WL_callM7 dL_law_1105 wX11_two h (Nat.le_of_ble_eq_true rfl) (fun r I2 J2 R2 hq => ?_)
    obtain ⟨⟨hIb, ec, fib, fjb, fqb⟩, vb, rfl⟩ := hq
    show WL Z mL _ _ (.int _ :: _) _
    rw [ec]
    have eL : L = L2 := hl.symm
    rw [eL] at hIb
    obtain ⟨eB, eS, hdr⟩ := hbr
    rw [eB, eS] at hXR1
    rw [eS] at hXK1
    have hMR2 : MR (gM Z) Bz Sz I2 J2 := ⟨fun q hq => by rw [fz_at fib 1 (by decide) (by decide)]; exact hMR.1 q hq, RTT_fz hMR.2 hTG.1 fib fjb fqb (by decide) (by decide) (by decide)⟩
    have hBT2 := hBz
    have hTG2 := hTG
    have hMD2 : MDS (gM Z) D2 I2 := by rw [hdr]; exact MDS_fz hMD fib (by decide)
    refine WL_pop dL_law_1108 rfl ?_
    refine WL_goto 1375 dL_law_1109 rfl ?_
    exact hk _ L2 ⟨hR1, hX1, hrm, hIb, Bz, Sz, D2, hBT2, hTG2, ⟨hXR1, hXD1, hXK1⟩, hMR2, hMD2⟩
  rcases hT with ⟨h5, h0⟩ | ⟨h5, h0⟩
  · have hW := TWX_at ly_X hXR.2 (p := 6) (by decide) h5
    refine WL_aload_n dL_law_1025 rfl ?_
    refine WL_aload_n dL_law_1026 rfl ?_
    refine WL_iload_n dL_law_1027 rfl ?_
    refine WL_iconst (1) dL_law_1028 rfl ?_
    refine WL_iadd dL_law_1029 ?_
    refine WL_sld dL_law_1030 (L_in hi h4 (1) (by decide)) ?_
    refine WL_aload_n dL_law_1031 rfl ?_
    refine WL_iload_n dL_law_1032 rfl ?_
    refine WL_iconst (2) dL_law_1033 rfl ?_
    refine WL_iadd dL_law_1034 ?_
    refine WL_sld dL_law_1035 (L_in hi h4 (2) (by decide)) ?_
    refine WL_aload_n dL_law_1036 rfl ?_
    refine WL_iload_n dL_law_1037 rfl ?_
    refine WL_iconst (3) dL_law_1038 rfl ?_
    refine WL_iadd dL_law_1039 ?_
    refine WL_sld dL_law_1040 (L_in hi h4 (3) (by decide)) ?_
    refine WL_aload_n dL_law_1041 rfl ?_
    refine WL_iload_n dL_law_1042 rfl ?_
    refine WL_iconst (4) dL_law_1043 rfl ?_
    refine WL_iadd dL_law_1044 ?_
    refine WL_sld dL_law_1045 (L_in hi h4 (4) (by decide)) ?_
    refine WL_aload_n dL_law_1046 rfl ?_
    refine WL_iload_n dL_law_1047 rfl ?_
    refine WL_iconst (5) dL_law_1048 rfl ?_
    refine WL_iadd dL_law_1049 ?_
    refine WL_sld dL_law_1050 (L_in hi h4 (5) (by decide)) ?_
    refine WL_aload_n dL_law_1051 rfl ?_
    refine WL_iload_n dL_law_1052 rfl ?_
    refine WL_bipush (6) dL_law_1053 rfl ?_
    refine WL_iadd dL_law_1055 ?_
    refine WL_sld dL_law_1056 (L_in hi h4 (6) (by decide)) ?_
    refine WL_aload_n dL_law_1057 rfl ?_
    refine WL_iload_n dL_law_1058 rfl ?_
    refine WL_bipush (7) dL_law_1059 rfl ?_
    refine WL_iadd dL_law_1061 ?_
    refine WL_sld dL_law_1062 (L_in hi h4 (7) (by decide)) ?_
    have h := sx_two (g := gX Z) (J := Y.1.2.1) ly_X hr  hXN (z_x Z (i + 1).toNatClampNeg) (z_x Z (i + 2).toNatClampNeg) (z_x Z (i + 3).toNatClampNeg) (z_x Z (i + 4).toNatClampNeg) (z_x Z (i + 5).toNatClampNeg) (z_x Z (i + 6).toNatClampNeg) (z_x Z (i + 7).toNatClampNeg)
    rw [ad_X] at h
    refine WL_callX7 dL_law_1063 wX10_two h (Nat.le_of_ble_eq_true rfl) (fun r I1 J1 R1 hq => ?_)
    obtain ⟨⟨hIa, ec, fia, fja⟩, va, rfl⟩ := hq
    show WL Z mL _ _ (.int _ :: _) _
    rw [ec]
    exact nxt L _ _ _ _ Bz Sz Dz ⟨hr, (Or.inl ⟨h5, h0⟩), hP⟩ hIa ⟨fun q hq => by rw [fz_at fia 2 (by decide) (by decide)]; exact hXR.1 q hq, TWX_of (p := 6) (by decide) h5 (RTW_fz hW hTG.1 fia fja (by decide) (by decide))⟩ (XDS_fz hXD fia (by decide)) (XK_fz hXK fia (by decide)) rfl ⟨rfl, rfl, rfl⟩
  · have hW := TWX_at ly_X hXR.2 (p := 27) (by decide) h5
    refine WL_aload_n dL_law_1025 rfl ?_
    refine WL_aload_n dL_law_1026 rfl ?_
    refine WL_iload_n dL_law_1027 rfl ?_
    refine WL_iconst (1) dL_law_1028 rfl ?_
    refine WL_iadd dL_law_1029 ?_
    refine WL_sld dL_law_1030 (L_in hi h4 (1) (by decide)) ?_
    refine WL_aload_n dL_law_1031 rfl ?_
    refine WL_iload_n dL_law_1032 rfl ?_
    refine WL_iconst (2) dL_law_1033 rfl ?_
    refine WL_iadd dL_law_1034 ?_
    refine WL_sld dL_law_1035 (L_in hi h4 (2) (by decide)) ?_
    refine WL_aload_n dL_law_1036 rfl ?_
    refine WL_iload_n dL_law_1037 rfl ?_
    refine WL_iconst (3) dL_law_1038 rfl ?_
    refine WL_iadd dL_law_1039 ?_
    refine WL_sld dL_law_1040 (L_in hi h4 (3) (by decide)) ?_
    refine WL_aload_n dL_law_1041 rfl ?_
    refine WL_iload_n dL_law_1042 rfl ?_
    refine WL_iconst (4) dL_law_1043 rfl ?_
    refine WL_iadd dL_law_1044 ?_
    refine WL_sld dL_law_1045 (L_in hi h4 (4) (by decide)) ?_
    refine WL_aload_n dL_law_1046 rfl ?_
    refine WL_iload_n dL_law_1047 rfl ?_
    refine WL_iconst (5) dL_law_1048 rfl ?_
    refine WL_iadd dL_law_1049 ?_
    refine WL_sld dL_law_1050 (L_in hi h4 (5) (by decide)) ?_
    refine WL_aload_n dL_law_1051 rfl ?_
    refine WL_iload_n dL_law_1052 rfl ?_
    refine WL_bipush (6) dL_law_1053 rfl ?_
    refine WL_iadd dL_law_1055 ?_
    refine WL_sld dL_law_1056 (L_in hi h4 (6) (by decide)) ?_
    refine WL_aload_n dL_law_1057 rfl ?_
    refine WL_iload_n dL_law_1058 rfl ?_
    refine WL_bipush (7) dL_law_1059 rfl ?_
    refine WL_iadd dL_law_1061 ?_
    refine WL_sld dL_law_1062 (L_in hi h4 (7) (by decide)) ?_
    have h := sx_two (g := gX Z) (J := Y.1.2.1) ly_X hr  hXN (z_x Z (i + 1).toNatClampNeg) (z_x Z (i + 2).toNatClampNeg) (z_x Z (i + 3).toNatClampNeg) (z_x Z (i + 4).toNatClampNeg) (z_x Z (i + 5).toNatClampNeg) (z_x Z (i + 6).toNatClampNeg) (z_x Z (i + 7).toNatClampNeg)
    rw [ad_X] at h
    refine WL_callX7 dL_law_1063 wX10_two h (Nat.le_of_ble_eq_true rfl) (fun r I1 J1 R1 hq => ?_)
    obtain ⟨⟨hIa, ec, fia, fja⟩, va, rfl⟩ := hq
    show WL Z mL _ _ (.int _ :: _) _
    rw [ec]
    exact nxt L _ _ _ _ Bz Sz Dz ⟨hr, (Or.inr ⟨h5, h0⟩), hP⟩ hIa ⟨fun q hq => by rw [fz_at fia 2 (by decide) (by decide)]; exact hXR.1 q hq, TWX_of (p := 27) (by decide) h5 (RTW_fz hW hTG.1 fia fja (by decide) (by decide))⟩ (XDS_fz hXD fia (by decide)) (XK_fz hXK fia (by decide)) rfl ⟨rfl, rfl, rfl⟩
set_option maxHeartbeats 4000000 in
set_option maxRecDepth 100000 in
theorem L_lend {Z : LB} {i : Int32} {Y : YY} {n : Int} {L : Int32} (hi : 0 ≤ i.toInt ∧ i.toInt + 8 ≤ (z_L Z : Int)) (h4 : z_L Z ≤ 4096) (hn : 0 ≤ n ∧ n ≤ 39000) (hV : IV Z n L Y) (hk : ∀ (Y2 : YY) (L2 : Int32), IV Z (n + 70) L2 Y2 → WL Z mL 1375 [(0, .ref (z_b Z)), (1, .ref (z_h Z + 0)), (2, .ref (z_h Z + 74 + 0)), (3, .int i)] [] Y2) : WL Z mL 1112 [(0, .ref (z_b Z)), (1, .ref (z_h Z + 0)), (2, .ref (z_h Z + 74 + 0)), (3, .int i)] [] Y := by
  obtain ⟨⟨hr, hT, hP⟩, hX, hrm, hM, Bz, Sz, Dz, hBz, hTG, ⟨hXR, hXD, hXK⟩, hMR, hMD⟩ := hV
  have hXN := xi_mono hX (show n ≤ n + 70 by omega)
  have hMN := mp_mono hM (show n ≤ n + 70 by omega)
  have hLb := BT_get hX.1 1 1 2 0 0 900 (by decide) 1 (by decide) (by decide)
  rw [hX.2] at hLb
  have hDb := BT_get hM.1.1 38 33 34 0 1 0 (by decide) 33 (by decide) (by decide)
  rw [hMD.1] at hDb
  have hD0 : 0 ≤ Dz.1.toInt := by omega
  have nxt : ∀ (L2 v : Int32) (I1 : pI) (J1 : pJ) (R1 : pR) (B2 : Nat → Int32) (S2 : TwS) (D2 : DS), (RfX (gX Z) R1 ∧ TS (gX Z) R1 ∧ NL (gX Z) R1) → XI (gX Z) (n + 70) L2 I1 → XR (gX Z) B2 S2 I1 J1 R1 → XDS (gX Z) D2 I1 → XK (gX Z) S2 I1 → (L2 = L) → (B2 = Bz ∧ S2 = Sz ∧ D2 = Dz) → WL Z mL 1136 [(0, .ref (z_b Z)), (1, .ref (z_h Z + 0)), (2, .ref (z_h Z + 74 + 0)), (3, .int i)] [.int v] ((I1, J1, R1), Y.2) := by
    intro L2 v I1 J1 R1 B2 S2 D2 hR1 hX1 hXR1 hXD1 hXK1 hl hbr
    refine WL_pop dL_law_1136 rfl ?_
    refine WL_aload_n dL_law_1137 rfl ?_
    refine WL_aload_n dL_law_1138 rfl ?_
    refine WL_iload_n dL_law_1139 rfl ?_
    refine WL_iconst (1) dL_law_1140 rfl ?_
    refine WL_iadd dL_law_1141 ?_
    refine WL_sld dL_law_1142 (L_in hi h4 (1) (by decide)) ?_
    refine WL_aload_n dL_law_1143 rfl ?_
    refine WL_iload_n dL_law_1144 rfl ?_
    refine WL_iconst (2) dL_law_1145 rfl ?_
    refine WL_iadd dL_law_1146 ?_
    refine WL_sld dL_law_1147 (L_in hi h4 (2) (by decide)) ?_
    refine WL_aload_n dL_law_1148 rfl ?_
    refine WL_iload_n dL_law_1149 rfl ?_
    refine WL_iconst (3) dL_law_1150 rfl ?_
    refine WL_iadd dL_law_1151 ?_
    refine WL_sld dL_law_1152 (L_in hi h4 (3) (by decide)) ?_
    refine WL_aload_n dL_law_1153 rfl ?_
    refine WL_iload_n dL_law_1154 rfl ?_
    refine WL_iconst (4) dL_law_1155 rfl ?_
    refine WL_iadd dL_law_1156 ?_
    refine WL_sld dL_law_1157 (L_in hi h4 (4) (by decide)) ?_
    have h := sm_lend (g := gM Z) (J := Y.2.2.1) ly_M hrm  hMN (z_x Z (i + 1).toNatClampNeg) (z_x Z (i + 2).toNatClampNeg) (z_x Z (i + 3).toNatClampNeg) (z_x Z (i + 4).toNatClampNeg)
    rw [ad_M] at h
    refine WL_callM4 dL_law_1158 wX11_lend h (Nat.le_of_ble_eq_true rfl) (fun r I2 J2 R2 hq => ?_)
    obtain ⟨⟨ea, eb, ec⟩, vb, rfl⟩ := hq
    show WL Z mL _ _ (.int _ :: _) _
    rw [ea, eb, ec]
    have eL : L = L2 := hl.symm
    have hMN2 := hMN
    rw [eL] at hMN2
    obtain ⟨eB, eS, eD⟩ := hbr
    rw [eB, eS] at hXR1
    rw [eS] at hXK1
    have hMR2 : MR (gM Z) Bz Sz Y.2.1 Y.2.2.1 := hMR
    have hMD2 : MDS (gM Z) D2 Y.2.1 := by rw [eD]; exact hMD
    have hBT2 := hBz
    have hTG2 := hTG
    refine WL_pop dL_law_1161 rfl ?_
    refine WL_goto 1375 dL_law_1162 rfl ?_
    exact hk _ L2 ⟨hR1, hX1, hrm, hMN2, Bz, Sz, D2, hBT2, hTG2, ⟨hXR1, hXD1, hXK1⟩, hMR2, hMD2⟩
  rcases hT with ⟨h5, h0⟩ | ⟨h5, h0⟩
  · have hW := TWX_at ly_X hXR.2 (p := 6) (by decide) h5
    refine WL_aload_n dL_law_1112 rfl ?_
    refine WL_aload_n dL_law_1113 rfl ?_
    refine WL_iload_n dL_law_1114 rfl ?_
    refine WL_iconst (1) dL_law_1115 rfl ?_
    refine WL_iadd dL_law_1116 ?_
    refine WL_sld dL_law_1117 (L_in hi h4 (1) (by decide)) ?_
    refine WL_aload_n dL_law_1118 rfl ?_
    refine WL_iload_n dL_law_1119 rfl ?_
    refine WL_iconst (2) dL_law_1120 rfl ?_
    refine WL_iadd dL_law_1121 ?_
    refine WL_sld dL_law_1122 (L_in hi h4 (2) (by decide)) ?_
    refine WL_aload_n dL_law_1123 rfl ?_
    refine WL_iload_n dL_law_1124 rfl ?_
    refine WL_iconst (3) dL_law_1125 rfl ?_
    refine WL_iadd dL_law_1126 ?_
    refine WL_sld dL_law_1127 (L_in hi h4 (3) (by decide)) ?_
    refine WL_aload_n dL_law_1128 rfl ?_
    refine WL_iload_n dL_law_1129 rfl ?_
    refine WL_iconst (4) dL_law_1130 rfl ?_
    refine WL_iadd dL_law_1131 ?_
    refine WL_sld dL_law_1132 (L_in hi h4 (4) (by decide)) ?_
    have h := sx_lend (g := gX Z) (J := Y.1.2.1) ly_X hr  hXN (z_x Z (i + 1).toNatClampNeg) (z_x Z (i + 2).toNatClampNeg) (z_x Z (i + 3).toNatClampNeg) (z_x Z (i + 4).toNatClampNeg)
    rw [ad_X] at h
    refine WL_callX4 dL_law_1133 wX10_lend h (Nat.le_of_ble_eq_true rfl) (fun r I1 J1 R1 hq => ?_)
    obtain ⟨⟨ea, eb, ec⟩, va, rfl⟩ := hq
    show WL Z mL _ _ (.int _ :: _) _
    rw [ea, eb, ec]
    exact nxt L _ _ _ _ Bz Sz Dz ⟨hr, (Or.inl ⟨h5, h0⟩), hP⟩ hXN hXR hXD hXK rfl ⟨rfl, rfl, rfl⟩
  · have hW := TWX_at ly_X hXR.2 (p := 27) (by decide) h5
    refine WL_aload_n dL_law_1112 rfl ?_
    refine WL_aload_n dL_law_1113 rfl ?_
    refine WL_iload_n dL_law_1114 rfl ?_
    refine WL_iconst (1) dL_law_1115 rfl ?_
    refine WL_iadd dL_law_1116 ?_
    refine WL_sld dL_law_1117 (L_in hi h4 (1) (by decide)) ?_
    refine WL_aload_n dL_law_1118 rfl ?_
    refine WL_iload_n dL_law_1119 rfl ?_
    refine WL_iconst (2) dL_law_1120 rfl ?_
    refine WL_iadd dL_law_1121 ?_
    refine WL_sld dL_law_1122 (L_in hi h4 (2) (by decide)) ?_
    refine WL_aload_n dL_law_1123 rfl ?_
    refine WL_iload_n dL_law_1124 rfl ?_
    refine WL_iconst (3) dL_law_1125 rfl ?_
    refine WL_iadd dL_law_1126 ?_
    refine WL_sld dL_law_1127 (L_in hi h4 (3) (by decide)) ?_
    refine WL_aload_n dL_law_1128 rfl ?_
    refine WL_iload_n dL_law_1129 rfl ?_
    refine WL_iconst (4) dL_law_1130 rfl ?_
    refine WL_iadd dL_law_1131 ?_
    refine WL_sld dL_law_1132 (L_in hi h4 (4) (by decide)) ?_
    have h := sx_lend (g := gX Z) (J := Y.1.2.1) ly_X hr  hXN (z_x Z (i + 1).toNatClampNeg) (z_x Z (i + 2).toNatClampNeg) (z_x Z (i + 3).toNatClampNeg) (z_x Z (i + 4).toNatClampNeg)
    rw [ad_X] at h
    refine WL_callX4 dL_law_1133 wX10_lend h (Nat.le_of_ble_eq_true rfl) (fun r I1 J1 R1 hq => ?_)
    obtain ⟨⟨ea, eb, ec⟩, va, rfl⟩ := hq
    show WL Z mL _ _ (.int _ :: _) _
    rw [ea, eb, ec]
    exact nxt L _ _ _ _ Bz Sz Dz ⟨hr, (Or.inr ⟨h5, h0⟩), hP⟩ hXN hXR hXD hXK rfl ⟨rfl, rfl, rfl⟩
set_option maxHeartbeats 4000000 in
set_option maxRecDepth 100000 in
theorem L_early {Z : LB} {i : Int32} {Y : YY} {n : Int} {L : Int32} (hi : 0 ≤ i.toInt ∧ i.toInt + 8 ≤ (z_L Z : Int)) (h4 : z_L Z ≤ 4096) (hn : 0 ≤ n ∧ n ≤ 39000) (hV : IV Z n L Y) (hk : ∀ (Y2 : YY) (L2 : Int32), IV Z (n + 70) L2 Y2 → WL Z mL 1375 [(0, .ref (z_b Z)), (1, .ref (z_h Z + 0)), (2, .ref (z_h Z + 74 + 0)), (3, .int i)] [] Y2) : WL Z mL 1165 [(0, .ref (z_b Z)), (1, .ref (z_h Z + 0)), (2, .ref (z_h Z + 74 + 0)), (3, .int i)] [] Y := by
  obtain ⟨⟨hr, hT, hP⟩, hX, hrm, hM, Bz, Sz, Dz, hBz, hTG, ⟨hXR, hXD, hXK⟩, hMR, hMD⟩ := hV
  have hXN := xi_mono hX (show n ≤ n + 70 by omega)
  have hMN := mp_mono hM (show n ≤ n + 70 by omega)
  have hLb := BT_get hX.1 1 1 2 0 0 900 (by decide) 1 (by decide) (by decide)
  rw [hX.2] at hLb
  have hDb := BT_get hM.1.1 38 33 34 0 1 0 (by decide) 33 (by decide) (by decide)
  rw [hMD.1] at hDb
  have hD0 : 0 ≤ Dz.1.toInt := by omega
  have nxt : ∀ (L2 v : Int32) (I1 : pI) (J1 : pJ) (R1 : pR) (B2 : Nat → Int32) (S2 : TwS) (D2 : DS), (RfX (gX Z) R1 ∧ TS (gX Z) R1 ∧ NL (gX Z) R1) → XI (gX Z) (n + 70) L2 I1 → XR (gX Z) B2 S2 I1 J1 R1 → XDS (gX Z) D2 I1 → XK (gX Z) S2 I1 → (L2 = L) → (B2 = Bz ∧ S2 = Sz ∧ D2 = Dz) → WL Z mL 1184 [(0, .ref (z_b Z)), (1, .ref (z_h Z + 0)), (2, .ref (z_h Z + 74 + 0)), (3, .int i)] [.int v] ((I1, J1, R1), Y.2) := by
    intro L2 v I1 J1 R1 B2 S2 D2 hR1 hX1 hXR1 hXD1 hXK1 hl hbr
    refine WL_pop dL_law_1184 rfl ?_
    refine WL_aload_n dL_law_1185 rfl ?_
    refine WL_aload_n dL_law_1186 rfl ?_
    refine WL_iload_n dL_law_1187 rfl ?_
    refine WL_iconst (1) dL_law_1188 rfl ?_
    refine WL_iadd dL_law_1189 ?_
    refine WL_sld dL_law_1190 (L_in hi h4 (1) (by decide)) ?_
    refine WL_aload_n dL_law_1191 rfl ?_
    refine WL_iload_n dL_law_1192 rfl ?_
    refine WL_iconst (2) dL_law_1193 rfl ?_
    refine WL_iadd dL_law_1194 ?_
    refine WL_sld dL_law_1195 (L_in hi h4 (2) (by decide)) ?_
    refine WL_aload_n dL_law_1196 rfl ?_
    refine WL_iload_n dL_law_1197 rfl ?_
    refine WL_iconst (3) dL_law_1198 rfl ?_
    refine WL_iadd dL_law_1199 ?_
    refine WL_sld dL_law_1200 (L_in hi h4 (3) (by decide)) ?_
    have h := sm_early (g := gM Z) (J := Y.2.2.1) ly_M hrm  hMN (z_x Z (i + 1).toNatClampNeg) (z_x Z (i + 2).toNatClampNeg) (z_x Z (i + 3).toNatClampNeg)
    rw [ad_M] at h
    refine WL_callM3 dL_law_1201 wX11_early h (Nat.le_of_ble_eq_true rfl) (fun r I2 J2 R2 hq => ?_)
    obtain ⟨⟨ea, eb, ec⟩, vb, rfl⟩ := hq
    show WL Z mL _ _ (.int _ :: _) _
    rw [ea, eb, ec]
    have eL : L = L2 := hl.symm
    have hMN2 := hMN
    rw [eL] at hMN2
    obtain ⟨eB, eS, eD⟩ := hbr
    rw [eB, eS] at hXR1
    rw [eS] at hXK1
    have hMR2 : MR (gM Z) Bz Sz Y.2.1 Y.2.2.1 := hMR
    have hMD2 : MDS (gM Z) D2 Y.2.1 := by rw [eD]; exact hMD
    have hBT2 := hBz
    have hTG2 := hTG
    refine WL_pop dL_law_1204 rfl ?_
    refine WL_goto 1375 dL_law_1205 rfl ?_
    exact hk _ L2 ⟨hR1, hX1, hrm, hMN2, Bz, Sz, D2, hBT2, hTG2, ⟨hXR1, hXD1, hXK1⟩, hMR2, hMD2⟩
  rcases hT with ⟨h5, h0⟩ | ⟨h5, h0⟩
  · have hW := TWX_at ly_X hXR.2 (p := 6) (by decide) h5
    refine WL_aload_n dL_law_1165 rfl ?_
    refine WL_aload_n dL_law_1166 rfl ?_
    refine WL_iload_n dL_law_1167 rfl ?_
    refine WL_iconst (1) dL_law_1168 rfl ?_
    refine WL_iadd dL_law_1169 ?_
    refine WL_sld dL_law_1170 (L_in hi h4 (1) (by decide)) ?_
    refine WL_aload_n dL_law_1171 rfl ?_
    refine WL_iload_n dL_law_1172 rfl ?_
    refine WL_iconst (2) dL_law_1173 rfl ?_
    refine WL_iadd dL_law_1174 ?_
    refine WL_sld dL_law_1175 (L_in hi h4 (2) (by decide)) ?_
    refine WL_aload_n dL_law_1176 rfl ?_
    refine WL_iload_n dL_law_1177 rfl ?_
    refine WL_iconst (3) dL_law_1178 rfl ?_
    refine WL_iadd dL_law_1179 ?_
    refine WL_sld dL_law_1180 (L_in hi h4 (3) (by decide)) ?_
    have h := sx_early (g := gX Z) (J := Y.1.2.1) ly_X hr  hXN (z_x Z (i + 1).toNatClampNeg) (z_x Z (i + 2).toNatClampNeg) (z_x Z (i + 3).toNatClampNeg)
    rw [ad_X] at h
    refine WL_callX3 dL_law_1181 wX10_early h (Nat.le_of_ble_eq_true rfl) (fun r I1 J1 R1 hq => ?_)
    obtain ⟨⟨ea, eb, ec⟩, va, rfl⟩ := hq
    show WL Z mL _ _ (.int _ :: _) _
    rw [ea, eb, ec]
    exact nxt L _ _ _ _ Bz Sz Dz ⟨hr, (Or.inl ⟨h5, h0⟩), hP⟩ hXN hXR hXD hXK rfl ⟨rfl, rfl, rfl⟩
  · have hW := TWX_at ly_X hXR.2 (p := 27) (by decide) h5
    refine WL_aload_n dL_law_1165 rfl ?_
    refine WL_aload_n dL_law_1166 rfl ?_
    refine WL_iload_n dL_law_1167 rfl ?_
    refine WL_iconst (1) dL_law_1168 rfl ?_
    refine WL_iadd dL_law_1169 ?_
    refine WL_sld dL_law_1170 (L_in hi h4 (1) (by decide)) ?_
    refine WL_aload_n dL_law_1171 rfl ?_
    refine WL_iload_n dL_law_1172 rfl ?_
    refine WL_iconst (2) dL_law_1173 rfl ?_
    refine WL_iadd dL_law_1174 ?_
    refine WL_sld dL_law_1175 (L_in hi h4 (2) (by decide)) ?_
    refine WL_aload_n dL_law_1176 rfl ?_
    refine WL_iload_n dL_law_1177 rfl ?_
    refine WL_iconst (3) dL_law_1178 rfl ?_
    refine WL_iadd dL_law_1179 ?_
    refine WL_sld dL_law_1180 (L_in hi h4 (3) (by decide)) ?_
    have h := sx_early (g := gX Z) (J := Y.1.2.1) ly_X hr  hXN (z_x Z (i + 1).toNatClampNeg) (z_x Z (i + 2).toNatClampNeg) (z_x Z (i + 3).toNatClampNeg)
    rw [ad_X] at h
    refine WL_callX3 dL_law_1181 wX10_early h (Nat.le_of_ble_eq_true rfl) (fun r I1 J1 R1 hq => ?_)
    obtain ⟨⟨ea, eb, ec⟩, va, rfl⟩ := hq
    show WL Z mL _ _ (.int _ :: _) _
    rw [ea, eb, ec]
    exact nxt L _ _ _ _ Bz Sz Dz ⟨hr, (Or.inr ⟨h5, h0⟩), hP⟩ hXN hXR hXD hXK rfl ⟨rfl, rfl, rfl⟩
set_option maxHeartbeats 4000000 in
set_option maxRecDepth 100000 in
theorem L_values {Z : LB} {i : Int32} {Y : YY} {n : Int} {L : Int32} (hi : 0 ≤ i.toInt ∧ i.toInt + 8 ≤ (z_L Z : Int)) (h4 : z_L Z ≤ 4096) (hn : 0 ≤ n ∧ n ≤ 39000) (hV : IV Z n L Y) (hk : ∀ (Y2 : YY) (L2 : Int32), IV Z (n + 70) L2 Y2 → WL Z mL 1375 [(0, .ref (z_b Z)), (1, .ref (z_h Z + 0)), (2, .ref (z_h Z + 74 + 0)), (3, .int i)] [] Y2) : WL Z mL 1208 [(0, .ref (z_b Z)), (1, .ref (z_h Z + 0)), (2, .ref (z_h Z + 74 + 0)), (3, .int i)] [] Y := by
  obtain ⟨⟨hr, hT, hP⟩, hX, hrm, hM, Bz, Sz, Dz, hBz, hTG, ⟨hXR, hXD, hXK⟩, hMR, hMD⟩ := hV
  have hXN := xi_mono hX (show n ≤ n + 70 by omega)
  have hMN := mp_mono hM (show n ≤ n + 70 by omega)
  have hLb := BT_get hX.1 1 1 2 0 0 900 (by decide) 1 (by decide) (by decide)
  rw [hX.2] at hLb
  have hDb := BT_get hM.1.1 38 33 34 0 1 0 (by decide) 33 (by decide) (by decide)
  rw [hMD.1] at hDb
  have hD0 : 0 ≤ Dz.1.toInt := by omega
  have nxt : ∀ (L2 v : Int32) (I1 : pI) (J1 : pJ) (R1 : pR) (B2 : Nat → Int32) (S2 : TwS) (D2 : DS), (RfX (gX Z) R1 ∧ TS (gX Z) R1 ∧ NL (gX Z) R1) → XI (gX Z) (n + 70) L2 I1 → XR (gX Z) B2 S2 I1 J1 R1 → XDS (gX Z) D2 I1 → XK (gX Z) S2 I1 → (L2.toInt = 0) → (B2 = Bz ∧ S2 = Sz ∧ D2 = Dz) → WL Z mL 1212 [(0, .ref (z_b Z)), (1, .ref (z_h Z + 0)), (2, .ref (z_h Z + 74 + 0)), (3, .int i)] [.int v] ((I1, J1, R1), Y.2) := by
    intro L2 v I1 J1 R1 B2 S2 D2 hR1 hX1 hXR1 hXD1 hXK1 hl hbr
    refine WL_pop dL_law_1212 rfl ?_
    refine WL_aload_n dL_law_1213 rfl ?_
    have h := sm_values (g := gM Z) (J := Y.2.2.1) ly_M hrm  hMN
    rw [ad_M] at h
    refine WL_callM0 dL_law_1214 wX11_values h (Nat.le_of_ble_eq_true rfl) (fun r I2 J2 R2 hq => ?_)
    obtain ⟨⟨⟨Lb, hIb, hlb⟩, ec, fib, fjb, fqb⟩, vb, rfl⟩ := hq
    show WL Z mL _ _ (.int _ :: _) _
    rw [ec]
    have eL : Lb = L2 := (eq32 _ _).mpr (by omega)
    rw [eL] at hIb
    obtain ⟨eB, eS, hdr⟩ := hbr
    rw [eB, eS] at hXR1
    rw [eS] at hXK1
    have hMR2 : MR (gM Z) Bz Sz I2 J2 := ⟨fun q hq => by rw [fz_at fib 1 (by decide) (by decide)]; exact hMR.1 q hq, RTT_fz hMR.2 hTG.1 fib fjb fqb (by decide) (by decide) (by decide)⟩
    have hBT2 := hBz
    have hTG2 := hTG
    have hMD2 : MDS (gM Z) D2 I2 := by rw [hdr]; exact MDS_fz hMD fib (by decide)
    refine WL_pop dL_law_1217 rfl ?_
    refine WL_goto 1375 dL_law_1218 rfl ?_
    exact hk _ L2 ⟨hR1, hX1, hrm, hIb, Bz, Sz, D2, hBT2, hTG2, ⟨hXR1, hXD1, hXK1⟩, hMR2, hMD2⟩
  rcases hT with ⟨h5, h0⟩ | ⟨h5, h0⟩
  · have hW := TWX_at ly_X hXR.2 (p := 6) (by decide) h5
    refine WL_aload_n dL_law_1208 rfl ?_
    have h := sx_values_6 (g := gX Z) (J := Y.1.2.1) ly_X hz_X hr h5  hXN
    rw [ad_X] at h
    refine WL_callX0 dL_law_1209 wX10_values h (Nat.le_of_ble_eq_true rfl) (fun r I1 J1 R1 hq => ?_)
    obtain ⟨⟨⟨La, hIa, hla⟩, ec, fia, fja⟩, va, rfl⟩ := hq
    show WL Z mL _ _ (.int _ :: _) _
    rw [ec]
    exact nxt La _ _ _ _ Bz Sz Dz ⟨hr, (Or.inl ⟨h5, h0⟩), hP⟩ hIa ⟨fun q hq => by rw [fz_at fia 2 (by decide) (by decide)]; exact hXR.1 q hq, TWX_of (p := 6) (by decide) h5 (RTW_fz hW hTG.1 fia fja (by decide) (by decide))⟩ (XDS_fz hXD fia (by decide)) (XK_fz hXK fia (by decide)) hla ⟨rfl, rfl, rfl⟩
  · have hW := TWX_at ly_X hXR.2 (p := 27) (by decide) h5
    refine WL_aload_n dL_law_1208 rfl ?_
    have h := sx_values_27 (g := gX Z) (J := Y.1.2.1) ly_X hz_X hr h5  hXN
    rw [ad_X] at h
    refine WL_callX0 dL_law_1209 wX10_values h (Nat.le_of_ble_eq_true rfl) (fun r I1 J1 R1 hq => ?_)
    obtain ⟨⟨⟨La, hIa, hla⟩, ec, fia, fja⟩, va, rfl⟩ := hq
    show WL Z mL _ _ (.int _ :: _) _
    rw [ec]
    exact nxt La _ _ _ _ Bz Sz Dz ⟨hr, (Or.inr ⟨h5, h0⟩), hP⟩ hIa ⟨fun q hq => by rw [fz_at fia 2 (by decide) (by decide)]; exact hXR.1 q hq, TWX_of (p := 27) (by decide) h5 (RTW_fz hW hTG.1 fia fja (by decide) (by decide))⟩ (XDS_fz hXD fia (by decide)) (XK_fz hXK fia (by decide)) hla ⟨rfl, rfl, rfl⟩
set_option maxHeartbeats 4000000 in
set_option maxRecDepth 100000 in
theorem L_meet {Z : LB} {i : Int32} {Y : YY} {n : Int} {L : Int32} (hi : 0 ≤ i.toInt ∧ i.toInt + 8 ≤ (z_L Z : Int)) (h4 : z_L Z ≤ 4096) (hn : 0 ≤ n ∧ n ≤ 39000) (hV : IV Z n L Y) (hk : ∀ (Y2 : YY) (L2 : Int32), IV Z (n + 70) L2 Y2 → WL Z mL 1375 [(0, .ref (z_b Z)), (1, .ref (z_h Z + 0)), (2, .ref (z_h Z + 74 + 0)), (3, .int i)] [] Y2) : WL Z mL 1221 [(0, .ref (z_b Z)), (1, .ref (z_h Z + 0)), (2, .ref (z_h Z + 74 + 0)), (3, .int i)] [] Y := by
  obtain ⟨⟨hr, hT, hP⟩, hX, hrm, hM, Bz, Sz, Dz, hBz, hTG, ⟨hXR, hXD, hXK⟩, hMR, hMD⟩ := hV
  have hXN := xi_mono hX (show n ≤ n + 70 by omega)
  have hMN := mp_mono hM (show n ≤ n + 70 by omega)
  have hLb := BT_get hX.1 1 1 2 0 0 900 (by decide) 1 (by decide) (by decide)
  rw [hX.2] at hLb
  have hDb := BT_get hM.1.1 38 33 34 0 1 0 (by decide) 33 (by decide) (by decide)
  rw [hMD.1] at hDb
  have hD0 : 0 ≤ Dz.1.toInt := by omega
  have nxt : ∀ (L2 v : Int32) (I1 : pI) (J1 : pJ) (R1 : pR) (B2 : Nat → Int32) (S2 : TwS) (D2 : DS), (RfX (gX Z) R1 ∧ TS (gX Z) R1 ∧ NL (gX Z) R1) → XI (gX Z) (n + 70) L2 I1 → XR (gX Z) B2 S2 I1 J1 R1 → XDS (gX Z) D2 I1 → XK (gX Z) S2 I1 → (L2 = L) → (B2 = Bz ∧ S2 = Sz ∧ D2 = Dz) → WL Z mL 1256 [(0, .ref (z_b Z)), (1, .ref (z_h Z + 0)), (2, .ref (z_h Z + 74 + 0)), (3, .int i)] [.int v] ((I1, J1, R1), Y.2) := by
    intro L2 v I1 J1 R1 B2 S2 D2 hR1 hX1 hXR1 hXD1 hXK1 hl hbr
    refine WL_pop dL_law_1256 rfl ?_
    refine WL_aload_n dL_law_1257 rfl ?_
    refine WL_aload_n dL_law_1258 rfl ?_
    refine WL_iload_n dL_law_1259 rfl ?_
    refine WL_iconst (1) dL_law_1260 rfl ?_
    refine WL_iadd dL_law_1261 ?_
    refine WL_sld dL_law_1262 (L_in hi h4 (1) (by decide)) ?_
    refine WL_aload_n dL_law_1263 rfl ?_
    refine WL_iload_n dL_law_1264 rfl ?_
    refine WL_iconst (2) dL_law_1265 rfl ?_
    refine WL_iadd dL_law_1266 ?_
    refine WL_sld dL_law_1267 (L_in hi h4 (2) (by decide)) ?_
    refine WL_aload_n dL_law_1268 rfl ?_
    refine WL_iload_n dL_law_1269 rfl ?_
    refine WL_iconst (3) dL_law_1270 rfl ?_
    refine WL_iadd dL_law_1271 ?_
    refine WL_sld dL_law_1272 (L_in hi h4 (3) (by decide)) ?_
    refine WL_aload_n dL_law_1273 rfl ?_
    refine WL_iload_n dL_law_1274 rfl ?_
    refine WL_iconst (4) dL_law_1275 rfl ?_
    refine WL_iadd dL_law_1276 ?_
    refine WL_sld dL_law_1277 (L_in hi h4 (4) (by decide)) ?_
    refine WL_aload_n dL_law_1278 rfl ?_
    refine WL_iload_n dL_law_1279 rfl ?_
    refine WL_iconst (5) dL_law_1280 rfl ?_
    refine WL_iadd dL_law_1281 ?_
    refine WL_sld dL_law_1282 (L_in hi h4 (5) (by decide)) ?_
    refine WL_aload_n dL_law_1283 rfl ?_
    refine WL_iload_n dL_law_1284 rfl ?_
    refine WL_bipush (6) dL_law_1285 rfl ?_
    refine WL_iadd dL_law_1287 ?_
    refine WL_sld dL_law_1288 (L_in hi h4 (6) (by decide)) ?_
    have h := sm_meet (g := gM Z) (J := Y.2.2.1) ly_M hrm  hMN (z_x Z (i + 1).toNatClampNeg) (z_x Z (i + 2).toNatClampNeg) (z_x Z (i + 3).toNatClampNeg) (z_x Z (i + 4).toNatClampNeg) (z_x Z (i + 5).toNatClampNeg) (z_x Z (i + 6).toNatClampNeg)
    rw [ad_M] at h
    refine WL_callM6 dL_law_1289 wX11_meet h (Nat.le_of_ble_eq_true rfl) (fun r I2 J2 R2 hq => ?_)
    obtain ⟨⟨hIb, ec, fib, fjb, fqb⟩, vb, rfl⟩ := hq
    show WL Z mL _ _ (.int _ :: _) _
    rw [ec]
    have eL : L = L2 := hl.symm
    rw [eL] at hIb
    obtain ⟨eB, eS, hdr⟩ := hbr
    rw [eB, eS] at hXR1
    rw [eS] at hXK1
    have hMR2 : MR (gM Z) Bz Sz I2 J2 := ⟨fun q hq => by rw [fz_at fib 1 (by decide) (by decide)]; exact hMR.1 q hq, RTT_fz hMR.2 hTG.1 fib fjb fqb (by decide) (by decide) (by decide)⟩
    have hBT2 := hBz
    have hTG2 := hTG
    have hMD2 : MDS (gM Z) D2 I2 := by rw [hdr]; exact MDS_fz hMD fib (by decide)
    refine WL_pop dL_law_1292 rfl ?_
    refine WL_goto 1375 dL_law_1293 rfl ?_
    exact hk _ L2 ⟨hR1, hX1, hrm, hIb, Bz, Sz, D2, hBT2, hTG2, ⟨hXR1, hXD1, hXK1⟩, hMR2, hMD2⟩
  rcases hT with ⟨h5, h0⟩ | ⟨h5, h0⟩
  · have hW := TWX_at ly_X hXR.2 (p := 6) (by decide) h5
    refine WL_aload_n dL_law_1221 rfl ?_
    refine WL_aload_n dL_law_1222 rfl ?_
    refine WL_iload_n dL_law_1223 rfl ?_
    refine WL_iconst (1) dL_law_1224 rfl ?_
    refine WL_iadd dL_law_1225 ?_
    refine WL_sld dL_law_1226 (L_in hi h4 (1) (by decide)) ?_
    refine WL_aload_n dL_law_1227 rfl ?_
    refine WL_iload_n dL_law_1228 rfl ?_
    refine WL_iconst (2) dL_law_1229 rfl ?_
    refine WL_iadd dL_law_1230 ?_
    refine WL_sld dL_law_1231 (L_in hi h4 (2) (by decide)) ?_
    refine WL_aload_n dL_law_1232 rfl ?_
    refine WL_iload_n dL_law_1233 rfl ?_
    refine WL_iconst (3) dL_law_1234 rfl ?_
    refine WL_iadd dL_law_1235 ?_
    refine WL_sld dL_law_1236 (L_in hi h4 (3) (by decide)) ?_
    refine WL_aload_n dL_law_1237 rfl ?_
    refine WL_iload_n dL_law_1238 rfl ?_
    refine WL_iconst (4) dL_law_1239 rfl ?_
    refine WL_iadd dL_law_1240 ?_
    refine WL_sld dL_law_1241 (L_in hi h4 (4) (by decide)) ?_
    refine WL_aload_n dL_law_1242 rfl ?_
    refine WL_iload_n dL_law_1243 rfl ?_
    refine WL_iconst (5) dL_law_1244 rfl ?_
    refine WL_iadd dL_law_1245 ?_
    refine WL_sld dL_law_1246 (L_in hi h4 (5) (by decide)) ?_
    refine WL_aload_n dL_law_1247 rfl ?_
    refine WL_iload_n dL_law_1248 rfl ?_
    refine WL_bipush (6) dL_law_1249 rfl ?_
    refine WL_iadd dL_law_1251 ?_
    refine WL_sld dL_law_1252 (L_in hi h4 (6) (by decide)) ?_
    have h := sx_meet_6 (g := gX Z) (J := Y.1.2.1) ly_X hr h5  hXN (z_x Z (i + 1).toNatClampNeg) (z_x Z (i + 2).toNatClampNeg) (z_x Z (i + 3).toNatClampNeg) (z_x Z (i + 4).toNatClampNeg) (z_x Z (i + 5).toNatClampNeg) (z_x Z (i + 6).toNatClampNeg)
    rw [ad_X] at h
    refine WL_callX6 dL_law_1253 wX10_meet h (Nat.le_of_ble_eq_true rfl) (fun r I1 J1 R1 hq => ?_)
    obtain ⟨⟨hIa, ec, fia, fja⟩, va, rfl⟩ := hq
    show WL Z mL _ _ (.int _ :: _) _
    rw [ec]
    exact nxt L _ _ _ _ Bz Sz Dz ⟨hr, (Or.inl ⟨h5, h0⟩), hP⟩ hIa ⟨fun q hq => by rw [fz_at fia 2 (by decide) (by decide)]; exact hXR.1 q hq, TWX_of (p := 6) (by decide) h5 (RTW_fz hW hTG.1 fia fja (by decide) (by decide))⟩ (XDS_fz hXD fia (by decide)) (XK_fz hXK fia (by decide)) rfl ⟨rfl, rfl, rfl⟩
  · have hW := TWX_at ly_X hXR.2 (p := 27) (by decide) h5
    refine WL_aload_n dL_law_1221 rfl ?_
    refine WL_aload_n dL_law_1222 rfl ?_
    refine WL_iload_n dL_law_1223 rfl ?_
    refine WL_iconst (1) dL_law_1224 rfl ?_
    refine WL_iadd dL_law_1225 ?_
    refine WL_sld dL_law_1226 (L_in hi h4 (1) (by decide)) ?_
    refine WL_aload_n dL_law_1227 rfl ?_
    refine WL_iload_n dL_law_1228 rfl ?_
    refine WL_iconst (2) dL_law_1229 rfl ?_
    refine WL_iadd dL_law_1230 ?_
    refine WL_sld dL_law_1231 (L_in hi h4 (2) (by decide)) ?_
    refine WL_aload_n dL_law_1232 rfl ?_
    refine WL_iload_n dL_law_1233 rfl ?_
    refine WL_iconst (3) dL_law_1234 rfl ?_
    refine WL_iadd dL_law_1235 ?_
    refine WL_sld dL_law_1236 (L_in hi h4 (3) (by decide)) ?_
    refine WL_aload_n dL_law_1237 rfl ?_
    refine WL_iload_n dL_law_1238 rfl ?_
    refine WL_iconst (4) dL_law_1239 rfl ?_
    refine WL_iadd dL_law_1240 ?_
    refine WL_sld dL_law_1241 (L_in hi h4 (4) (by decide)) ?_
    refine WL_aload_n dL_law_1242 rfl ?_
    refine WL_iload_n dL_law_1243 rfl ?_
    refine WL_iconst (5) dL_law_1244 rfl ?_
    refine WL_iadd dL_law_1245 ?_
    refine WL_sld dL_law_1246 (L_in hi h4 (5) (by decide)) ?_
    refine WL_aload_n dL_law_1247 rfl ?_
    refine WL_iload_n dL_law_1248 rfl ?_
    refine WL_bipush (6) dL_law_1249 rfl ?_
    refine WL_iadd dL_law_1251 ?_
    refine WL_sld dL_law_1252 (L_in hi h4 (6) (by decide)) ?_
    have h := sx_meet_27 (g := gX Z) (J := Y.1.2.1) ly_X hr h5  hXN (z_x Z (i + 1).toNatClampNeg) (z_x Z (i + 2).toNatClampNeg) (z_x Z (i + 3).toNatClampNeg) (z_x Z (i + 4).toNatClampNeg) (z_x Z (i + 5).toNatClampNeg) (z_x Z (i + 6).toNatClampNeg)
    rw [ad_X] at h
    refine WL_callX6 dL_law_1253 wX10_meet h (Nat.le_of_ble_eq_true rfl) (fun r I1 J1 R1 hq => ?_)
    obtain ⟨⟨hIa, ec, fia, fja⟩, va, rfl⟩ := hq
    show WL Z mL _ _ (.int _ :: _) _
    rw [ec]
    exact nxt L _ _ _ _ Bz Sz Dz ⟨hr, (Or.inr ⟨h5, h0⟩), hP⟩ hIa ⟨fun q hq => by rw [fz_at fia 2 (by decide) (by decide)]; exact hXR.1 q hq, TWX_of (p := 27) (by decide) h5 (RTW_fz hW hTG.1 fia fja (by decide) (by decide))⟩ (XDS_fz hXD fia (by decide)) (XK_fz hXK fia (by decide)) rfl ⟨rfl, rfl, rfl⟩
set_option maxHeartbeats 4000000 in
set_option maxRecDepth 100000 in
theorem L_rests {Z : LB} {i : Int32} {Y : YY} {n : Int} {L : Int32} (hi : 0 ≤ i.toInt ∧ i.toInt + 8 ≤ (z_L Z : Int)) (h4 : z_L Z ≤ 4096) (hn : 0 ≤ n ∧ n ≤ 39000) (hV : IV Z n L Y) (hk : ∀ (Y2 : YY) (L2 : Int32), IV Z (n + 70) L2 Y2 → WL Z mL 1375 [(0, .ref (z_b Z)), (1, .ref (z_h Z + 0)), (2, .ref (z_h Z + 74 + 0)), (3, .int i)] [] Y2) : WL Z mL 1296 [(0, .ref (z_b Z)), (1, .ref (z_h Z + 0)), (2, .ref (z_h Z + 74 + 0)), (3, .int i)] [] Y := by
  obtain ⟨⟨hr, hT, hP⟩, hX, hrm, hM, Bz, Sz, Dz, hBz, hTG, ⟨hXR, hXD, hXK⟩, hMR, hMD⟩ := hV
  have hXN := xi_mono hX (show n ≤ n + 70 by omega)
  have hMN := mp_mono hM (show n ≤ n + 70 by omega)
  have hLb := BT_get hX.1 1 1 2 0 0 900 (by decide) 1 (by decide) (by decide)
  rw [hX.2] at hLb
  have hDb := BT_get hM.1.1 38 33 34 0 1 0 (by decide) 33 (by decide) (by decide)
  rw [hMD.1] at hDb
  have hD0 : 0 ≤ Dz.1.toInt := by omega
  have nxt : ∀ (L2 v : Int32) (I1 : pI) (J1 : pJ) (R1 : pR) (B2 : Nat → Int32) (S2 : TwS) (D2 : DS), (RfX (gX Z) R1 ∧ TS (gX Z) R1 ∧ NL (gX Z) R1) → XI (gX Z) (n + 70) L2 I1 → XR (gX Z) B2 S2 I1 J1 R1 → XDS (gX Z) D2 I1 → XK (gX Z) S2 I1 → (L2 = L) → (B2 = Bz ∧ S2 = Sz ∧ D2 = Dz) → WL Z mL 1315 [(0, .ref (z_b Z)), (1, .ref (z_h Z + 0)), (2, .ref (z_h Z + 74 + 0)), (3, .int i)] [.int v] ((I1, J1, R1), Y.2) := by
    intro L2 v I1 J1 R1 B2 S2 D2 hR1 hX1 hXR1 hXD1 hXK1 hl hbr
    refine WL_pop dL_law_1315 rfl ?_
    refine WL_aload_n dL_law_1316 rfl ?_
    refine WL_aload_n dL_law_1317 rfl ?_
    refine WL_iload_n dL_law_1318 rfl ?_
    refine WL_iconst (1) dL_law_1319 rfl ?_
    refine WL_iadd dL_law_1320 ?_
    refine WL_sld dL_law_1321 (L_in hi h4 (1) (by decide)) ?_
    refine WL_aload_n dL_law_1322 rfl ?_
    refine WL_iload_n dL_law_1323 rfl ?_
    refine WL_iconst (2) dL_law_1324 rfl ?_
    refine WL_iadd dL_law_1325 ?_
    refine WL_sld dL_law_1326 (L_in hi h4 (2) (by decide)) ?_
    refine WL_aload_n dL_law_1327 rfl ?_
    refine WL_iload_n dL_law_1328 rfl ?_
    refine WL_iconst (3) dL_law_1329 rfl ?_
    refine WL_iadd dL_law_1330 ?_
    refine WL_sld dL_law_1331 (L_in hi h4 (3) (by decide)) ?_
    have h := sm_rests (g := gM Z) (J := Y.2.2.1) ly_M hrm  hMN (z_x Z (i + 1).toNatClampNeg) (z_x Z (i + 2).toNatClampNeg) (z_x Z (i + 3).toNatClampNeg)
    rw [ad_M] at h
    refine WL_callM3 dL_law_1332 wX11_rests h (Nat.le_of_ble_eq_true rfl) (fun r I2 J2 R2 hq => ?_)
    obtain ⟨⟨hIb, ec, fib, fjb, fqb⟩, vb, rfl⟩ := hq
    show WL Z mL _ _ (.int _ :: _) _
    rw [ec]
    have eL : L = L2 := hl.symm
    rw [eL] at hIb
    obtain ⟨eB, eS, hdr⟩ := hbr
    rw [eB, eS] at hXR1
    rw [eS] at hXK1
    have hMR2 : MR (gM Z) Bz Sz I2 J2 := ⟨fun q hq => by rw [fz_at fib 1 (by decide) (by decide)]; exact hMR.1 q hq, RTT_fz hMR.2 hTG.1 fib fjb fqb (by decide) (by decide) (by decide)⟩
    have hBT2 := hBz
    have hTG2 := hTG
    have hMD2 : MDS (gM Z) D2 I2 := by rw [hdr]; exact MDS_fz hMD fib (by decide)
    refine WL_pop dL_law_1335 rfl ?_
    refine WL_goto 1375 dL_law_1336 rfl ?_
    exact hk _ L2 ⟨hR1, hX1, hrm, hIb, Bz, Sz, D2, hBT2, hTG2, ⟨hXR1, hXD1, hXK1⟩, hMR2, hMD2⟩
  rcases hT with ⟨h5, h0⟩ | ⟨h5, h0⟩
  · have hW := TWX_at ly_X hXR.2 (p := 6) (by decide) h5
    refine WL_aload_n dL_law_1296 rfl ?_
    refine WL_aload_n dL_law_1297 rfl ?_
    refine WL_iload_n dL_law_1298 rfl ?_
    refine WL_iconst (1) dL_law_1299 rfl ?_
    refine WL_iadd dL_law_1300 ?_
    refine WL_sld dL_law_1301 (L_in hi h4 (1) (by decide)) ?_
    refine WL_aload_n dL_law_1302 rfl ?_
    refine WL_iload_n dL_law_1303 rfl ?_
    refine WL_iconst (2) dL_law_1304 rfl ?_
    refine WL_iadd dL_law_1305 ?_
    refine WL_sld dL_law_1306 (L_in hi h4 (2) (by decide)) ?_
    refine WL_aload_n dL_law_1307 rfl ?_
    refine WL_iload_n dL_law_1308 rfl ?_
    refine WL_iconst (3) dL_law_1309 rfl ?_
    refine WL_iadd dL_law_1310 ?_
    refine WL_sld dL_law_1311 (L_in hi h4 (3) (by decide)) ?_
    have h := sx_rests_6 (g := gX Z) (J := Y.1.2.1) ly_X hr h5  hXN (z_x Z (i + 1).toNatClampNeg) (z_x Z (i + 2).toNatClampNeg) (z_x Z (i + 3).toNatClampNeg)
    rw [ad_X] at h
    refine WL_callX3 dL_law_1312 wX10_rests h (Nat.le_of_ble_eq_true rfl) (fun r I1 J1 R1 hq => ?_)
    obtain ⟨⟨hIa, ec, fia, fja⟩, va, rfl⟩ := hq
    show WL Z mL _ _ (.int _ :: _) _
    rw [ec]
    exact nxt L _ _ _ _ Bz Sz Dz ⟨hr, (Or.inl ⟨h5, h0⟩), hP⟩ hIa ⟨fun q hq => by rw [fz_at fia 2 (by decide) (by decide)]; exact hXR.1 q hq, TWX_of (p := 6) (by decide) h5 (RTW_fz hW hTG.1 fia fja (by decide) (by decide))⟩ (XDS_fz hXD fia (by decide)) (XK_fz hXK fia (by decide)) rfl ⟨rfl, rfl, rfl⟩
  · have hW := TWX_at ly_X hXR.2 (p := 27) (by decide) h5
    refine WL_aload_n dL_law_1296 rfl ?_
    refine WL_aload_n dL_law_1297 rfl ?_
    refine WL_iload_n dL_law_1298 rfl ?_
    refine WL_iconst (1) dL_law_1299 rfl ?_
    refine WL_iadd dL_law_1300 ?_
    refine WL_sld dL_law_1301 (L_in hi h4 (1) (by decide)) ?_
    refine WL_aload_n dL_law_1302 rfl ?_
    refine WL_iload_n dL_law_1303 rfl ?_
    refine WL_iconst (2) dL_law_1304 rfl ?_
    refine WL_iadd dL_law_1305 ?_
    refine WL_sld dL_law_1306 (L_in hi h4 (2) (by decide)) ?_
    refine WL_aload_n dL_law_1307 rfl ?_
    refine WL_iload_n dL_law_1308 rfl ?_
    refine WL_iconst (3) dL_law_1309 rfl ?_
    refine WL_iadd dL_law_1310 ?_
    refine WL_sld dL_law_1311 (L_in hi h4 (3) (by decide)) ?_
    have h := sx_rests_27 (g := gX Z) (J := Y.1.2.1) ly_X hr h5  hXN (z_x Z (i + 1).toNatClampNeg) (z_x Z (i + 2).toNatClampNeg) (z_x Z (i + 3).toNatClampNeg)
    rw [ad_X] at h
    refine WL_callX3 dL_law_1312 wX10_rests h (Nat.le_of_ble_eq_true rfl) (fun r I1 J1 R1 hq => ?_)
    obtain ⟨⟨hIa, ec, fia, fja⟩, va, rfl⟩ := hq
    show WL Z mL _ _ (.int _ :: _) _
    rw [ec]
    exact nxt L _ _ _ _ Bz Sz Dz ⟨hr, (Or.inr ⟨h5, h0⟩), hP⟩ hIa ⟨fun q hq => by rw [fz_at fia 2 (by decide) (by decide)]; exact hXR.1 q hq, TWX_of (p := 27) (by decide) h5 (RTW_fz hW hTG.1 fia fja (by decide) (by decide))⟩ (XDS_fz hXD fia (by decide)) (XK_fz hXK fia (by decide)) rfl ⟨rfl, rfl, rfl⟩
set_option maxHeartbeats 4000000 in
set_option maxRecDepth 100000 in
theorem L_book {Z : LB} {i : Int32} {Y : YY} {n : Int} {L : Int32} (hi : 0 ≤ i.toInt ∧ i.toInt + 8 ≤ (z_L Z : Int)) (h4 : z_L Z ≤ 4096) (hn : 0 ≤ n ∧ n ≤ 39000) (hV : IV Z n L Y) (hk : ∀ (Y2 : YY) (L2 : Int32), IV Z (n + 70) L2 Y2 → WL Z mL 1375 [(0, .ref (z_b Z)), (1, .ref (z_h Z + 0)), (2, .ref (z_h Z + 74 + 0)), (3, .int i)] [] Y2) : WL Z mL 1339 [(0, .ref (z_b Z)), (1, .ref (z_h Z + 0)), (2, .ref (z_h Z + 74 + 0)), (3, .int i)] [] Y := by
  obtain ⟨⟨hr, hT, hP⟩, hX, hrm, hM, Bz, Sz, Dz, hBz, hTG, ⟨hXR, hXD, hXK⟩, hMR, hMD⟩ := hV
  have hXN := xi_mono hX (show n ≤ n + 70 by omega)
  have hMN := mp_mono hM (show n ≤ n + 70 by omega)
  have hLb := BT_get hX.1 1 1 2 0 0 900 (by decide) 1 (by decide) (by decide)
  rw [hX.2] at hLb
  have hDb := BT_get hM.1.1 38 33 34 0 1 0 (by decide) 33 (by decide) (by decide)
  rw [hMD.1] at hDb
  have hD0 : 0 ≤ Dz.1.toInt := by omega
  have nxt : ∀ (L2 v : Int32) (I1 : pI) (J1 : pJ) (R1 : pR) (B2 : Nat → Int32) (S2 : TwS) (D2 : DS), (RfX (gX Z) R1 ∧ TS (gX Z) R1 ∧ NL (gX Z) R1) → XI (gX Z) (n + 70) L2 I1 → XR (gX Z) B2 S2 I1 J1 R1 → XDS (gX Z) D2 I1 → XK (gX Z) S2 I1 → (L2.toInt = 0) → (B2 = Bz ∧ S2 = Sz ∧ D2 = Dz) → WL Z mL 1343 [(0, .ref (z_b Z)), (1, .ref (z_h Z + 0)), (2, .ref (z_h Z + 74 + 0)), (3, .int i)] [.int v] ((I1, J1, R1), Y.2) := by
    intro L2 v I1 J1 R1 B2 S2 D2 hR1 hX1 hXR1 hXD1 hXK1 hl hbr
    refine WL_pop dL_law_1343 rfl ?_
    refine WL_aload_n dL_law_1344 rfl ?_
    have h := sm_book (g := gM Z) (J := Y.2.2.1) ly_M hrm  hMN
    rw [ad_M] at h
    refine WL_callM0 dL_law_1345 wX11_book h (Nat.le_of_ble_eq_true rfl) (fun r I2 J2 R2 hq => ?_)
    obtain ⟨⟨⟨Lb, hIb, hlb⟩, ec, fib, fjb, fqb⟩, vb, rfl⟩ := hq
    show WL Z mL _ _ (.int _ :: _) _
    rw [ec]
    have eL : Lb = L2 := (eq32 _ _).mpr (by omega)
    rw [eL] at hIb
    obtain ⟨eB, eS, hdr⟩ := hbr
    rw [eB, eS] at hXR1
    rw [eS] at hXK1
    have hMR2 : MR (gM Z) Bz Sz I2 J2 := ⟨fun q hq => by rw [fz_at fib 1 (by decide) (by decide)]; exact hMR.1 q hq, RTT_fz hMR.2 hTG.1 fib fjb fqb (by decide) (by decide) (by decide)⟩
    have hBT2 := hBz
    have hTG2 := hTG
    have hMD2 : MDS (gM Z) D2 I2 := by rw [hdr]; exact MDS_fz hMD fib (by decide)
    refine WL_pop dL_law_1348 rfl ?_
    refine WL_goto 1375 dL_law_1349 rfl ?_
    exact hk _ L2 ⟨hR1, hX1, hrm, hIb, Bz, Sz, D2, hBT2, hTG2, ⟨hXR1, hXD1, hXK1⟩, hMR2, hMD2⟩
  rcases hT with ⟨h5, h0⟩ | ⟨h5, h0⟩
  · have hW := TWX_at ly_X hXR.2 (p := 6) (by decide) h5
    refine WL_aload_n dL_law_1339 rfl ?_
    have h := sx_book_6 (g := gX Z) (J := Y.1.2.1) ly_X hz_X hr h5  hXN
    rw [ad_X] at h
    refine WL_callX0 dL_law_1340 wX10_book h (Nat.le_of_ble_eq_true rfl) (fun r I1 J1 R1 hq => ?_)
    obtain ⟨⟨⟨La, hIa, hla⟩, ec, fia, fja⟩, va, rfl⟩ := hq
    show WL Z mL _ _ (.int _ :: _) _
    rw [ec]
    exact nxt La _ _ _ _ Bz Sz Dz ⟨hr, (Or.inl ⟨h5, h0⟩), hP⟩ hIa ⟨fun q hq => by rw [fz_at fia 2 (by decide) (by decide)]; exact hXR.1 q hq, TWX_of (p := 6) (by decide) h5 (RTW_fz hW hTG.1 fia fja (by decide) (by decide))⟩ (XDS_fz hXD fia (by decide)) (XK_fz hXK fia (by decide)) hla ⟨rfl, rfl, rfl⟩
  · have hW := TWX_at ly_X hXR.2 (p := 27) (by decide) h5
    refine WL_aload_n dL_law_1339 rfl ?_
    have h := sx_book_27 (g := gX Z) (J := Y.1.2.1) ly_X hz_X hr h5  hXN
    rw [ad_X] at h
    refine WL_callX0 dL_law_1340 wX10_book h (Nat.le_of_ble_eq_true rfl) (fun r I1 J1 R1 hq => ?_)
    obtain ⟨⟨⟨La, hIa, hla⟩, ec, fia, fja⟩, va, rfl⟩ := hq
    show WL Z mL _ _ (.int _ :: _) _
    rw [ec]
    exact nxt La _ _ _ _ Bz Sz Dz ⟨hr, (Or.inr ⟨h5, h0⟩), hP⟩ hIa ⟨fun q hq => by rw [fz_at fia 2 (by decide) (by decide)]; exact hXR.1 q hq, TWX_of (p := 27) (by decide) h5 (RTW_fz hW hTG.1 fia fja (by decide) (by decide))⟩ (XDS_fz hXD fia (by decide)) (XK_fz hXK fia (by decide)) hla ⟨rfl, rfl, rfl⟩
set_option maxHeartbeats 4000000 in
set_option maxRecDepth 100000 in
theorem L_count {Z : LB} {i : Int32} {Y : YY} {n : Int} {L : Int32} (hi : 0 ≤ i.toInt ∧ i.toInt + 8 ≤ (z_L Z : Int)) (h4 : z_L Z ≤ 4096) (hn : 0 ≤ n ∧ n ≤ 39000) (hV : IV Z n L Y) (hk : ∀ (Y2 : YY) (L2 : Int32), IV Z (n + 70) L2 Y2 → WL Z mL 1375 [(0, .ref (z_b Z)), (1, .ref (z_h Z + 0)), (2, .ref (z_h Z + 74 + 0)), (3, .int i)] [] Y2) : WL Z mL 1352 [(0, .ref (z_b Z)), (1, .ref (z_h Z + 0)), (2, .ref (z_h Z + 74 + 0)), (3, .int i)] [] Y := by
  obtain ⟨⟨hr, hT, hP⟩, hX, hrm, hM, Bz, Sz, Dz, hBz, hTG, ⟨hXR, hXD, hXK⟩, hMR, hMD⟩ := hV
  have hXN := xi_mono hX (show n ≤ n + 70 by omega)
  have hMN := mp_mono hM (show n ≤ n + 70 by omega)
  have hLb := BT_get hX.1 1 1 2 0 0 900 (by decide) 1 (by decide) (by decide)
  rw [hX.2] at hLb
  have hDb := BT_get hM.1.1 38 33 34 0 1 0 (by decide) 33 (by decide) (by decide)
  rw [hMD.1] at hDb
  have hD0 : 0 ≤ Dz.1.toInt := by omega
  have nxt : ∀ (L2 v : Int32) (I1 : pI) (J1 : pJ) (R1 : pR) (B2 : Nat → Int32) (S2 : TwS) (D2 : DS), (RfX (gX Z) R1 ∧ TS (gX Z) R1 ∧ NL (gX Z) R1) → XI (gX Z) (n + 70) L2 I1 → XR (gX Z) B2 S2 I1 J1 R1 → XDS (gX Z) D2 I1 → XK (gX Z) S2 I1 → (L2 = L) → (B2 = Bz ∧ S2 = Sz ∧ D2 = Dz) → WL Z mL 1361 [(0, .ref (z_b Z)), (1, .ref (z_h Z + 0)), (2, .ref (z_h Z + 74 + 0)), (3, .int i)] [.int v] ((I1, J1, R1), Y.2) := by
    intro L2 v I1 J1 R1 B2 S2 D2 hR1 hX1 hXR1 hXD1 hXK1 hl hbr
    refine WL_pop dL_law_1361 rfl ?_
    refine WL_aload_n dL_law_1362 rfl ?_
    refine WL_aload_n dL_law_1363 rfl ?_
    refine WL_iload_n dL_law_1364 rfl ?_
    refine WL_iconst (1) dL_law_1365 rfl ?_
    refine WL_iadd dL_law_1366 ?_
    refine WL_sld dL_law_1367 (L_in hi h4 (1) (by decide)) ?_
    have h := sm_count (g := gM Z) (J := Y.2.2.1) ly_M hrm  hMN (z_x Z (i + 1).toNatClampNeg)
    rw [ad_M] at h
    refine WL_callM1 dL_law_1368 wX11_count h (Nat.le_of_ble_eq_true rfl) (fun r I2 J2 R2 hq => ?_)
    obtain ⟨⟨ea, eb, ec⟩, vb, rfl⟩ := hq
    show WL Z mL _ _ (.int _ :: _) _
    rw [ea, eb, ec]
    have eL : L = L2 := hl.symm
    have hMN2 := hMN
    rw [eL] at hMN2
    obtain ⟨eB, eS, eD⟩ := hbr
    rw [eB, eS] at hXR1
    rw [eS] at hXK1
    have hMR2 : MR (gM Z) Bz Sz Y.2.1 Y.2.2.1 := hMR
    have hMD2 : MDS (gM Z) D2 Y.2.1 := by rw [eD]; exact hMD
    have hBT2 := hBz
    have hTG2 := hTG
    refine WL_pop dL_law_1371 rfl ?_
    refine WL_goto 1375 dL_law_1372 rfl ?_
    exact hk _ L2 ⟨hR1, hX1, hrm, hMN2, Bz, Sz, D2, hBT2, hTG2, ⟨hXR1, hXD1, hXK1⟩, hMR2, hMD2⟩
  rcases hT with ⟨h5, h0⟩ | ⟨h5, h0⟩
  · have hW := TWX_at ly_X hXR.2 (p := 6) (by decide) h5
    refine WL_aload_n dL_law_1352 rfl ?_
    refine WL_aload_n dL_law_1353 rfl ?_
    refine WL_iload_n dL_law_1354 rfl ?_
    refine WL_iconst (1) dL_law_1355 rfl ?_
    refine WL_iadd dL_law_1356 ?_
    refine WL_sld dL_law_1357 (L_in hi h4 (1) (by decide)) ?_
    have h := sx_count_6 (g := gX Z) (J := Y.1.2.1) ly_X hr h5  hXN (z_x Z (i + 1).toNatClampNeg)
    rw [ad_X] at h
    refine WL_callX1 dL_law_1358 wX10_count h (Nat.le_of_ble_eq_true rfl) (fun r I1 J1 R1 hq => ?_)
    obtain ⟨⟨ea, eb, ec⟩, va, rfl⟩ := hq
    show WL Z mL _ _ (.int _ :: _) _
    rw [ea, eb, ec]
    exact nxt L _ _ _ _ Bz Sz Dz ⟨hr, (Or.inl ⟨h5, h0⟩), hP⟩ hXN hXR hXD hXK rfl ⟨rfl, rfl, rfl⟩
  · have hW := TWX_at ly_X hXR.2 (p := 27) (by decide) h5
    refine WL_aload_n dL_law_1352 rfl ?_
    refine WL_aload_n dL_law_1353 rfl ?_
    refine WL_iload_n dL_law_1354 rfl ?_
    refine WL_iconst (1) dL_law_1355 rfl ?_
    refine WL_iadd dL_law_1356 ?_
    refine WL_sld dL_law_1357 (L_in hi h4 (1) (by decide)) ?_
    have h := sx_count_27 (g := gX Z) (J := Y.1.2.1) ly_X hr h5  hXN (z_x Z (i + 1).toNatClampNeg)
    rw [ad_X] at h
    refine WL_callX1 dL_law_1358 wX10_count h (Nat.le_of_ble_eq_true rfl) (fun r I1 J1 R1 hq => ?_)
    obtain ⟨⟨ea, eb, ec⟩, va, rfl⟩ := hq
    show WL Z mL _ _ (.int _ :: _) _
    rw [ea, eb, ec]
    exact nxt L _ _ _ _ Bz Sz Dz ⟨hr, (Or.inr ⟨h5, h0⟩), hP⟩ hXN hXR hXD hXK rfl ⟨rfl, rfl, rfl⟩
set_option maxHeartbeats 4000000 in
set_option maxRecDepth 100000 in
theorem L_loop {Z : LB} (h4 : z_L Z ≤ 4096) : ∀ (mz : Nat) (i : Int32) (Y : YY) (n : Int) (L : Int32), 0 ≤ i.toInt → i.toInt ≤ 4096 → 0 ≤ n → n ≤ 9 * i.toInt → IV Z n L Y → (4097 - i.toInt).toNat < mz → WL Z mL 18 [(0, .ref (z_b Z)), (1, .ref (z_h Z + 0)), (2, .ref (z_h Z + 74 + 0)), (3, .int i)] [] Y := by
  intro mz
  induction mz with
  | zero => intro i Y n L h1 h2 h3 h4a hV hm; exact absurd hm (Nat.not_lt_zero _)
  | succ mz ih =>
    intro i Y n L h1 h2 h3 h4a hV hm
    refine WL_iload_n dL_law_18 rfl ?_
    refine WL_aload_n dL_law_19 rfl ?_
    refine WL_slen dL_law_20 ?_
    refine WL_bipush (8) dL_law_21 rfl ?_
    refine WL_isub dL_law_23 ?_
    have e1 : (Int32.ofNat (z_L Z)).toInt = (z_L Z : Int) := nI_toInt (by omega)
    have e8 : (8 : Int32).toInt = 8 := rfl
    have e2 : (Int32.ofNat (z_L Z) - 8).toInt = (z_L Z : Int) - 8 := by rw [is' (by omega) (by omega)]; omega
    refine WL_icmp_gt 1381 dL_law_24 rfl (fun _ => ?_) (fun h => ?_)
    · refine WL_iconst (1) dL_law_1381 rfl ?_
      exact WL_ret dL_law_1382 rfl
    have hi : 0 ≤ i.toInt ∧ i.toInt + 8 ≤ (z_L Z : Int) := by rw [lt32] at h; omega
    have hn : 0 ≤ n ∧ n ≤ 39000 := by omega
    have hk : ∀ (Y2 : YY) (L2 : Int32), IV Z (n + 70) L2 Y2 → WL Z mL 1375 [(0, .ref (z_b Z)), (1, .ref (z_h Z + 0)), (2, .ref (z_h Z + 74 + 0)), (3, .int i)] [] Y2 := by
      intro Y2 L2 hV2
      refine WL_iinc (ls' := [(0, _), (1, _), (2, _), (3, _)]) dL_law_1375 rfl (by decide) rfl ?_
      refine WL_goto 18 dL_law_1378 rfl ?_
      have e9 : (i + Int32.ofInt 8).toInt = i.toInt + 8 := ia_n rfl (by omega) (by omega)
      exact ih _ Y2 (n + 70) L2 (by omega) (by omega) (by omega) (by omega) hV2 (by omega)
    refine WL_aload_n dL_law_27 rfl ?_
    refine WL_iload_n dL_law_28 rfl ?_
    refine WL_sld dL_law_29 (vin (by omega) (by omega)) ?_
    refine WL_bipush (63) dL_law_30 rfl ?_
    refine WL_iand dL_law_32 ?_
    refine WL_tab 1375 dL_law_33 rfl rfl (fun _ => hk Y L (IV_mono hV (by omega))) (fun j off hj ho => ?_) (by decide)
    have hj : j < 33 := (Array.getElem?_eq_some_iff.mp ho).1
    rcases (show j = 0 ∨ j = 1 ∨ j = 2 ∨ j = 3 ∨ j = 4 ∨ j = 5 ∨ j = 6 ∨ j = 7 ∨ j = 8 ∨ j = 9 ∨ j = 10 ∨ j = 11 ∨ j = 12 ∨ j = 13 ∨ j = 14 ∨ j = 15 ∨ j = 16 ∨ j = 17 ∨ j = 18 ∨ j = 19 ∨ j = 20 ∨ j = 21 ∨ j = 22 ∨ j = 23 ∨ j = 24 ∨ j = 25 ∨ j = 26 ∨ j = 27 ∨ j = 28 ∨ j = 29 ∨ j = 30 ∨ j = 31 ∨ j = 32 by omega) with rfl | rfl | rfl | rfl | rfl | rfl | rfl | rfl | rfl | rfl | rfl | rfl | rfl | rfl | rfl | rfl | rfl | rfl | rfl | rfl | rfl | rfl | rfl | rfl | rfl | rfl | rfl | rfl | rfl | rfl | rfl | rfl | rfl
    · obtain rfl : (147 : Int) = off := Option.some.inj ho
      exact L_feed hi h4 hn hV hk
    · obtain rfl : (210 : Int) = off := Option.some.inj ho
      exact L_end hi h4 hn hV hk
    · obtain rfl : (233 : Int) = off := Option.some.inj ho
      exact L_town hi h4 hn hV hk
    · obtain rfl : (246 : Int) = off := Option.some.inj ho
      exact L_fault hi h4 hn hV hk
    · obtain rfl : (269 : Int) = off := Option.some.inj ho
      exact L_told hi h4 hn hV hk
    · obtain rfl : (292 : Int) = off := Option.some.inj ho
      exact L_earns hi h4 hn hV hk
    · obtain rfl : (325 : Int) = off := Option.some.inj ho
      exact L_price hi h4 hn hV hk
    · obtain rfl : (358 : Int) = off := Option.some.inj ho
      exact L_made hi h4 hn hV hk
    · obtain rfl : (391 : Int) = off := Option.some.inj ho
      exact L_wants hi h4 hn hV hk
    · obtain rfl : (434 : Int) = off := Option.some.inj ho
      exact L_night hi h4 hn hV hk
    · obtain rfl : (477 : Int) = off := Option.some.inj ho
      exact L_may hi h4 hn hV hk
    · obtain rfl : (540 : Int) = off := Option.some.inj ho
      exact L_best hi h4 hn hV hk
    · obtain rfl : (603 : Int) = off := Option.some.inj ho
      exact L_bestAct hi h4 hn hV hk
    · obtain rfl : (666 : Int) = off := Option.some.inj ho
      exact L_wayAct hi h4 hn hV hk
    · obtain rfl : (729 : Int) = off := Option.some.inj ho
      exact L_way hi h4 hn hV hk
    · obtain rfl : (762 : Int) = off := Option.some.inj ho
      exact L_pass hi h4 hn hV hk
    · obtain rfl : (785 : Int) = off := Option.some.inj ho
      exact L_run hi h4 hn hV hk
    · obtain rfl : (818 : Int) = off := Option.some.inj ho
      exact L_all hi h4 hn hV hk
    · obtain rfl : (841 : Int) = off := Option.some.inj ho
      exact L_anew hi h4 hn hV hk
    · obtain rfl : (854 : Int) = off := Option.some.inj ho
      exact L_keep hi h4 hn hV hk
    · obtain rfl : (877 : Int) = off := Option.some.inj ho
      exact L_take hi h4 hn hV hk
    · obtain rfl : (900 : Int) = off := Option.some.inj ho
      exact L_worthAt hi h4 hn hV hk
    · obtain rfl : (933 : Int) = off := Option.some.inj ho
      exact L_rate hi h4 hn hV hk
    · obtain rfl : (956 : Int) = off := Option.some.inj ho
      exact L_rest hi h4 hn hV hk
    · obtain rfl : (979 : Int) = off := Option.some.inj ho
      exact L_restTurns hi h4 hn hV hk
    · obtain rfl : (992 : Int) = off := Option.some.inj ho
      exact L_two hi h4 hn hV hk
    · obtain rfl : (1079 : Int) = off := Option.some.inj ho
      exact L_lend hi h4 hn hV hk
    · obtain rfl : (1132 : Int) = off := Option.some.inj ho
      exact L_early hi h4 hn hV hk
    · obtain rfl : (1175 : Int) = off := Option.some.inj ho
      exact L_values hi h4 hn hV hk
    · obtain rfl : (1188 : Int) = off := Option.some.inj ho
      exact L_meet hi h4 hn hV hk
    · obtain rfl : (1263 : Int) = off := Option.some.inj ho
      exact L_rests hi h4 hn hV hk
    · obtain rfl : (1306 : Int) = off := Option.some.inj ho
      exact L_book hi h4 hn hV hk
    · obtain rfl : (1319 : Int) = off := Option.some.inj ho
      exact L_count hi h4 hn hV hk
