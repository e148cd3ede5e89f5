set_option maxRecDepth 20000 in
theorem ggL_undo_X11_undo : GoodIn wsL_undo wsX11_undo := goodIn_ca (goodIn_r _ [6, 7, 8, 9, 10, 11, 12, 13, 14, 15, 16, 17, 18, 19, 20, 21, 22, 23, 24, 25, 26, 27, 28, 29, 30, 31, 32, 33, 34, 35, 36, 37, 38, 39, 40, 41, 42, 43, 44, 45, 46, 47, 48, 49, 50, 51, 52, 53, 54, 55, 56, 57, 58, 59, 60, 61, 62, 63, 64, 65, 66, 67, 68, 69, 70, 71, 72, 73, 74, 75, 76, 77, 78, 79, 80, 81, 82, 83, 84, 85, 86, 87, 88, 89, 90, 91, 92, 93, 94, 95, 96, 97, 98, 99, 100, 101, 102, 103, 104, 105, 106, 107, 108, 109, 110, 111, 112, 113, 114, 115, 116, 117, 118, 119, 120, 121, 122, 123, 124, 125, 126, 127, 128, 129, 130, 131, 132, 133, 134, 135, 136, 137, 138, 139, 140, 141, 142, 143, 144, 145, 146, 147] (by decide +kernel) (by decide +kernel)) (goodIn_sub (fun _ h => List.mem_cons_of_mem _ (List.mem_append_right _ h)) (by decide +kernel))
set_option maxRecDepth 20000 in
theorem gL_undo_X11_undo : GoodIn wsL_undo (wsV RL 54 RX11 yX11_undo wsX11_undo) := goodIn_app (goodIn_of _ (by decide +kernel)) ggL_undo_X11_undo
theorem dL_undo_0 : decode cL_undo 0 = .ok (.aload_n 1, 1) := by decide +kernel
theorem dL_undo_1 : decode cL_undo 1 = .ok (.iconst 0, 1) := by decide +kernel
theorem dL_undo_2 : decode cL_undo 2 = .ok (.aload_n 0, 1) := by decide +kernel
theorem dL_undo_3 : decode cL_undo 3 = .ok (.invokevirtual 54, 3) := by decide +kernel
theorem dL_undo_6 : decode cL_undo 6 = .ok (.i2l, 1) := by decide +kernel
theorem dL_undo_7 : decode cL_undo 7 = .ok (.lastore, 1) := by decide +kernel
theorem dL_undo_8 : decode cL_undo 8 = .ok (.goto 6, 3) := by decide +kernel
theorem dL_undo_11 : decode cL_undo 11 = .ok (.astore_n 2, 1) := by decide +kernel
theorem dL_undo_12 : decode cL_undo 12 = .ok (.iconst 1, 1) := by decide +kernel
theorem dL_undo_13 : decode cL_undo 13 = .ok (.ireturn, 1) := by decide +kernel
theorem dL_undo_14 : decode cL_undo 14 = .ok (.iconst 0, 1) := by decide +kernel
theorem dL_undo_15 : decode cL_undo 15 = .ok (.ireturn, 1) := by decide +kernel
set_option maxRecDepth 20000 in
theorem ggL_proposal_X11_proposal : GoodIn wsL_proposal wsX11_proposal := goodIn_ca (goodIn_ca (goodIn_r _ [7, 8, 9, 10, 11, 12, 13, 14, 6, 15, 16, 17, 18, 19, 20, 21, 22, 23, 24, 25, 26, 27, 28, 29, 30, 31, 32, 33, 34, 35, 36, 37, 38, 39, 40, 41, 42, 43, 44, 45, 46, 47, 48, 49, 50, 51, 52, 53, 54, 55, 56, 57, 58, 59, 60, 61, 62, 63, 64, 65, 66, 67, 68, 69, 70, 71, 72, 73, 74, 75, 76, 77, 78, 79, 80, 81, 82, 83, 84, 85, 86, 87, 88, 89, 90, 91, 92, 93, 94, 95, 96, 97, 98, 99, 100, 101, 102, 103, 104] (by decide +kernel) (by decide +kernel)) (goodIn_sub (fun _ h => List.mem_cons_of_mem _ (List.mem_append_left _ (List.mem_append_right _ h))) (by decide +kernel))) (goodIn_sub (fun _ h => List.mem_cons_of_mem _ (List.mem_append_right _ h)) (by decide +kernel))
set_option maxRecDepth 20000 in
theorem gL_proposal_X11_proposal : GoodIn wsL_proposal (wsV RL 57 RX11 yX11_proposal wsX11_proposal) := goodIn_app (goodIn_of _ (by decide +kernel)) ggL_proposal_X11_proposal
theorem dL_proposal_0 : decode cL_proposal 0 = .ok (.aload_n 3, 1) := by decide +kernel
theorem dL_proposal_1 : decode cL_proposal 1 = .ok (.iconst 0, 1) := by decide +kernel
theorem dL_proposal_2 : decode cL_proposal 2 = .ok (.aload_n 0, 1) := by decide +kernel
theorem dL_proposal_3 : decode cL_proposal 3 = .ok (.iload_n 1, 1) := by decide +kernel
theorem dL_proposal_4 : decode cL_proposal 4 = .ok (.iload_n 2, 1) := by decide +kernel
theorem dL_proposal_5 : decode cL_proposal 5 = .ok (.invokevirtual 57, 3) := by decide +kernel
theorem dL_proposal_8 : decode cL_proposal 8 = .ok (.i2l, 1) := by decide +kernel
theorem dL_proposal_9 : decode cL_proposal 9 = .ok (.lastore, 1) := by decide +kernel
theorem dL_proposal_10 : decode cL_proposal 10 = .ok (.goto 11, 3) := by decide +kernel
theorem dL_proposal_13 : decode cL_proposal 13 = .ok (.astore 4, 2) := by decide +kernel
theorem dL_proposal_15 : decode cL_proposal 15 = .ok (.iconst 1, 1) := by decide +kernel
theorem dL_proposal_16 : decode cL_proposal 16 = .ok (.ireturn, 1) := by decide +kernel
theorem dL_proposal_17 : decode cL_proposal 17 = .ok (.astore 4, 2) := by decide +kernel
theorem dL_proposal_19 : decode cL_proposal 19 = .ok (.iconst 2, 1) := by decide +kernel
theorem dL_proposal_20 : decode cL_proposal 20 = .ok (.ireturn, 1) := by decide +kernel
theorem dL_proposal_21 : decode cL_proposal 21 = .ok (.iconst 0, 1) := by decide +kernel
theorem dL_proposal_22 : decode cL_proposal 22 = .ok (.ireturn, 1) := by decide +kernel
set_option maxRecDepth 20000 in
theorem ggL_toleranceFor_X11_toleranceFor : GoodIn wsL_toleranceFor wsX11_toleranceFor := goodIn_ca (goodIn_r _ [6, 7, 8, 9, 10, 11, 12, 13, 14, 15, 16, 17, 18, 19, 20, 21, 22, 23, 24, 25, 26, 27, 28, 29, 30, 31, 32, 33, 34, 35, 36, 37, 38, 39, 40, 41, 42, 43, 44, 45, 46, 47, 48, 49, 50, 51, 52, 53, 54, 55, 56, 57, 58] (by decide +kernel) (by decide +kernel)) (goodIn_sub (fun _ h => List.mem_cons_of_mem _ (List.mem_append_right _ h)) (by decide +kernel))
set_option maxRecDepth 20000 in
theorem gL_toleranceFor_X11_toleranceFor : GoodIn wsL_toleranceFor (wsV RL 60 RX11 yX11_toleranceFor wsX11_toleranceFor) := goodIn_app (goodIn_of _ (by decide +kernel)) ggL_toleranceFor_X11_toleranceFor
theorem dL_toleranceFor_0 : decode cL_toleranceFor 0 = .ok (.aload_n 2, 1) := by decide +kernel
theorem dL_toleranceFor_1 : decode cL_toleranceFor 1 = .ok (.iconst 0, 1) := by decide +kernel
theorem dL_toleranceFor_2 : decode cL_toleranceFor 2 = .ok (.aload_n 0, 1) := by decide +kernel
theorem dL_toleranceFor_3 : decode cL_toleranceFor 3 = .ok (.iload_n 1, 1) := by decide +kernel
theorem dL_toleranceFor_4 : decode cL_toleranceFor 4 = .ok (.invokevirtual 60, 3) := by decide +kernel
theorem dL_toleranceFor_7 : decode cL_toleranceFor 7 = .ok (.i2l, 1) := by decide +kernel
theorem dL_toleranceFor_8 : decode cL_toleranceFor 8 = .ok (.lastore, 1) := by decide +kernel
theorem dL_toleranceFor_9 : decode cL_toleranceFor 9 = .ok (.goto 6, 3) := by decide +kernel
theorem dL_toleranceFor_12 : decode cL_toleranceFor 12 = .ok (.astore_n 3, 1) := by decide +kernel
theorem dL_toleranceFor_13 : decode cL_toleranceFor 13 = .ok (.iconst 1, 1) := by decide +kernel
theorem dL_toleranceFor_14 : decode cL_toleranceFor 14 = .ok (.ireturn, 1) := by decide +kernel
theorem dL_toleranceFor_15 : decode cL_toleranceFor 15 = .ok (.iconst 0, 1) := by decide +kernel
theorem dL_toleranceFor_16 : decode cL_toleranceFor 16 = .ok (.ireturn, 1) := by decide +kernel
