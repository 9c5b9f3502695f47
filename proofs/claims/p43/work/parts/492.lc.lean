theorem m_282 : Cond.methodLink RL 13 yX11_feed ∈ wsL_law := in_wsL_law_r12 _ (List.mem_of_getElem? (i := 18) rfl)
theorem m_283 : Cond.instanceMethod yX11_feed ∈ wsL_law := in_wsL_law_r12 _ (List.mem_of_getElem? (i := 19) rfl)
theorem m_284 : Cond.selects RX11 yX11_feed yX11_feed ∈ wsL_law := in_wsL_law_r12 _ (List.mem_of_getElem? (i := 20) rfl)
theorem m_285 : Cond.code yX11_feed cX11_feed 7 (some .int) ∈ wsL_law := in_wsL_law_r12 _ (List.mem_of_getElem? (i := 21) rfl)
theorem m_295 : Cond.methodLink RL 17 yX12_feed ∈ wsL_law := in_wsL_law_r13 _ (List.mem_of_getElem? (i := 7) rfl)
theorem m_296 : Cond.instanceMethod yX12_feed ∈ wsL_law := in_wsL_law_r13 _ (List.mem_of_getElem? (i := 8) rfl)
theorem m_297 : Cond.selects RX12 yX12_feed yX12_feed ∈ wsL_law := in_wsL_law_r13 _ (List.mem_of_getElem? (i := 9) rfl)
theorem m_298 : Cond.code yX12_feed cX12_feed 8 (some .int) ∈ wsL_law := in_wsL_law_r13 _ (List.mem_of_getElem? (i := 10) rfl)
theorem m_300 : Cond.methodLink RL 18 yX11_end ∈ wsL_law := in_wsL_law_r13 _ (List.mem_of_getElem? (i := 12) rfl)
theorem m_301 : Cond.instanceMethod yX11_end ∈ wsL_law := in_wsL_law_r13 _ (List.mem_of_getElem? (i := 13) rfl)
theorem m_302 : Cond.selects RX11 yX11_end yX11_end ∈ wsL_law := in_wsL_law_r13 _ (List.mem_of_getElem? (i := 14) rfl)
theorem m_303 : Cond.code yX11_end cX11_end 2 (some .int) ∈ wsL_law := in_wsL_law_r13 _ (List.mem_of_getElem? (i := 15) rfl)
theorem m_304 : Cond.methodLink RL 22 yX12_end ∈ wsL_law := in_wsL_law_r13 _ (List.mem_of_getElem? (i := 16) rfl)
theorem m_305 : Cond.instanceMethod yX12_end ∈ wsL_law := in_wsL_law_r13 _ (List.mem_of_getElem? (i := 17) rfl)
theorem m_306 : Cond.selects RX12 yX12_end yX12_end ∈ wsL_law := in_wsL_law_r13 _ (List.mem_of_getElem? (i := 18) rfl)
theorem m_307 : Cond.code yX12_end cX12_end 2 (some .int) ∈ wsL_law := in_wsL_law_r13 _ (List.mem_of_getElem? (i := 19) rfl)
theorem m_308 : Cond.methodLink RL 23 yX11_table ∈ wsL_law := in_wsL_law_r13 _ (List.mem_of_getElem? (i := 20) rfl)
theorem m_309 : Cond.instanceMethod yX11_table ∈ wsL_law := in_wsL_law_r13 _ (List.mem_of_getElem? (i := 21) rfl)
theorem m_310 : Cond.selects RX11 yX11_table yX11_table ∈ wsL_law := in_wsL_law_r13 _ (List.mem_of_getElem? (i := 22) rfl)
theorem m_311 : Cond.code yX11_table cX11_table 1 (some .int) ∈ wsL_law := in_wsL_law_r13 _ (List.mem_of_getElem? (i := 23) rfl)
theorem m_605 : Cond.methodLink RL 27 yX12_table ∈ wsL_law := in_wsL_law_r26 _ (List.mem_of_getElem? (i := 5) rfl)
theorem m_606 : Cond.instanceMethod yX12_table ∈ wsL_law := in_wsL_law_r26 _ (List.mem_of_getElem? (i := 6) rfl)
theorem m_607 : Cond.selects RX12 yX12_table yX12_table ∈ wsL_law := in_wsL_law_r26 _ (List.mem_of_getElem? (i := 7) rfl)
theorem m_608 : Cond.code yX12_table cX12_table 2 (some .int) ∈ wsL_law := in_wsL_law_r26 _ (List.mem_of_getElem? (i := 8) rfl)
theorem m_754 : Cond.methodLink RL 28 yX11_fault ∈ wsL_law := in_wsL_law_r32 _ (List.mem_of_getElem? (i := 10) rfl)
theorem m_755 : Cond.instanceMethod yX11_fault ∈ wsL_law := in_wsL_law_r32 _ (List.mem_of_getElem? (i := 11) rfl)
theorem m_756 : Cond.selects RX11 yX11_fault yX11_fault ∈ wsL_law := in_wsL_law_r32 _ (List.mem_of_getElem? (i := 12) rfl)
theorem m_757 : Cond.code yX11_fault cX11_fault 2 (some .int) ∈ wsL_law := in_wsL_law_r32 _ (List.mem_of_getElem? (i := 13) rfl)
theorem m_758 : Cond.methodLink RL 31 yX12_fault ∈ wsL_law := in_wsL_law_r32 _ (List.mem_of_getElem? (i := 14) rfl)
theorem m_759 : Cond.instanceMethod yX12_fault ∈ wsL_law := in_wsL_law_r32 _ (List.mem_of_getElem? (i := 15) rfl)
theorem m_760 : Cond.selects RX12 yX12_fault yX12_fault ∈ wsL_law := in_wsL_law_r32 _ (List.mem_of_getElem? (i := 16) rfl)
theorem m_761 : Cond.code yX12_fault cX12_fault 2 (some .int) ∈ wsL_law := in_wsL_law_r32 _ (List.mem_of_getElem? (i := 17) rfl)
theorem m_762 : Cond.methodLink RL 32 yX11_word ∈ wsL_law := in_wsL_law_r32 _ (List.mem_of_getElem? (i := 18) rfl)
theorem m_763 : Cond.instanceMethod yX11_word ∈ wsL_law := in_wsL_law_r32 _ (List.mem_of_getElem? (i := 19) rfl)
theorem m_764 : Cond.selects RX11 yX11_word yX11_word ∈ wsL_law := in_wsL_law_r32 _ (List.mem_of_getElem? (i := 20) rfl)
theorem m_765 : Cond.code yX11_word cX11_word 2 (some .int) ∈ wsL_law := in_wsL_law_r32 _ (List.mem_of_getElem? (i := 21) rfl)
theorem m_767 : Cond.methodLink RL 35 yX12_word ∈ wsL_law := in_wsL_law_r32 _ (List.mem_of_getElem? (i := 23) rfl)
theorem m_768 : Cond.instanceMethod yX12_word ∈ wsL_law := in_wsL_law_r33 _ (List.mem_of_getElem? (i := 0) rfl)
theorem m_769 : Cond.selects RX12 yX12_word yX12_word ∈ wsL_law := in_wsL_law_r33 _ (List.mem_of_getElem? (i := 1) rfl)
theorem m_770 : Cond.code yX12_word cX12_word 2 (some .int) ∈ wsL_law := in_wsL_law_r33 _ (List.mem_of_getElem? (i := 2) rfl)
theorem m_778 : Cond.methodLink RL 36 yX11_slip ∈ wsL_law := in_wsL_law_r33 _ (List.mem_of_getElem? (i := 10) rfl)
theorem m_779 : Cond.instanceMethod yX11_slip ∈ wsL_law := in_wsL_law_r33 _ (List.mem_of_getElem? (i := 11) rfl)
theorem m_780 : Cond.selects RX11 yX11_slip yX11_slip ∈ wsL_law := in_wsL_law_r33 _ (List.mem_of_getElem? (i := 12) rfl)
theorem m_781 : Cond.code yX11_slip cX11_slip 4 (some .int) ∈ wsL_law := in_wsL_law_r33 _ (List.mem_of_getElem? (i := 13) rfl)
theorem m_787 : Cond.methodLink RL 40 yX12_slip ∈ wsL_law := in_wsL_law_r33 _ (List.mem_of_getElem? (i := 19) rfl)
theorem m_788 : Cond.instanceMethod yX12_slip ∈ wsL_law := in_wsL_law_r33 _ (List.mem_of_getElem? (i := 20) rfl)
theorem m_789 : Cond.selects RX12 yX12_slip yX12_slip ∈ wsL_law := in_wsL_law_r33 _ (List.mem_of_getElem? (i := 21) rfl)
theorem m_790 : Cond.code yX12_slip cX12_slip 3 (some .int) ∈ wsL_law := in_wsL_law_r33 _ (List.mem_of_getElem? (i := 22) rfl)
theorem m_803 : Cond.methodLink RL 41 yX11_size ∈ wsL_law := in_wsL_law_r34 _ (List.mem_of_getElem? (i := 11) rfl)
theorem m_804 : Cond.instanceMethod yX11_size ∈ wsL_law := in_wsL_law_r34 _ (List.mem_of_getElem? (i := 12) rfl)
theorem m_805 : Cond.selects RX11 yX11_size yX11_size ∈ wsL_law := in_wsL_law_r34 _ (List.mem_of_getElem? (i := 13) rfl)
theorem m_806 : Cond.code yX11_size cX11_size 3 (some .int) ∈ wsL_law := in_wsL_law_r34 _ (List.mem_of_getElem? (i := 14) rfl)
theorem m_811 : Cond.methodLink RL 44 yX12_size ∈ wsL_law := in_wsL_law_r34 _ (List.mem_of_getElem? (i := 19) rfl)
theorem m_812 : Cond.instanceMethod yX12_size ∈ wsL_law := in_wsL_law_r34 _ (List.mem_of_getElem? (i := 20) rfl)
theorem m_813 : Cond.selects RX12 yX12_size yX12_size ∈ wsL_law := in_wsL_law_r34 _ (List.mem_of_getElem? (i := 21) rfl)
theorem m_814 : Cond.code yX12_size cX12_size 2 (some .int) ∈ wsL_law := in_wsL_law_r34 _ (List.mem_of_getElem? (i := 22) rfl)
theorem m_819 : Cond.methodLink RL 45 yX11_worth ∈ wsL_law := in_wsL_law_r35 _ (List.mem_of_getElem? (i := 3) rfl)
theorem m_820 : Cond.instanceMethod yX11_worth ∈ wsL_law := in_wsL_law_r35 _ (List.mem_of_getElem? (i := 4) rfl)
theorem m_821 : Cond.selects RX11 yX11_worth yX11_worth ∈ wsL_law := in_wsL_law_r35 _ (List.mem_of_getElem? (i := 5) rfl)
theorem m_822 : Cond.code yX11_worth cX11_worth 2 (some .int) ∈ wsL_law := in_wsL_law_r35 _ (List.mem_of_getElem? (i := 6) rfl)
theorem m_828 : Cond.methodLink RL 48 yX12_worth ∈ wsL_law := in_wsL_law_r35 _ (List.mem_of_getElem? (i := 12) rfl)
theorem m_829 : Cond.instanceMethod yX12_worth ∈ wsL_law := in_wsL_law_r35 _ (List.mem_of_getElem? (i := 13) rfl)
theorem m_830 : Cond.selects RX12 yX12_worth yX12_worth ∈ wsL_law := in_wsL_law_r35 _ (List.mem_of_getElem? (i := 14) rfl)
theorem m_831 : Cond.code yX12_worth cX12_worth 2 (some .int) ∈ wsL_law := in_wsL_law_r35 _ (List.mem_of_getElem? (i := 15) rfl)
theorem m_836 : Cond.methodLink RL 49 yX11_beside ∈ wsL_law := in_wsL_law_r35 _ (List.mem_of_getElem? (i := 20) rfl)
theorem m_837 : Cond.instanceMethod yX11_beside ∈ wsL_law := in_wsL_law_r35 _ (List.mem_of_getElem? (i := 21) rfl)
theorem m_838 : Cond.selects RX11 yX11_beside yX11_beside ∈ wsL_law := in_wsL_law_r35 _ (List.mem_of_getElem? (i := 22) rfl)
theorem m_839 : Cond.code yX11_beside cX11_beside 3 (some .int) ∈ wsL_law := in_wsL_law_r35 _ (List.mem_of_getElem? (i := 23) rfl)
theorem m_845 : Cond.methodLink RL 52 yX12_beside ∈ wsL_law := in_wsL_law_r36 _ (List.mem_of_getElem? (i := 5) rfl)
theorem m_846 : Cond.instanceMethod yX12_beside ∈ wsL_law := in_wsL_law_r36 _ (List.mem_of_getElem? (i := 6) rfl)
theorem m_847 : Cond.selects RX12 yX12_beside yX12_beside ∈ wsL_law := in_wsL_law_r36 _ (List.mem_of_getElem? (i := 7) rfl)
theorem m_848 : Cond.code yX12_beside cX12_beside 3 (some .int) ∈ wsL_law := in_wsL_law_r36 _ (List.mem_of_getElem? (i := 8) rfl)
theorem m_854 : Cond.methodLink RL 53 yX11_sense ∈ wsL_law := in_wsL_law_r36 _ (List.mem_of_getElem? (i := 14) rfl)
theorem m_855 : Cond.instanceMethod yX11_sense ∈ wsL_law := in_wsL_law_r36 _ (List.mem_of_getElem? (i := 15) rfl)
theorem m_856 : Cond.selects RX11 yX11_sense yX11_sense ∈ wsL_law := in_wsL_law_r36 _ (List.mem_of_getElem? (i := 16) rfl)
theorem m_857 : Cond.code yX11_sense cX11_sense 3 (some .int) ∈ wsL_law := in_wsL_law_r36 _ (List.mem_of_getElem? (i := 17) rfl)
theorem m_864 : Cond.methodLink RL 56 yX12_sense ∈ wsL_law := in_wsL_law_r37 _ (List.mem_of_getElem? (i := 0) rfl)
theorem m_865 : Cond.instanceMethod yX12_sense ∈ wsL_law := in_wsL_law_r37 _ (List.mem_of_getElem? (i := 1) rfl)
theorem m_866 : Cond.selects RX12 yX12_sense yX12_sense ∈ wsL_law := in_wsL_law_r37 _ (List.mem_of_getElem? (i := 2) rfl)
theorem m_867 : Cond.code yX12_sense cX12_sense 2 (some .int) ∈ wsL_law := in_wsL_law_r37 _ (List.mem_of_getElem? (i := 3) rfl)
theorem m_877 : Cond.methodLink RL 57 yX11_miss ∈ wsL_law := in_wsL_law_r37 _ (List.mem_of_getElem? (i := 13) rfl)
theorem m_878 : Cond.instanceMethod yX11_miss ∈ wsL_law := in_wsL_law_r37 _ (List.mem_of_getElem? (i := 14) rfl)
theorem m_879 : Cond.selects RX11 yX11_miss yX11_miss ∈ wsL_law := in_wsL_law_r37 _ (List.mem_of_getElem? (i := 15) rfl)
theorem m_880 : Cond.code yX11_miss cX11_miss 3 (some .int) ∈ wsL_law := in_wsL_law_r37 _ (List.mem_of_getElem? (i := 16) rfl)
theorem m_918 : Cond.methodLink RL 60 yX12_miss ∈ wsL_law := in_wsL_law_r39 _ (List.mem_of_getElem? (i := 6) rfl)
theorem m_919 : Cond.instanceMethod yX12_miss ∈ wsL_law := in_wsL_law_r39 _ (List.mem_of_getElem? (i := 7) rfl)
theorem m_920 : Cond.selects RX12 yX12_miss yX12_miss ∈ wsL_law := in_wsL_law_r39 _ (List.mem_of_getElem? (i := 8) rfl)
theorem m_921 : Cond.code yX12_miss cX12_miss 2 (some .int) ∈ wsL_law := in_wsL_law_r39 _ (List.mem_of_getElem? (i := 9) rfl)
theorem m_942 : Cond.methodLink RL 61 yX11_missed ∈ wsL_law := in_wsL_law_r40 _ (List.mem_of_getElem? (i := 6) rfl)
theorem m_943 : Cond.instanceMethod yX11_missed ∈ wsL_law := in_wsL_law_r40 _ (List.mem_of_getElem? (i := 7) rfl)
theorem m_944 : Cond.selects RX11 yX11_missed yX11_missed ∈ wsL_law := in_wsL_law_r40 _ (List.mem_of_getElem? (i := 8) rfl)
theorem m_945 : Cond.code yX11_missed cX11_missed 2 (some .int) ∈ wsL_law := in_wsL_law_r40 _ (List.mem_of_getElem? (i := 9) rfl)
theorem m_951 : Cond.methodLink RL 64 yX12_missed ∈ wsL_law := in_wsL_law_r40 _ (List.mem_of_getElem? (i := 15) rfl)
theorem m_952 : Cond.instanceMethod yX12_missed ∈ wsL_law := in_wsL_law_r40 _ (List.mem_of_getElem? (i := 16) rfl)
theorem m_953 : Cond.selects RX12 yX12_missed yX12_missed ∈ wsL_law := in_wsL_law_r40 _ (List.mem_of_getElem? (i := 17) rfl)
theorem m_954 : Cond.code yX12_missed cX12_missed 2 (some .int) ∈ wsL_law := in_wsL_law_r40 _ (List.mem_of_getElem? (i := 18) rfl)
theorem iV_X11_feed : yX11_feed.cls = RX11 ∧ yX11_feed.cls ≠ "java/lang/invoke/MethodHandle" ∧ yX11_feed.cls ≠ "java/lang/invoke/VarHandle" ∧ (parseMethodDescriptor yX11_feed.desc).map (fun d => d.parameters.length) = some 5 := by decide +kernel
theorem iV_X12_feed : yX12_feed.cls = RX12 ∧ yX12_feed.cls ≠ "java/lang/invoke/MethodHandle" ∧ yX12_feed.cls ≠ "java/lang/invoke/VarHandle" ∧ (parseMethodDescriptor yX12_feed.desc).map (fun d => d.parameters.length) = some 5 := by decide +kernel
theorem iV_X11_end : yX11_end.cls = RX11 ∧ yX11_end.cls ≠ "java/lang/invoke/MethodHandle" ∧ yX11_end.cls ≠ "java/lang/invoke/VarHandle" ∧ (parseMethodDescriptor yX11_end.desc).map (fun d => d.parameters.length) = some 1 := by decide +kernel
theorem iV_X12_end : yX12_end.cls = RX12 ∧ yX12_end.cls ≠ "java/lang/invoke/MethodHandle" ∧ yX12_end.cls ≠ "java/lang/invoke/VarHandle" ∧ (parseMethodDescriptor yX12_end.desc).map (fun d => d.parameters.length) = some 1 := by decide +kernel
theorem iV_X11_table : yX11_table.cls = RX11 ∧ yX11_table.cls ≠ "java/lang/invoke/MethodHandle" ∧ yX11_table.cls ≠ "java/lang/invoke/VarHandle" ∧ (parseMethodDescriptor yX11_table.desc).map (fun d => d.parameters.length) = some 0 := by decide +kernel
theorem iV_X12_table : yX12_table.cls = RX12 ∧ yX12_table.cls ≠ "java/lang/invoke/MethodHandle" ∧ yX12_table.cls ≠ "java/lang/invoke/VarHandle" ∧ (parseMethodDescriptor yX12_table.desc).map (fun d => d.parameters.length) = some 0 := by decide +kernel
theorem iV_X11_fault : yX11_fault.cls = RX11 ∧ yX11_fault.cls ≠ "java/lang/invoke/MethodHandle" ∧ yX11_fault.cls ≠ "java/lang/invoke/VarHandle" ∧ (parseMethodDescriptor yX11_fault.desc).map (fun d => d.parameters.length) = some 1 := by decide +kernel
theorem iV_X12_fault : yX12_fault.cls = RX12 ∧ yX12_fault.cls ≠ "java/lang/invoke/MethodHandle" ∧ yX12_fault.cls ≠ "java/lang/invoke/VarHandle" ∧ (parseMethodDescriptor yX12_fault.desc).map (fun d => d.parameters.length) = some 1 := by decide +kernel
theorem iV_X11_word : yX11_word.cls = RX11 ∧ yX11_word.cls ≠ "java/lang/invoke/MethodHandle" ∧ yX11_word.cls ≠ "java/lang/invoke/VarHandle" ∧ (parseMethodDescriptor yX11_word.desc).map (fun d => d.parameters.length) = some 1 := by decide +kernel
theorem iV_X12_word : yX12_word.cls = RX12 ∧ yX12_word.cls ≠ "java/lang/invoke/MethodHandle" ∧ yX12_word.cls ≠ "java/lang/invoke/VarHandle" ∧ (parseMethodDescriptor yX12_word.desc).map (fun d => d.parameters.length) = some 1 := by decide +kernel
theorem iV_X11_slip : yX11_slip.cls = RX11 ∧ yX11_slip.cls ≠ "java/lang/invoke/MethodHandle" ∧ yX11_slip.cls ≠ "java/lang/invoke/VarHandle" ∧ (parseMethodDescriptor yX11_slip.desc).map (fun d => d.parameters.length) = some 2 := by decide +kernel
theorem iV_X12_slip : yX12_slip.cls = RX12 ∧ yX12_slip.cls ≠ "java/lang/invoke/MethodHandle" ∧ yX12_slip.cls ≠ "java/lang/invoke/VarHandle" ∧ (parseMethodDescriptor yX12_slip.desc).map (fun d => d.parameters.length) = some 2 := by decide +kernel
theorem iV_X11_size : yX11_size.cls = RX11 ∧ yX11_size.cls ≠ "java/lang/invoke/MethodHandle" ∧ yX11_size.cls ≠ "java/lang/invoke/VarHandle" ∧ (parseMethodDescriptor yX11_size.desc).map (fun d => d.parameters.length) = some 1 := by decide +kernel
theorem iV_X12_size : yX12_size.cls = RX12 ∧ yX12_size.cls ≠ "java/lang/invoke/MethodHandle" ∧ yX12_size.cls ≠ "java/lang/invoke/VarHandle" ∧ (parseMethodDescriptor yX12_size.desc).map (fun d => d.parameters.length) = some 1 := by decide +kernel
theorem iV_X11_worth : yX11_worth.cls = RX11 ∧ yX11_worth.cls ≠ "java/lang/invoke/MethodHandle" ∧ yX11_worth.cls ≠ "java/lang/invoke/VarHandle" ∧ (parseMethodDescriptor yX11_worth.desc).map (fun d => d.parameters.length) = some 1 := by decide +kernel
theorem iV_X12_worth : yX12_worth.cls = RX12 ∧ yX12_worth.cls ≠ "java/lang/invoke/MethodHandle" ∧ yX12_worth.cls ≠ "java/lang/invoke/VarHandle" ∧ (parseMethodDescriptor yX12_worth.desc).map (fun d => d.parameters.length) = some 1 := by decide +kernel
theorem iV_X11_beside : yX11_beside.cls = RX11 ∧ yX11_beside.cls ≠ "java/lang/invoke/MethodHandle" ∧ yX11_beside.cls ≠ "java/lang/invoke/VarHandle" ∧ (parseMethodDescriptor yX11_beside.desc).map (fun d => d.parameters.length) = some 2 := by decide +kernel
theorem iV_X12_beside : yX12_beside.cls = RX12 ∧ yX12_beside.cls ≠ "java/lang/invoke/MethodHandle" ∧ yX12_beside.cls ≠ "java/lang/invoke/VarHandle" ∧ (parseMethodDescriptor yX12_beside.desc).map (fun d => d.parameters.length) = some 2 := by decide +kernel
theorem iV_X11_sense : yX11_sense.cls = RX11 ∧ yX11_sense.cls ≠ "java/lang/invoke/MethodHandle" ∧ yX11_sense.cls ≠ "java/lang/invoke/VarHandle" ∧ (parseMethodDescriptor yX11_sense.desc).map (fun d => d.parameters.length) = some 1 := by decide +kernel
theorem iV_X12_sense : yX12_sense.cls = RX12 ∧ yX12_sense.cls ≠ "java/lang/invoke/MethodHandle" ∧ yX12_sense.cls ≠ "java/lang/invoke/VarHandle" ∧ (parseMethodDescriptor yX12_sense.desc).map (fun d => d.parameters.length) = some 1 := by decide +kernel
theorem iV_X11_miss : yX11_miss.cls = RX11 ∧ yX11_miss.cls ≠ "java/lang/invoke/MethodHandle" ∧ yX11_miss.cls ≠ "java/lang/invoke/VarHandle" ∧ (parseMethodDescriptor yX11_miss.desc).map (fun d => d.parameters.length) = some 1 := by decide +kernel
theorem iV_X12_miss : yX12_miss.cls = RX12 ∧ yX12_miss.cls ≠ "java/lang/invoke/MethodHandle" ∧ yX12_miss.cls ≠ "java/lang/invoke/VarHandle" ∧ (parseMethodDescriptor yX12_miss.desc).map (fun d => d.parameters.length) = some 1 := by decide +kernel
theorem iV_X11_missed : yX11_missed.cls = RX11 ∧ yX11_missed.cls ≠ "java/lang/invoke/MethodHandle" ∧ yX11_missed.cls ≠ "java/lang/invoke/VarHandle" ∧ (parseMethodDescriptor yX11_missed.desc).map (fun d => d.parameters.length) = some 1 := by decide +kernel
theorem iV_X12_missed : yX12_missed.cls = RX12 ∧ yX12_missed.cls ≠ "java/lang/invoke/MethodHandle" ∧ yX12_missed.cls ≠ "java/lang/invoke/VarHandle" ∧ (parseMethodDescriptor yX12_missed.desc).map (fun d => d.parameters.length) = some 1 := by decide +kernel
theorem g_L_13 : GoodIn wsL_law (wsV RL 13 RX11 yX11_feed (.code yX11_feed cX11_feed 7 (some .int) :: wsL_law)) := gdV m_282 m_283 m_284 m_2 m_285
theorem g_L_17 : GoodIn wsL_law (wsV RL 17 RX12 yX12_feed (.code yX12_feed cX12_feed 8 (some .int) :: wsL_law)) := gdV m_295 m_296 m_297 m_5 m_298
theorem g_L_18 : GoodIn wsL_law (wsV RL 18 RX11 yX11_end (.code yX11_end cX11_end 2 (some .int) :: wsL_law)) := gdV m_300 m_301 m_302 m_2 m_303
theorem g_L_22 : GoodIn wsL_law (wsV RL 22 RX12 yX12_end (.code yX12_end cX12_end 2 (some .int) :: wsL_law)) := gdV m_304 m_305 m_306 m_5 m_307
theorem g_L_23 : GoodIn wsL_law (wsV RL 23 RX11 yX11_table (.code yX11_table cX11_table 1 (some .int) :: wsL_law)) := gdV m_308 m_309 m_310 m_2 m_311
theorem g_L_27 : GoodIn wsL_law (wsV RL 27 RX12 yX12_table (.code yX12_table cX12_table 2 (some .int) :: wsL_law)) := gdV m_605 m_606 m_607 m_5 m_608
theorem g_L_28 : GoodIn wsL_law (wsV RL 28 RX11 yX11_fault (.code yX11_fault cX11_fault 2 (some .int) :: wsL_law)) := gdV m_754 m_755 m_756 m_2 m_757
theorem g_L_31 : GoodIn wsL_law (wsV RL 31 RX12 yX12_fault (.code yX12_fault cX12_fault 2 (some .int) :: wsL_law)) := gdV m_758 m_759 m_760 m_5 m_761
theorem g_L_32 : GoodIn wsL_law (wsV RL 32 RX11 yX11_word (.code yX11_word cX11_word 2 (some .int) :: wsL_law)) := gdV m_762 m_763 m_764 m_2 m_765
theorem g_L_35 : GoodIn wsL_law (wsV RL 35 RX12 yX12_word (.code yX12_word cX12_word 2 (some .int) :: wsL_law)) := gdV m_767 m_768 m_769 m_5 m_770
theorem g_L_36 : GoodIn wsL_law (wsV RL 36 RX11 yX11_slip (.code yX11_slip cX11_slip 4 (some .int) :: wsL_law)) := gdV m_778 m_779 m_780 m_2 m_781
theorem g_L_40 : GoodIn wsL_law (wsV RL 40 RX12 yX12_slip (.code yX12_slip cX12_slip 3 (some .int) :: wsL_law)) := gdV m_787 m_788 m_789 m_5 m_790
theorem g_L_41 : GoodIn wsL_law (wsV RL 41 RX11 yX11_size (.code yX11_size cX11_size 3 (some .int) :: wsL_law)) := gdV m_803 m_804 m_805 m_2 m_806
theorem g_L_44 : GoodIn wsL_law (wsV RL 44 RX12 yX12_size (.code yX12_size cX12_size 2 (some .int) :: wsL_law)) := gdV m_811 m_812 m_813 m_5 m_814
theorem g_L_45 : GoodIn wsL_law (wsV RL 45 RX11 yX11_worth (.code yX11_worth cX11_worth 2 (some .int) :: wsL_law)) := gdV m_819 m_820 m_821 m_2 m_822
theorem g_L_48 : GoodIn wsL_law (wsV RL 48 RX12 yX12_worth (.code yX12_worth cX12_worth 2 (some .int) :: wsL_law)) := gdV m_828 m_829 m_830 m_5 m_831
theorem g_L_49 : GoodIn wsL_law (wsV RL 49 RX11 yX11_beside (.code yX11_beside cX11_beside 3 (some .int) :: wsL_law)) := gdV m_836 m_837 m_838 m_2 m_839
theorem g_L_52 : GoodIn wsL_law (wsV RL 52 RX12 yX12_beside (.code yX12_beside cX12_beside 3 (some .int) :: wsL_law)) := gdV m_845 m_846 m_847 m_5 m_848
theorem g_L_53 : GoodIn wsL_law (wsV RL 53 RX11 yX11_sense (.code yX11_sense cX11_sense 3 (some .int) :: wsL_law)) := gdV m_854 m_855 m_856 m_2 m_857
theorem g_L_56 : GoodIn wsL_law (wsV RL 56 RX12 yX12_sense (.code yX12_sense cX12_sense 2 (some .int) :: wsL_law)) := gdV m_864 m_865 m_866 m_5 m_867
theorem g_L_57 : GoodIn wsL_law (wsV RL 57 RX11 yX11_miss (.code yX11_miss cX11_miss 3 (some .int) :: wsL_law)) := gdV m_877 m_878 m_879 m_2 m_880
theorem g_L_60 : GoodIn wsL_law (wsV RL 60 RX12 yX12_miss (.code yX12_miss cX12_miss 2 (some .int) :: wsL_law)) := gdV m_918 m_919 m_920 m_5 m_921
theorem g_L_61 : GoodIn wsL_law (wsV RL 61 RX11 yX11_missed (.code yX11_missed cX11_missed 2 (some .int) :: wsL_law)) := gdV m_942 m_943 m_944 m_2 m_945
theorem g_L_64 : GoodIn wsL_law (wsV RL 64 RX12 yX12_missed (.code yX12_missed cX12_missed 2 (some .int) :: wsL_law)) := gdV m_951 m_952 m_953 m_5 m_954
theorem dL_law_240 : decode cL_law 240 = .ok (.aload_n 1, 1) := by decide +kernel
theorem dL_law_241 : decode cL_law 241 = .ok (.aload_n 0, 1) := by decide +kernel
theorem dL_law_242 : decode cL_law 242 = .ok (.iload_n 3, 1) := by decide +kernel
theorem dL_law_243 : decode cL_law 243 = .ok (.iconst 1, 1) := by decide +kernel
theorem dL_law_244 : decode cL_law 244 = .ok (.iadd, 1) := by decide +kernel
theorem dL_law_245 : decode cL_law 245 = .ok (.iaload, 1) := by decide +kernel
theorem dL_law_246 : decode cL_law 246 = .ok (.aload_n 0, 1) := by decide +kernel
theorem dL_law_247 : decode cL_law 247 = .ok (.iload_n 3, 1) := by decide +kernel
theorem dL_law_248 : decode cL_law 248 = .ok (.iconst 2, 1) := by decide +kernel
theorem dL_law_249 : decode cL_law 249 = .ok (.iadd, 1) := by decide +kernel
theorem dL_law_250 : decode cL_law 250 = .ok (.iaload, 1) := by decide +kernel
theorem dL_law_251 : decode cL_law 251 = .ok (.aload_n 0, 1) := by decide +kernel
theorem dL_law_252 : decode cL_law 252 = .ok (.iload_n 3, 1) := by decide +kernel
theorem dL_law_253 : decode cL_law 253 = .ok (.iconst 3, 1) := by decide +kernel
theorem dL_law_254 : decode cL_law 254 = .ok (.iadd, 1) := by decide +kernel
theorem dL_law_255 : decode cL_law 255 = .ok (.iaload, 1) := by decide +kernel
theorem dL_law_256 : decode cL_law 256 = .ok (.aload_n 0, 1) := by decide +kernel
theorem dL_law_257 : decode cL_law 257 = .ok (.iload_n 3, 1) := by decide +kernel
theorem dL_law_258 : decode cL_law 258 = .ok (.iconst 4, 1) := by decide +kernel
theorem dL_law_259 : decode cL_law 259 = .ok (.iadd, 1) := by decide +kernel
theorem dL_law_260 : decode cL_law 260 = .ok (.iaload, 1) := by decide +kernel
theorem dL_law_261 : decode cL_law 261 = .ok (.aload_n 0, 1) := by decide +kernel
theorem dL_law_262 : decode cL_law 262 = .ok (.iload_n 3, 1) := by decide +kernel
theorem dL_law_263 : decode cL_law 263 = .ok (.iconst 5, 1) := by decide +kernel
theorem dL_law_264 : decode cL_law 264 = .ok (.iadd, 1) := by decide +kernel
theorem dL_law_265 : decode cL_law 265 = .ok (.iaload, 1) := by decide +kernel
theorem dL_law_266 : decode cL_law 266 = .ok (.invokevirtual 13, 3) := by decide +kernel
theorem dL_law_269 : decode cL_law 269 = .ok (.pop, 1) := by decide +kernel
theorem dL_law_270 : decode cL_law 270 = .ok (.aload_n 2, 1) := by decide +kernel
theorem dL_law_271 : decode cL_law 271 = .ok (.aload_n 0, 1) := by decide +kernel
theorem dL_law_272 : decode cL_law 272 = .ok (.iload_n 3, 1) := by decide +kernel
theorem dL_law_273 : decode cL_law 273 = .ok (.iconst 1, 1) := by decide +kernel
theorem dL_law_274 : decode cL_law 274 = .ok (.iadd, 1) := by decide +kernel
theorem dL_law_275 : decode cL_law 275 = .ok (.iaload, 1) := by decide +kernel
theorem dL_law_276 : decode cL_law 276 = .ok (.aload_n 0, 1) := by decide +kernel
theorem dL_law_277 : decode cL_law 277 = .ok (.iload_n 3, 1) := by decide +kernel
theorem dL_law_278 : decode cL_law 278 = .ok (.iconst 2, 1) := by decide +kernel
theorem dL_law_279 : decode cL_law 279 = .ok (.iadd, 1) := by decide +kernel
theorem dL_law_280 : decode cL_law 280 = .ok (.iaload, 1) := by decide +kernel
theorem dL_law_281 : decode cL_law 281 = .ok (.aload_n 0, 1) := by decide +kernel
theorem dL_law_282 : decode cL_law 282 = .ok (.iload_n 3, 1) := by decide +kernel
theorem dL_law_283 : decode cL_law 283 = .ok (.iconst 3, 1) := by decide +kernel
theorem dL_law_284 : decode cL_law 284 = .ok (.iadd, 1) := by decide +kernel
theorem dL_law_285 : decode cL_law 285 = .ok (.iaload, 1) := by decide +kernel
theorem dL_law_286 : decode cL_law 286 = .ok (.aload_n 0, 1) := by decide +kernel
theorem dL_law_287 : decode cL_law 287 = .ok (.iload_n 3, 1) := by decide +kernel
theorem dL_law_288 : decode cL_law 288 = .ok (.iconst 4, 1) := by decide +kernel
theorem dL_law_289 : decode cL_law 289 = .ok (.iadd, 1) := by decide +kernel
theorem dL_law_290 : decode cL_law 290 = .ok (.iaload, 1) := by decide +kernel
theorem dL_law_291 : decode cL_law 291 = .ok (.aload_n 0, 1) := by decide +kernel
theorem dL_law_292 : decode cL_law 292 = .ok (.iload_n 3, 1) := by decide +kernel
theorem dL_law_293 : decode cL_law 293 = .ok (.iconst 5, 1) := by decide +kernel
theorem dL_law_294 : decode cL_law 294 = .ok (.iadd, 1) := by decide +kernel
theorem dL_law_295 : decode cL_law 295 = .ok (.iaload, 1) := by decide +kernel
theorem dL_law_296 : decode cL_law 296 = .ok (.invokevirtual 17, 3) := by decide +kernel
theorem dL_law_299 : decode cL_law 299 = .ok (.pop, 1) := by decide +kernel
theorem dL_law_300 : decode cL_law 300 = .ok (.goto 1270, 3) := by decide +kernel
theorem dL_law_303 : decode cL_law 303 = .ok (.aload_n 1, 1) := by decide +kernel
theorem dL_law_304 : decode cL_law 304 = .ok (.aload_n 0, 1) := by decide +kernel
theorem dL_law_305 : decode cL_law 305 = .ok (.iload_n 3, 1) := by decide +kernel
theorem dL_law_306 : decode cL_law 306 = .ok (.iconst 1, 1) := by decide +kernel
theorem dL_law_307 : decode cL_law 307 = .ok (.iadd, 1) := by decide +kernel
theorem dL_law_308 : decode cL_law 308 = .ok (.iaload, 1) := by decide +kernel
theorem dL_law_309 : decode cL_law 309 = .ok (.invokevirtual 18, 3) := by decide +kernel
theorem dL_law_312 : decode cL_law 312 = .ok (.pop, 1) := by decide +kernel
theorem dL_law_313 : decode cL_law 313 = .ok (.aload_n 2, 1) := by decide +kernel
theorem dL_law_314 : decode cL_law 314 = .ok (.aload_n 0, 1) := by decide +kernel
theorem dL_law_315 : decode cL_law 315 = .ok (.iload_n 3, 1) := by decide +kernel
theorem dL_law_316 : decode cL_law 316 = .ok (.iconst 1, 1) := by decide +kernel
theorem dL_law_317 : decode cL_law 317 = .ok (.iadd, 1) := by decide +kernel
theorem dL_law_318 : decode cL_law 318 = .ok (.iaload, 1) := by decide +kernel
theorem dL_law_319 : decode cL_law 319 = .ok (.invokevirtual 22, 3) := by decide +kernel
theorem dL_law_322 : decode cL_law 322 = .ok (.pop, 1) := by decide +kernel
theorem dL_law_323 : decode cL_law 323 = .ok (.goto 1247, 3) := by decide +kernel
theorem dL_law_326 : decode cL_law 326 = .ok (.aload_n 1, 1) := by decide +kernel
theorem dL_law_327 : decode cL_law 327 = .ok (.invokevirtual 23, 3) := by decide +kernel
theorem dL_law_330 : decode cL_law 330 = .ok (.pop, 1) := by decide +kernel
theorem dL_law_331 : decode cL_law 331 = .ok (.aload_n 2, 1) := by decide +kernel
theorem dL_law_332 : decode cL_law 332 = .ok (.invokevirtual 27, 3) := by decide +kernel
theorem dL_law_335 : decode cL_law 335 = .ok (.pop, 1) := by decide +kernel
theorem dL_law_336 : decode cL_law 336 = .ok (.goto 1234, 3) := by decide +kernel
theorem dL_law_339 : decode cL_law 339 = .ok (.aload_n 1, 1) := by decide +kernel
theorem dL_law_340 : decode cL_law 340 = .ok (.aload_n 0, 1) := by decide +kernel
theorem dL_law_341 : decode cL_law 341 = .ok (.iload_n 3, 1) := by decide +kernel
theorem dL_law_342 : decode cL_law 342 = .ok (.iconst 1, 1) := by decide +kernel
theorem dL_law_343 : decode cL_law 343 = .ok (.iadd, 1) := by decide +kernel
theorem dL_law_344 : decode cL_law 344 = .ok (.iaload, 1) := by decide +kernel
theorem dL_law_345 : decode cL_law 345 = .ok (.invokevirtual 28, 3) := by decide +kernel
theorem dL_law_348 : decode cL_law 348 = .ok (.pop, 1) := by decide +kernel
theorem dL_law_349 : decode cL_law 349 = .ok (.aload_n 2, 1) := by decide +kernel
theorem dL_law_350 : decode cL_law 350 = .ok (.aload_n 0, 1) := by decide +kernel
theorem dL_law_351 : decode cL_law 351 = .ok (.iload_n 3, 1) := by decide +kernel
theorem dL_law_352 : decode cL_law 352 = .ok (.iconst 1, 1) := by decide +kernel
theorem dL_law_353 : decode cL_law 353 = .ok (.iadd, 1) := by decide +kernel
theorem dL_law_354 : decode cL_law 354 = .ok (.iaload, 1) := by decide +kernel
theorem dL_law_355 : decode cL_law 355 = .ok (.invokevirtual 31, 3) := by decide +kernel
theorem dL_law_358 : decode cL_law 358 = .ok (.pop, 1) := by decide +kernel
theorem dL_law_359 : decode cL_law 359 = .ok (.goto 1211, 3) := by decide +kernel
theorem dL_law_362 : decode cL_law 362 = .ok (.aload_n 1, 1) := by decide +kernel
theorem dL_law_363 : decode cL_law 363 = .ok (.aload_n 0, 1) := by decide +kernel
theorem dL_law_364 : decode cL_law 364 = .ok (.iload_n 3, 1) := by decide +kernel
theorem dL_law_365 : decode cL_law 365 = .ok (.iconst 1, 1) := by decide +kernel
theorem dL_law_366 : decode cL_law 366 = .ok (.iadd, 1) := by decide +kernel
theorem dL_law_367 : decode cL_law 367 = .ok (.iaload, 1) := by decide +kernel
theorem dL_law_368 : decode cL_law 368 = .ok (.invokevirtual 32, 3) := by decide +kernel
theorem dL_law_371 : decode cL_law 371 = .ok (.pop, 1) := by decide +kernel
theorem dL_law_372 : decode cL_law 372 = .ok (.aload_n 2, 1) := by decide +kernel
theorem dL_law_373 : decode cL_law 373 = .ok (.aload_n 0, 1) := by decide +kernel
theorem dL_law_374 : decode cL_law 374 = .ok (.iload_n 3, 1) := by decide +kernel
theorem dL_law_375 : decode cL_law 375 = .ok (.iconst 1, 1) := by decide +kernel
theorem dL_law_376 : decode cL_law 376 = .ok (.iadd, 1) := by decide +kernel
theorem dL_law_377 : decode cL_law 377 = .ok (.iaload, 1) := by decide +kernel
theorem dL_law_378 : decode cL_law 378 = .ok (.invokevirtual 35, 3) := by decide +kernel
theorem dL_law_381 : decode cL_law 381 = .ok (.pop, 1) := by decide +kernel
theorem dL_law_382 : decode cL_law 382 = .ok (.goto 1188, 3) := by decide +kernel
theorem dL_law_385 : decode cL_law 385 = .ok (.aload_n 1, 1) := by decide +kernel
theorem dL_law_386 : decode cL_law 386 = .ok (.aload_n 0, 1) := by decide +kernel
theorem dL_law_387 : decode cL_law 387 = .ok (.iload_n 3, 1) := by decide +kernel
theorem dL_law_388 : decode cL_law 388 = .ok (.iconst 1, 1) := by decide +kernel
theorem dL_law_389 : decode cL_law 389 = .ok (.iadd, 1) := by decide +kernel
theorem dL_law_390 : decode cL_law 390 = .ok (.iaload, 1) := by decide +kernel
theorem dL_law_391 : decode cL_law 391 = .ok (.aload_n 0, 1) := by decide +kernel
theorem dL_law_392 : decode cL_law 392 = .ok (.iload_n 3, 1) := by decide +kernel
theorem dL_law_393 : decode cL_law 393 = .ok (.iconst 2, 1) := by decide +kernel
theorem dL_law_394 : decode cL_law 394 = .ok (.iadd, 1) := by decide +kernel
theorem dL_law_395 : decode cL_law 395 = .ok (.iaload, 1) := by decide +kernel
theorem dL_law_396 : decode cL_law 396 = .ok (.invokevirtual 36, 3) := by decide +kernel
theorem dL_law_399 : decode cL_law 399 = .ok (.pop, 1) := by decide +kernel
theorem dL_law_400 : decode cL_law 400 = .ok (.aload_n 2, 1) := by decide +kernel
theorem dL_law_401 : decode cL_law 401 = .ok (.aload_n 0, 1) := by decide +kernel
theorem dL_law_402 : decode cL_law 402 = .ok (.iload_n 3, 1) := by decide +kernel
theorem dL_law_403 : decode cL_law 403 = .ok (.iconst 1, 1) := by decide +kernel
theorem dL_law_404 : decode cL_law 404 = .ok (.iadd, 1) := by decide +kernel
theorem dL_law_405 : decode cL_law 405 = .ok (.iaload, 1) := by decide +kernel
theorem dL_law_406 : decode cL_law 406 = .ok (.aload_n 0, 1) := by decide +kernel
theorem dL_law_407 : decode cL_law 407 = .ok (.iload_n 3, 1) := by decide +kernel
theorem dL_law_408 : decode cL_law 408 = .ok (.iconst 2, 1) := by decide +kernel
theorem dL_law_409 : decode cL_law 409 = .ok (.iadd, 1) := by decide +kernel
theorem dL_law_410 : decode cL_law 410 = .ok (.iaload, 1) := by decide +kernel
theorem dL_law_411 : decode cL_law 411 = .ok (.invokevirtual 40, 3) := by decide +kernel
theorem dL_law_414 : decode cL_law 414 = .ok (.pop, 1) := by decide +kernel
theorem dL_law_415 : decode cL_law 415 = .ok (.goto 1155, 3) := by decide +kernel
theorem dL_law_418 : decode cL_law 418 = .ok (.aload_n 1, 1) := by decide +kernel
theorem dL_law_419 : decode cL_law 419 = .ok (.aload_n 0, 1) := by decide +kernel
theorem dL_law_420 : decode cL_law 420 = .ok (.iload_n 3, 1) := by decide +kernel
theorem dL_law_421 : decode cL_law 421 = .ok (.iconst 1, 1) := by decide +kernel
theorem dL_law_422 : decode cL_law 422 = .ok (.iadd, 1) := by decide +kernel
theorem dL_law_423 : decode cL_law 423 = .ok (.iaload, 1) := by decide +kernel
theorem dL_law_424 : decode cL_law 424 = .ok (.invokevirtual 41, 3) := by decide +kernel
theorem dL_law_427 : decode cL_law 427 = .ok (.pop, 1) := by decide +kernel
theorem dL_law_428 : decode cL_law 428 = .ok (.aload_n 2, 1) := by decide +kernel
theorem dL_law_429 : decode cL_law 429 = .ok (.aload_n 0, 1) := by decide +kernel
theorem dL_law_430 : decode cL_law 430 = .ok (.iload_n 3, 1) := by decide +kernel
theorem dL_law_431 : decode cL_law 431 = .ok (.iconst 1, 1) := by decide +kernel
theorem dL_law_432 : decode cL_law 432 = .ok (.iadd, 1) := by decide +kernel
theorem dL_law_433 : decode cL_law 433 = .ok (.iaload, 1) := by decide +kernel
theorem dL_law_434 : decode cL_law 434 = .ok (.invokevirtual 44, 3) := by decide +kernel
theorem dL_law_437 : decode cL_law 437 = .ok (.pop, 1) := by decide +kernel
theorem dL_law_438 : decode cL_law 438 = .ok (.goto 1132, 3) := by decide +kernel
theorem dL_law_441 : decode cL_law 441 = .ok (.aload_n 1, 1) := by decide +kernel
theorem dL_law_442 : decode cL_law 442 = .ok (.aload_n 0, 1) := by decide +kernel
theorem dL_law_443 : decode cL_law 443 = .ok (.iload_n 3, 1) := by decide +kernel
theorem dL_law_444 : decode cL_law 444 = .ok (.iconst 1, 1) := by decide +kernel
theorem dL_law_445 : decode cL_law 445 = .ok (.iadd, 1) := by decide +kernel
theorem dL_law_446 : decode cL_law 446 = .ok (.iaload, 1) := by decide +kernel
theorem dL_law_447 : decode cL_law 447 = .ok (.invokevirtual 45, 3) := by decide +kernel
theorem dL_law_450 : decode cL_law 450 = .ok (.pop, 1) := by decide +kernel
theorem dL_law_451 : decode cL_law 451 = .ok (.aload_n 2, 1) := by decide +kernel
theorem dL_law_452 : decode cL_law 452 = .ok (.aload_n 0, 1) := by decide +kernel
theorem dL_law_453 : decode cL_law 453 = .ok (.iload_n 3, 1) := by decide +kernel
theorem dL_law_454 : decode cL_law 454 = .ok (.iconst 1, 1) := by decide +kernel
theorem dL_law_455 : decode cL_law 455 = .ok (.iadd, 1) := by decide +kernel
theorem dL_law_456 : decode cL_law 456 = .ok (.iaload, 1) := by decide +kernel
theorem dL_law_457 : decode cL_law 457 = .ok (.invokevirtual 48, 3) := by decide +kernel
theorem dL_law_460 : decode cL_law 460 = .ok (.pop, 1) := by decide +kernel
theorem dL_law_461 : decode cL_law 461 = .ok (.goto 1109, 3) := by decide +kernel
theorem dL_law_464 : decode cL_law 464 = .ok (.aload_n 1, 1) := by decide +kernel
theorem dL_law_465 : decode cL_law 465 = .ok (.aload_n 0, 1) := by decide +kernel
theorem dL_law_466 : decode cL_law 466 = .ok (.iload_n 3, 1) := by decide +kernel
theorem dL_law_467 : decode cL_law 467 = .ok (.iconst 1, 1) := by decide +kernel
theorem dL_law_468 : decode cL_law 468 = .ok (.iadd, 1) := by decide +kernel
theorem dL_law_469 : decode cL_law 469 = .ok (.iaload, 1) := by decide +kernel
theorem dL_law_470 : decode cL_law 470 = .ok (.aload_n 0, 1) := by decide +kernel
theorem dL_law_471 : decode cL_law 471 = .ok (.iload_n 3, 1) := by decide +kernel
theorem dL_law_472 : decode cL_law 472 = .ok (.iconst 2, 1) := by decide +kernel
theorem dL_law_473 : decode cL_law 473 = .ok (.iadd, 1) := by decide +kernel
theorem dL_law_474 : decode cL_law 474 = .ok (.iaload, 1) := by decide +kernel
theorem dL_law_475 : decode cL_law 475 = .ok (.invokevirtual 49, 3) := by decide +kernel
theorem dL_law_478 : decode cL_law 478 = .ok (.pop, 1) := by decide +kernel
theorem dL_law_479 : decode cL_law 479 = .ok (.aload_n 2, 1) := by decide +kernel
theorem dL_law_480 : decode cL_law 480 = .ok (.aload_n 0, 1) := by decide +kernel
theorem dL_law_481 : decode cL_law 481 = .ok (.iload_n 3, 1) := by decide +kernel
theorem dL_law_482 : decode cL_law 482 = .ok (.iconst 1, 1) := by decide +kernel
theorem dL_law_483 : decode cL_law 483 = .ok (.iadd, 1) := by decide +kernel
theorem dL_law_484 : decode cL_law 484 = .ok (.iaload, 1) := by decide +kernel
theorem dL_law_485 : decode cL_law 485 = .ok (.aload_n 0, 1) := by decide +kernel
theorem dL_law_486 : decode cL_law 486 = .ok (.iload_n 3, 1) := by decide +kernel
theorem dL_law_487 : decode cL_law 487 = .ok (.iconst 2, 1) := by decide +kernel
theorem dL_law_488 : decode cL_law 488 = .ok (.iadd, 1) := by decide +kernel
theorem dL_law_489 : decode cL_law 489 = .ok (.iaload, 1) := by decide +kernel
theorem dL_law_490 : decode cL_law 490 = .ok (.invokevirtual 52, 3) := by decide +kernel
theorem dL_law_493 : decode cL_law 493 = .ok (.pop, 1) := by decide +kernel
theorem dL_law_494 : decode cL_law 494 = .ok (.goto 1076, 3) := by decide +kernel
theorem dL_law_497 : decode cL_law 497 = .ok (.aload_n 1, 1) := by decide +kernel
theorem dL_law_498 : decode cL_law 498 = .ok (.aload_n 0, 1) := by decide +kernel
theorem dL_law_499 : decode cL_law 499 = .ok (.iload_n 3, 1) := by decide +kernel
theorem dL_law_500 : decode cL_law 500 = .ok (.iconst 1, 1) := by decide +kernel
theorem dL_law_501 : decode cL_law 501 = .ok (.iadd, 1) := by decide +kernel
theorem dL_law_502 : decode cL_law 502 = .ok (.iaload, 1) := by decide +kernel
theorem dL_law_503 : decode cL_law 503 = .ok (.invokevirtual 53, 3) := by decide +kernel
theorem dL_law_506 : decode cL_law 506 = .ok (.pop, 1) := by decide +kernel
theorem dL_law_507 : decode cL_law 507 = .ok (.aload_n 2, 1) := by decide +kernel
theorem dL_law_508 : decode cL_law 508 = .ok (.aload_n 0, 1) := by decide +kernel
theorem dL_law_509 : decode cL_law 509 = .ok (.iload_n 3, 1) := by decide +kernel
theorem dL_law_510 : decode cL_law 510 = .ok (.iconst 1, 1) := by decide +kernel
theorem dL_law_511 : decode cL_law 511 = .ok (.iadd, 1) := by decide +kernel
theorem dL_law_512 : decode cL_law 512 = .ok (.iaload, 1) := by decide +kernel
theorem dL_law_513 : decode cL_law 513 = .ok (.invokevirtual 56, 3) := by decide +kernel
theorem dL_law_516 : decode cL_law 516 = .ok (.pop, 1) := by decide +kernel
theorem dL_law_517 : decode cL_law 517 = .ok (.goto 1053, 3) := by decide +kernel
theorem dL_law_520 : decode cL_law 520 = .ok (.aload_n 1, 1) := by decide +kernel
theorem dL_law_521 : decode cL_law 521 = .ok (.aload_n 0, 1) := by decide +kernel
theorem dL_law_522 : decode cL_law 522 = .ok (.iload_n 3, 1) := by decide +kernel
theorem dL_law_523 : decode cL_law 523 = .ok (.iconst 1, 1) := by decide +kernel
theorem dL_law_524 : decode cL_law 524 = .ok (.iadd, 1) := by decide +kernel
theorem dL_law_525 : decode cL_law 525 = .ok (.iaload, 1) := by decide +kernel
theorem dL_law_526 : decode cL_law 526 = .ok (.invokevirtual 57, 3) := by decide +kernel
theorem dL_law_529 : decode cL_law 529 = .ok (.pop, 1) := by decide +kernel
theorem dL_law_530 : decode cL_law 530 = .ok (.aload_n 2, 1) := by decide +kernel
theorem dL_law_531 : decode cL_law 531 = .ok (.aload_n 0, 1) := by decide +kernel
theorem dL_law_532 : decode cL_law 532 = .ok (.iload_n 3, 1) := by decide +kernel
theorem dL_law_533 : decode cL_law 533 = .ok (.iconst 1, 1) := by decide +kernel
theorem dL_law_534 : decode cL_law 534 = .ok (.iadd, 1) := by decide +kernel
theorem dL_law_535 : decode cL_law 535 = .ok (.iaload, 1) := by decide +kernel
theorem dL_law_536 : decode cL_law 536 = .ok (.invokevirtual 60, 3) := by decide +kernel
theorem dL_law_539 : decode cL_law 539 = .ok (.pop, 1) := by decide +kernel
theorem dL_law_540 : decode cL_law 540 = .ok (.goto 1030, 3) := by decide +kernel
theorem dL_law_543 : decode cL_law 543 = .ok (.aload_n 1, 1) := by decide +kernel
theorem dL_law_544 : decode cL_law 544 = .ok (.aload_n 0, 1) := by decide +kernel
theorem dL_law_545 : decode cL_law 545 = .ok (.iload_n 3, 1) := by decide +kernel
theorem dL_law_546 : decode cL_law 546 = .ok (.iconst 1, 1) := by decide +kernel
theorem dL_law_547 : decode cL_law 547 = .ok (.iadd, 1) := by decide +kernel
theorem dL_law_548 : decode cL_law 548 = .ok (.iaload, 1) := by decide +kernel
theorem dL_law_549 : decode cL_law 549 = .ok (.invokevirtual 61, 3) := by decide +kernel
theorem dL_law_552 : decode cL_law 552 = .ok (.pop, 1) := by decide +kernel
theorem dL_law_553 : decode cL_law 553 = .ok (.aload_n 2, 1) := by decide +kernel
theorem dL_law_554 : decode cL_law 554 = .ok (.aload_n 0, 1) := by decide +kernel
theorem dL_law_555 : decode cL_law 555 = .ok (.iload_n 3, 1) := by decide +kernel
theorem dL_law_556 : decode cL_law 556 = .ok (.iconst 1, 1) := by decide +kernel
theorem dL_law_557 : decode cL_law 557 = .ok (.iadd, 1) := by decide +kernel
theorem dL_law_558 : decode cL_law 558 = .ok (.iaload, 1) := by decide +kernel
theorem dL_law_559 : decode cL_law 559 = .ok (.invokevirtual 64, 3) := by decide +kernel
theorem dL_law_562 : decode cL_law 562 = .ok (.pop, 1) := by decide +kernel
theorem dL_law_563 : decode cL_law 563 = .ok (.goto 1007, 3) := by decide +kernel
set_option maxRecDepth 100000 in
set_option maxHeartbeats 4000000 in
theorem law_c0 {p : Program} {l : Launch} {e : Env} {s : State} {m : MethodId} {below : List Frame} {meth : Method} {c : Code} {b L x0 m0 : Nat} {xs : Nat → Int32} {i : Int} {E : (Nat → Prop) → State → Prop} {cy : Nat → ClassId} {D : va_G} (C : gC p s m #[Value.ref b] c code 4 RL) (hXX : fxX E D cy) (hEs : E (fun q : Nat => s.heap.size ≤ q) s) (hX : va_X b L xs s s.heap) (hbl : b < s.heap.size) (hL : L ≤ 3072) (hi : 0 ≤ i) (hi6 : i + 6 ≤ L) (kk : lawG p l e s m below meth c b 1570 [(0, .ref b), (1, .ref x0), (2, .ref m0), (3, zv i)] [] (lP cy D (fun q : Nat => s.heap.size ≤ q) s.heap x0 m0)) : lawG p l e s m below meth c b 240 [(0, .ref b), (1, .ref x0), (2, .ref m0), (3, zv i)] [] (lP cy D (fun q : Nat => s.heap.size ≤ q) s.heap x0 m0) := by
  have hE := hXX.1
  have hA : ∀ q : Nat, s.heap.size ≤ q → (fun q : Nat => s.heap.size ≤ q) q := fun _ h => h
  have hbA : ¬ (fun q : Nat => s.heap.size ≤ q) b := Nat.not_le.mpr hbl
  refine l_ex (fun t => ?_)
  refine gq_aln C 1 dL_law_240 rfl rfl rfl ?_
  refine gq_aln C 0 dL_law_241 rfl rfl rfl ?_
  refine gq_iln C 3 dL_law_242 rfl rfl rfl ?_
  refine gq_ic C dL_law_243 rfl ?_
  refine gq_add C dL_law_244 rfl ?_
  refine l_sld C hX hbl hbA hL (by omega) (by omega) dL_law_245 rfl ?_
  refine gq_aln C 0 dL_law_246 rfl rfl rfl ?_
  refine gq_iln C 3 dL_law_247 rfl rfl rfl ?_
  refine gq_ic C dL_law_248 rfl ?_
  refine gq_add C dL_law_249 rfl ?_
  refine l_sld C hX hbl hbA hL (by omega) (by omega) dL_law_250 rfl ?_
  refine gq_aln C 0 dL_law_251 rfl rfl rfl ?_
  refine gq_iln C 3 dL_law_252 rfl rfl rfl ?_
  refine gq_ic C dL_law_253 rfl ?_
  refine gq_add C dL_law_254 rfl ?_
  refine l_sld C hX hbl hbA hL (by omega) (by omega) dL_law_255 rfl ?_
  refine gq_aln C 0 dL_law_256 rfl rfl rfl ?_
  refine gq_iln C 3 dL_law_257 rfl rfl rfl ?_
  refine gq_ic C dL_law_258 rfl ?_
  refine gq_add C dL_law_259 rfl ?_
  refine l_sld C hX hbl hbA hL (by omega) (by omega) dL_law_260 rfl ?_
  refine gq_aln C 0 dL_law_261 rfl rfl rfl ?_
  refine gq_iln C 3 dL_law_262 rfl rfl rfl ?_
  refine gq_ic C dL_law_263 rfl ?_
  refine gq_add C dL_law_264 rfl ?_
  refine l_sld C hX hbl hbA hL (by omega) (by omega) dL_law_265 rfl ?_
  refine l_x (ts := [.inl (-2147483648, 2147483647), .inl (-2147483648, 2147483647), .inl (-2147483648, 2147483647), .inl (-2147483648, 2147483647), .inl (-2147483648, 2147483647)]) (As := [zv (xs (Int.toNat (i + 1))).toInt, zv (xs (Int.toNat (i + 2))).toInt, zv (xs (Int.toNat (i + 3))).toInt, zv (xs (Int.toNat (i + 4))).toInt, zv (xs (Int.toNat (i + 5))).toInt]) (rest := []) C hE hEs rfl hA (fun gx ax => kx2 hXX) rfl ⟨by decide, by decide⟩ rfl (fun gs ad => ⟨ok_top _, ok_top _, ok_top _, ok_top _, ok_top _, trivial⟩) (ret_ok rfl) ⟨Nat.le_of_ble_eq_true rfl, Nat.le_of_ble_eq_true rfl⟩ ⟨Nat.le_of_ble_eq_true rfl, Nat.le_of_ble_eq_true rfl⟩ iV_X11_feed g_L_13 dL_law_266 rfl rfl (Nat.le_of_ble_eq_true rfl) rfl (fun z266 => ?_)
  refine gq_pop C dL_law_269 rfl rfl ?_
  refine gq_aln C 2 dL_law_270 rfl rfl rfl ?_
  refine gq_aln C 0 dL_law_271 rfl rfl rfl ?_
  refine gq_iln C 3 dL_law_272 rfl rfl rfl ?_
  refine gq_ic C dL_law_273 rfl ?_
  refine gq_add C dL_law_274 rfl ?_
  refine l_sld C hX hbl hbA hL (by omega) (by omega) dL_law_275 rfl ?_
  refine gq_aln C 0 dL_law_276 rfl rfl rfl ?_
  refine gq_iln C 3 dL_law_277 rfl rfl rfl ?_
  refine gq_ic C dL_law_278 rfl ?_
  refine gq_add C dL_law_279 rfl ?_
  refine l_sld C hX hbl hbA hL (by omega) (by omega) dL_law_280 rfl ?_
  refine gq_aln C 0 dL_law_281 rfl rfl rfl ?_
  refine gq_iln C 3 dL_law_282 rfl rfl rfl ?_
  refine gq_ic C dL_law_283 rfl ?_
  refine gq_add C dL_law_284 rfl ?_
  refine l_sld C hX hbl hbA hL (by omega) (by omega) dL_law_285 rfl ?_
  refine gq_aln C 0 dL_law_286 rfl rfl rfl ?_
  refine gq_iln C 3 dL_law_287 rfl rfl rfl ?_
  refine gq_ic C dL_law_288 rfl ?_
  refine gq_add C dL_law_289 rfl ?_
  refine l_sld C hX hbl hbA hL (by omega) (by omega) dL_law_290 rfl ?_
  refine gq_aln C 0 dL_law_291 rfl rfl rfl ?_
  refine gq_iln C 3 dL_law_292 rfl rfl rfl ?_
  refine gq_ic C dL_law_293 rfl ?_
  refine gq_add C dL_law_294 rfl ?_
  refine l_sld C hX hbl hbA hL (by omega) (by omega) dL_law_295 rfl ?_
  refine l_m (As := [zv (xs (Int.toNat (i + 1))).toInt, zv (xs (Int.toNat (i + 2))).toInt, zv (xs (Int.toNat (i + 3))).toInt, zv (xs (Int.toNat (i + 4))).toInt, zv (xs (Int.toNat (i + 5))).toInt]) (rest := []) C hE hEs rfl hA (mc_fx (fun am => km0 hE) rfl (by decide +kernel) ⟨by decide, by decide, by decide⟩ (fun am ha => (show fx_ty _ am [.inr (.inr 1), .inl (-2147483648, 2147483647), .inl (-2147483648, 2147483647), .inl (-2147483648, 2147483647), .inl (-2147483648, 2147483647), .inl (-2147483648, 2147483647)] [.ref m0, zv (xs (Int.toNat (i + 1))).toInt, zv (xs (Int.toNat (i + 2))).toInt, zv (xs (Int.toNat (i + 3))).toInt, zv (xs (Int.toNat (i + 4))).toInt, zv (xs (Int.toNat (i + 5))).toInt] from oks_ok ⟨rt_ok ⟨0, ha, rfl⟩ (by decide), ok_top _, ok_top _, ok_top _, ok_top _, ok_top _, trivial⟩)) (ret_ok rfl)) ⟨Nat.le_of_ble_eq_true rfl, Nat.le_of_ble_eq_true rfl⟩ ⟨Nat.le_of_ble_eq_true rfl, Nat.le_of_ble_eq_true rfl⟩ iV_X12_feed g_L_17 dL_law_296 rfl rfl (Nat.le_of_ble_eq_true rfl) rfl (fun z296 => ?_)
  refine gq_pop C dL_law_299 rfl rfl ?_
  refine gq_goto C 1570 dL_law_300 (by decide) ?_
  exact l_in kk
set_option maxRecDepth 100000 in
set_option maxHeartbeats 4000000 in
theorem law_c1 {p : Program} {l : Launch} {e : Env} {s : State} {m : MethodId} {below : List Frame} {meth : Method} {c : Code} {b L x0 m0 : Nat} {xs : Nat → Int32} {i : Int} {E : (Nat → Prop) → State → Prop} {cy : Nat → ClassId} {D : va_G} (C : gC p s m #[Value.ref b] c code 4 RL) (hXX : fxX E D cy) (hEs : E (fun q : Nat => s.heap.size ≤ q) s) (hX : va_X b L xs s s.heap) (hbl : b < s.heap.size) (hL : L ≤ 3072) (hi : 0 ≤ i) (hi6 : i + 6 ≤ L) (kk : lawG p l e s m below meth c b 1570 [(0, .ref b), (1, .ref x0), (2, .ref m0), (3, zv i)] [] (lP cy D (fun q : Nat => s.heap.size ≤ q) s.heap x0 m0)) : lawG p l e s m below meth c b 303 [(0, .ref b), (1, .ref x0), (2, .ref m0), (3, zv i)] [] (lP cy D (fun q : Nat => s.heap.size ≤ q) s.heap x0 m0) := by
  have hE := hXX.1
  have hA : ∀ q : Nat, s.heap.size ≤ q → (fun q : Nat => s.heap.size ≤ q) q := fun _ h => h
  have hbA : ¬ (fun q : Nat => s.heap.size ≤ q) b := Nat.not_le.mpr hbl
  refine l_ex (fun t => ?_)
  refine gq_aln C 1 dL_law_303 rfl rfl rfl ?_
  refine gq_aln C 0 dL_law_304 rfl rfl rfl ?_
  refine gq_iln C 3 dL_law_305 rfl rfl rfl ?_
  refine gq_ic C dL_law_306 rfl ?_
  refine gq_add C dL_law_307 rfl ?_
  refine l_sld C hX hbl hbA hL (by omega) (by omega) dL_law_308 rfl ?_
  refine l_x (ts := [.inl (-2147483648, 2147483647)]) (As := [zv (xs (Int.toNat (i + 1))).toInt]) (rest := []) C hE hEs rfl hA (fun gx ax => kx3 hXX) rfl ⟨by decide, by decide⟩ rfl (fun gs ad => ⟨ok_top _, trivial⟩) (ret_ok rfl) ⟨Nat.le_of_ble_eq_true rfl, Nat.le_of_ble_eq_true rfl⟩ ⟨Nat.le_of_ble_eq_true rfl, Nat.le_of_ble_eq_true rfl⟩ iV_X11_end g_L_18 dL_law_309 rfl rfl (Nat.le_of_ble_eq_true rfl) rfl (fun z309 => ?_)
  refine gq_pop C dL_law_312 rfl rfl ?_
  refine gq_aln C 2 dL_law_313 rfl rfl rfl ?_
  refine gq_aln C 0 dL_law_314 rfl rfl rfl ?_
  refine gq_iln C 3 dL_law_315 rfl rfl rfl ?_
  refine gq_ic C dL_law_316 rfl ?_
  refine gq_add C dL_law_317 rfl ?_
  refine l_sld C hX hbl hbA hL (by omega) (by omega) dL_law_318 rfl ?_
  refine l_m (As := [zv (xs (Int.toNat (i + 1))).toInt]) (rest := []) C hE hEs rfl hA (mc_fx (fun am => km1 hE) rfl (by decide +kernel) ⟨by decide, by decide, by decide⟩ (fun am ha => (show fx_ty _ am [.inr (.inr 1), .inl (-2147483648, 2147483647)] [.ref m0, zv (xs (Int.toNat (i + 1))).toInt] from oks_ok ⟨rt_ok ⟨0, ha, rfl⟩ (by decide), ok_top _, trivial⟩)) (ret_ok rfl)) ⟨Nat.le_of_ble_eq_true rfl, Nat.le_of_ble_eq_true rfl⟩ ⟨Nat.le_of_ble_eq_true rfl, Nat.le_of_ble_eq_true rfl⟩ iV_X12_end g_L_22 dL_law_319 rfl rfl (Nat.le_of_ble_eq_true rfl) rfl (fun z319 => ?_)
  refine gq_pop C dL_law_322 rfl rfl ?_
  refine gq_goto C 1570 dL_law_323 (by decide) ?_
  exact l_in kk
set_option maxRecDepth 100000 in
set_option maxHeartbeats 4000000 in
theorem law_c2 {p : Program} {l : Launch} {e : Env} {s : State} {m : MethodId} {below : List Frame} {meth : Method} {c : Code} {b L x0 m0 : Nat} {xs : Nat → Int32} {i : Int} {E : (Nat → Prop) → State → Prop} {cy : Nat → ClassId} {D : va_G} (C : gC p s m #[Value.ref b] c code 4 RL) (hXX : fxX E D cy) (hEs : E (fun q : Nat => s.heap.size ≤ q) s) (hX : va_X b L xs s s.heap) (hbl : b < s.heap.size) (hL : L ≤ 3072) (hi : 0 ≤ i) (hi6 : i + 6 ≤ L) (kk : lawG p l e s m below meth c b 1570 [(0, .ref b), (1, .ref x0), (2, .ref m0), (3, zv i)] [] (lP cy D (fun q : Nat => s.heap.size ≤ q) s.heap x0 m0)) : lawG p l e s m below meth c b 326 [(0, .ref b), (1, .ref x0), (2, .ref m0), (3, zv i)] [] (lP cy D (fun q : Nat => s.heap.size ≤ q) s.heap x0 m0) := by
  have hE := hXX.1
  have hA : ∀ q : Nat, s.heap.size ≤ q → (fun q : Nat => s.heap.size ≤ q) q := fun _ h => h
  have hbA : ¬ (fun q : Nat => s.heap.size ≤ q) b := Nat.not_le.mpr hbl
  refine l_ex (fun t => ?_)
  refine gq_aln C 1 dL_law_326 rfl rfl rfl ?_
  refine l_x (ts := []) (As := []) (rest := []) C hE hEs rfl hA (fun gx ax => kx121 hXX) rfl ⟨by decide, by decide⟩ rfl (fun gs ad => trivial) (ret_ok rfl) ⟨Nat.le_of_ble_eq_true rfl, Nat.le_of_ble_eq_true rfl⟩ ⟨Nat.le_of_ble_eq_true rfl, Nat.le_of_ble_eq_true rfl⟩ iV_X11_table g_L_23 dL_law_327 rfl rfl (Nat.le_of_ble_eq_true rfl) rfl (fun z327 => ?_)
  refine gq_pop C dL_law_330 rfl rfl ?_
  refine gq_aln C 2 dL_law_331 rfl rfl rfl ?_
  refine l_m (As := []) (rest := []) C hE hEs rfl hA (mc_h (fun am ha => h_table hE m0 ha) (fun wm hJ => ⟨rfl, hJ⟩) (fun am wm wm1 rv ha hw hw1 hJ hp => by obtain ⟨sm, ⟨z, rfl, -, -⟩, hJ1⟩ := hp; exact ⟨hJ1, sm_f hw hw1 sm (by decide), z, rfl⟩)) ⟨Nat.le_of_ble_eq_true rfl, Nat.le_of_ble_eq_true rfl⟩ ⟨Nat.le_of_ble_eq_true rfl, Nat.le_of_ble_eq_true rfl⟩ iV_X12_table g_L_27 dL_law_332 rfl rfl (Nat.le_of_ble_eq_true rfl) rfl (fun z332 => ?_)
  refine gq_pop C dL_law_335 rfl rfl ?_
  refine gq_goto C 1570 dL_law_336 (by decide) ?_
  exact l_in kk
set_option maxRecDepth 100000 in
set_option maxHeartbeats 4000000 in
theorem law_c3 {p : Program} {l : Launch} {e : Env} {s : State} {m : MethodId} {below : List Frame} {meth : Method} {c : Code} {b L x0 m0 : Nat} {xs : Nat → Int32} {i : Int} {E : (Nat → Prop) → State → Prop} {cy : Nat → ClassId} {D : va_G} (C : gC p s m #[Value.ref b] c code 4 RL) (hXX : fxX E D cy) (hEs : E (fun q : Nat => s.heap.size ≤ q) s) (hX : va_X b L xs s s.heap) (hbl : b < s.heap.size) (hL : L ≤ 3072) (hi : 0 ≤ i) (hi6 : i + 6 ≤ L) (kk : lawG p l e s m below meth c b 1570 [(0, .ref b), (1, .ref x0), (2, .ref m0), (3, zv i)] [] (lP cy D (fun q : Nat => s.heap.size ≤ q) s.heap x0 m0)) : lawG p l e s m below meth c b 339 [(0, .ref b), (1, .ref x0), (2, .ref m0), (3, zv i)] [] (lP cy D (fun q : Nat => s.heap.size ≤ q) s.heap x0 m0) := by
  have hE := hXX.1
  have hA : ∀ q : Nat, s.heap.size ≤ q → (fun q : Nat => s.heap.size ≤ q) q := fun _ h => h
  have hbA : ¬ (fun q : Nat => s.heap.size ≤ q) b := Nat.not_le.mpr hbl
  refine l_ex (fun t => ?_)
  refine gq_aln C 1 dL_law_339 rfl rfl rfl ?_
  refine gq_aln C 0 dL_law_340 rfl rfl rfl ?_
  refine gq_iln C 3 dL_law_341 rfl rfl rfl ?_
  refine gq_ic C dL_law_342 rfl ?_
  refine gq_add C dL_law_343 rfl ?_
  refine l_sld C hX hbl hbA hL (by omega) (by omega) dL_law_344 rfl ?_
  refine l_x (ts := [.inl (-2147483648, 2147483647)]) (As := [zv (xs (Int.toNat (i + 1))).toInt]) (rest := []) C hE hEs rfl hA (fun gx ax => kx122 hXX) rfl ⟨by decide, by decide⟩ rfl (fun gs ad => ⟨ok_top _, trivial⟩) (ret_ok rfl) ⟨Nat.le_of_ble_eq_true rfl, Nat.le_of_ble_eq_true rfl⟩ ⟨Nat.le_of_ble_eq_true rfl, Nat.le_of_ble_eq_true rfl⟩ iV_X11_fault g_L_28 dL_law_345 rfl rfl (Nat.le_of_ble_eq_true rfl) rfl (fun z345 => ?_)
  refine gq_pop C dL_law_348 rfl rfl ?_
  refine gq_aln C 2 dL_law_349 rfl rfl rfl ?_
  refine gq_aln C 0 dL_law_350 rfl rfl rfl ?_
  refine gq_iln C 3 dL_law_351 rfl rfl rfl ?_
  refine gq_ic C dL_law_352 rfl ?_
  refine gq_add C dL_law_353 rfl ?_
  refine l_sld C hX hbl hbA hL (by omega) (by omega) dL_law_354 rfl ?_
  refine l_m (As := [zv (xs (Int.toNat (i + 1))).toInt]) (rest := []) C hE hEs rfl hA (mc_fx (fun am => km2 hE) rfl (by decide +kernel) ⟨by decide, by decide, by decide⟩ (fun am ha => (show fx_ty _ am [.inr (.inr 1), .inl (-2147483648, 2147483647)] [.ref m0, zv (xs (Int.toNat (i + 1))).toInt] from oks_ok ⟨rt_ok ⟨0, ha, rfl⟩ (by decide), ok_top _, trivial⟩)) (ret_ok rfl)) ⟨Nat.le_of_ble_eq_true rfl, Nat.le_of_ble_eq_true rfl⟩ ⟨Nat.le_of_ble_eq_true rfl, Nat.le_of_ble_eq_true rfl⟩ iV_X12_fault g_L_31 dL_law_355 rfl rfl (Nat.le_of_ble_eq_true rfl) rfl (fun z355 => ?_)
  refine gq_pop C dL_law_358 rfl rfl ?_
  refine gq_goto C 1570 dL_law_359 (by decide) ?_
  exact l_in kk
set_option maxRecDepth 100000 in
set_option maxHeartbeats 4000000 in
theorem law_c4 {p : Program} {l : Launch} {e : Env} {s : State} {m : MethodId} {below : List Frame} {meth : Method} {c : Code} {b L x0 m0 : Nat} {xs : Nat → Int32} {i : Int} {E : (Nat → Prop) → State → Prop} {cy : Nat → ClassId} {D : va_G} (C : gC p s m #[Value.ref b] c code 4 RL) (hXX : fxX E D cy) (hEs : E (fun q : Nat => s.heap.size ≤ q) s) (hX : va_X b L xs s s.heap) (hbl : b < s.heap.size) (hL : L ≤ 3072) (hi : 0 ≤ i) (hi6 : i + 6 ≤ L) (kk : lawG p l e s m below meth c b 1570 [(0, .ref b), (1, .ref x0), (2, .ref m0), (3, zv i)] [] (lP cy D (fun q : Nat => s.heap.size ≤ q) s.heap x0 m0)) : lawG p l e s m below meth c b 362 [(0, .ref b), (1, .ref x0), (2, .ref m0), (3, zv i)] [] (lP cy D (fun q : Nat => s.heap.size ≤ q) s.heap x0 m0) := by
  have hE := hXX.1
  have hA : ∀ q : Nat, s.heap.size ≤ q → (fun q : Nat => s.heap.size ≤ q) q := fun _ h => h
  have hbA : ¬ (fun q : Nat => s.heap.size ≤ q) b := Nat.not_le.mpr hbl
  refine l_ex (fun t => ?_)
  refine gq_aln C 1 dL_law_362 rfl rfl rfl ?_
  refine gq_aln C 0 dL_law_363 rfl rfl rfl ?_
  refine gq_iln C 3 dL_law_364 rfl rfl rfl ?_
  refine gq_ic C dL_law_365 rfl ?_
  refine gq_add C dL_law_366 rfl ?_
  refine l_sld C hX hbl hbA hL (by omega) (by omega) dL_law_367 rfl ?_
  refine l_x (ts := [.inl (-2147483648, 2147483647)]) (As := [zv (xs (Int.toNat (i + 1))).toInt]) (rest := []) C hE hEs rfl hA (fun gx ax => kx123 hXX) rfl ⟨by decide, by decide⟩ rfl (fun gs ad => ⟨ok_top _, trivial⟩) (ret_ok rfl) ⟨Nat.le_of_ble_eq_true rfl, Nat.le_of_ble_eq_true rfl⟩ ⟨Nat.le_of_ble_eq_true rfl, Nat.le_of_ble_eq_true rfl⟩ iV_X11_word g_L_32 dL_law_368 rfl rfl (Nat.le_of_ble_eq_true rfl) rfl (fun z368 => ?_)
  refine gq_pop C dL_law_371 rfl rfl ?_
  refine gq_aln C 2 dL_law_372 rfl rfl rfl ?_
  refine gq_aln C 0 dL_law_373 rfl rfl rfl ?_
  refine gq_iln C 3 dL_law_374 rfl rfl rfl ?_
  refine gq_ic C dL_law_375 rfl ?_
  refine gq_add C dL_law_376 rfl ?_
  refine l_sld C hX hbl hbA hL (by omega) (by omega) dL_law_377 rfl ?_
  refine l_m (As := [zv (xs (Int.toNat (i + 1))).toInt]) (rest := []) C hE hEs rfl hA (mc_fx (fun am => km5 hE) rfl (by decide +kernel) ⟨by decide, by decide, by decide⟩ (fun am ha => (show fx_ty _ am [.inr (.inr 1), .inl (-2147483648, 2147483647)] [.ref m0, zv (xs (Int.toNat (i + 1))).toInt] from oks_ok ⟨rt_ok ⟨0, ha, rfl⟩ (by decide), ok_top _, trivial⟩)) (ret_ok rfl)) ⟨Nat.le_of_ble_eq_true rfl, Nat.le_of_ble_eq_true rfl⟩ ⟨Nat.le_of_ble_eq_true rfl, Nat.le_of_ble_eq_true rfl⟩ iV_X12_word g_L_35 dL_law_378 rfl rfl (Nat.le_of_ble_eq_true rfl) rfl (fun z378 => ?_)
  refine gq_pop C dL_law_381 rfl rfl ?_
  refine gq_goto C 1570 dL_law_382 (by decide) ?_
  exact l_in kk
set_option maxRecDepth 100000 in
set_option maxHeartbeats 4000000 in
theorem law_c5 {p : Program} {l : Launch} {e : Env} {s : State} {m : MethodId} {below : List Frame} {meth : Method} {c : Code} {b L x0 m0 : Nat} {xs : Nat → Int32} {i : Int} {E : (Nat → Prop) → State → Prop} {cy : Nat → ClassId} {D : va_G} (C : gC p s m #[Value.ref b] c code 4 RL) (hXX : fxX E D cy) (hEs : E (fun q : Nat => s.heap.size ≤ q) s) (hX : va_X b L xs s s.heap) (hbl : b < s.heap.size) (hL : L ≤ 3072) (hi : 0 ≤ i) (hi6 : i + 6 ≤ L) (kk : lawG p l e s m below meth c b 1570 [(0, .ref b), (1, .ref x0), (2, .ref m0), (3, zv i)] [] (lP cy D (fun q : Nat => s.heap.size ≤ q) s.heap x0 m0)) : lawG p l e s m below meth c b 385 [(0, .ref b), (1, .ref x0), (2, .ref m0), (3, zv i)] [] (lP cy D (fun q : Nat => s.heap.size ≤ q) s.heap x0 m0) := by
  have hE := hXX.1
  have hA : ∀ q : Nat, s.heap.size ≤ q → (fun q : Nat => s.heap.size ≤ q) q := fun _ h => h
  have hbA : ¬ (fun q : Nat => s.heap.size ≤ q) b := Nat.not_le.mpr hbl
  refine l_ex (fun t => ?_)
  refine gq_aln C 1 dL_law_385 rfl rfl rfl ?_
  refine gq_aln C 0 dL_law_386 rfl rfl rfl ?_
  refine gq_iln C 3 dL_law_387 rfl rfl rfl ?_
  refine gq_ic C dL_law_388 rfl ?_
  refine gq_add C dL_law_389 rfl ?_
  refine l_sld C hX hbl hbA hL (by omega) (by omega) dL_law_390 rfl ?_
  refine gq_aln C 0 dL_law_391 rfl rfl rfl ?_
  refine gq_iln C 3 dL_law_392 rfl rfl rfl ?_
  refine gq_ic C dL_law_393 rfl ?_
  refine gq_add C dL_law_394 rfl ?_
  refine l_sld C hX hbl hbA hL (by omega) (by omega) dL_law_395 rfl ?_
  refine l_x (ts := [.inl (-2147483648, 2147483647), .inl (-2147483648, 2147483647)]) (As := [zv (xs (Int.toNat (i + 1))).toInt, zv (xs (Int.toNat (i + 2))).toInt]) (rest := []) C hE hEs rfl hA (fun gx ax => kx125 hXX) rfl ⟨by decide, by decide⟩ rfl (fun gs ad => ⟨ok_top _, ok_top _, trivial⟩) (ret_ok rfl) ⟨Nat.le_of_ble_eq_true rfl, Nat.le_of_ble_eq_true rfl⟩ ⟨Nat.le_of_ble_eq_true rfl, Nat.le_of_ble_eq_true rfl⟩ iV_X11_slip g_L_36 dL_law_396 rfl rfl (Nat.le_of_ble_eq_true rfl) rfl (fun z396 => ?_)
  refine gq_pop C dL_law_399 rfl rfl ?_
  refine gq_aln C 2 dL_law_400 rfl rfl rfl ?_
  refine gq_aln C 0 dL_law_401 rfl rfl rfl ?_
  refine gq_iln C 3 dL_law_402 rfl rfl rfl ?_
  refine gq_ic C dL_law_403 rfl ?_
  refine gq_add C dL_law_404 rfl ?_
  refine l_sld C hX hbl hbA hL (by omega) (by omega) dL_law_405 rfl ?_
  refine gq_aln C 0 dL_law_406 rfl rfl rfl ?_
  refine gq_iln C 3 dL_law_407 rfl rfl rfl ?_
  refine gq_ic C dL_law_408 rfl ?_
  refine gq_add C dL_law_409 rfl ?_
  refine l_sld C hX hbl hbA hL (by omega) (by omega) dL_law_410 rfl ?_
  refine l_m (As := [zv (xs (Int.toNat (i + 1))).toInt, zv (xs (Int.toNat (i + 2))).toInt]) (rest := []) C hE hEs rfl hA (mc_fx (fun am => km11 hE) rfl (by decide +kernel) ⟨by decide, by decide, by decide⟩ (fun am ha => (show fx_ty _ am [.inr (.inr 1), .inl (-2147483648, 2147483647), .inl (-2147483648, 2147483647)] [.ref m0, zv (xs (Int.toNat (i + 1))).toInt, zv (xs (Int.toNat (i + 2))).toInt] from oks_ok ⟨rt_ok ⟨0, ha, rfl⟩ (by decide), ok_top _, ok_top _, trivial⟩)) (ret_ok rfl)) ⟨Nat.le_of_ble_eq_true rfl, Nat.le_of_ble_eq_true rfl⟩ ⟨Nat.le_of_ble_eq_true rfl, Nat.le_of_ble_eq_true rfl⟩ iV_X12_slip g_L_40 dL_law_411 rfl rfl (Nat.le_of_ble_eq_true rfl) rfl (fun z411 => ?_)
  refine gq_pop C dL_law_414 rfl rfl ?_
  refine gq_goto C 1570 dL_law_415 (by decide) ?_
  exact l_in kk
set_option maxRecDepth 100000 in
set_option maxHeartbeats 4000000 in
theorem law_c6 {p : Program} {l : Launch} {e : Env} {s : State} {m : MethodId} {below : List Frame} {meth : Method} {c : Code} {b L x0 m0 : Nat} {xs : Nat → Int32} {i : Int} {E : (Nat → Prop) → State → Prop} {cy : Nat → ClassId} {D : va_G} (C : gC p s m #[Value.ref b] c code 4 RL) (hXX : fxX E D cy) (hEs : E (fun q : Nat => s.heap.size ≤ q) s) (hX : va_X b L xs s s.heap) (hbl : b < s.heap.size) (hL : L ≤ 3072) (hi : 0 ≤ i) (hi6 : i + 6 ≤ L) (kk : lawG p l e s m below meth c b 1570 [(0, .ref b), (1, .ref x0), (2, .ref m0), (3, zv i)] [] (lP cy D (fun q : Nat => s.heap.size ≤ q) s.heap x0 m0)) : lawG p l e s m below meth c b 418 [(0, .ref b), (1, .ref x0), (2, .ref m0), (3, zv i)] [] (lP cy D (fun q : Nat => s.heap.size ≤ q) s.heap x0 m0) := by
  have hE := hXX.1
  have hA : ∀ q : Nat, s.heap.size ≤ q → (fun q : Nat => s.heap.size ≤ q) q := fun _ h => h
  have hbA : ¬ (fun q : Nat => s.heap.size ≤ q) b := Nat.not_le.mpr hbl
  refine l_ex (fun t => ?_)
  refine gq_aln C 1 dL_law_418 rfl rfl rfl ?_
  refine gq_aln C 0 dL_law_419 rfl rfl rfl ?_
  refine gq_iln C 3 dL_law_420 rfl rfl rfl ?_
  refine gq_ic C dL_law_421 rfl ?_
  refine gq_add C dL_law_422 rfl ?_
  refine l_sld C hX hbl hbA hL (by omega) (by omega) dL_law_423 rfl ?_
  refine l_x (ts := [.inl (-2147483648, 2147483647)]) (As := [zv (xs (Int.toNat (i + 1))).toInt]) (rest := []) C hE hEs rfl hA (fun gx ax => kx127 hXX) rfl ⟨by decide, by decide⟩ rfl (fun gs ad => ⟨ok_top _, trivial⟩) (ret_ok rfl) ⟨Nat.le_of_ble_eq_true rfl, Nat.le_of_ble_eq_true rfl⟩ ⟨Nat.le_of_ble_eq_true rfl, Nat.le_of_ble_eq_true rfl⟩ iV_X11_size g_L_41 dL_law_424 rfl rfl (Nat.le_of_ble_eq_true rfl) rfl (fun z424 => ?_)
  refine gq_pop C dL_law_427 rfl rfl ?_
  refine gq_aln C 2 dL_law_428 rfl rfl rfl ?_
  refine gq_aln C 0 dL_law_429 rfl rfl rfl ?_
  refine gq_iln C 3 dL_law_430 rfl rfl rfl ?_
  refine gq_ic C dL_law_431 rfl ?_
  refine gq_add C dL_law_432 rfl ?_
  refine l_sld C hX hbl hbA hL (by omega) (by omega) dL_law_433 rfl ?_
  refine l_m (As := [zv (xs (Int.toNat (i + 1))).toInt]) (rest := []) C hE hEs rfl hA (mc_fx (fun am => km14 hE) rfl (by decide +kernel) ⟨by decide, by decide, by decide⟩ (fun am ha => (show fx_ty _ am [.inr (.inr 1), .inl (-2147483648, 2147483647)] [.ref m0, zv (xs (Int.toNat (i + 1))).toInt] from oks_ok ⟨rt_ok ⟨0, ha, rfl⟩ (by decide), ok_top _, trivial⟩)) (ret_ok rfl)) ⟨Nat.le_of_ble_eq_true rfl, Nat.le_of_ble_eq_true rfl⟩ ⟨Nat.le_of_ble_eq_true rfl, Nat.le_of_ble_eq_true rfl⟩ iV_X12_size g_L_44 dL_law_434 rfl rfl (Nat.le_of_ble_eq_true rfl) rfl (fun z434 => ?_)
  refine gq_pop C dL_law_437 rfl rfl ?_
  refine gq_goto C 1570 dL_law_438 (by decide) ?_
  exact l_in kk
set_option maxRecDepth 100000 in
set_option maxHeartbeats 4000000 in
theorem law_c7 {p : Program} {l : Launch} {e : Env} {s : State} {m : MethodId} {below : List Frame} {meth : Method} {c : Code} {b L x0 m0 : Nat} {xs : Nat → Int32} {i : Int} {E : (Nat → Prop) → State → Prop} {cy : Nat → ClassId} {D : va_G} (C : gC p s m #[Value.ref b] c code 4 RL) (hXX : fxX E D cy) (hEs : E (fun q : Nat => s.heap.size ≤ q) s) (hX : va_X b L xs s s.heap) (hbl : b < s.heap.size) (hL : L ≤ 3072) (hi : 0 ≤ i) (hi6 : i + 6 ≤ L) (kk : lawG p l e s m below meth c b 1570 [(0, .ref b), (1, .ref x0), (2, .ref m0), (3, zv i)] [] (lP cy D (fun q : Nat => s.heap.size ≤ q) s.heap x0 m0)) : lawG p l e s m below meth c b 441 [(0, .ref b), (1, .ref x0), (2, .ref m0), (3, zv i)] [] (lP cy D (fun q : Nat => s.heap.size ≤ q) s.heap x0 m0) := by
  have hE := hXX.1
  have hA : ∀ q : Nat, s.heap.size ≤ q → (fun q : Nat => s.heap.size ≤ q) q := fun _ h => h
  have hbA : ¬ (fun q : Nat => s.heap.size ≤ q) b := Nat.not_le.mpr hbl
  refine l_ex (fun t => ?_)
  refine gq_aln C 1 dL_law_441 rfl rfl rfl ?_
  refine gq_aln C 0 dL_law_442 rfl rfl rfl ?_
  refine gq_iln C 3 dL_law_443 rfl rfl rfl ?_
  refine gq_ic C dL_law_444 rfl ?_
  refine gq_add C dL_law_445 rfl ?_
  refine l_sld C hX hbl hbA hL (by omega) (by omega) dL_law_446 rfl ?_
  refine l_x (ts := [.inl (-2147483648, 2147483647)]) (As := [zv (xs (Int.toNat (i + 1))).toInt]) (rest := []) C hE hEs rfl hA (fun gx ax => kx129 hXX) rfl ⟨by decide, by decide⟩ rfl (fun gs ad => ⟨ok_top _, trivial⟩) (ret_ok rfl) ⟨Nat.le_of_ble_eq_true rfl, Nat.le_of_ble_eq_true rfl⟩ ⟨Nat.le_of_ble_eq_true rfl, Nat.le_of_ble_eq_true rfl⟩ iV_X11_worth g_L_45 dL_law_447 rfl rfl (Nat.le_of_ble_eq_true rfl) rfl (fun z447 => ?_)
  refine gq_pop C dL_law_450 rfl rfl ?_
  refine gq_aln C 2 dL_law_451 rfl rfl rfl ?_
  refine gq_aln C 0 dL_law_452 rfl rfl rfl ?_
  refine gq_iln C 3 dL_law_453 rfl rfl rfl ?_
  refine gq_ic C dL_law_454 rfl ?_
  refine gq_add C dL_law_455 rfl ?_
  refine l_sld C hX hbl hbA hL (by omega) (by omega) dL_law_456 rfl ?_
  refine l_m (As := [zv (xs (Int.toNat (i + 1))).toInt]) (rest := []) C hE hEs rfl hA (mc_fx (fun am => km17 hE) rfl (by decide +kernel) ⟨by decide, by decide, by decide⟩ (fun am ha => (show fx_ty _ am [.inr (.inr 1), .inl (-2147483648, 2147483647)] [.ref m0, zv (xs (Int.toNat (i + 1))).toInt] from oks_ok ⟨rt_ok ⟨0, ha, rfl⟩ (by decide), ok_top _, trivial⟩)) (ret_ok rfl)) ⟨Nat.le_of_ble_eq_true rfl, Nat.le_of_ble_eq_true rfl⟩ ⟨Nat.le_of_ble_eq_true rfl, Nat.le_of_ble_eq_true rfl⟩ iV_X12_worth g_L_48 dL_law_457 rfl rfl (Nat.le_of_ble_eq_true rfl) rfl (fun z457 => ?_)
  refine gq_pop C dL_law_460 rfl rfl ?_
  refine gq_goto C 1570 dL_law_461 (by decide) ?_
  exact l_in kk
set_option maxRecDepth 100000 in
set_option maxHeartbeats 4000000 in
theorem law_c8 {p : Program} {l : Launch} {e : Env} {s : State} {m : MethodId} {below : List Frame} {meth : Method} {c : Code} {b L x0 m0 : Nat} {xs : Nat → Int32} {i : Int} {E : (Nat → Prop) → State → Prop} {cy : Nat → ClassId} {D : va_G} (C : gC p s m #[Value.ref b] c code 4 RL) (hXX : fxX E D cy) (hEs : E (fun q : Nat => s.heap.size ≤ q) s) (hX : va_X b L xs s s.heap) (hbl : b < s.heap.size) (hL : L ≤ 3072) (hi : 0 ≤ i) (hi6 : i + 6 ≤ L) (kk : lawG p l e s m below meth c b 1570 [(0, .ref b), (1, .ref x0), (2, .ref m0), (3, zv i)] [] (lP cy D (fun q : Nat => s.heap.size ≤ q) s.heap x0 m0)) : lawG p l e s m below meth c b 464 [(0, .ref b), (1, .ref x0), (2, .ref m0), (3, zv i)] [] (lP cy D (fun q : Nat => s.heap.size ≤ q) s.heap x0 m0) := by
  have hE := hXX.1
  have hA : ∀ q : Nat, s.heap.size ≤ q → (fun q : Nat => s.heap.size ≤ q) q := fun _ h => h
  have hbA : ¬ (fun q : Nat => s.heap.size ≤ q) b := Nat.not_le.mpr hbl
  refine l_ex (fun t => ?_)
  refine gq_aln C 1 dL_law_464 rfl rfl rfl ?_
  refine gq_aln C 0 dL_law_465 rfl rfl rfl ?_
  refine gq_iln C 3 dL_law_466 rfl rfl rfl ?_
  refine gq_ic C dL_law_467 rfl ?_
  refine gq_add C dL_law_468 rfl ?_
  refine l_sld C hX hbl hbA hL (by omega) (by omega) dL_law_469 rfl ?_
  refine gq_aln C 0 dL_law_470 rfl rfl rfl ?_
  refine gq_iln C 3 dL_law_471 rfl rfl rfl ?_
  refine gq_ic C dL_law_472 rfl ?_
  refine gq_add C dL_law_473 rfl ?_
  refine l_sld C hX hbl hbA hL (by omega) (by omega) dL_law_474 rfl ?_
  refine l_x (ts := [.inl (-2147483648, 2147483647), .inl (-2147483648, 2147483647)]) (As := [zv (xs (Int.toNat (i + 1))).toInt, zv (xs (Int.toNat (i + 2))).toInt]) (rest := []) C hE hEs rfl hA (fun gx ax => kx131 hXX) rfl ⟨by decide, by decide⟩ rfl (fun gs ad => ⟨ok_top _, ok_top _, trivial⟩) (ret_ok rfl) ⟨Nat.le_of_ble_eq_true rfl, Nat.le_of_ble_eq_true rfl⟩ ⟨Nat.le_of_ble_eq_true rfl, Nat.le_of_ble_eq_true rfl⟩ iV_X11_beside g_L_49 dL_law_475 rfl rfl (Nat.le_of_ble_eq_true rfl) rfl (fun z475 => ?_)
  refine gq_pop C dL_law_478 rfl rfl ?_
  refine gq_aln C 2 dL_law_479 rfl rfl rfl ?_
  refine gq_aln C 0 dL_law_480 rfl rfl rfl ?_
  refine gq_iln C 3 dL_law_481 rfl rfl rfl ?_
  refine gq_ic C dL_law_482 rfl ?_
  refine gq_add C dL_law_483 rfl ?_
  refine l_sld C hX hbl hbA hL (by omega) (by omega) dL_law_484 rfl ?_
  refine gq_aln C 0 dL_law_485 rfl rfl rfl ?_
  refine gq_iln C 3 dL_law_486 rfl rfl rfl ?_
  refine gq_ic C dL_law_487 rfl ?_
  refine gq_add C dL_law_488 rfl ?_
  refine l_sld C hX hbl hbA hL (by omega) (by omega) dL_law_489 rfl ?_
  refine l_m (As := [zv (xs (Int.toNat (i + 1))).toInt, zv (xs (Int.toNat (i + 2))).toInt]) (rest := []) C hE hEs rfl hA (mc_fx (fun am => km19 hE) rfl (by decide +kernel) ⟨by decide, by decide, by decide⟩ (fun am ha => (show fx_ty _ am [.inr (.inr 1), .inl (-2147483648, 2147483647), .inl (-2147483648, 2147483647)] [.ref m0, zv (xs (Int.toNat (i + 1))).toInt, zv (xs (Int.toNat (i + 2))).toInt] from oks_ok ⟨rt_ok ⟨0, ha, rfl⟩ (by decide), ok_top _, ok_top _, trivial⟩)) (ret_ok rfl)) ⟨Nat.le_of_ble_eq_true rfl, Nat.le_of_ble_eq_true rfl⟩ ⟨Nat.le_of_ble_eq_true rfl, Nat.le_of_ble_eq_true rfl⟩ iV_X12_beside g_L_52 dL_law_490 rfl rfl (Nat.le_of_ble_eq_true rfl) rfl (fun z490 => ?_)
  refine gq_pop C dL_law_493 rfl rfl ?_
  refine gq_goto C 1570 dL_law_494 (by decide) ?_
  exact l_in kk
set_option maxRecDepth 100000 in
set_option maxHeartbeats 4000000 in
theorem law_c9 {p : Program} {l : Launch} {e : Env} {s : State} {m : MethodId} {below : List Frame} {meth : Method} {c : Code} {b L x0 m0 : Nat} {xs : Nat → Int32} {i : Int} {E : (Nat → Prop) → State → Prop} {cy : Nat → ClassId} {D : va_G} (C : gC p s m #[Value.ref b] c code 4 RL) (hXX : fxX E D cy) (hEs : E (fun q : Nat => s.heap.size ≤ q) s) (hX : va_X b L xs s s.heap) (hbl : b < s.heap.size) (hL : L ≤ 3072) (hi : 0 ≤ i) (hi6 : i + 6 ≤ L) (kk : lawG p l e s m below meth c b 1570 [(0, .ref b), (1, .ref x0), (2, .ref m0), (3, zv i)] [] (lP cy D (fun q : Nat => s.heap.size ≤ q) s.heap x0 m0)) : lawG p l e s m below meth c b 497 [(0, .ref b), (1, .ref x0), (2, .ref m0), (3, zv i)] [] (lP cy D (fun q : Nat => s.heap.size ≤ q) s.heap x0 m0) := by
  have hE := hXX.1
  have hA : ∀ q : Nat, s.heap.size ≤ q → (fun q : Nat => s.heap.size ≤ q) q := fun _ h => h
  have hbA : ¬ (fun q : Nat => s.heap.size ≤ q) b := Nat.not_le.mpr hbl
  refine l_ex (fun t => ?_)
  refine gq_aln C 1 dL_law_497 rfl rfl rfl ?_
  refine gq_aln C 0 dL_law_498 rfl rfl rfl ?_
  refine gq_iln C 3 dL_law_499 rfl rfl rfl ?_
  refine gq_ic C dL_law_500 rfl ?_
  refine gq_add C dL_law_501 rfl ?_
  refine l_sld C hX hbl hbA hL (by omega) (by omega) dL_law_502 rfl ?_
  refine l_x (ts := [.inl (-2147483648, 2147483647)]) (As := [zv (xs (Int.toNat (i + 1))).toInt]) (rest := []) C hE hEs rfl hA (fun gx ax => kx134 hXX) rfl ⟨by decide, by decide⟩ rfl (fun gs ad => ⟨ok_top _, trivial⟩) (ret_ok rfl) ⟨Nat.le_of_ble_eq_true rfl, Nat.le_of_ble_eq_true rfl⟩ ⟨Nat.le_of_ble_eq_true rfl, Nat.le_of_ble_eq_true rfl⟩ iV_X11_sense g_L_53 dL_law_503 rfl rfl (Nat.le_of_ble_eq_true rfl) rfl (fun z503 => ?_)
  refine gq_pop C dL_law_506 rfl rfl ?_
  refine gq_aln C 2 dL_law_507 rfl rfl rfl ?_
  refine gq_aln C 0 dL_law_508 rfl rfl rfl ?_
  refine gq_iln C 3 dL_law_509 rfl rfl rfl ?_
  refine gq_ic C dL_law_510 rfl ?_
  refine gq_add C dL_law_511 rfl ?_
  refine l_sld C hX hbl hbA hL (by omega) (by omega) dL_law_512 rfl ?_
  refine l_m (As := [zv (xs (Int.toNat (i + 1))).toInt]) (rest := []) C hE hEs rfl hA (mc_fx (fun am => km24 hE) rfl (by decide +kernel) ⟨by decide, by decide, by decide⟩ (fun am ha => (show fx_ty _ am [.inr (.inr 1), .inl (-2147483648, 2147483647)] [.ref m0, zv (xs (Int.toNat (i + 1))).toInt] from oks_ok ⟨rt_ok ⟨0, ha, rfl⟩ (by decide), ok_top _, trivial⟩)) (ret_ok rfl)) ⟨Nat.le_of_ble_eq_true rfl, Nat.le_of_ble_eq_true rfl⟩ ⟨Nat.le_of_ble_eq_true rfl, Nat.le_of_ble_eq_true rfl⟩ iV_X12_sense g_L_56 dL_law_513 rfl rfl (Nat.le_of_ble_eq_true rfl) rfl (fun z513 => ?_)
  refine gq_pop C dL_law_516 rfl rfl ?_
  refine gq_goto C 1570 dL_law_517 (by decide) ?_
  exact l_in kk
set_option maxRecDepth 100000 in
set_option maxHeartbeats 4000000 in
theorem law_c10 {p : Program} {l : Launch} {e : Env} {s : State} {m : MethodId} {below : List Frame} {meth : Method} {c : Code} {b L x0 m0 : Nat} {xs : Nat → Int32} {i : Int} {E : (Nat → Prop) → State → Prop} {cy : Nat → ClassId} {D : va_G} (C : gC p s m #[Value.ref b] c code 4 RL) (hXX : fxX E D cy) (hEs : E (fun q : Nat => s.heap.size ≤ q) s) (hX : va_X b L xs s s.heap) (hbl : b < s.heap.size) (hL : L ≤ 3072) (hi : 0 ≤ i) (hi6 : i + 6 ≤ L) (kk : lawG p l e s m below meth c b 1570 [(0, .ref b), (1, .ref x0), (2, .ref m0), (3, zv i)] [] (lP cy D (fun q : Nat => s.heap.size ≤ q) s.heap x0 m0)) : lawG p l e s m below meth c b 520 [(0, .ref b), (1, .ref x0), (2, .ref m0), (3, zv i)] [] (lP cy D (fun q : Nat => s.heap.size ≤ q) s.heap x0 m0) := by
  have hE := hXX.1
  have hA : ∀ q : Nat, s.heap.size ≤ q → (fun q : Nat => s.heap.size ≤ q) q := fun _ h => h
  have hbA : ¬ (fun q : Nat => s.heap.size ≤ q) b := Nat.not_le.mpr hbl
  refine l_ex (fun t => ?_)
  refine gq_aln C 1 dL_law_520 rfl rfl rfl ?_
  refine gq_aln C 0 dL_law_521 rfl rfl rfl ?_
  refine gq_iln C 3 dL_law_522 rfl rfl rfl ?_
  refine gq_ic C dL_law_523 rfl ?_
  refine gq_add C dL_law_524 rfl ?_
  refine l_sld C hX hbl hbA hL (by omega) (by omega) dL_law_525 rfl ?_
  refine l_x (ts := [.inl (-2147483648, 2147483647)]) (As := [zv (xs (Int.toNat (i + 1))).toInt]) (rest := []) C hE hEs rfl hA (fun gx ax => kx144 hXX) rfl ⟨by decide, by decide⟩ rfl (fun gs ad => ⟨ok_top _, trivial⟩) (ret_ok rfl) ⟨Nat.le_of_ble_eq_true rfl, Nat.le_of_ble_eq_true rfl⟩ ⟨Nat.le_of_ble_eq_true rfl, Nat.le_of_ble_eq_true rfl⟩ iV_X11_miss g_L_57 dL_law_526 rfl rfl (Nat.le_of_ble_eq_true rfl) rfl (fun z526 => ?_)
  refine gq_pop C dL_law_529 rfl rfl ?_
  refine gq_aln C 2 dL_law_530 rfl rfl rfl ?_
  refine gq_aln C 0 dL_law_531 rfl rfl rfl ?_
  refine gq_iln C 3 dL_law_532 rfl rfl rfl ?_
  refine gq_ic C dL_law_533 rfl ?_
  refine gq_add C dL_law_534 rfl ?_
  refine l_sld C hX hbl hbA hL (by omega) (by omega) dL_law_535 rfl ?_
  refine l_m (As := [zv (xs (Int.toNat (i + 1))).toInt]) (rest := []) C hE hEs rfl hA (mc_fxI (fun am => km330 hE) rfl ⟨by decide, by decide, by decide⟩ (fun am ha => (show fx_ty _ am [.inr (.inr 1), .inl (-2147483648, 2147483647)] [.ref m0, zv (xs (Int.toNat (i + 1))).toInt] from oks_ok ⟨rt_ok ⟨0, ha, rfl⟩ (by decide), ok_top _, trivial⟩)) (ret_ok rfl)) ⟨Nat.le_of_ble_eq_true rfl, Nat.le_of_ble_eq_true rfl⟩ ⟨Nat.le_of_ble_eq_true rfl, Nat.le_of_ble_eq_true rfl⟩ iV_X12_miss g_L_60 dL_law_536 rfl rfl (Nat.le_of_ble_eq_true rfl) rfl (fun z536 => ?_)
  refine gq_pop C dL_law_539 rfl rfl ?_
  refine gq_goto C 1570 dL_law_540 (by decide) ?_
  exact l_in kk
set_option maxRecDepth 100000 in
set_option maxHeartbeats 4000000 in
theorem law_c11 {p : Program} {l : Launch} {e : Env} {s : State} {m : MethodId} {below : List Frame} {meth : Method} {c : Code} {b L x0 m0 : Nat} {xs : Nat → Int32} {i : Int} {E : (Nat → Prop) → State → Prop} {cy : Nat → ClassId} {D : va_G} (C : gC p s m #[Value.ref b] c code 4 RL) (hXX : fxX E D cy) (hEs : E (fun q : Nat => s.heap.size ≤ q) s) (hX : va_X b L xs s s.heap) (hbl : b < s.heap.size) (hL : L ≤ 3072) (hi : 0 ≤ i) (hi6 : i + 6 ≤ L) (kk : lawG p l e s m below meth c b 1570 [(0, .ref b), (1, .ref x0), (2, .ref m0), (3, zv i)] [] (lP cy D (fun q : Nat => s.heap.size ≤ q) s.heap x0 m0)) : lawG p l e s m below meth c b 543 [(0, .ref b), (1, .ref x0), (2, .ref m0), (3, zv i)] [] (lP cy D (fun q : Nat => s.heap.size ≤ q) s.heap x0 m0) := by
  have hE := hXX.1
  have hA : ∀ q : Nat, s.heap.size ≤ q → (fun q : Nat => s.heap.size ≤ q) q := fun _ h => h
  have hbA : ¬ (fun q : Nat => s.heap.size ≤ q) b := Nat.not_le.mpr hbl
  refine l_ex (fun t => ?_)
  refine gq_aln C 1 dL_law_543 rfl rfl rfl ?_
  refine gq_aln C 0 dL_law_544 rfl rfl rfl ?_
  refine gq_iln C 3 dL_law_545 rfl rfl rfl ?_
  refine gq_ic C dL_law_546 rfl ?_
  refine gq_add C dL_law_547 rfl ?_
  refine l_sld C hX hbl hbA hL (by omega) (by omega) dL_law_548 rfl ?_
  refine l_x (ts := [.inl (-2147483648, 2147483647)]) (As := [zv (xs (Int.toNat (i + 1))).toInt]) (rest := []) C hE hEs rfl hA (fun gx ax => kx146 hXX) rfl ⟨by decide, by decide⟩ rfl (fun gs ad => ⟨ok_top _, trivial⟩) (ret_ok rfl) ⟨Nat.le_of_ble_eq_true rfl, Nat.le_of_ble_eq_true rfl⟩ ⟨Nat.le_of_ble_eq_true rfl, Nat.le_of_ble_eq_true rfl⟩ iV_X11_missed g_L_61 dL_law_549 rfl rfl (Nat.le_of_ble_eq_true rfl) rfl (fun z549 => ?_)
  refine gq_pop C dL_law_552 rfl rfl ?_
  refine gq_aln C 2 dL_law_553 rfl rfl rfl ?_
  refine gq_aln C 0 dL_law_554 rfl rfl rfl ?_
  refine gq_iln C 3 dL_law_555 rfl rfl rfl ?_
  refine gq_ic C dL_law_556 rfl ?_
  refine gq_add C dL_law_557 rfl ?_
  refine l_sld C hX hbl hbA hL (by omega) (by omega) dL_law_558 rfl ?_
  refine l_m (As := [zv (xs (Int.toNat (i + 1))).toInt]) (rest := []) C hE hEs rfl hA (mc_fxI (fun am => km332 hE) rfl ⟨by decide, by decide, by decide⟩ (fun am ha => (show fx_ty _ am [.inr (.inr 1), .inl (-2147483648, 2147483647)] [.ref m0, zv (xs (Int.toNat (i + 1))).toInt] from oks_ok ⟨rt_ok ⟨0, ha, rfl⟩ (by decide), ok_top _, trivial⟩)) (ret_ok rfl)) ⟨Nat.le_of_ble_eq_true rfl, Nat.le_of_ble_eq_true rfl⟩ ⟨Nat.le_of_ble_eq_true rfl, Nat.le_of_ble_eq_true rfl⟩ iV_X12_missed g_L_64 dL_law_559 rfl rfl (Nat.le_of_ble_eq_true rfl) rfl (fun z559 => ?_)
  refine gq_pop C dL_law_562 rfl rfl ?_
  refine gq_goto C 1570 dL_law_563 (by decide) ?_
  exact l_in kk
