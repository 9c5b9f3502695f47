set_option maxHeartbeats 4000000 in
set_option maxRecDepth 100000 in
theorem kJ_coder (l : Launch) (kq vq : Nat) (bf : Nat → Int32) : Met l yJ0_coder_7d493 wmJ0_coder_7d493 ({ frames := 0, cells := 0, slots := 0, locals := 0 }) (va_Pc [.ref kq] (fun U => SV kq vq bf (fun _ => False) U)) (vp_Si (fun r_ => r_ = 0)) 0 0 (fun _ => False) := by
  refine Met.ofW (cc := cJ0_coder_7d493) (maxL := 1) (ret := (some .byte)) (by decide +kernel) rfl ?_
  intro p e s m args below meth c s₁ B hml hv
  obtain ⟨rfl, hV⟩ := hv
  have hx := B.exec
  have hb := B.bytes
  have hr := B.returns
  have hts0 := atoms_spec (ws := wmJ0_coder_7d493) B.pre
  have hts : ∀ w ∈ wsL_law, w.before _ s = true := fun w h => hts0 w (List.mem_cons_of_mem _ h)
  have hown : s.vm.findClass RJ0 = some m.cls := findClass_of_methodNamed B.named
  have hlocks := B.notSynchronized
  have hS : va_S (fun _ => False) s.heap s.heap [] := va_S.rf
  have hl := lv_entry ([.ref kq]) (n := 1) (Nat.le_of_ble_eq_true rfl)
  rw [lg_entry_eq]
  generalize (lg_sl ([.ref kq]) ++ List.replicate (1 - (lg_sl ([.ref kq])).length) Slot.unset).toArray = ls at hl ⊢
  have hl : lv_has ls 1 [(0, .ref kq)] := hl
  refine va_gets (C := "java/lang/String") (n := "COMPACT_STRINGS") (d := "Z") (v := .int 1) hx hb hV.1 hS hown (hts _ m_75) (fun _ h9 => h9) dJ0_coder_7d493_0 ?_
  refine lv_if_eq (tgt := 13) hx hb dJ0_coder_7d493_3 (by decide) (fun c_ => absurd c_ (by decide +kernel)) (fun _ => ?_)
  refine lv_aload_n hx hb dJ0_coder_7d493_6 rfl (lv_at hl 0 rfl) ?_
  refine vk_getf (o := "java/lang/String") (n := "coder") (d := "B") (v := .int 0) hx hb hV.2.2.2.2.1 hS hown (hts _ m_76) (fun _ h9 => h9) dJ0_coder_7d493_7 ?_
  refine lv_goto (tgt := 14) hx hb dJ0_coder_7d493_10 (by decide) ?_
  exact W.zret (v := 0) hx hb hr (by decide +kernel) (fun t ht hW => ⟨0, rfl, rfl, ht⟩) (fun _ h_ => (List.not_mem_nil h_).elim) dJ0_coder_7d493_14
set_option maxHeartbeats 4000000 in
set_option maxRecDepth 100000 in
theorem kJ_isLatin1 (l : Launch) (kq vq : Nat) (bf : Nat → Int32) : Met l yJ0_isLatin1_aae02 wmJ0_isLatin1_aae02 ({ frames := 0, cells := 0, slots := 0, locals := 0 }) (va_Pc [.ref kq] (fun U => SV kq vq bf (fun _ => False) U)) (vp_Si (fun r_ => r_ = 1)) 0 0 (fun _ => False) := by
  refine Met.ofW (cc := cJ0_isLatin1_aae02) (maxL := 1) (ret := (some .boolean)) (by decide +kernel) rfl ?_
  intro p e s m args below meth c s₁ B hml hv
  obtain ⟨rfl, hV⟩ := hv
  have hx := B.exec
  have hb := B.bytes
  have hr := B.returns
  have hts0 := atoms_spec (ws := wmJ0_isLatin1_aae02) B.pre
  have hts : ∀ w ∈ wsL_law, w.before _ s = true := fun w h => hts0 w (List.mem_cons_of_mem _ h)
  have hown : s.vm.findClass RJ0 = some m.cls := findClass_of_methodNamed B.named
  have hlocks := B.notSynchronized
  have hS : va_S (fun _ => False) s.heap s.heap [] := va_S.rf
  have hl := lv_entry ([.ref kq]) (n := 1) (Nat.le_of_ble_eq_true rfl)
  rw [lg_entry_eq]
  generalize (lg_sl ([.ref kq]) ++ List.replicate (1 - (lg_sl ([.ref kq])).length) Slot.unset).toArray = ls at hl ⊢
  have hl : lv_has ls 1 [(0, .ref kq)] := hl
  refine va_gets (C := "java/lang/String") (n := "COMPACT_STRINGS") (d := "Z") (v := .int 1) hx hb hV.1 hS hown (hts _ m_75) (fun _ h9 => h9) dJ0_isLatin1_aae02_0 ?_
  refine lv_if_eq (tgt := 17) hx hb dJ0_isLatin1_aae02_3 (by decide) (fun c_ => absurd c_ (by decide +kernel)) (fun _ => ?_)
  refine lv_aload_n hx hb dJ0_isLatin1_aae02_6 rfl (lv_at hl 0 rfl) ?_
  refine vk_getf (o := "java/lang/String") (n := "coder") (d := "B") (v := .int 0) hx hb hV.2.2.2.2.1 hS hown (hts _ m_76) (fun _ h9 => h9) dJ0_isLatin1_aae02_7 ?_
  refine lv_if_ne (tgt := 17) hx hb dJ0_isLatin1_aae02_10 (by decide) (fun c_ => absurd (by decide +kernel) c_) (fun _ => ?_)
  refine lv_iconst (v := 1) hx hb dJ0_isLatin1_aae02_13 (by decide +kernel) ?_
  refine lv_goto (tgt := 18) hx hb dJ0_isLatin1_aae02_14 (by decide) ?_
  exact W.zret (v := 1) hx hb hr (by decide +kernel) (fun t ht hW => ⟨1, rfl, rfl, ht⟩) (fun _ h_ => (List.not_mem_nil h_).elim) dJ0_isLatin1_aae02_18
set_option maxHeartbeats 4000000 in
set_option maxRecDepth 100000 in
theorem kJ_length (l : Launch) (kq vq : Nat) (bf : Nat → Int32) : Met l yJ0_length_8abf5 wmJ0_length_8abf5 ({ frames := 1, cells := 0, slots := 0, locals := 20 }) (va_Pc [.ref kq] (fun U => SV kq vq bf (fun _ => False) U)) (vp_Si (fun r_ => r_ = 75)) 0 0 (fun _ => False) := by
  refine Met.ofW (cc := cJ0_length_8abf5) (maxL := 1) (ret := (some .int)) (by decide +kernel) rfl ?_
  intro p e s m args below meth c s₁ B hml hv
  obtain ⟨rfl, hV⟩ := hv
  have hx := B.exec
  have hb := B.bytes
  have hr := B.returns
  have hts0 := atoms_spec (ws := wmJ0_length_8abf5) B.pre
  have hts : ∀ w ∈ wsL_law, w.before _ s = true := fun w h => hts0 w (List.mem_cons_of_mem _ h)
  have hown : s.vm.findClass RJ0 = some m.cls := findClass_of_methodNamed B.named
  have hlocks := B.notSynchronized
  have hS : va_S (fun _ => False) s.heap s.heap [] := va_S.rf
  have hl := lv_entry ([.ref kq]) (n := 1) (Nat.le_of_ble_eq_true rfl)
  rw [lg_entry_eq]
  generalize (lg_sl ([.ref kq]) ++ List.replicate (1 - (lg_sl ([.ref kq])).length) Slot.unset).toArray = ls at hl ⊢
  have hl : lv_has ls 1 [(0, .ref kq)] := hl
  refine lv_aload_n hx hb dJ0_length_8abf5_0 rfl (lv_at hl 0 rfl) ?_
  refine vk_getf (o := "java/lang/String") (n := "value") (d := "[B") (v := .ref vq) hx hb hV.2.2.2.2.2.1 hS hown (hts _ m_70) (fun _ h9 => h9) dJ0_length_8abf5_1 ?_
  refine va_tlen (v := 75) hx hb hV.2.2.2.2.2.2 hS (by decide +kernel) dJ0_length_8abf5_4 ?_
  refine lv_aload_n hx hb dJ0_length_8abf5_5 rfl (lv_at hl 0 rfl) ?_
  refine vp_callSi (W.runV (As := []) (rest := [.int 75]) ⟨hx, hb, hml, hown, hts⟩ (kJ_coder l kq vq bf) (cwV 0 hts (gdV m_71 m_72 m_73 m_68 m_74) rfl rfl rfl (by decide +kernel) ⟨Nat.le_of_ble_eq_true rfl, Nat.le_of_ble_eq_true rfl⟩) ⟨fun a U g mk q => by obtain ⟨q0, qV⟩ := q; exact ⟨q0, qV.call⟩, hV.recv (fun _ _ _ => rfl), fun U hU hW => ⟨rfl, hV.step hW (fun a _ _ => by rw [hU]) (fun _ h => h)⟩⟩ rfl rfl hl.1 rfl (lv_room (Nat.le_of_ble_eq_true rfl)) dJ0_length_8abf5_6 ⟨Nat.le_of_ble_eq_true rfl, Nat.le_of_ble_eq_true rfl⟩) (fun r hw => ?_)
  subst r
  refine lv_ishr hx hb dJ0_length_8abf5_9 ?_
  refine lv_topi (fun z ez => ?_)
  obtain rfl : z = 75 := ez.trans (by decide +kernel)
  exact W.iret (v := 75) hx hb hr (fun t ht hW => ⟨75, rfl, rfl, ht⟩) (fun _ h_ => (List.not_mem_nil h_).elim) dJ0_length_8abf5_10
set_option maxHeartbeats 4000000 in
set_option maxRecDepth 100000 in
theorem kJ_ci_null (l : Launch) (i : Int32) (hi0 : 0 ≤ i) (hi1 : i < 75) : Met l yJ3_checkIndex_8e157 wmJ3_checkIndex_8e157 ({ frames := 0, cells := 0, slots := 0, locals := 0 }) (va_Pc [.int i, .int 75, .null] (fun U => True)) (vp_Si (fun r_ => True)) 0 0 (fun _ => False) := by
  refine Met.ofW (cc := cJ3_checkIndex_8e157) (maxL := 3) (ret := (some .int)) (by decide +kernel) rfl ?_
  intro p e s m args below meth c s₁ B hml hv
  obtain ⟨rfl, _⟩ := hv
  have hx := B.exec
  have hb := B.bytes
  have hr := B.returns
  have hts0 := atoms_spec (ws := wmJ3_checkIndex_8e157) B.pre
  have hts : ∀ w ∈ wsL_law, w.before _ s = true := fun w h => hts0 w (List.mem_cons_of_mem _ h)
  have hown : s.vm.findClass RJ3 = some m.cls := findClass_of_methodNamed B.named
  have hlocks := B.notSynchronized
  have hS : va_S (fun _ => False) s.heap s.heap [] := va_S.rf
  have hl := lv_entry ([.int i, .int 75, .null]) (n := 3) (Nat.le_of_ble_eq_true rfl)
  rw [lg_entry_eq]
  generalize (lg_sl ([.int i, .int 75, .null]) ++ List.replicate (3 - (lg_sl ([.int i, .int 75, .null])).length) Slot.unset).toArray = ls at hl ⊢
  have hl : lv_has ls 3 [(0, .int i), (1, .int 75), (2, .null)] := hl
  refine lv_iload_n hx hb dJ3_checkIndex_8e157_0 rfl (lv_at hl 0 rfl) ?_
  refine lv_if_lt (tgt := 9) hx hb dJ3_checkIndex_8e157_1 (by decide) (fun c_ => absurd c_ (Int32.not_lt.mpr hi0)) (fun _ => ?_)
  refine lv_iload_n hx hb dJ3_checkIndex_8e157_4 rfl (lv_at hl 0 rfl) ?_
  refine lv_iload_n hx hb dJ3_checkIndex_8e157_5 rfl (lv_at hl 1 rfl) ?_
  refine lv_icmp_lt (tgt := 16) hx hb dJ3_checkIndex_8e157_6 (by decide) (fun _ => ?_) (fun c_ => absurd hi1 c_)
  refine lv_iload_n hx hb dJ3_checkIndex_8e157_16 rfl (lv_at hl 0 rfl) ?_
  exact W.iret (v := i) hx hb hr (fun t ht hW => ⟨i, rfl, trivial, ht⟩) (fun _ h_ => (List.not_mem_nil h_).elim) dJ3_checkIndex_8e157_17
set_option maxHeartbeats 4000000 in
set_option maxRecDepth 100000 in
theorem kJ_ci_ref (l : Launch) (i : Int32) (t : Nat) (hi0 : 0 ≤ i) (hi1 : i < 75) : Met l yJ3_checkIndex_8e157 wmJ3_checkIndex_8e157 ({ frames := 0, cells := 0, slots := 0, locals := 0 }) (va_Pc [.int i, .int 75, .ref t] (fun U => True)) (vp_Si (fun r_ => True)) 0 0 (fun _ => False) := by
  refine Met.ofW (cc := cJ3_checkIndex_8e157) (maxL := 3) (ret := (some .int)) (by decide +kernel) rfl ?_
  intro p e s m args below meth c s₁ B hml hv
  obtain ⟨rfl, _⟩ := hv
  have hx := B.exec
  have hb := B.bytes
  have hr := B.returns
  have hts0 := atoms_spec (ws := wmJ3_checkIndex_8e157) B.pre
  have hts : ∀ w ∈ wsL_law, w.before _ s = true := fun w h => hts0 w (List.mem_cons_of_mem _ h)
  have hown : s.vm.findClass RJ3 = some m.cls := findClass_of_methodNamed B.named
  have hlocks := B.notSynchronized
  have hS : va_S (fun _ => False) s.heap s.heap [] := va_S.rf
  have hl := lv_entry ([.int i, .int 75, .ref t]) (n := 3) (Nat.le_of_ble_eq_true rfl)
  rw [lg_entry_eq]
  generalize (lg_sl ([.int i, .int 75, .ref t]) ++ List.replicate (3 - (lg_sl ([.int i, .int 75, .ref t])).length) Slot.unset).toArray = ls at hl ⊢
  have hl : lv_has ls 3 [(0, .int i), (1, .int 75), (2, .ref t)] := hl
  refine lv_iload_n hx hb dJ3_checkIndex_8e157_0 rfl (lv_at hl 0 rfl) ?_
  refine lv_if_lt (tgt := 9) hx hb dJ3_checkIndex_8e157_1 (by decide) (fun c_ => absurd c_ (Int32.not_lt.mpr hi0)) (fun _ => ?_)
  refine lv_iload_n hx hb dJ3_checkIndex_8e157_4 rfl (lv_at hl 0 rfl) ?_
  refine lv_iload_n hx hb dJ3_checkIndex_8e157_5 rfl (lv_at hl 1 rfl) ?_
  refine lv_icmp_lt (tgt := 16) hx hb dJ3_checkIndex_8e157_6 (by decide) (fun _ => ?_) (fun c_ => absurd hi1 c_)
  refine lv_iload_n hx hb dJ3_checkIndex_8e157_16 rfl (lv_at hl 0 rfl) ?_
  exact W.iret (v := i) hx hb hr (fun t ht hW => ⟨i, rfl, trivial, ht⟩) (fun _ h_ => (List.not_mem_nil h_).elim) dJ3_checkIndex_8e157_17
set_option maxHeartbeats 4000000 in
set_option maxRecDepth 100000 in
theorem kJ_checkIndex (l : Launch) (kq vq : Nat) (bf : Nat → Int32) (i : Int32) (hi0 : 0 ≤ i) (hi1 : i < 75) : Met l yJ0_checkIndex_df160 wmJ0_checkIndex_df160 ({ frames := 1, cells := 0, slots := 0, locals := 22 }) (va_Pc [.int i, .int 75] (fun U => SV kq vq bf (fun _ => False) U)) (va_Sv (fun _ => True)) 0 0 (fun _ => False) := by
  refine Met.ofW (cc := cJ0_checkIndex_df160) (maxL := 2) (ret := none) (by decide +kernel) rfl ?_
  intro p e s m args below meth c s₁ B hml hv
  obtain ⟨rfl, hV⟩ := hv
  have hx := B.exec
  have hb := B.bytes
  have hr := B.returns
  have hts0 := atoms_spec (ws := wmJ0_checkIndex_df160) B.pre
  have hts : ∀ w ∈ wsL_law, w.before _ s = true := fun w h => hts0 w (List.mem_cons_of_mem _ h)
  have hown : s.vm.findClass RJ0 = some m.cls := findClass_of_methodNamed B.named
  have hlocks := B.notSynchronized
  have hS : va_S (fun _ => False) s.heap s.heap [] := va_S.rf
  have hl := lv_entry ([.int i, .int 75]) (n := 2) (Nat.le_of_ble_eq_true rfl)
  rw [lg_entry_eq]
  generalize (lg_sl ([.int i, .int 75]) ++ List.replicate (2 - (lg_sl ([.int i, .int 75])).length) Slot.unset).toArray = ls at hl ⊢
  have hl : lv_has ls 2 [(0, .int i), (1, .int 75)] := hl
  refine lv_iload_n hx hb dJ0_checkIndex_df160_0 rfl (lv_at hl 0 rfl) ?_
  refine lv_iload_n hx hb dJ0_checkIndex_df160_1 rfl (lv_at hl 1 rfl) ?_
  rcases hV.2.1 with hz | ⟨t, hz⟩
  · refine va_gets (C := "jdk/internal/util/Preconditions") (n := "SIOOBE_FORMATTER") (d := "Ljava/util/function/BiFunction;") (v := .null) hx hb hz hS hown (hts _ m_92) (fun _ h9 => h9) dJ0_checkIndex_df160_2 ?_
    refine vp_callSi (W.runS (As := [.int i, .int 75, .null]) (rest := []) ⟨hx, hb, hml, hown, hts⟩ (kJ_ci_null l i hi0 hi1) (va_cwS 3 hts (gdS m_93 m_94 m_95 m_96) rfl rfl rfl (by decide +kernel) ⟨Nat.le_of_ble_eq_true rfl, Nat.le_of_ble_eq_true rfl⟩) ⟨fun _ _ _ _ q => q, fun U hU hW => ⟨rfl, trivial⟩⟩ rfl rfl hl.1 rfl (lv_room (Nat.le_of_ble_eq_true rfl)) dJ0_checkIndex_df160_5 ⟨Nat.le_of_ble_eq_true rfl, Nat.le_of_ble_eq_true rfl⟩) (fun r hw => ?_)
    refine lv_pop hx hb dJ0_checkIndex_df160_8 rfl ?_
    exact W.vret hx hb hr (fun t ht hW => ⟨rfl, trivial, ht⟩) (fun _ h_ => (List.not_mem_nil h_).elim) dJ0_checkIndex_df160_9
  · refine va_gets (C := "jdk/internal/util/Preconditions") (n := "SIOOBE_FORMATTER") (d := "Ljava/util/function/BiFunction;") (v := .ref t) hx hb hz hS hown (hts _ m_92) (fun _ h9 => h9) dJ0_checkIndex_df160_2 ?_
    refine vp_callSi (W.runS (As := [.int i, .int 75, .ref t]) (rest := []) ⟨hx, hb, hml, hown, hts⟩ (kJ_ci_ref l i t hi0 hi1) (va_cwS 3 hts (gdS m_93 m_94 m_95 m_96) rfl rfl rfl (by decide +kernel) ⟨Nat.le_of_ble_eq_true rfl, Nat.le_of_ble_eq_true rfl⟩) ⟨fun _ _ _ _ q => q, fun U hU hW => ⟨rfl, trivial⟩⟩ rfl rfl hl.1 rfl (lv_room (Nat.le_of_ble_eq_true rfl)) dJ0_checkIndex_df160_5 ⟨Nat.le_of_ble_eq_true rfl, Nat.le_of_ble_eq_true rfl⟩) (fun r hw => ?_)
    refine lv_pop hx hb dJ0_checkIndex_df160_8 rfl ?_
    exact W.vret hx hb hr (fun t ht hW => ⟨rfl, trivial, ht⟩) (fun _ h_ => (List.not_mem_nil h_).elim) dJ0_checkIndex_df160_9
set_option maxHeartbeats 4000000 in
set_option maxRecDepth 100000 in
theorem kJ_charAt1 (l : Launch) (kq vq : Nat) (bf : Nat → Int32) (i : Int32) (hi0 : 0 ≤ i) (hi1 : i < 75) : Met l yJ1_charAt_3b067 wmJ1_charAt_3b067 ({ frames := 2, cells := 0, slots := 0, locals := 43 }) (va_Pc [.ref vq, .int i] (fun U => SV kq vq bf (fun _ => False) U)) (vp_Si (fun r_ => narrow .char (.int r_) = .int r_)) 0 0 (fun _ => False) := by
  refine Met.ofW (cc := cJ1_charAt_3b067) (maxL := 2) (ret := (some .char)) (by decide +kernel) rfl ?_
  intro p e s m args below meth c s₁ B hml hv
  obtain ⟨rfl, hV⟩ := hv
  have hx := B.exec
  have hb := B.bytes
  have hr := B.returns
  have hts0 := atoms_spec (ws := wmJ1_charAt_3b067) B.pre
  have hts : ∀ w ∈ wsL_law, w.before _ s = true := fun w h => hts0 w (List.mem_cons_of_mem _ h)
  have hown : s.vm.findClass RJ1 = some m.cls := findClass_of_methodNamed B.named
  have hlocks := B.notSynchronized
  have hS : va_S (fun _ => False) s.heap s.heap [] := va_S.rf
  have hl := lv_entry ([.ref vq, .int i]) (n := 2) (Nat.le_of_ble_eq_true rfl)
  rw [lg_entry_eq]
  generalize (lg_sl ([.ref vq, .int i]) ++ List.replicate (2 - (lg_sl ([.ref vq, .int i])).length) Slot.unset).toArray = ls at hl ⊢
  have hl : lv_has ls 2 [(0, .ref vq), (1, .int i)] := hl
  refine lv_iload_n hx hb dJ1_charAt_3b067_0 rfl (lv_at hl 1 rfl) ?_
  refine lv_aload_n hx hb dJ1_charAt_3b067_1 rfl (lv_at hl 0 rfl) ?_
  refine va_tlen (v := 75) hx hb hV.2.2.2.2.2.2 hS (by decide +kernel) dJ1_charAt_3b067_2 ?_
  refine va_csv (W.runS (As := [.int i, .int 75]) (rest := []) ⟨hx, hb, hml, hown, hts⟩ (kJ_checkIndex l kq vq bf i hi0 hi1) (va_cwS 2 hts (gdS m_89 m_90 m_68 m_91) rfl rfl rfl (by decide +kernel) ⟨Nat.le_of_ble_eq_true rfl, Nat.le_of_ble_eq_true rfl⟩) ⟨fun a U g mk q => by obtain ⟨q0, qV⟩ := q; exact ⟨q0, qV.call⟩, fun U hU hW => ⟨rfl, hV.step hW (fun a _ _ => by rw [hU]) (fun _ h => h)⟩⟩ rfl rfl hl.1 rfl (lv_room (Nat.le_of_ble_eq_true rfl)) dJ1_charAt_3b067_3 ⟨Nat.le_of_ble_eq_true rfl, Nat.le_of_ble_eq_true rfl⟩) (fun _ => ?_)
  refine lv_aload_n hx hb dJ1_charAt_3b067_6 rfl (lv_at hl 0 rfl) ?_
  refine lv_iload_n hx hb dJ1_charAt_3b067_7 rfl (lv_at hl 1 rfl) ?_
  refine va_tb hx hb hV.2.2.2.2.2.2 hS (xa_vin75 hi0 hi1) rfl dJ1_charAt_3b067_8 ?_
  refine lv_sipush (v := 255) hx hb dJ1_charAt_3b067_9 (by decide +kernel) ?_
  refine lv_iand hx hb dJ1_charAt_3b067_12 ?_
  refine lv_i2c hx hb dJ1_charAt_3b067_13 rfl ?_
  exact W.zret hx hb hr (pk_nc _) (fun t ht hW => ⟨_, rfl, pk_nc _, ht⟩) (fun _ h_ => (List.not_mem_nil h_).elim) dJ1_charAt_3b067_14
set_option maxHeartbeats 4000000 in
set_option maxRecDepth 100000 in
theorem kJ_charAt (l : Launch) (kq vq : Nat) (bf : Nat → Int32) (i : Int32) (hi0 : 0 ≤ i) (hi1 : i < 75) : Met l yJ0_charAt_5068e wmJ0_charAt_5068e ({ frames := 3, cells := 0, slots := 0, locals := 64 }) (va_Pc [.ref kq, .int i] (fun U => SV kq vq bf (fun _ => False) U)) (vp_Si (fun r_ => narrow .char (.int r_) = .int r_)) 0 0 (fun _ => False) := by
  refine Met.ofW (cc := cJ0_charAt_5068e) (maxL := 2) (ret := (some .char)) (by decide +kernel) rfl ?_
  intro p e s m args below meth c s₁ B hml hv
  obtain ⟨rfl, hV⟩ := hv
  have hx := B.exec
  have hb := B.bytes
  have hr := B.returns
  have hts0 := atoms_spec (ws := wmJ0_charAt_5068e) B.pre
  have hts : ∀ w ∈ wsL_law, w.before _ s = true := fun w h => hts0 w (List.mem_cons_of_mem _ h)
  have hown : s.vm.findClass RJ0 = some m.cls := findClass_of_methodNamed B.named
  have hlocks := B.notSynchronized
  have hS : va_S (fun _ => False) s.heap s.heap [] := va_S.rf
  have hl := lv_entry ([.ref kq, .int i]) (n := 2) (Nat.le_of_ble_eq_true rfl)
  rw [lg_entry_eq]
  generalize (lg_sl ([.ref kq, .int i]) ++ List.replicate (2 - (lg_sl ([.ref kq, .int i])).length) Slot.unset).toArray = ls at hl ⊢
  have hl : lv_has ls 2 [(0, .ref kq), (1, .int i)] := hl
  refine lv_aload_n hx hb dJ0_charAt_5068e_0 rfl (lv_at hl 0 rfl) ?_
  refine vp_callSi (W.runV (As := []) (rest := []) ⟨hx, hb, hml, hown, hts⟩ (kJ_isLatin1 l kq vq bf) (cwV 0 hts (gdV m_81 m_82 m_83 m_68 m_84) rfl rfl rfl (by decide +kernel) ⟨Nat.le_of_ble_eq_true rfl, Nat.le_of_ble_eq_true rfl⟩) ⟨fun a U g mk q => by obtain ⟨q0, qV⟩ := q; exact ⟨q0, qV.call⟩, hV.recv (fun _ _ _ => rfl), fun U hU hW => ⟨rfl, hV.step hW (fun a _ _ => by rw [hU]) (fun _ h => h)⟩⟩ rfl rfl hl.1 rfl (lv_room (Nat.le_of_ble_eq_true rfl)) dJ0_charAt_5068e_1 ⟨Nat.le_of_ble_eq_true rfl, Nat.le_of_ble_eq_true rfl⟩) (fun r hw => ?_)
  subst r
  refine lv_if_eq (tgt := 16) hx hb dJ0_charAt_5068e_4 (by decide) (fun c_ => absurd c_ (by decide +kernel)) (fun _ => ?_)
  refine lv_aload_n hx hb dJ0_charAt_5068e_7 rfl (lv_at hl 0 rfl) ?_
  refine vk_getf (o := "java/lang/String") (n := "value") (d := "[B") (v := .ref vq) hx hb hV.2.2.2.2.2.1 hS hown (hts _ m_70) (fun _ h9 => h9) dJ0_charAt_5068e_8 ?_
  refine lv_iload_n hx hb dJ0_charAt_5068e_11 rfl (lv_at hl 1 rfl) ?_
  refine vp_callSi (W.runS (As := [.ref vq, .int i]) (rest := []) ⟨hx, hb, hml, hown, hts⟩ (kJ_charAt1 l kq vq bf i hi0 hi1) (va_cwS 2 hts (gdS m_85 m_86 m_87 m_88) rfl rfl rfl (by decide +kernel) ⟨Nat.le_of_ble_eq_true rfl, Nat.le_of_ble_eq_true rfl⟩) ⟨fun a U g mk q => by obtain ⟨q0, qV⟩ := q; exact ⟨q0, qV.call⟩, fun U hU hW => ⟨rfl, hV.step hW (fun a _ _ => by rw [hU]) (fun _ h => h)⟩⟩ rfl rfl hl.1 rfl (lv_room (Nat.le_of_ble_eq_true rfl)) dJ0_charAt_5068e_12 ⟨Nat.le_of_ble_eq_true rfl, Nat.le_of_ble_eq_true rfl⟩) (fun r hw => ?_)
  exact W.zret (v := r) hx hb hr hw (fun t ht hW => ⟨r, rfl, hw, ht⟩) (fun _ h_ => (List.not_mem_nil h_).elim) dJ0_charAt_5068e_15
set_option maxHeartbeats 4000000 in
set_option maxRecDepth 100000 in
theorem lpX9_init {p : Program} {l : Launch} {e : Env} {R : Room} {s : State} {m : MethodId} {args : Array Value} {below : List Frame} {meth : Method} {c : Code} {Q : State → Prop} {A : Nat → Prop} (dC : Nat → ClassId) (dI : Nat → Nat → Nat) (cy : Nat → ClassId) (h0 q1 q2 : Nat) (kq vq : Nat) (bf : Nat → Int32) (hx : p.tables.exec = Jvm.exec) (hb : c.code = cX9_init) (hml : c.maxLocals = 4) (hown : s.vm.findClass RX9 = some m.cls) (hts : ∀ w ∈ wsL_law, w.before args s = true) (hE : EV dC dI cy s) (hV : SV kq vq bf A s) (hRf : 4 ≤ R.frames) (hRl : 85 ≤ R.locals) (hRc : 2 ≤ R.cells) (hRs : 1615 ≤ R.slots) (kk : ∀ (x y : Int32) (fl : Nat → Int64) (ls : Array Slot) (H : Heap) (locs : List Loc), va_P (dC, dI) classes [(h0, .inr (9, [.ref q1, .ref q2, .int 0, .int 0, .int 0, .int 0, .int 0, .long 0])), (q1, .inl (cy 2, 1600, .inl (fun _ => 0))), (q2, .inl (cy 1, 15, .inr (.inl fl)))] H → va_D A [(h0, .inr (9, [.ref q1, .ref q2, .int 0, .int 0, .int 0, .int 0, .int 0, .long 0])), (q1, .inl (cy 2, 1600, .inl (fun _ => 0))), (q2, .inl (cy 1, 15, .inr (.inl fl)))] → va_S A s.heap H locs → lv_has ls 4 [(2, .int x), (1, .int y), (0, .ref h0)] → W p l e R s m args below meth c H locs 2 1615 Q (F0 m 86 ls [])) : ∀ (n : Nat) (x y : Int32) (fl : Nat → Int64) (ls : Array Slot) (H : Heap) (locs : List Loc), 0 ≤ x → 0 ≤ y → y ≤ x → ((75 : Int32).toInt - x.toInt).toNat < n → va_P (dC, dI) classes [(h0, .inr (9, [.ref q1, .ref q2, .int 0, .int 0, .int 0, .int 0, .int 0, .long 0])), (q1, .inl (cy 2, 1600, .inl (fun _ => 0))), (q2, .inl (cy 1, 15, .inr (.inl fl)))] H → va_D A [(h0, .inr (9, [.ref q1, .ref q2, .int 0, .int 0, .int 0, .int 0, .int 0, .long 0])), (q1, .inl (cy 2, 1600, .inl (fun _ => 0))), (q2, .inl (cy 1, 15, .inr (.inl fl)))] → va_S A s.heap H locs → lv_has ls 4 [(2, .int x), (1, .int y), (0, .ref h0)] → W p l e R s m args below meth c H locs 2 1615 Q (F0 m 25 ls []) := by
  intro n
  induction n with
  | zero => intro x y fl ls H locs _ _ _ hm; exact absurd hm (Nat.not_lt_zero _)
  | succ n ih =>
    intro x y fl ls H locs hlo hy0 hy1 hm hP hD hS hl
    refine lv_iload_n hx hb dX9_init_25 rfl (lv_at hl 0 rfl) ?_
    refine va_ldcS hx hb hown hV.2.2.1 dX9_init_26 ?_
    refine vp_callSi (W.runV (As := []) (rest := [.int x]) ⟨hx, hb, hml, hown, hts⟩ (kJ_length l kq vq bf) (cwV 0 hts (gdV m_65 m_66 m_67 m_68 m_69) rfl rfl rfl (by decide +kernel) ⟨Nat.le_trans (Nat.le_of_ble_eq_true rfl) hRf, Nat.le_trans (Nat.le_of_ble_eq_true rfl) hRl⟩) ⟨fun a U g mk q => by obtain ⟨q0, qV⟩ := q; exact ⟨q0, qV.call⟩, hV.recv hS.2.1, fun U hU hW => ⟨rfl, hV.step hW (fun a h1 h2 => by rw [hU]; exact hS.2.1 a h1 h2) (fun _ h => h.elim)⟩⟩ rfl rfl hl.1 rfl (lv_room (Nat.le_of_ble_eq_true rfl)) dX9_init_28 ⟨hRc, hRs⟩) (fun r hw => ?_)
    subst r
    refine lv_icmp_ge (tgt := 86) hx hb dX9_init_31 (by decide) (fun c_1 => ?_) (fun c_1 => ?_)
    · exact kk x y fl ls _ _ hP hD hS hl
    have hlt : x < 75 := Int32.not_le.mp c_1
    refine va_ldcS hx hb hown hV.2.2.1 dX9_init_34 ?_
    refine lv_iload_n hx hb dX9_init_36 rfl (lv_at hl 0 rfl) ?_
    refine vp_callSi (W.runV (As := [.int x]) (rest := []) ⟨hx, hb, hml, hown, hts⟩ (kJ_charAt l kq vq bf x hlo hlt) (cwV 1 hts (gdV m_77 m_78 m_79 m_68 m_80) rfl rfl rfl (by decide +kernel) ⟨Nat.le_trans (Nat.le_of_ble_eq_true rfl) hRf, Nat.le_trans (Nat.le_of_ble_eq_true rfl) hRl⟩) ⟨fun a U g mk q => by obtain ⟨q0, qV⟩ := q; exact ⟨q0, qV.call⟩, hV.recv hS.2.1, fun U hU hW => ⟨rfl, hV.step hW (fun a h1 h2 => by rw [hU]; exact hS.2.1 a h1 h2) (fun _ h => h.elim)⟩⟩ rfl rfl hl.1 rfl (lv_room (Nat.le_of_ble_eq_true rfl)) dX9_init_37 ⟨hRc, hRs⟩) (fun ch hw => ?_)
    refine lv_istore_n (lv' := [(3, .int ch), (2, .int x), (1, .int y), (0, .ref h0)]) hx hb dX9_init_40 rfl hl (by decide) rfl (fun ls hl => ?_)
    obtain ⟨zx, ezx⟩ : ∃ z : Int32, z = x + Int32.ofInt 1 := ⟨_, rfl⟩
    obtain ⟨hs1, hs2⟩ := xl_step hlo hlt ezx hm
    have tl : ∀ (y2 : Int32) (f2 : Nat → Int64) (ls : Array Slot) (H : Heap) (locs : List Loc), 0 ≤ y2 → y2 ≤ zx → va_P (dC, dI) classes [(h0, .inr (9, [.ref q1, .ref q2, .int 0, .int 0, .int 0, .int 0, .int 0, .long 0])), (q1, .inl (cy 2, 1600, .inl (fun _ => 0))), (q2, .inl (cy 1, 15, .inr (.inl f2)))] H → va_D A [(h0, .inr (9, [.ref q1, .ref q2, .int 0, .int 0, .int 0, .int 0, .int 0, .long 0])), (q1, .inl (cy 2, 1600, .inl (fun _ => 0))), (q2, .inl (cy 1, 15, .inr (.inl f2)))] → va_S A s.heap H locs → lv_has ls 4 [(2, .int x), (1, .int y2), (0, .ref h0)] → W p l e R s m args below meth c H locs 2 1615 Q (F0 m 80 ls []) := by
      intro y2 f2 ls H locs ha hbq hP hD hS hl
      refine lv_iinc (v := zx) (lv' := [(2, .int zx), (1, .int y2), (0, .ref h0)]) hx hb dX9_init_80 hl (k := 0) rfl (by rw [ezx]) (by decide) rfl (fun ls hl => ?_)
      refine lv_goto (tgt := 25) hx hb dX9_init_83 (by decide) ?_
      exact ih zx y2 f2 ls _ _ hs1 ha hbq hs2 hP hD hS hl
    obtain ⟨zy, ezy⟩ : ∃ z : Int32, z = y + Int32.ofInt 1 := ⟨_, rfl⟩
    obtain ⟨hk1, hk2, hk3⟩ := xa_key hy0 hy1 hlt ezy
    rw [← ezx] at hk2 hk3
    refine lv_iload_n hx hb dX9_init_41 rfl (lv_at hl 0 rfl) ?_
    refine lv_bipush (v := 32) hx hb dX9_init_42 (by decide +kernel) ?_
    refine lv_icmp_ne (tgt := 53) hx hb dX9_init_44 (by decide) (fun c_2 => ?_) (fun c_2 => ?_)
    · refine lv_iload_n hx hb dX9_init_53 rfl (lv_at hl 2 rfl) ?_
      refine lv_aload_n hx hb dX9_init_54 rfl (lv_at hl 3 rfl) ?_
      refine va_get (D := (dC, dI)) (ci := 9) (v := .ref q2) (C := RX9) (T := TX9) (N := 8) hx hb hts inlX9 hown hE.1 hP 0 rfl rfl 1 (by decide) (hts _ m_64) (fun _ h9 => h9) rfl dX9_init_55 ?_
      refine va_alen (v := 15) hx hb hE.1 hP 2 1 rfl rfl rfl dX9_init_58 ?_
      refine lv_icmp_ge (tgt := 80) hx hb dX9_init_59 (by decide) (fun c_3 => ?_) (fun c_3 => ?_)
      · exact tl y fl ls _ _ hy0 hk3 hP hD hS (lv_sub hl [1, 2, 3] rfl)
      refine lv_aload_n hx hb dX9_init_62 rfl (lv_at hl 3 rfl) ?_
      refine va_get (D := (dC, dI)) (ci := 9) (v := .ref q2) (C := RX9) (T := TX9) (N := 8) hx hb hts inlX9 hown hE.1 hP 0 rfl rfl 1 (by decide) (hts _ m_64) (fun _ h9 => h9) rfl dX9_init_63 ?_
      refine lv_iload_n hx hb dX9_init_66 rfl (lv_at hl 2 rfl) ?_
      refine lv_aload_n hx hb dX9_init_67 rfl (lv_at hl 3 rfl) ?_
      refine va_get (D := (dC, dI)) (ci := 9) (v := .ref q2) (C := RX9) (T := TX9) (N := 8) hx hb hts inlX9 hown hE.1 hP 0 rfl rfl 1 (by decide) (hts _ m_64) (fun _ h9 => h9) rfl dX9_init_68 ?_
      refine lv_iload_n hx hb dX9_init_71 rfl (lv_at hl 2 rfl) ?_
      refine va_lald hx hb hE.1 hP 2 1 rfl rfl (xa_vin15 hy0 c_3) dX9_init_72 ?_
      refine lv_topl (fun w1 ew1 => ?_)
      refine lv_bipush (v := 8) hx hb dX9_init_73 (by decide +kernel) ?_
      refine lv_lshl hx hb dX9_init_75 rfl ?_
      refine lv_iload_n hx hb dX9_init_76 rfl (lv_at hl 0 rfl) ?_
      refine lv_i2l hx hb dX9_init_77 rfl ?_
      refine lv_lor hx hb dX9_init_78 ?_
      refine lv_topl (fun w2 ew2 => ?_)
      refine va_last hx hb hE.1 hP hD hS 2 1 rfl rfl (xa_vin15 hy0 c_3) dX9_init_79 (fun H locs hP hD hS => ?_)
      generalize vp_updL fl (Int32.toNatClampNeg y) w2 = f2 at hP hD
      exact tl y f2 ls _ _ hy0 hk3 hP hD hS (lv_sub hl [1, 2, 3] rfl)
    · refine lv_iinc (v := zy) (lv' := [(1, .int zy), (3, .int ch), (2, .int x), (0, .ref h0)]) hx hb dX9_init_47 hl (k := 2) rfl (by rw [ezy]) (by decide) rfl (fun ls hl => ?_)
      refine lv_goto (tgt := 80) hx hb dX9_init_50 (by decide) ?_
      exact tl zy fl ls _ _ hk1 hk2 hP hD hS (lv_sub hl [2, 0, 3] rfl)
set_option maxHeartbeats 4000000 in
set_option maxRecDepth 100000 in
theorem kX9_init_1 (l : Launch) (dC : Nat → ClassId) (dI : Nat → Nat → Nat) (cy : Nat → ClassId) (h0 : Nat) (sz : Nat) (kq vq : Nat) (bf : Nat → Int32) : Met l yX9_init wmX9_init ({ frames := 4, cells := 2, slots := 1615, locals := 85 }) (va_Pc [.ref h0] (fun U => U.heap.size = sz ∧ va_P (dC, dI) classes [(h0, .inr (9, [.null, .null, .int 0, .int 0, .int 0, .int 0, .int 0, .long 0]))] U.heap ∧ EV dC dI cy U ∧ va_D (fun _ => True) [(h0, .inr (9, [.null, .null, .int 0, .int 0, .int 0, .int 0, .int 0, .long 0]))] ∧ SV kq vq bf (va_A [(h0, .inr (9, [.null, .null, .int 0, .int 0, .int 0, .int 0, .int 0, .long 0]))] sz) U)) (va_Qv (S := Unit) (fun _ => True) (fun _ t => ∃ (q_1 : Nat) (q_2 : Nat), va_P (dC, dI) classes [(h0, .inr (9, [.ref q_1, .ref q_2, .int 0, .int 0, .int 0, .int 0, .int 0, .long 0])), (q_1, .inl (cy 2, 1600, .inl (fun _ => 0)))] t.heap ∧ va_D (va_A [(h0, .inr (9, [.null, .null, .int 0, .int 0, .int 0, .int 0, .int 0, .long 0]))] sz) [(h0, .inr (9, [.ref q_1, .ref q_2, .int 0, .int 0, .int 0, .int 0, .int 0, .long 0])), (q_1, .inl (cy 2, 1600, .inl (fun _ => 0)))]) (va_A [(h0, .inr (9, [.null, .null, .int 0, .int 0, .int 0, .int 0, .int 0, .long 0]))] sz)) 2 1615 (va_A [(h0, .inr (9, [.null, .null, .int 0, .int 0, .int 0, .int 0, .int 0, .long 0]))] sz) := by
  refine Met.ofW (cc := cX9_init) (maxL := 4) (ret := none) (by decide +kernel) rfl ?_
  intro p e s m args below meth c s₁ B hml hv
  obtain ⟨rfl, hsz, hP, hE, hD0, hV⟩ := hv
  have hK := hE.1
  have hN := hE.2.1
  have hx := B.exec
  have hb := B.bytes
  have hr := B.returns
  have hts0 := atoms_spec (ws := wmX9_init) B.pre
  have hts : ∀ w ∈ wsL_law, w.before _ s = true := fun w h => hts0 w (List.mem_cons_of_mem _ h)
  have hown : s.vm.findClass RX9 = some m.cls := findClass_of_methodNamed B.named
  have hlocks := B.notSynchronized
  have hin : meth.name = "<init>" := (name_of_methodNamed B.named B.method).1
  subst hsz
  have hD := hD0.self (sz := s.heap.size)
  generalize hAe : va_A [(h0, .inr (9, [.null, .null, .int 0, .int 0, .int 0, .int 0, .int 0, .long 0]))] s.heap.size = A at hD hV ⊢
  have hA : ∀ q : Nat, s.heap.size ≤ q → A q := fun q h => by rw [← hAe]; exact Or.inr h
  have hS : va_S A s.heap s.heap [] := va_S.rf
  have hP : va_P (dC, dI) classes [(h0, .inr (9, [.null, .null, .int 0, .int 0, .int 0, .int 0, .int 0, .long 0]))] s.heap := hP
  have hl := lv_entry ([.ref h0]) (n := 4) (Nat.le_of_ble_eq_true rfl)
  rw [lg_entry_eq]
  generalize (lg_sl ([.ref h0]) ++ List.replicate (4 - (lg_sl ([.ref h0])).length) Slot.unset).toArray = ls at hl ⊢
  have hl : lv_has ls 4 [(0, .ref h0)] := hl
  refine lv_aload_n hx hb dX9_init_0 rfl (lv_at hl 0 rfl) ?_
  refine W.objInit hx hb hown (hts _ m_60) (hts _ m_10) (hts _ m_11) rfl (by rw [hml]; exact hl.1) rfl dX9_init_1 (Nat.le_of_ble_eq_true rfl) (Nat.le_of_ble_eq_true rfl) ?_
  refine W.eq (g2 := F0 m 4 ls []) rfl ?_
  refine lv_aload_n hx hb dX9_init_4 rfl (lv_at hl 0 rfl) ?_
  refine lv_sipush (v := 1600) hx hb dX9_init_5 (by decide +kernel) ?_
  refine xa_newa (atype := .byte) (ty := .byte) (c0 := cy 2) (a0 := (1600, .inl (fun _ => 0))) hx hb (hts _ m_61) rfl hK 2 rfl hP hD hS hA (xa_zB 1600) (by decide +kernel) (by decide +kernel) (by decide +kernel) (show 0 + 1 ≤ 2 from by decide +kernel) (show 0 + 1600 ≤ 1615 from by decide +kernel) dX9_init_8 (fun q_1 H hP hD hS => ?_)
  have hP : va_P (dC, dI) classes [(h0, .inr (9, [.null, .null, .int 0, .int 0, .int 0, .int 0, .int 0, .long 0])), (q_1, .inl (cy 2, 1600, .inl (fun _ => 0)))] H := hP
  have hD : va_D A [(h0, .inr (9, [.null, .null, .int 0, .int 0, .int 0, .int 0, .int 0, .long 0])), (q_1, .inl (cy 2, 1600, .inl (fun _ => 0)))] := hD
  refine W.widen (k := 1) (n := 1600) (by decide +kernel) (by decide +kernel) ?_
  refine va_putF (D := (dC, dI)) (ci := 9) (v := .ref q_1) (ty := (tyX9 0)) (C := RX9) (T := TX9) (N := 8) hx hb hts inlX9 tyX9 tyX9_ok nmX9 hown hK hP hD hS 0 rfl rfl 0 (by decide) (hts _ m_62) (fun _ h9 => h9) rfl hin rfl (by decide +kernel) rfl rfl (Nat.le_of_ble_eq_true rfl) dX9_init_10 (fun H locs hP hD hS => ?_)
  have hP : va_P (dC, dI) classes [(h0, .inr (9, [.ref q_1, .null, .int 0, .int 0, .int 0, .int 0, .int 0, .long 0])), (q_1, .inl (cy 2, 1600, .inl (fun _ => 0)))] H := hP
  have hD : va_D A [(h0, .inr (9, [.ref q_1, .null, .int 0, .int 0, .int 0, .int 0, .int 0, .long 0])), (q_1, .inl (cy 2, 1600, .inl (fun _ => 0)))] := hD
  refine lv_aload_n hx hb dX9_init_13 rfl (lv_at hl 0 rfl) ?_
  refine lv_bipush (v := 15) hx hb dX9_init_14 (by decide +kernel) ?_
  refine xa_newa (atype := .long) (ty := .long) (c0 := cy 1) (a0 := (15, .inr (.inl (fun _ => 0)))) hx hb (hts _ m_63) rfl hK 1 rfl hP hD hS hA (xa_zJ 15) (by decide +kernel) (by decide +kernel) (by decide +kernel) (show 1 + 1 ≤ 2 from by decide +kernel) (show 1600 + 15 ≤ 1615 from by decide +kernel) dX9_init_16 (fun q_2 H hP hD hS => ?_)
  have hP : va_P (dC, dI) classes [(h0, .inr (9, [.ref q_1, .null, .int 0, .int 0, .int 0, .int 0, .int 0, .long 0])), (q_1, .inl (cy 2, 1600, .inl (fun _ => 0))), (q_2, .inl (cy 1, 15, .inr (.inl (fun _ => 0))))] H := hP
  have hD : va_D A [(h0, .inr (9, [.ref q_1, .null, .int 0, .int 0, .int 0, .int 0, .int 0, .long 0])), (q_1, .inl (cy 2, 1600, .inl (fun _ => 0))), (q_2, .inl (cy 1, 15, .inr (.inl (fun _ => 0))))] := hD
  refine W.widen (k := 2) (n := 1615) (by decide +kernel) (by decide +kernel) ?_
  refine va_putF (D := (dC, dI)) (ci := 9) (v := .ref q_2) (ty := (tyX9 1)) (C := RX9) (T := TX9) (N := 8) hx hb hts inlX9 tyX9 tyX9_ok nmX9 hown hK hP hD hS 0 rfl rfl 1 (by decide) (hts _ m_64) (fun _ h9 => h9) rfl hin rfl (by decide +kernel) rfl rfl (Nat.le_of_ble_eq_true rfl) dX9_init_18 (fun H locs hP hD hS => ?_)
  have hP : va_P (dC, dI) classes [(h0, .inr (9, [.ref q_1, .ref q_2, .int 0, .int 0, .int 0, .int 0, .int 0, .long 0])), (q_1, .inl (cy 2, 1600, .inl (fun _ => 0))), (q_2, .inl (cy 1, 15, .inr (.inl (fun _ => 0))))] H := hP
  have hD : va_D A [(h0, .inr (9, [.ref q_1, .ref q_2, .int 0, .int 0, .int 0, .int 0, .int 0, .long 0])), (q_1, .inl (cy 2, 1600, .inl (fun _ => 0))), (q_2, .inl (cy 1, 15, .inr (.inl (fun _ => 0))))] := hD
  refine lv_iconst (v := 0) hx hb dX9_init_21 (by decide +kernel) ?_
  refine lv_istore_n (lv' := [(1, .int 0), (0, .ref h0)]) hx hb dX9_init_22 rfl hl (by decide) rfl (fun ls hl => ?_)
  refine lv_iconst (v := 0) hx hb dX9_init_23 (by decide +kernel) ?_
  refine lv_istore_n (lv' := [(2, .int 0), (1, .int 0), (0, .ref h0)]) hx hb dX9_init_24 rfl hl (by decide) rfl (fun ls hl => ?_)
  refine lpX9_init dC dI cy h0 q_1 q_2 kq vq bf hx hb hml hown hts hE hV (Nat.le_of_ble_eq_true rfl) (Nat.le_of_ble_eq_true rfl) (show 2 ≤ 2 from by decide +kernel) (show 1615 ≤ 1615 from by decide +kernel) (fun x y fl ls H locs hP hD hS hl => ?_) _ 0 0 _ ls _ _ (by decide +kernel) (by decide +kernel) (by decide +kernel) (Nat.lt_succ_self _) hP hD hS hl
  have hP : va_P (dC, dI) classes [(h0, .inr (9, [.ref q_1, .ref q_2, .int 0, .int 0, .int 0, .int 0, .int 0, .long 0])), (q_1, .inl (cy 2, 1600, .inl (fun _ => 0))), (q_2, .inl (cy 1, 15, .inr (.inl (fl))))] H := hP
  have hD : va_D A [(h0, .inr (9, [.ref q_1, .ref q_2, .int 0, .int 0, .int 0, .int 0, .int 0, .long 0])), (q_1, .inl (cy 2, 1600, .inl (fun _ => 0))), (q_2, .inl (cy 1, 15, .inr (.inl (fl))))] := hD
  have hP9 := hP.sub (ws' := [(h0, .inr (9, [.ref q_1, .ref q_2, .int 0, .int 0, .int 0, .int 0, .int 0, .long 0])), (q_1, .inl (cy 2, 1600, .inl (fun _ => 0)))]) [0, 1] rfl
  have hD9 := hD.sub (ws' := [(h0, .inr (9, [.ref q_1, .ref q_2, .int 0, .int 0, .int 0, .int 0, .int 0, .long 0])), (q_1, .inl (cy 2, 1600, .inl (fun _ => 0)))]) [0, 1] (by decide) rfl
  exact W.vret hx hb hr (fun t ht hW => ⟨⟨(), rfl, trivial, q_1, q_2, by rw [ht]; exact hP9, hD9⟩, hS.F ht⟩) hS.2.2 dX9_init_86
set_option maxHeartbeats 4000000 in
set_option maxRecDepth 100000 in
theorem kX1_init_1 (l : Launch) (dC : Nat → ClassId) (dI : Nat → Nat → Nat) (cy : Nat → ClassId) (h0 : Nat) (sz : Nat) : Met l yX1_init wmX1_init ({ frames := 1, cells := 1, slots := 12, locals := 21 }) (va_Pc [.ref h0, .int 12] (fun U => U.heap.size = sz ∧ va_P (dC, dI) classes [(h0, .inr (1, [.null, .int 0]))] U.heap ∧ EV dC dI cy U ∧ va_D (fun _ => True) [(h0, .inr (1, [.null, .int 0]))])) (va_Qv (S := Unit) (fun _ => True) (fun _ t => ∃ (q_2 : Nat), va_P (dC, dI) classes [(h0, .inr (1, [.ref q_2, .int 0]))] t.heap ∧ va_D (va_A [(h0, .inr (1, [.null, .int 0]))] sz) [(h0, .inr (1, [.ref q_2, .int 0]))]) (va_A [(h0, .inr (1, [.null, .int 0]))] sz)) 1 12 (va_A [(h0, .inr (1, [.null, .int 0]))] sz) := by
  refine Met.ofW (cc := cX1_init) (maxL := 2) (ret := none) (by decide +kernel) rfl ?_
  intro p e s m args below meth c s₁ B hml hv
  obtain ⟨rfl, hsz, hP, hE, hD0⟩ := hv
  have hK := hE.1
  have hN := hE.2.1
  have hx := B.exec
  have hb := B.bytes
  have hr := B.returns
  have hts0 := atoms_spec (ws := wmX1_init) B.pre
  have hts : ∀ w ∈ wsL_law, w.before _ s = true := fun w h => hts0 w (List.mem_cons_of_mem _ h)
  have hown : s.vm.findClass RX1 = some m.cls := findClass_of_methodNamed B.named
  have hlocks := B.notSynchronized
  have hin : meth.name = "<init>" := (name_of_methodNamed B.named B.method).1
  subst hsz
  have hD := hD0.self (sz := s.heap.size)
  generalize hAe : va_A [(h0, .inr (1, [.null, .int 0]))] s.heap.size = A at hD ⊢
  have hA : ∀ q : Nat, s.heap.size ≤ q → A q := fun q h => by rw [← hAe]; exact Or.inr h
  have hS : va_S A s.heap s.heap [] := va_S.rf
  have hP : va_P (dC, dI) classes [(h0, .inr (1, [.null, .int 0]))] s.heap := hP
  have hl := lv_entry ([.ref h0, .int 12]) (n := 2) (Nat.le_of_ble_eq_true rfl)
  rw [lg_entry_eq]
  generalize (lg_sl ([.ref h0, .int 12]) ++ List.replicate (2 - (lg_sl ([.ref h0, .int 12])).length) Slot.unset).toArray = ls at hl ⊢
  have hl : lv_has ls 2 [(0, .ref h0), (1, .int 12)] := hl
  refine lv_aload_n hx hb dX1_init_0 rfl (lv_at hl 0 rfl) ?_
  refine W.objInit hx hb hown (hts _ m_134) (hts _ m_10) (hts _ m_11) rfl (by rw [hml]; exact hl.1) rfl dX1_init_1 (Nat.le_of_ble_eq_true rfl) (Nat.le_of_ble_eq_true rfl) ?_
  refine W.eq (g2 := F0 m 4 ls []) rfl ?_
  refine lv_aload_n hx hb dX1_init_4 rfl (lv_at hl 0 rfl) ?_
  refine lv_iload_n hx hb dX1_init_5 rfl (lv_at hl 1 rfl) ?_
  refine lv_iconst (v := 0) hx hb dX1_init_6 (by decide +kernel) ?_
  refine va_mmax hx hb (by rw [hml]; exact hl.1.symm) hown (hts _ m_135) (hts _ m_136) (hts _ m_137) (hts _ m_138) (Nat.le_of_ble_eq_true rfl) (Nat.le_of_ble_eq_true rfl) (Nat.le_of_ble_eq_true rfl) (Nat.le_of_ble_eq_true rfl) dX1_init_7 ?_
  refine lv_topi (fun z_1 ez_1 => ?_)
  obtain rfl : z_1 = 12 := ez_1.trans (by decide +kernel)
  refine xa_newa (atype := .int) (ty := .int) (c0 := cy 0) (a0 := (12, .inl (fun _ => 0))) hx hb (hts _ m_119) rfl hK 0 rfl hP hD hS hA (xa_zI 12) (by decide +kernel) (by decide +kernel) (by decide +kernel) (show 0 + 1 ≤ 1 from by decide +kernel) (show 0 + 12 ≤ 12 from by decide +kernel) dX1_init_10 (fun q_2 H hP hD hS => ?_)
  have hP : va_P (dC, dI) classes [(h0, .inr (1, [.null, .int 0])), (q_2, .inl (cy 0, 12, .inl (fun _ => 0)))] H := hP
  have hD : va_D A [(h0, .inr (1, [.null, .int 0])), (q_2, .inl (cy 0, 12, .inl (fun _ => 0)))] := hD
  refine W.widen (k := 1) (n := 12) (by decide +kernel) (by decide +kernel) ?_
  refine va_putF (D := (dC, dI)) (ci := 1) (v := .ref q_2) (ty := (tyX1 0)) (C := RX1) (T := TX1) (N := 2) hx hb hts inlX1 tyX1 tyX1_ok nmX1 hown hK hP hD hS 0 rfl rfl 0 (by decide) (hts _ m_139) (fun _ h9 => h9) rfl hin rfl (by decide +kernel) rfl rfl (Nat.le_of_ble_eq_true rfl) dX1_init_12 (fun H locs hP hD hS => ?_)
  have hP : va_P (dC, dI) classes [(h0, .inr (1, [.ref q_2, .int 0])), (q_2, .inl (cy 0, 12, .inl (fun _ => 0)))] H := hP
  have hD : va_D A [(h0, .inr (1, [.ref q_2, .int 0])), (q_2, .inl (cy 0, 12, .inl (fun _ => 0)))] := hD
  refine lv_aload_n hx hb dX1_init_15 rfl (lv_at hl 0 rfl) ?_
  refine lv_iconst (v := 0) hx hb dX1_init_16 (by decide +kernel) ?_
  refine va_put (D := (dC, dI)) (ci := 1) (v := .int 0) (ty := .int) (C := RX1) (T := TX1) (N := 2) hx hb hts inlX1 tyX1 tyX1_ok nmX1 hown hK hP hD hS 0 rfl rfl 1 (by decide) (hts _ m_140) (fun _ h9 => h9) rfl (by decide +kernel) rfl rfl (Nat.le_of_ble_eq_true rfl) dX1_init_17 (fun H locs hP hD hS => ?_)
  have hP : va_P (dC, dI) classes [(h0, .inr (1, [.ref q_2, .int 0])), (q_2, .inl (cy 0, 12, .inl (fun _ => 0)))] H := hP
  have hD : va_D A [(h0, .inr (1, [.ref q_2, .int 0])), (q_2, .inl (cy 0, 12, .inl (fun _ => 0)))] := hD
  have hP9 := hP.sub (ws' := [(h0, .inr (1, [.ref q_2, .int 0]))]) [0] rfl
  have hD9 := hD.sub (ws' := [(h0, .inr (1, [.ref q_2, .int 0]))]) [0] (by decide) rfl
  exact W.vret hx hb hr (fun t ht hW => ⟨⟨(), rfl, trivial, q_2, by rw [ht]; exact hP9, hD9⟩, hS.F ht⟩) hS.2.2 dX1_init_20
set_option maxHeartbeats 4000000 in
set_option maxRecDepth 100000 in
theorem kX8_init_1 (l : Launch) (dC : Nat → ClassId) (dI : Nat → Nat → Nat) (cy : Nat → ClassId) (h0 : Nat) (sz : Nat) : Met l yX8_init wmX8_init ({ frames := 2, cells := 2, slots := 14, locals := 42 }) (va_Pc [.ref h0] (fun U => U.heap.size = sz ∧ va_P (dC, dI) classes [(h0, .inr (8, [.null, .int 0, .int 0]))] U.heap ∧ EV dC dI cy U ∧ va_D (fun _ => True) [(h0, .inr (8, [.null, .int 0, .int 0]))])) (va_Qv (S := Unit) (fun _ => True) (fun _ t => ∃ (q_1 : Nat) (q_3 : Nat), va_P (dC, dI) classes [(h0, .inr (8, [.ref q_1, .int 0, .int 0])), (q_1, .inr (1, [.ref q_3, .int 0]))] t.heap ∧ va_D (va_A [(h0, .inr (8, [.null, .int 0, .int 0]))] sz) [(h0, .inr (8, [.ref q_1, .int 0, .int 0])), (q_1, .inr (1, [.ref q_3, .int 0]))]) (va_A [(h0, .inr (8, [.null, .int 0, .int 0]))] sz)) 2 14 (va_A [(h0, .inr (8, [.null, .int 0, .int 0]))] sz) := by
  refine Met.ofW (cc := cX8_init) (maxL := 1) (ret := none) (by decide +kernel) rfl ?_
  intro p e s m args below meth c s₁ B hml hv
  obtain ⟨rfl, hsz, hP, hE, hD0⟩ := hv
  have hK := hE.1
  have hN := hE.2.1
  have hx := B.exec
  have hb := B.bytes
  have hr := B.returns
  have hts0 := atoms_spec (ws := wmX8_init) B.pre
  have hts : ∀ w ∈ wsL_law, w.before _ s = true := fun w h => hts0 w (List.mem_cons_of_mem _ h)
  have hown : s.vm.findClass RX8 = some m.cls := findClass_of_methodNamed B.named
  have hlocks := B.notSynchronized
  have hin : meth.name = "<init>" := (name_of_methodNamed B.named B.method).1
  subst hsz
  have hD := hD0.self (sz := s.heap.size)
  generalize hAe : va_A [(h0, .inr (8, [.null, .int 0, .int 0]))] s.heap.size = A at hD ⊢
  have hA : ∀ q : Nat, s.heap.size ≤ q → A q := fun q h => by rw [← hAe]; exact Or.inr h
  have hS : va_S A s.heap s.heap [] := va_S.rf
  have hP : va_P (dC, dI) classes [(h0, .inr (8, [.null, .int 0, .int 0]))] s.heap := hP
  have hl := lv_entry ([.ref h0]) (n := 1) (Nat.le_of_ble_eq_true rfl)
  rw [lg_entry_eq]
  generalize (lg_sl ([.ref h0]) ++ List.replicate (1 - (lg_sl ([.ref h0])).length) Slot.unset).toArray = ls at hl ⊢
  have hl : lv_has ls 1 [(0, .ref h0)] := hl
  refine lv_aload_n hx hb dX8_init_0 rfl (lv_at hl 0 rfl) ?_
  refine W.objInit hx hb hown (hts _ m_164) (hts _ m_10) (hts _ m_11) rfl (by rw [hml]; exact hl.1) rfl dX8_init_1 (Nat.le_of_ble_eq_true rfl) (Nat.le_of_ble_eq_true rfl) ?_
  refine W.eq (g2 := F0 m 4 ls []) rfl ?_
  refine lv_aload_n hx hb dX8_init_4 rfl (lv_at hl 0 rfl) ?_
  refine va_new (ci := 1) (fs := [.null, .int 0]) (C := RX1) (T := TX1) (N := 2) hx hb hts inlX1 tyX1 tyX1_ok hown (hts _ m_165) (hts _ m_37) (hts _ m_38) hK hP hD hS hA rfl dfX1 (show 0 + 1 ≤ 2 from by decide +kernel) (show 0 + 2 ≤ 14 from by decide +kernel) dX8_init_5 (fun q_1 H hP hD hS => ?_)
  have hP : va_P (dC, dI) classes [(h0, .inr (8, [.null, .int 0, .int 0])), (q_1, .inr (1, [.null, .int 0]))] H := hP
  have hD : va_D A [(h0, .inr (8, [.null, .int 0, .int 0])), (q_1, .inr (1, [.null, .int 0]))] := hD
  refine W.widen (k := 1) (n := 2) (by decide +kernel) (by decide +kernel) ?_
  refine lv_dup hx hb dX8_init_8 rfl ?_
  refine lv_bipush (v := 12) hx hb dX8_init_9 (by decide +kernel) ?_
  have hPc := hP.sub (ws' := [(q_1, .inr (1, [.null, .int 0]))]) [1] rfl
  have hDc := hD.sub (ws' := [(q_1, .inr (1, [.null, .int 0]))]) [1] (by decide) rfl
  have hFc := va_free (wc := [(q_1, .inr (1, [.null, .int 0]))]) hD hS hA [1] rfl
  refine va_callv (va_runI (As := [.int 12]) (rest := [.ref q_1, .ref h0]) ⟨hx, hb, hml, hown, hts⟩ (kX1_init_1 l dC dI cy q_1 H.size) (cwI 1 hts (gdI m_133) rfl rfl rfl (hts _ m_38) (hts _ m_169) (hts _ m_132) rfl (by decide +kernel) ⟨Nat.le_of_ble_eq_true rfl, Nat.le_of_ble_eq_true rfl⟩) ⟨fun a U g mk q => by obtain ⟨q0, q1, qP, qE, qD⟩ := q; exact ⟨q0, q1, qP, qE.call, qD⟩, fun U hU hW => ⟨rfl, by rw [hU], by rw [hU]; exact hPc, hE.moved hW, hDc.weaken (fun _ _ _ _ => trivial)⟩⟩ rfl rfl hl.1 rfl (lv_room (Nat.le_of_ble_eq_true rfl)) dX8_init_11 ⟨(show 1 + 1 ≤ 2 from by decide +kernel), (show 2 + 12 ≤ 14 from by decide +kernel)⟩) hS (fun q _ h => hFc q h) hFc (fun u t H1 locs ht hvm hw hB hz1 hk1 hS => ?_)
  obtain ⟨q_3, hP1, hD1⟩ := hB
  rw [ht] at hP1
  obtain ⟨hP, hD⟩ := va_join (wr := [(h0, .inr (8, [.null, .int 0, .int 0]))]) (w1 := [(q_1, .inr (1, [.ref q_3, .int 0]))]) hP hD [1] [0] rfl rfl (by decide) (by decide) hk1 hFc hP1 hD1
  generalize H1 = H at hP hS ⊢
  have hP : va_P (dC, dI) classes [(h0, .inr (8, [.null, .int 0, .int 0])), (q_1, .inr (1, [.ref q_3, .int 0]))] H := hP
  have hD : va_D A [(h0, .inr (8, [.null, .int 0, .int 0])), (q_1, .inr (1, [.ref q_3, .int 0]))] := hD
  refine W.widen (k := 2) (n := 14) (by decide +kernel) (by decide +kernel) ?_
  refine va_putF (D := (dC, dI)) (ci := 8) (v := .ref q_1) (ty := (tyX8 0)) (C := RX8) (T := TX8) (N := 3) hx hb hts inlX8 tyX8 tyX8_ok nmX8 hown hK hP hD hS 0 rfl rfl 0 (by decide) (hts _ m_166) (fun _ h9 => h9) rfl hin rfl (by decide +kernel) rfl rfl (Nat.le_of_ble_eq_true rfl) dX8_init_14 (fun H locs hP hD hS => ?_)
  have hP : va_P (dC, dI) classes [(h0, .inr (8, [.ref q_1, .int 0, .int 0])), (q_1, .inr (1, [.ref q_3, .int 0]))] H := hP
  have hD : va_D A [(h0, .inr (8, [.ref q_1, .int 0, .int 0])), (q_1, .inr (1, [.ref q_3, .int 0]))] := hD
  refine lv_aload_n hx hb dX8_init_17 rfl (lv_at hl 0 rfl) ?_
  refine lv_iconst (v := 0) hx hb dX8_init_18 (by decide +kernel) ?_
  refine va_put (D := (dC, dI)) (ci := 8) (v := .int 0) (ty := .int) (C := RX8) (T := TX8) (N := 3) hx hb hts inlX8 tyX8 tyX8_ok nmX8 hown hK hP hD hS 0 rfl rfl 1 (by decide) (hts _ m_167) (fun _ h9 => h9) rfl (by decide +kernel) rfl rfl (Nat.le_of_ble_eq_true rfl) dX8_init_19 (fun H locs hP hD hS => ?_)
  have hP : va_P (dC, dI) classes [(h0, .inr (8, [.ref q_1, .int 0, .int 0])), (q_1, .inr (1, [.ref q_3, .int 0]))] H := hP
  have hD : va_D A [(h0, .inr (8, [.ref q_1, .int 0, .int 0])), (q_1, .inr (1, [.ref q_3, .int 0]))] := hD
  refine lv_aload_n hx hb dX8_init_22 rfl (lv_at hl 0 rfl) ?_
  refine lv_iconst (v := 0) hx hb dX8_init_23 (by decide +kernel) ?_
  refine va_put (D := (dC, dI)) (ci := 8) (v := .int 0) (ty := .int) (C := RX8) (T := TX8) (N := 3) hx hb hts inlX8 tyX8 tyX8_ok nmX8 hown hK hP hD hS 0 rfl rfl 2 (by decide) (hts _ m_168) (fun _ h9 => h9) rfl (by decide +kernel) rfl rfl (Nat.le_of_ble_eq_true rfl) dX8_init_24 (fun H locs hP hD hS => ?_)
  have hP : va_P (dC, dI) classes [(h0, .inr (8, [.ref q_1, .int 0, .int 0])), (q_1, .inr (1, [.ref q_3, .int 0]))] H := hP
  have hD : va_D A [(h0, .inr (8, [.ref q_1, .int 0, .int 0])), (q_1, .inr (1, [.ref q_3, .int 0]))] := hD
  have hP9 := hP.sub (ws' := [(h0, .inr (8, [.ref q_1, .int 0, .int 0])), (q_1, .inr (1, [.ref q_3, .int 0]))]) [0, 1] rfl
  have hD9 := hD.sub (ws' := [(h0, .inr (8, [.ref q_1, .int 0, .int 0])), (q_1, .inr (1, [.ref q_3, .int 0]))]) [0, 1] (by decide) rfl
  exact W.vret hx hb hr (fun t ht hW => ⟨⟨(), rfl, trivial, q_1, q_3, by rw [ht]; exact hP9, hD9⟩, hS.F ht⟩) hS.2.2 dX8_init_27
set_option maxHeartbeats 4000000 in
set_option maxRecDepth 100000 in
theorem lpX5_init {p : Program} {l : Launch} {e : Env} {R : Room} {s : State} {m : MethodId} {args : Array Value} {below : List Frame} {meth : Method} {c : Code} {Q : State → Prop} {A : Nat → Prop} (dC : Nat → ClassId) (dI : Nat → Nat → Nat) (cy : Nat → ClassId) (h0 q_1 q_3 q_4 q_5 q_7 q_8 q_9 q_10 q_12 q_13 : Nat) (hx : p.tables.exec = Jvm.exec) (hb : c.code = cX5_init) (hml : c.maxLocals = 2) (hown : s.vm.findClass RX5 = some m.cls) (hts : ∀ w ∈ wsL_law, w.before args s = true) (hE : EV dC dI cy s) (hA : ∀ q : Nat, s.heap.size ≤ q → A q) (hRf : 3 ≤ R.frames) (hRl : 62 ≤ R.locals) (KC KS : Nat) (hRc : KC ≤ R.cells) (hRs : KS ≤ R.slots) (kk : ∀ (x : Int32) (g : Nat → Option Nat) (ls : Array Slot) (H : Heap) (locs : List Loc), g 0 = some q_10 → va_P (dC, dI) classes [(h0, .inr (5, [.ref q_1, .ref q_5, .ref q_9, .null, .null, .int 0, .int 0])), (q_1, .inr (8, [.ref q_3, .int 0, .int 0])), (q_3, .inr (1, [.ref q_4, .int 0])), (q_5, .inr (8, [.ref q_7, .int 0, .int 0])), (q_7, .inr (1, [.ref q_8, .int 0])), (q_9, .inl (cy 5, 41, .inr (.inr (.inr (.inr (g)))))), (q_10, .inr (8, [.ref q_12, .int 0, .int 0])), (q_12, .inr (1, [.ref q_13, .int 0]))] H → va_D A [(h0, .inr (5, [.ref q_1, .ref q_5, .ref q_9, .null, .null, .int 0, .int 0])), (q_1, .inr (8, [.ref q_3, .int 0, .int 0])), (q_3, .inr (1, [.ref q_4, .int 0])), (q_5, .inr (8, [.ref q_7, .int 0, .int 0])), (q_7, .inr (1, [.ref q_8, .int 0])), (q_9, .inl (cy 5, 41, .inr (.inr (.inr (.inr (g)))))), (q_10, .inr (8, [.ref q_12, .int 0, .int 0])), (q_12, .inr (1, [.ref q_13, .int 0]))] → va_S A s.heap H locs → lv_has ls 2 [(1, .int x), (0, .ref h0)] → W p l e R s m args below meth c H locs KC KS Q (F0 m 65 ls [])) : ∀ (n : Nat) (x : Int32) (g : Nat → Option Nat) (ls : Array Slot) (H : Heap) (locs : List Loc) (cells slots : Nat), 1 ≤ x → ((41 : Int32).toInt - x.toInt).toNat < n → cells + 3 * ((41 : Int32).toInt - x.toInt).toNat ≤ KC → slots + 17 * ((41 : Int32).toInt - x.toInt).toNat ≤ KS → g 0 = some q_10 → va_P (dC, dI) classes [(h0, .inr (5, [.ref q_1, .ref q_5, .ref q_9, .null, .null, .int 0, .int 0])), (q_1, .inr (8, [.ref q_3, .int 0, .int 0])), (q_3, .inr (1, [.ref q_4, .int 0])), (q_5, .inr (8, [.ref q_7, .int 0, .int 0])), (q_7, .inr (1, [.ref q_8, .int 0])), (q_9, .inl (cy 5, 41, .inr (.inr (.inr (.inr (g)))))), (q_10, .inr (8, [.ref q_12, .int 0, .int 0])), (q_12, .inr (1, [.ref q_13, .int 0]))] H → va_D A [(h0, .inr (5, [.ref q_1, .ref q_5, .ref q_9, .null, .null, .int 0, .int 0])), (q_1, .inr (8, [.ref q_3, .int 0, .int 0])), (q_3, .inr (1, [.ref q_4, .int 0])), (q_5, .inr (8, [.ref q_7, .int 0, .int 0])), (q_7, .inr (1, [.ref q_8, .int 0])), (q_9, .inl (cy 5, 41, .inr (.inr (.inr (.inr (g)))))), (q_10, .inr (8, [.ref q_12, .int 0, .int 0])), (q_12, .inr (1, [.ref q_13, .int 0]))] → va_S A s.heap H locs → lv_has ls 2 [(1, .int x), (0, .ref h0)] → W p l e R s m args below meth c H locs cells slots Q (F0 m 37 ls []) := by
  have hK := hE.1
  intro n
  induction n with
  | zero => intro x g ls H locs cells slots _ hm; exact absurd hm (Nat.not_lt_zero _)
  | succ n ih =>
    intro x g ls H locs cells slots hlo hm hc hs eg hP hD hS hl
    refine lv_iload_n hx hb dX5_init_37 rfl (lv_at hl 0 rfl) ?_
    refine lv_aload_n hx hb dX5_init_38 rfl (lv_at hl 1 rfl) ?_
    refine va_get (D := (dC, dI)) (ci := 5) (v := .ref q_9) (C := RX5) (T := TX5) (N := 7) hx hb hts inlX5 hown hK hP 0 rfl rfl 2 (by decide) (hts _ m_158) (fun _ h9 => h9) rfl dX5_init_39 ?_
    refine va_alen (v := 41) hx hb hK hP 5 5 rfl rfl rfl dX5_init_42 ?_
    refine lv_icmp_ge (tgt := 65) hx hb dX5_init_43 (by decide) (fun c_1 => ?_) (fun c_1 => ?_)
    · refine W.widen (k := KC) (n := KS) (by omega) (by omega) ?_
      exact kk x g ls _ _ eg hP hD hS hl
    have hlt : x < 41 := Int32.not_le.mp c_1
    obtain ⟨zx, ezx⟩ : ∃ z : Int32, z = x + Int32.ofInt 1 := ⟨_, rfl⟩
    obtain ⟨hs1, hs2⟩ := xl_step hlo hlt ezx hm
    have hk := xl_dec hlt ezx
    refine lv_aload_n hx hb dX5_init_46 rfl (lv_at hl 1 rfl) ?_
    refine va_get (D := (dC, dI)) (ci := 5) (v := .ref q_9) (C := RX5) (T := TX5) (N := 7) hx hb hts inlX5 hown hK hP 0 rfl rfl 2 (by decide) (hts _ m_158) (fun _ h9 => h9) rfl dX5_init_47 ?_
    refine lv_iload_n hx hb dX5_init_50 rfl (lv_at hl 0 rfl) ?_
    refine va_new (ci := 8) (fs := [.null, .int 0, .int 0]) (C := RX8) (T := TX8) (N := 3) hx hb hts inlX8 tyX8 tyX8_ok hown (hts _ m_153) (hts _ m_154) (hts _ m_155) hK hP hD hS hA rfl dfX8 (show cells + 1 ≤ R.cells by omega) (show slots + 3 ≤ R.slots by omega) dX5_init_51 (fun q_17 H hP hD hS => ?_)
    have hP : va_P (dC, dI) classes [(h0, .inr (5, [.ref q_1, .ref q_5, .ref q_9, .null, .null, .int 0, .int 0])), (q_1, .inr (8, [.ref q_3, .int 0, .int 0])), (q_3, .inr (1, [.ref q_4, .int 0])), (q_5, .inr (8, [.ref q_7, .int 0, .int 0])), (q_7, .inr (1, [.ref q_8, .int 0])), (q_9, .inl (cy 5, 41, .inr (.inr (.inr (.inr (g)))))), (q_10, .inr (8, [.ref q_12, .int 0, .int 0])), (q_12, .inr (1, [.ref q_13, .int 0])), (q_17, .inr (8, [.null, .int 0, .int 0]))] H := hP
    have hD : va_D A [(h0, .inr (5, [.ref q_1, .ref q_5, .ref q_9, .null, .null, .int 0, .int 0])), (q_1, .inr (8, [.ref q_3, .int 0, .int 0])), (q_3, .inr (1, [.ref q_4, .int 0])), (q_5, .inr (8, [.ref q_7, .int 0, .int 0])), (q_7, .inr (1, [.ref q_8, .int 0])), (q_9, .inl (cy 5, 41, .inr (.inr (.inr (.inr (g)))))), (q_10, .inr (8, [.ref q_12, .int 0, .int 0])), (q_12, .inr (1, [.ref q_13, .int 0])), (q_17, .inr (8, [.null, .int 0, .int 0]))] := hD
    refine lv_dup hx hb dX5_init_54 rfl ?_
    have hPc := hP.sub (ws' := [(q_17, .inr (8, [.null, .int 0, .int 0]))]) [8] rfl
    have hDc := hD.sub (ws' := [(q_17, .inr (8, [.null, .int 0, .int 0]))]) [8] (by decide) rfl
    have hFc := va_free (wc := [(q_17, .inr (8, [.null, .int 0, .int 0]))]) hD hS hA [8] rfl
    refine va_callv (va_runI (As := []) (rest := [.ref q_17, .int x, .ref q_9]) ⟨hx, hb, hml, hown, hts⟩ (kX8_init_1 l dC dI cy q_17 H.size) (cwI 0 hts (gdI m_163) rfl rfl rfl (hts _ m_155) (hts _ m_161) (hts _ m_162) rfl (by decide +kernel) ⟨Nat.le_trans (Nat.le_of_ble_eq_true rfl) hRf, Nat.le_trans (Nat.le_of_ble_eq_true rfl) hRl⟩) ⟨fun a U g mk q => by obtain ⟨q0, q1, qP, qE, qD⟩ := q; exact ⟨q0, q1, qP, qE.call, qD⟩, fun U hU hW => ⟨rfl, by rw [hU], by rw [hU]; exact hPc, hE.moved hW, hDc.weaken (fun _ _ _ _ => trivial)⟩⟩ rfl rfl hl.1 rfl (lv_room (Nat.le_of_ble_eq_true rfl)) dX5_init_55 ⟨(show cells + 1 + 2 ≤ R.cells by omega), (show slots + 3 + 14 ≤ R.slots by omega)⟩) hS (fun q _ h => hFc q h) hFc (fun u t H1 locs ht hvm hw hB hz1 hk1 hS => ?_)
    obtain ⟨q_19, q_20, hP1, hD1⟩ := hB
    rw [ht] at hP1
    obtain ⟨hP, hD⟩ := va_join (wr := [(h0, .inr (5, [.ref q_1, .ref q_5, .ref q_9, .null, .null, .int 0, .int 0])), (q_1, .inr (8, [.ref q_3, .int 0, .int 0])), (q_3, .inr (1, [.ref q_4, .int 0])), (q_5, .inr (8, [.ref q_7, .int 0, .int 0])), (q_7, .inr (1, [.ref q_8, .int 0])), (q_9, .inl (cy 5, 41, .inr (.inr (.inr (.inr (g)))))), (q_10, .inr (8, [.ref q_12, .int 0, .int 0])), (q_12, .inr (1, [.ref q_13, .int 0]))]) (w1 := [(q_17, .inr (8, [.ref q_19, .int 0, .int 0])), (q_19, .inr (1, [.ref q_20, .int 0]))]) hP hD [8] [0, 1, 2, 3, 4, 5, 6, 7] rfl rfl (by decide) (by decide) hk1 hFc hP1 hD1
    generalize H1 = H at hP hS ⊢
    have hP : va_P (dC, dI) classes [(h0, .inr (5, [.ref q_1, .ref q_5, .ref q_9, .null, .null, .int 0, .int 0])), (q_1, .inr (8, [.ref q_3, .int 0, .int 0])), (q_3, .inr (1, [.ref q_4, .int 0])), (q_5, .inr (8, [.ref q_7, .int 0, .int 0])), (q_7, .inr (1, [.ref q_8, .int 0])), (q_9, .inl (cy 5, 41, .inr (.inr (.inr (.inr (g)))))), (q_10, .inr (8, [.ref q_12, .int 0, .int 0])), (q_12, .inr (1, [.ref q_13, .int 0])), (q_17, .inr (8, [.ref q_19, .int 0, .int 0])), (q_19, .inr (1, [.ref q_20, .int 0]))] H := hP
    have hD : va_D A [(h0, .inr (5, [.ref q_1, .ref q_5, .ref q_9, .null, .null, .int 0, .int 0])), (q_1, .inr (8, [.ref q_3, .int 0, .int 0])), (q_3, .inr (1, [.ref q_4, .int 0])), (q_5, .inr (8, [.ref q_7, .int 0, .int 0])), (q_7, .inr (1, [.ref q_8, .int 0])), (q_9, .inl (cy 5, 41, .inr (.inr (.inr (.inr (g)))))), (q_10, .inr (8, [.ref q_12, .int 0, .int 0])), (q_12, .inr (1, [.ref q_13, .int 0])), (q_17, .inr (8, [.ref q_19, .int 0, .int 0])), (q_19, .inr (1, [.ref q_20, .int 0]))] := hD
    refine va_astq hx hb hK hP hD hS 5 5 8 8 rfl rfl rfl rfl (xa_vin41 hlo hlt) dX5_init_58 (fun H locs hP hD hS => ?_)
    obtain ⟨g2, eg2⟩ : ∃ h : Nat → Option Nat, h = va_up g (Int32.toNatClampNeg x) (some q_17) := ⟨_, rfl⟩
    rw [← eg2] at hP hD
    have eg3 : g2 0 = some q_10 := by rw [eg2]; exact (va_up_ne _ _ (xa_cl hlo)).trans eg
    have hP : va_P (dC, dI) classes [(h0, .inr (5, [.ref q_1, .ref q_5, .ref q_9, .null, .null, .int 0, .int 0])), (q_1, .inr (8, [.ref q_3, .int 0, .int 0])), (q_3, .inr (1, [.ref q_4, .int 0])), (q_5, .inr (8, [.ref q_7, .int 0, .int 0])), (q_7, .inr (1, [.ref q_8, .int 0])), (q_9, .inl (cy 5, 41, .inr (.inr (.inr (.inr (g2)))))), (q_10, .inr (8, [.ref q_12, .int 0, .int 0])), (q_12, .inr (1, [.ref q_13, .int 0])), (q_17, .inr (8, [.ref q_19, .int 0, .int 0])), (q_19, .inr (1, [.ref q_20, .int 0]))] H := hP
    have hD : va_D A [(h0, .inr (5, [.ref q_1, .ref q_5, .ref q_9, .null, .null, .int 0, .int 0])), (q_1, .inr (8, [.ref q_3, .int 0, .int 0])), (q_3, .inr (1, [.ref q_4, .int 0])), (q_5, .inr (8, [.ref q_7, .int 0, .int 0])), (q_7, .inr (1, [.ref q_8, .int 0])), (q_9, .inl (cy 5, 41, .inr (.inr (.inr (.inr (g2)))))), (q_10, .inr (8, [.ref q_12, .int 0, .int 0])), (q_12, .inr (1, [.ref q_13, .int 0])), (q_17, .inr (8, [.ref q_19, .int 0, .int 0])), (q_19, .inr (1, [.ref q_20, .int 0]))] := hD
    refine lv_iinc (v := zx) (lv' := [(1, .int zx), (0, .ref h0)]) hx hb dX5_init_59 hl (k := 0) rfl (by rw [ezx]) (by decide) rfl (fun ls hl => ?_)
    refine lv_goto (tgt := 37) hx hb dX5_init_62 (by decide) ?_
    exact ih zx g2 ls _ _ (cells + 1 + 2) (slots + 3 + 14) hs1 hs2 (by omega) (by omega) eg3 (hP.sub [0, 1, 2, 3, 4, 5, 6, 7] rfl) (hD.sub [0, 1, 2, 3, 4, 5, 6, 7] (by decide) rfl) hS hl
set_option maxHeartbeats 4000000 in
set_option maxRecDepth 100000 in
theorem kX1_init_2 (l : Launch) (dC : Nat → ClassId) (dI : Nat → Nat → Nat) (cy : Nat → ClassId) (h0 : Nat) (sz : Nat) : Met l yX1_init wmX1_init ({ frames := 1, cells := 1, slots := 8, locals := 21 }) (va_Pc [.ref h0, .int 8] (fun U => U.heap.size = sz ∧ va_P (dC, dI) classes [(h0, .inr (1, [.null, .int 0]))] U.heap ∧ EV dC dI cy U ∧ va_D (fun _ => True) [(h0, .inr (1, [.null, .int 0]))])) (va_Qv (S := Unit) (fun _ => True) (fun _ t => ∃ (q_2 : Nat), va_P (dC, dI) classes [(h0, .inr (1, [.ref q_2, .int 0]))] t.heap ∧ va_D (va_A [(h0, .inr (1, [.null, .int 0]))] sz) [(h0, .inr (1, [.ref q_2, .int 0]))]) (va_A [(h0, .inr (1, [.null, .int 0]))] sz)) 1 8 (va_A [(h0, .inr (1, [.null, .int 0]))] sz) := by
  refine Met.ofW (cc := cX1_init) (maxL := 2) (ret := none) (by decide +kernel) rfl ?_
  intro p e s m args below meth c s₁ B hml hv
  obtain ⟨rfl, hsz, hP, hE, hD0⟩ := hv
  have hK := hE.1
  have hN := hE.2.1
  have hx := B.exec
  have hb := B.bytes
  have hr := B.returns
  have hts0 := atoms_spec (ws := wmX1_init) B.pre
  have hts : ∀ w ∈ wsL_law, w.before _ s = true := fun w h => hts0 w (List.mem_cons_of_mem _ h)
  have hown : s.vm.findClass RX1 = some m.cls := findClass_of_methodNamed B.named
  have hlocks := B.notSynchronized
  have hin : meth.name = "<init>" := (name_of_methodNamed B.named B.method).1
  subst hsz
  have hD := hD0.self (sz := s.heap.size)
  generalize hAe : va_A [(h0, .inr (1, [.null, .int 0]))] s.heap.size = A at hD ⊢
  have hA : ∀ q : Nat, s.heap.size ≤ q → A q := fun q h => by rw [← hAe]; exact Or.inr h
  have hS : va_S A s.heap s.heap [] := va_S.rf
  have hP : va_P (dC, dI) classes [(h0, .inr (1, [.null, .int 0]))] s.heap := hP
  have hl := lv_entry ([.ref h0, .int 8]) (n := 2) (Nat.le_of_ble_eq_true rfl)
  rw [lg_entry_eq]
  generalize (lg_sl ([.ref h0, .int 8]) ++ List.replicate (2 - (lg_sl ([.ref h0, .int 8])).length) Slot.unset).toArray = ls at hl ⊢
  have hl : lv_has ls 2 [(0, .ref h0), (1, .int 8)] := hl
  refine lv_aload_n hx hb dX1_init_0 rfl (lv_at hl 0 rfl) ?_
  refine W.objInit hx hb hown (hts _ m_134) (hts _ m_10) (hts _ m_11) rfl (by rw [hml]; exact hl.1) rfl dX1_init_1 (Nat.le_of_ble_eq_true rfl) (Nat.le_of_ble_eq_true rfl) ?_
  refine W.eq (g2 := F0 m 4 ls []) rfl ?_
  refine lv_aload_n hx hb dX1_init_4 rfl (lv_at hl 0 rfl) ?_
  refine lv_iload_n hx hb dX1_init_5 rfl (lv_at hl 1 rfl) ?_
  refine lv_iconst (v := 0) hx hb dX1_init_6 (by decide +kernel) ?_
  refine va_mmax hx hb (by rw [hml]; exact hl.1.symm) hown (hts _ m_135) (hts _ m_136) (hts _ m_137) (hts _ m_138) (Nat.le_of_ble_eq_true rfl) (Nat.le_of_ble_eq_true rfl) (Nat.le_of_ble_eq_true rfl) (Nat.le_of_ble_eq_true rfl) dX1_init_7 ?_
  refine lv_topi (fun z_1 ez_1 => ?_)
  obtain rfl : z_1 = 8 := ez_1.trans (by decide +kernel)
  refine xa_newa (atype := .int) (ty := .int) (c0 := cy 0) (a0 := (8, .inl (fun _ => 0))) hx hb (hts _ m_119) rfl hK 0 rfl hP hD hS hA (xa_zI 8) (by decide +kernel) (by decide +kernel) (by decide +kernel) (show 0 + 1 ≤ 1 from by decide +kernel) (show 0 + 8 ≤ 8 from by decide +kernel) dX1_init_10 (fun q_2 H hP hD hS => ?_)
  have hP : va_P (dC, dI) classes [(h0, .inr (1, [.null, .int 0])), (q_2, .inl (cy 0, 8, .inl (fun _ => 0)))] H := hP
  have hD : va_D A [(h0, .inr (1, [.null, .int 0])), (q_2, .inl (cy 0, 8, .inl (fun _ => 0)))] := hD
  refine W.widen (k := 1) (n := 8) (by decide +kernel) (by decide +kernel) ?_
  refine va_putF (D := (dC, dI)) (ci := 1) (v := .ref q_2) (ty := (tyX1 0)) (C := RX1) (T := TX1) (N := 2) hx hb hts inlX1 tyX1 tyX1_ok nmX1 hown hK hP hD hS 0 rfl rfl 0 (by decide) (hts _ m_139) (fun _ h9 => h9) rfl hin rfl (by decide +kernel) rfl rfl (Nat.le_of_ble_eq_true rfl) dX1_init_12 (fun H locs hP hD hS => ?_)
  have hP : va_P (dC, dI) classes [(h0, .inr (1, [.ref q_2, .int 0])), (q_2, .inl (cy 0, 8, .inl (fun _ => 0)))] H := hP
  have hD : va_D A [(h0, .inr (1, [.ref q_2, .int 0])), (q_2, .inl (cy 0, 8, .inl (fun _ => 0)))] := hD
  refine lv_aload_n hx hb dX1_init_15 rfl (lv_at hl 0 rfl) ?_
  refine lv_iconst (v := 0) hx hb dX1_init_16 (by decide +kernel) ?_
  refine va_put (D := (dC, dI)) (ci := 1) (v := .int 0) (ty := .int) (C := RX1) (T := TX1) (N := 2) hx hb hts inlX1 tyX1 tyX1_ok nmX1 hown hK hP hD hS 0 rfl rfl 1 (by decide) (hts _ m_140) (fun _ h9 => h9) rfl (by decide +kernel) rfl rfl (Nat.le_of_ble_eq_true rfl) dX1_init_17 (fun H locs hP hD hS => ?_)
  have hP : va_P (dC, dI) classes [(h0, .inr (1, [.ref q_2, .int 0])), (q_2, .inl (cy 0, 8, .inl (fun _ => 0)))] H := hP
  have hD : va_D A [(h0, .inr (1, [.ref q_2, .int 0])), (q_2, .inl (cy 0, 8, .inl (fun _ => 0)))] := hD
  have hP9 := hP.sub (ws' := [(h0, .inr (1, [.ref q_2, .int 0]))]) [0] rfl
  have hD9 := hD.sub (ws' := [(h0, .inr (1, [.ref q_2, .int 0]))]) [0] (by decide) rfl
  exact W.vret hx hb hr (fun t ht hW => ⟨⟨(), rfl, trivial, q_2, by rw [ht]; exact hP9, hD9⟩, hS.F ht⟩) hS.2.2 dX1_init_20
set_option maxHeartbeats 4000000 in
set_option maxRecDepth 100000 in
theorem kX0_init_1 (l : Launch) (dC : Nat → ClassId) (dI : Nat → Nat → Nat) (cy : Nat → ClassId) (h0 : Nat) (sz : Nat) : Met l yX0_init wmX0_init ({ frames := 1, cells := 4, slots := 1094, locals := 20 }) (va_Pc [.ref h0] (fun U => U.heap.size = sz ∧ va_P (dC, dI) classes [(h0, .inr (0, [.null, .null, .null, .null, .int 0, .int 0, .int 0, .int 0]))] U.heap ∧ EV dC dI cy U ∧ va_D (fun _ => True) [(h0, .inr (0, [.null, .null, .null, .null, .int 0, .int 0, .int 0, .int 0]))])) (va_Qv (S := Unit) (fun _ => True) (fun _ t => ∃ (q_1 : Nat) (q_2 : Nat) (q_3 : Nat) (q_4 : Nat), va_P (dC, dI) classes [(h0, .inr (0, [.ref q_1, .ref q_2, .ref q_3, .ref q_4, .int 0, .int 0, .int 0, .int 0]))] t.heap ∧ va_D (va_A [(h0, .inr (0, [.null, .null, .null, .null, .int 0, .int 0, .int 0, .int 0]))] sz) [(h0, .inr (0, [.ref q_1, .ref q_2, .ref q_3, .ref q_4, .int 0, .int 0, .int 0, .int 0]))]) (va_A [(h0, .inr (0, [.null, .null, .null, .null, .int 0, .int 0, .int 0, .int 0]))] sz)) 4 1094 (va_A [(h0, .inr (0, [.null, .null, .null, .null, .int 0, .int 0, .int 0, .int 0]))] sz) := by
  refine Met.ofW (cc := cX0_init) (maxL := 1) (ret := none) (by decide +kernel) rfl ?_
  intro p e s m args below meth c s₁ B hml hv
  obtain ⟨rfl, hsz, hP, hE, hD0⟩ := hv
  have hK := hE.1
  have hN := hE.2.1
  have hx := B.exec
  have hb := B.bytes
  have hr := B.returns
  have hts0 := atoms_spec (ws := wmX0_init) B.pre
  have hts : ∀ w ∈ wsL_law, w.before _ s = true := fun w h => hts0 w (List.mem_cons_of_mem _ h)
  have hown : s.vm.findClass RX0 = some m.cls := findClass_of_methodNamed B.named
  have hlocks := B.notSynchronized
  have hin : meth.name = "<init>" := (name_of_methodNamed B.named B.method).1
  subst hsz
  have hD := hD0.self (sz := s.heap.size)
  generalize hAe : va_A [(h0, .inr (0, [.null, .null, .null, .null, .int 0, .int 0, .int 0, .int 0]))] s.heap.size = A at hD ⊢
  have hA : ∀ q : Nat, s.heap.size ≤ q → A q := fun q h => by rw [← hAe]; exact Or.inr h
  have hS : va_S A s.heap s.heap [] := va_S.rf
  have hP : va_P (dC, dI) classes [(h0, .inr (0, [.null, .null, .null, .null, .int 0, .int 0, .int 0, .int 0]))] s.heap := hP
  have hl := lv_entry ([.ref h0]) (n := 1) (Nat.le_of_ble_eq_true rfl)
  rw [lg_entry_eq]
  generalize (lg_sl ([.ref h0]) ++ List.replicate (1 - (lg_sl ([.ref h0])).length) Slot.unset).toArray = ls at hl ⊢
  have hl : lv_has ls 1 [(0, .ref h0)] := hl
  refine lv_aload_n hx hb dX0_init_0 rfl (lv_at hl 0 rfl) ?_
  refine W.objInit hx hb hown (hts _ m_144) (hts _ m_10) (hts _ m_11) rfl (by rw [hml]; exact hl.1) rfl dX0_init_1 (Nat.le_of_ble_eq_true rfl) (Nat.le_of_ble_eq_true rfl) ?_
  refine W.eq (g2 := F0 m 4 ls []) rfl ?_
  refine lv_aload_n hx hb dX0_init_4 rfl (lv_at hl 0 rfl) ?_
  refine lv_sipush (v := 512) hx hb dX0_init_5 (by decide +kernel) ?_
  refine xa_newa (atype := .int) (ty := .int) (c0 := cy 0) (a0 := (512, .inl (fun _ => 0))) hx hb (hts _ m_119) rfl hK 0 rfl hP hD hS hA (xa_zI 512) (by decide +kernel) (by decide +kernel) (by decide +kernel) (show 0 + 1 ≤ 4 from by decide +kernel) (show 0 + 512 ≤ 1094 from by decide +kernel) dX0_init_8 (fun q_1 H hP hD hS => ?_)
  have hP : va_P (dC, dI) classes [(h0, .inr (0, [.null, .null, .null, .null, .int 0, .int 0, .int 0, .int 0])), (q_1, .inl (cy 0, 512, .inl (fun _ => 0)))] H := hP
  have hD : va_D A [(h0, .inr (0, [.null, .null, .null, .null, .int 0, .int 0, .int 0, .int 0])), (q_1, .inl (cy 0, 512, .inl (fun _ => 0)))] := hD
  refine W.widen (k := 1) (n := 512) (by decide +kernel) (by decide +kernel) ?_
  refine va_putF (D := (dC, dI)) (ci := 0) (v := .ref q_1) (ty := (tyX0 0)) (C := RX0) (T := TX0) (N := 8) hx hb hts inlX0 tyX0 tyX0_ok nmX0 hown hK hP hD hS 0 rfl rfl 0 (by decide) (hts _ m_145) (fun _ h9 => h9) rfl hin rfl (by decide +kernel) rfl rfl (Nat.le_of_ble_eq_true rfl) dX0_init_10 (fun H locs hP hD hS => ?_)
  have hP : va_P (dC, dI) classes [(h0, .inr (0, [.ref q_1, .null, .null, .null, .int 0, .int 0, .int 0, .int 0])), (q_1, .inl (cy 0, 512, .inl (fun _ => 0)))] H := hP
  have hD : va_D A [(h0, .inr (0, [.ref q_1, .null, .null, .null, .int 0, .int 0, .int 0, .int 0])), (q_1, .inl (cy 0, 512, .inl (fun _ => 0)))] := hD
  refine lv_aload_n hx hb dX0_init_13 rfl (lv_at hl 0 rfl) ?_
  refine lv_sipush (v := 512) hx hb dX0_init_14 (by decide +kernel) ?_
  refine xa_newa (atype := .int) (ty := .int) (c0 := cy 0) (a0 := (512, .inl (fun _ => 0))) hx hb (hts _ m_119) rfl hK 0 rfl hP hD hS hA (xa_zI 512) (by decide +kernel) (by decide +kernel) (by decide +kernel) (show 1 + 1 ≤ 4 from by decide +kernel) (show 512 + 512 ≤ 1094 from by decide +kernel) dX0_init_17 (fun q_2 H hP hD hS => ?_)
  have hP : va_P (dC, dI) classes [(h0, .inr (0, [.ref q_1, .null, .null, .null, .int 0, .int 0, .int 0, .int 0])), (q_1, .inl (cy 0, 512, .inl (fun _ => 0))), (q_2, .inl (cy 0, 512, .inl (fun _ => 0)))] H := hP
  have hD : va_D A [(h0, .inr (0, [.ref q_1, .null, .null, .null, .int 0, .int 0, .int 0, .int 0])), (q_1, .inl (cy 0, 512, .inl (fun _ => 0))), (q_2, .inl (cy 0, 512, .inl (fun _ => 0)))] := hD
  refine W.widen (k := 2) (n := 1024) (by decide +kernel) (by decide +kernel) ?_
  refine va_putF (D := (dC, dI)) (ci := 0) (v := .ref q_2) (ty := (tyX0 1)) (C := RX0) (T := TX0) (N := 8) hx hb hts inlX0 tyX0 tyX0_ok nmX0 hown hK hP hD hS 0 rfl rfl 1 (by decide) (hts _ m_146) (fun _ h9 => h9) rfl hin rfl (by decide +kernel) rfl rfl (Nat.le_of_ble_eq_true rfl) dX0_init_19 (fun H locs hP hD hS => ?_)
  have hP : va_P (dC, dI) classes [(h0, .inr (0, [.ref q_1, .ref q_2, .null, .null, .int 0, .int 0, .int 0, .int 0])), (q_1, .inl (cy 0, 512, .inl (fun _ => 0))), (q_2, .inl (cy 0, 512, .inl (fun _ => 0)))] H := hP
  have hD : va_D A [(h0, .inr (0, [.ref q_1, .ref q_2, .null, .null, .int 0, .int 0, .int 0, .int 0])), (q_1, .inl (cy 0, 512, .inl (fun _ => 0))), (q_2, .inl (cy 0, 512, .inl (fun _ => 0)))] := hD
  refine lv_aload_n hx hb dX0_init_22 rfl (lv_at hl 0 rfl) ?_
  refine lv_bipush (v := 64) hx hb dX0_init_23 (by decide +kernel) ?_
  refine xa_newa (atype := .int) (ty := .int) (c0 := cy 0) (a0 := (64, .inl (fun _ => 0))) hx hb (hts _ m_119) rfl hK 0 rfl hP hD hS hA (xa_zI 64) (by decide +kernel) (by decide +kernel) (by decide +kernel) (show 2 + 1 ≤ 4 from by decide +kernel) (show 1024 + 64 ≤ 1094 from by decide +kernel) dX0_init_25 (fun q_3 H hP hD hS => ?_)
  have hP : va_P (dC, dI) classes [(h0, .inr (0, [.ref q_1, .ref q_2, .null, .null, .int 0, .int 0, .int 0, .int 0])), (q_1, .inl (cy 0, 512, .inl (fun _ => 0))), (q_2, .inl (cy 0, 512, .inl (fun _ => 0))), (q_3, .inl (cy 0, 64, .inl (fun _ => 0)))] H := hP
  have hD : va_D A [(h0, .inr (0, [.ref q_1, .ref q_2, .null, .null, .int 0, .int 0, .int 0, .int 0])), (q_1, .inl (cy 0, 512, .inl (fun _ => 0))), (q_2, .inl (cy 0, 512, .inl (fun _ => 0))), (q_3, .inl (cy 0, 64, .inl (fun _ => 0)))] := hD
  refine W.widen (k := 3) (n := 1088) (by decide +kernel) (by decide +kernel) ?_
  refine va_putF (D := (dC, dI)) (ci := 0) (v := .ref q_3) (ty := (tyX0 2)) (C := RX0) (T := TX0) (N := 8) hx hb hts inlX0 tyX0 tyX0_ok nmX0 hown hK hP hD hS 0 rfl rfl 2 (by decide) (hts _ m_147) (fun _ h9 => h9) rfl hin rfl (by decide +kernel) rfl rfl (Nat.le_of_ble_eq_true rfl) dX0_init_27 (fun H locs hP hD hS => ?_)
  have hP : va_P (dC, dI) classes [(h0, .inr (0, [.ref q_1, .ref q_2, .ref q_3, .null, .int 0, .int 0, .int 0, .int 0])), (q_1, .inl (cy 0, 512, .inl (fun _ => 0))), (q_2, .inl (cy 0, 512, .inl (fun _ => 0))), (q_3, .inl (cy 0, 64, .inl (fun _ => 0)))] H := hP
  have hD : va_D A [(h0, .inr (0, [.ref q_1, .ref q_2, .ref q_3, .null, .int 0, .int 0, .int 0, .int 0])), (q_1, .inl (cy 0, 512, .inl (fun _ => 0))), (q_2, .inl (cy 0, 512, .inl (fun _ => 0))), (q_3, .inl (cy 0, 64, .inl (fun _ => 0)))] := hD
  refine lv_aload_n hx hb dX0_init_30 rfl (lv_at hl 0 rfl) ?_
  refine lv_bipush (v := 6) hx hb dX0_init_31 (by decide +kernel) ?_
  refine xa_newa (atype := .int) (ty := .int) (c0 := cy 0) (a0 := (6, .inl (fun _ => 0))) hx hb (hts _ m_119) rfl hK 0 rfl hP hD hS hA (xa_zI 6) (by decide +kernel) (by decide +kernel) (by decide +kernel) (show 3 + 1 ≤ 4 from by decide +kernel) (show 1088 + 6 ≤ 1094 from by decide +kernel) dX0_init_33 (fun q_4 H hP hD hS => ?_)
  have hP : va_P (dC, dI) classes [(h0, .inr (0, [.ref q_1, .ref q_2, .ref q_3, .null, .int 0, .int 0, .int 0, .int 0])), (q_1, .inl (cy 0, 512, .inl (fun _ => 0))), (q_2, .inl (cy 0, 512, .inl (fun _ => 0))), (q_3, .inl (cy 0, 64, .inl (fun _ => 0))), (q_4, .inl (cy 0, 6, .inl (fun _ => 0)))] H := hP
  have hD : va_D A [(h0, .inr (0, [.ref q_1, .ref q_2, .ref q_3, .null, .int 0, .int 0, .int 0, .int 0])), (q_1, .inl (cy 0, 512, .inl (fun _ => 0))), (q_2, .inl (cy 0, 512, .inl (fun _ => 0))), (q_3, .inl (cy 0, 64, .inl (fun _ => 0))), (q_4, .inl (cy 0, 6, .inl (fun _ => 0)))] := hD
  refine W.widen (k := 4) (n := 1094) (by decide +kernel) (by decide +kernel) ?_
  refine va_putF (D := (dC, dI)) (ci := 0) (v := .ref q_4) (ty := (tyX0 3)) (C := RX0) (T := TX0) (N := 8) hx hb hts inlX0 tyX0 tyX0_ok nmX0 hown hK hP hD hS 0 rfl rfl 3 (by decide) (hts _ m_148) (fun _ h9 => h9) rfl hin rfl (by decide +kernel) rfl rfl (Nat.le_of_ble_eq_true rfl) dX0_init_35 (fun H locs hP hD hS => ?_)
  have hP : va_P (dC, dI) classes [(h0, .inr (0, [.ref q_1, .ref q_2, .ref q_3, .ref q_4, .int 0, .int 0, .int 0, .int 0])), (q_1, .inl (cy 0, 512, .inl (fun _ => 0))), (q_2, .inl (cy 0, 512, .inl (fun _ => 0))), (q_3, .inl (cy 0, 64, .inl (fun _ => 0))), (q_4, .inl (cy 0, 6, .inl (fun _ => 0)))] H := hP
  have hD : va_D A [(h0, .inr (0, [.ref q_1, .ref q_2, .ref q_3, .ref q_4, .int 0, .int 0, .int 0, .int 0])), (q_1, .inl (cy 0, 512, .inl (fun _ => 0))), (q_2, .inl (cy 0, 512, .inl (fun _ => 0))), (q_3, .inl (cy 0, 64, .inl (fun _ => 0))), (q_4, .inl (cy 0, 6, .inl (fun _ => 0)))] := hD
  have hP9 := hP.sub (ws' := [(h0, .inr (0, [.ref q_1, .ref q_2, .ref q_3, .ref q_4, .int 0, .int 0, .int 0, .int 0]))]) [0] rfl
  have hD9 := hD.sub (ws' := [(h0, .inr (0, [.ref q_1, .ref q_2, .ref q_3, .ref q_4, .int 0, .int 0, .int 0, .int 0]))]) [0] (by decide) rfl
  exact W.vret hx hb hr (fun t ht hW => ⟨⟨(), rfl, trivial, q_1, q_2, q_3, q_4, by rw [ht]; exact hP9, hD9⟩, hS.F ht⟩) hS.2.2 dX0_init_38
set_option maxHeartbeats 4000000 in
set_option maxRecDepth 100000 in
theorem kX10_init_1 (l : Launch) (dC : Nat → ClassId) (dI : Nat → Nat → Nat) (cy : Nat → ClassId) (h0 : Nat) (sz : Nat) : Met l yX10_init wmX10_init ({ frames := 2, cells := 22, slots := 1351, locals := 42 }) (va_Pc [.ref h0] (fun U => U.heap.size = sz ∧ va_P (dC, dI) classes [(h0, .inr (10, [.null, .null, .null, .null, .null, .null, .null, .int 0, .int 0, .int 0, .int 0, .int 0]))] U.heap ∧ EV dC dI cy U ∧ va_D (fun _ => True) [(h0, .inr (10, [.null, .null, .null, .null, .null, .null, .null, .int 0, .int 0, .int 0, .int 0, .int 0]))])) (va_Qv (S := Unit) (fun _ => True) (fun _ t => ∃ (q_1 : Nat) (q_2 : Nat) (q_3 : Nat) (q_4 : Nat) (q_5 : Nat) (q_8 : Nat) (q_39 : Nat) (q_7 : Nat) (q_41 : Nat) (q_42 : Nat) (q_43 : Nat) (q_44 : Nat), va_P (dC, dI) classes [(h0, .inr (10, [.ref q_1, .ref q_2, .ref q_3, .ref q_4, .ref q_5, .ref q_8, .ref q_39, .int 0, .int 0, .int 0, .int 0, .int 0])), (q_3, .inl (cy 0, 81, .inl (fun _ => 0))), (q_4, .inl (cy 3, 81, .inl (fun _ => 0))), (q_5, .inr (1, [.ref q_7, .int 0])), (q_39, .inr (0, [.ref q_41, .ref q_42, .ref q_43, .ref q_44, .int 0, .int 0, .int 0, .int 0]))] t.heap ∧ va_D (va_A [(h0, .inr (10, [.null, .null, .null, .null, .null, .null, .null, .int 0, .int 0, .int 0, .int 0, .int 0]))] sz) [(h0, .inr (10, [.ref q_1, .ref q_2, .ref q_3, .ref q_4, .ref q_5, .ref q_8, .ref q_39, .int 0, .int 0, .int 0, .int 0, .int 0])), (q_3, .inl (cy 0, 81, .inl (fun _ => 0))), (q_4, .inl (cy 3, 81, .inl (fun _ => 0))), (q_5, .inr (1, [.ref q_7, .int 0])), (q_39, .inr (0, [.ref q_41, .ref q_42, .ref q_43, .ref q_44, .int 0, .int 0, .int 0, .int 0]))]) (va_A [(h0, .inr (10, [.null, .null, .null, .null, .null, .null, .null, .int 0, .int 0, .int 0, .int 0, .int 0]))] sz)) 22 1351 (va_A [(h0, .inr (10, [.null, .null, .null, .null, .null, .null, .null, .int 0, .int 0, .int 0, .int 0, .int 0]))] sz) := by
  refine Met.ofW (cc := cX10_init) (maxL := 2) (ret := none) (by decide +kernel) rfl ?_
  intro p e s m args below meth c s₁ B hml hv
  obtain ⟨rfl, hsz, hP, hE, hD0⟩ := hv
  have hK := hE.1
  have hN := hE.2.1
  have hx := B.exec
  have hb := B.bytes
  have hr := B.returns
  have hts0 := atoms_spec (ws := wmX10_init) B.pre
  have hts : ∀ w ∈ wsL_law, w.before _ s = true := fun w h => hts0 w (List.mem_cons_of_mem _ h)
  have hown : s.vm.findClass RX10 = some m.cls := findClass_of_methodNamed B.named
  have hlocks := B.notSynchronized
  have hin : meth.name = "<init>" := (name_of_methodNamed B.named B.method).1
  subst hsz
  have hD := hD0.self (sz := s.heap.size)
  generalize hAe : va_A [(h0, .inr (10, [.null, .null, .null, .null, .null, .null, .null, .int 0, .int 0, .int 0, .int 0, .int 0]))] s.heap.size = A at hD ⊢
  have hA : ∀ q : Nat, s.heap.size ≤ q → A q := fun q h => by rw [← hAe]; exact Or.inr h
  have hS : va_S A s.heap s.heap [] := va_S.rf
  have hP : va_P (dC, dI) classes [(h0, .inr (10, [.null, .null, .null, .null, .null, .null, .null, .int 0, .int 0, .int 0, .int 0, .int 0]))] s.heap := hP
  have hl := lv_entry ([.ref h0]) (n := 2) (Nat.le_of_ble_eq_true rfl)
  rw [lg_entry_eq]
  generalize (lg_sl ([.ref h0]) ++ List.replicate (2 - (lg_sl ([.ref h0])).length) Slot.unset).toArray = ls at hl ⊢
  have hl : lv_has ls 2 [(0, .ref h0)] := hl
  refine lv_aload_n hx hb dX10_init_0 rfl (lv_at hl 0 rfl) ?_
  refine W.objInit hx hb hown (hts _ m_117) (hts _ m_10) (hts _ m_11) rfl (by rw [hml]; exact hl.1) rfl dX10_init_1 (Nat.le_of_ble_eq_true rfl) (Nat.le_of_ble_eq_true rfl) ?_
  refine W.eq (g2 := F0 m 4 ls []) rfl ?_
  refine lv_aload_n hx hb dX10_init_4 rfl (lv_at hl 0 rfl) ?_
  refine lv_bipush (v := 9) hx hb dX10_init_5 (by decide +kernel) ?_
  refine xa_newa (atype := .long) (ty := .long) (c0 := cy 1) (a0 := (9, .inr (.inl (fun _ => 0)))) hx hb (hts _ m_63) rfl hK 1 rfl hP hD hS hA (xa_zJ 9) (by decide +kernel) (by decide +kernel) (by decide +kernel) (show 0 + 1 ≤ 22 from by decide +kernel) (show 0 + 9 ≤ 1351 from by decide +kernel) dX10_init_7 (fun q_1 H hP hD hS => ?_)
  have hP : va_P (dC, dI) classes [(h0, .inr (10, [.null, .null, .null, .null, .null, .null, .null, .int 0, .int 0, .int 0, .int 0, .int 0])), (q_1, .inl (cy 1, 9, .inr (.inl (fun _ => 0))))] H := hP
  have hD : va_D A [(h0, .inr (10, [.null, .null, .null, .null, .null, .null, .null, .int 0, .int 0, .int 0, .int 0, .int 0])), (q_1, .inl (cy 1, 9, .inr (.inl (fun _ => 0))))] := hD
  refine W.widen (k := 1) (n := 9) (by decide +kernel) (by decide +kernel) ?_
  refine va_putF (D := (dC, dI)) (ci := 10) (v := .ref q_1) (ty := (tyX10 0)) (C := RX10) (T := TX10) (N := 12) hx hb hts inlX10 tyX10 tyX10_ok nmX10 hown hK hP hD hS 0 rfl rfl 0 (by decide) (hts _ m_118) (fun _ h9 => h9) rfl hin rfl (by decide +kernel) rfl rfl (Nat.le_of_ble_eq_true rfl) dX10_init_9 (fun H locs hP hD hS => ?_)
  have hP : va_P (dC, dI) classes [(h0, .inr (10, [.ref q_1, .null, .null, .null, .null, .null, .null, .int 0, .int 0, .int 0, .int 0, .int 0])), (q_1, .inl (cy 1, 9, .inr (.inl (fun _ => 0))))] H := hP
  have hD : va_D A [(h0, .inr (10, [.ref q_1, .null, .null, .null, .null, .null, .null, .int 0, .int 0, .int 0, .int 0, .int 0])), (q_1, .inl (cy 1, 9, .inr (.inl (fun _ => 0))))] := hD
  refine lv_aload_n hx hb dX10_init_12 rfl (lv_at hl 0 rfl) ?_
  refine lv_bipush (v := 9) hx hb dX10_init_13 (by decide +kernel) ?_
  refine xa_newa (atype := .int) (ty := .int) (c0 := cy 0) (a0 := (9, .inl (fun _ => 0))) hx hb (hts _ m_119) rfl hK 0 rfl hP hD hS hA (xa_zI 9) (by decide +kernel) (by decide +kernel) (by decide +kernel) (show 1 + 1 ≤ 22 from by decide +kernel) (show 9 + 9 ≤ 1351 from by decide +kernel) dX10_init_15 (fun q_2 H hP hD hS => ?_)
  have hP : va_P (dC, dI) classes [(h0, .inr (10, [.ref q_1, .null, .null, .null, .null, .null, .null, .int 0, .int 0, .int 0, .int 0, .int 0])), (q_1, .inl (cy 1, 9, .inr (.inl (fun _ => 0)))), (q_2, .inl (cy 0, 9, .inl (fun _ => 0)))] H := hP
  have hD : va_D A [(h0, .inr (10, [.ref q_1, .null, .null, .null, .null, .null, .null, .int 0, .int 0, .int 0, .int 0, .int 0])), (q_1, .inl (cy 1, 9, .inr (.inl (fun _ => 0)))), (q_2, .inl (cy 0, 9, .inl (fun _ => 0)))] := hD
  refine W.widen (k := 2) (n := 18) (by decide +kernel) (by decide +kernel) ?_
  refine va_putF (D := (dC, dI)) (ci := 10) (v := .ref q_2) (ty := (tyX10 1)) (C := RX10) (T := TX10) (N := 12) hx hb hts inlX10 tyX10 tyX10_ok nmX10 hown hK hP hD hS 0 rfl rfl 1 (by decide) (hts _ m_120) (fun _ h9 => h9) rfl hin rfl (by decide +kernel) rfl rfl (Nat.le_of_ble_eq_true rfl) dX10_init_17 (fun H locs hP hD hS => ?_)
  have hP : va_P (dC, dI) classes [(h0, .inr (10, [.ref q_1, .ref q_2, .null, .null, .null, .null, .null, .int 0, .int 0, .int 0, .int 0, .int 0])), (q_1, .inl (cy 1, 9, .inr (.inl (fun _ => 0)))), (q_2, .inl (cy 0, 9, .inl (fun _ => 0)))] H := hP
  have hD : va_D A [(h0, .inr (10, [.ref q_1, .ref q_2, .null, .null, .null, .null, .null, .int 0, .int 0, .int 0, .int 0, .int 0])), (q_1, .inl (cy 1, 9, .inr (.inl (fun _ => 0)))), (q_2, .inl (cy 0, 9, .inl (fun _ => 0)))] := hD
  refine lv_aload_n hx hb dX10_init_20 rfl (lv_at hl 0 rfl) ?_
  refine lv_bipush (v := 81) hx hb dX10_init_21 (by decide +kernel) ?_
  refine xa_newa (atype := .int) (ty := .int) (c0 := cy 0) (a0 := (81, .inl (fun _ => 0))) hx hb (hts _ m_119) rfl hK 0 rfl hP hD hS hA (xa_zI 81) (by decide +kernel) (by decide +kernel) (by decide +kernel) (show 2 + 1 ≤ 22 from by decide +kernel) (show 18 + 81 ≤ 1351 from by decide +kernel) dX10_init_23 (fun q_3 H hP hD hS => ?_)
  have hP : va_P (dC, dI) classes [(h0, .inr (10, [.ref q_1, .ref q_2, .null, .null, .null, .null, .null, .int 0, .int 0, .int 0, .int 0, .int 0])), (q_1, .inl (cy 1, 9, .inr (.inl (fun _ => 0)))), (q_2, .inl (cy 0, 9, .inl (fun _ => 0))), (q_3, .inl (cy 0, 81, .inl (fun _ => 0)))] H := hP
  have hD : va_D A [(h0, .inr (10, [.ref q_1, .ref q_2, .null, .null, .null, .null, .null, .int 0, .int 0, .int 0, .int 0, .int 0])), (q_1, .inl (cy 1, 9, .inr (.inl (fun _ => 0)))), (q_2, .inl (cy 0, 9, .inl (fun _ => 0))), (q_3, .inl (cy 0, 81, .inl (fun _ => 0)))] := hD
  refine W.widen (k := 3) (n := 99) (by decide +kernel) (by decide +kernel) ?_
  refine va_putF (D := (dC, dI)) (ci := 10) (v := .ref q_3) (ty := (tyX10 2)) (C := RX10) (T := TX10) (N := 12) hx hb hts inlX10 tyX10 tyX10_ok nmX10 hown hK hP hD hS 0 rfl rfl 2 (by decide) (hts _ m_121) (fun _ h9 => h9) rfl hin rfl (by decide +kernel) rfl rfl (Nat.le_of_ble_eq_true rfl) dX10_init_25 (fun H locs hP hD hS => ?_)
  have hP : va_P (dC, dI) classes [(h0, .inr (10, [.ref q_1, .ref q_2, .ref q_3, .null, .null, .null, .null, .int 0, .int 0, .int 0, .int 0, .int 0])), (q_1, .inl (cy 1, 9, .inr (.inl (fun _ => 0)))), (q_2, .inl (cy 0, 9, .inl (fun _ => 0))), (q_3, .inl (cy 0, 81, .inl (fun _ => 0)))] H := hP
  have hD : va_D A [(h0, .inr (10, [.ref q_1, .ref q_2, .ref q_3, .null, .null, .null, .null, .int 0, .int 0, .int 0, .int 0, .int 0])), (q_1, .inl (cy 1, 9, .inr (.inl (fun _ => 0)))), (q_2, .inl (cy 0, 9, .inl (fun _ => 0))), (q_3, .inl (cy 0, 81, .inl (fun _ => 0)))] := hD
  refine lv_aload_n hx hb dX10_init_28 rfl (lv_at hl 0 rfl) ?_
  refine lv_bipush (v := 81) hx hb dX10_init_29 (by decide +kernel) ?_
  refine xa_newa (atype := .boolean) (ty := .boolean) (c0 := cy 3) (a0 := (81, .inl (fun _ => 0))) hx hb (hts _ m_122) rfl hK 3 rfl hP hD hS hA (xa_zZ 81) (by decide +kernel) (by decide +kernel) (by decide +kernel) (show 3 + 1 ≤ 22 from by decide +kernel) (show 99 + 81 ≤ 1351 from by decide +kernel) dX10_init_31 (fun q_4 H hP hD hS => ?_)
  have hP : va_P (dC, dI) classes [(h0, .inr (10, [.ref q_1, .ref q_2, .ref q_3, .null, .null, .null, .null, .int 0, .int 0, .int 0, .int 0, .int 0])), (q_1, .inl (cy 1, 9, .inr (.inl (fun _ => 0)))), (q_2, .inl (cy 0, 9, .inl (fun _ => 0))), (q_3, .inl (cy 0, 81, .inl (fun _ => 0))), (q_4, .inl (cy 3, 81, .inl (fun _ => 0)))] H := hP
  have hD : va_D A [(h0, .inr (10, [.ref q_1, .ref q_2, .ref q_3, .null, .null, .null, .null, .int 0, .int 0, .int 0, .int 0, .int 0])), (q_1, .inl (cy 1, 9, .inr (.inl (fun _ => 0)))), (q_2, .inl (cy 0, 9, .inl (fun _ => 0))), (q_3, .inl (cy 0, 81, .inl (fun _ => 0))), (q_4, .inl (cy 3, 81, .inl (fun _ => 0)))] := hD
  refine W.widen (k := 4) (n := 180) (by decide +kernel) (by decide +kernel) ?_
  refine va_putF (D := (dC, dI)) (ci := 10) (v := .ref q_4) (ty := (tyX10 3)) (C := RX10) (T := TX10) (N := 12) hx hb hts inlX10 tyX10 tyX10_ok nmX10 hown hK hP hD hS 0 rfl rfl 3 (by decide) (hts _ m_123) (fun _ h9 => h9) rfl hin rfl (by decide +kernel) rfl rfl (Nat.le_of_ble_eq_true rfl) dX10_init_33 (fun H locs hP hD hS => ?_)
  have hP : va_P (dC, dI) classes [(h0, .inr (10, [.ref q_1, .ref q_2, .ref q_3, .ref q_4, .null, .null, .null, .int 0, .int 0, .int 0, .int 0, .int 0])), (q_1, .inl (cy 1, 9, .inr (.inl (fun _ => 0)))), (q_2, .inl (cy 0, 9, .inl (fun _ => 0))), (q_3, .inl (cy 0, 81, .inl (fun _ => 0))), (q_4, .inl (cy 3, 81, .inl (fun _ => 0)))] H := hP
  have hD : va_D A [(h0, .inr (10, [.ref q_1, .ref q_2, .ref q_3, .ref q_4, .null, .null, .null, .int 0, .int 0, .int 0, .int 0, .int 0])), (q_1, .inl (cy 1, 9, .inr (.inl (fun _ => 0)))), (q_2, .inl (cy 0, 9, .inl (fun _ => 0))), (q_3, .inl (cy 0, 81, .inl (fun _ => 0))), (q_4, .inl (cy 3, 81, .inl (fun _ => 0)))] := hD
  refine lv_aload_n hx hb dX10_init_36 rfl (lv_at hl 0 rfl) ?_
  refine va_new (ci := 1) (fs := [.null, .int 0]) (C := RX1) (T := TX1) (N := 2) hx hb hts inlX1 tyX1 tyX1_ok hown (hts _ m_124) (hts _ m_37) (hts _ m_38) hK hP hD hS hA rfl dfX1 (show 4 + 1 ≤ 22 from by decide +kernel) (show 180 + 2 ≤ 1351 from by decide +kernel) dX10_init_37 (fun q_5 H hP hD hS => ?_)
  have hP : va_P (dC, dI) classes [(h0, .inr (10, [.ref q_1, .ref q_2, .ref q_3, .ref q_4, .null, .null, .null, .int 0, .int 0, .int 0, .int 0, .int 0])), (q_1, .inl (cy 1, 9, .inr (.inl (fun _ => 0)))), (q_2, .inl (cy 0, 9, .inl (fun _ => 0))), (q_3, .inl (cy 0, 81, .inl (fun _ => 0))), (q_4, .inl (cy 3, 81, .inl (fun _ => 0))), (q_5, .inr (1, [.null, .int 0]))] H := hP
  have hD : va_D A [(h0, .inr (10, [.ref q_1, .ref q_2, .ref q_3, .ref q_4, .null, .null, .null, .int 0, .int 0, .int 0, .int 0, .int 0])), (q_1, .inl (cy 1, 9, .inr (.inl (fun _ => 0)))), (q_2, .inl (cy 0, 9, .inl (fun _ => 0))), (q_3, .inl (cy 0, 81, .inl (fun _ => 0))), (q_4, .inl (cy 3, 81, .inl (fun _ => 0))), (q_5, .inr (1, [.null, .int 0]))] := hD
  refine W.widen (k := 5) (n := 182) (by decide +kernel) (by decide +kernel) ?_
  refine lv_dup hx hb dX10_init_40 rfl ?_
  refine lv_bipush (v := 12) hx hb dX10_init_41 (by decide +kernel) ?_
  have hPc := hP.sub (ws' := [(q_5, .inr (1, [.null, .int 0]))]) [5] rfl
  have hDc := hD.sub (ws' := [(q_5, .inr (1, [.null, .int 0]))]) [5] (by decide) rfl
  have hFc := va_free (wc := [(q_5, .inr (1, [.null, .int 0]))]) hD hS hA [5] rfl
  refine va_callv (va_runI (As := [.int 12]) (rest := [.ref q_5, .ref h0]) ⟨hx, hb, hml, hown, hts⟩ (kX1_init_1 l dC dI cy q_5 H.size) (cwI 1 hts (gdI m_133) rfl rfl rfl (hts _ m_38) (hts _ m_131) (hts _ m_132) rfl (by decide +kernel) ⟨Nat.le_of_ble_eq_true rfl, Nat.le_of_ble_eq_true rfl⟩) ⟨fun a U g mk q => by obtain ⟨q0, q1, qP, qE, qD⟩ := q; exact ⟨q0, q1, qP, qE.call, qD⟩, fun U hU hW => ⟨rfl, by rw [hU], by rw [hU]; exact hPc, hE.moved hW, hDc.weaken (fun _ _ _ _ => trivial)⟩⟩ rfl rfl hl.1 rfl (lv_room (Nat.le_of_ble_eq_true rfl)) dX10_init_43 ⟨(show 5 + 1 ≤ 22 from by decide +kernel), (show 182 + 12 ≤ 1351 from by decide +kernel)⟩) hS (fun q _ h => hFc q h) hFc (fun u t H1 locs ht hvm hw hB hz1 hk1 hS => ?_)
  obtain ⟨q_7, hP1, hD1⟩ := hB
  rw [ht] at hP1
  obtain ⟨hP, hD⟩ := va_join (wr := [(h0, .inr (10, [.ref q_1, .ref q_2, .ref q_3, .ref q_4, .null, .null, .null, .int 0, .int 0, .int 0, .int 0, .int 0])), (q_1, .inl (cy 1, 9, .inr (.inl (fun _ => 0)))), (q_2, .inl (cy 0, 9, .inl (fun _ => 0))), (q_3, .inl (cy 0, 81, .inl (fun _ => 0))), (q_4, .inl (cy 3, 81, .inl (fun _ => 0)))]) (w1 := [(q_5, .inr (1, [.ref q_7, .int 0]))]) hP hD [5] [0, 1, 2, 3, 4] rfl rfl (by decide) (by decide) hk1 hFc hP1 hD1
  generalize H1 = H at hP hS ⊢
  have hP : va_P (dC, dI) classes [(h0, .inr (10, [.ref q_1, .ref q_2, .ref q_3, .ref q_4, .null, .null, .null, .int 0, .int 0, .int 0, .int 0, .int 0])), (q_1, .inl (cy 1, 9, .inr (.inl (fun _ => 0)))), (q_2, .inl (cy 0, 9, .inl (fun _ => 0))), (q_3, .inl (cy 0, 81, .inl (fun _ => 0))), (q_4, .inl (cy 3, 81, .inl (fun _ => 0))), (q_5, .inr (1, [.ref q_7, .int 0]))] H := hP
  have hD : va_D A [(h0, .inr (10, [.ref q_1, .ref q_2, .ref q_3, .ref q_4, .null, .null, .null, .int 0, .int 0, .int 0, .int 0, .int 0])), (q_1, .inl (cy 1, 9, .inr (.inl (fun _ => 0)))), (q_2, .inl (cy 0, 9, .inl (fun _ => 0))), (q_3, .inl (cy 0, 81, .inl (fun _ => 0))), (q_4, .inl (cy 3, 81, .inl (fun _ => 0))), (q_5, .inr (1, [.ref q_7, .int 0]))] := hD
  refine W.widen (k := 6) (n := 194) (by decide +kernel) (by decide +kernel) ?_
  refine va_putF (D := (dC, dI)) (ci := 10) (v := .ref q_5) (ty := (tyX10 4)) (C := RX10) (T := TX10) (N := 12) hx hb hts inlX10 tyX10 tyX10_ok nmX10 hown hK hP hD hS 0 rfl rfl 4 (by decide) (hts _ m_125) (fun _ h9 => h9) rfl hin rfl (by decide +kernel) rfl rfl (Nat.le_of_ble_eq_true rfl) dX10_init_46 (fun H locs hP hD hS => ?_)
  have hP : va_P (dC, dI) classes [(h0, .inr (10, [.ref q_1, .ref q_2, .ref q_3, .ref q_4, .ref q_5, .null, .null, .int 0, .int 0, .int 0, .int 0, .int 0])), (q_1, .inl (cy 1, 9, .inr (.inl (fun _ => 0)))), (q_2, .inl (cy 0, 9, .inl (fun _ => 0))), (q_3, .inl (cy 0, 81, .inl (fun _ => 0))), (q_4, .inl (cy 3, 81, .inl (fun _ => 0))), (q_5, .inr (1, [.ref q_7, .int 0]))] H := hP
  have hD : va_D A [(h0, .inr (10, [.ref q_1, .ref q_2, .ref q_3, .ref q_4, .ref q_5, .null, .null, .int 0, .int 0, .int 0, .int 0, .int 0])), (q_1, .inl (cy 1, 9, .inr (.inl (fun _ => 0)))), (q_2, .inl (cy 0, 9, .inl (fun _ => 0))), (q_3, .inl (cy 0, 81, .inl (fun _ => 0))), (q_4, .inl (cy 3, 81, .inl (fun _ => 0))), (q_5, .inr (1, [.ref q_7, .int 0]))] := hD
  refine lv_aload_n hx hb dX10_init_49 rfl (lv_at hl 0 rfl) ?_
  refine lv_iconst (v := 5) hx hb dX10_init_50 (by decide +kernel) ?_
  refine xa_newq (C := RX1) (c0 := cy 4) (N' := 5) hx hb hown (hts _ m_124) hE.2.2.1 hK 4 rfl hP hD hS hA (by decide +kernel) (by decide +kernel) (by decide +kernel) (show 6 + 1 ≤ 22 from by decide +kernel) (show 194 + 5 ≤ 1351 from by decide +kernel) dX10_init_51 (fun q_8 H hP hD hS => ?_)
  have hP : va_P (dC, dI) classes [(h0, .inr (10, [.ref q_1, .ref q_2, .ref q_3, .ref q_4, .ref q_5, .null, .null, .int 0, .int 0, .int 0, .int 0, .int 0])), (q_1, .inl (cy 1, 9, .inr (.inl (fun _ => 0)))), (q_2, .inl (cy 0, 9, .inl (fun _ => 0))), (q_3, .inl (cy 0, 81, .inl (fun _ => 0))), (q_4, .inl (cy 3, 81, .inl (fun _ => 0))), (q_5, .inr (1, [.ref q_7, .int 0])), (q_8, .inl (cy 4, 5, .inr (.inr (.inr (.inr (fun _ => none))))))] H := hP
  have hD : va_D A [(h0, .inr (10, [.ref q_1, .ref q_2, .ref q_3, .ref q_4, .ref q_5, .null, .null, .int 0, .int 0, .int 0, .int 0, .int 0])), (q_1, .inl (cy 1, 9, .inr (.inl (fun _ => 0)))), (q_2, .inl (cy 0, 9, .inl (fun _ => 0))), (q_3, .inl (cy 0, 81, .inl (fun _ => 0))), (q_4, .inl (cy 3, 81, .inl (fun _ => 0))), (q_5, .inr (1, [.ref q_7, .int 0])), (q_8, .inl (cy 4, 5, .inr (.inr (.inr (.inr (fun _ => none))))))] := hD
  refine W.widen (k := 7) (n := 199) (by decide +kernel) (by decide +kernel) ?_
  refine va_putF (D := (dC, dI)) (ci := 10) (v := .ref q_8) (ty := (tyX10 5)) (C := RX10) (T := TX10) (N := 12) hx hb hts inlX10 tyX10 tyX10_ok nmX10 hown hK hP hD hS 0 rfl rfl 5 (by decide) (hts _ m_126) (fun _ h9 => h9) rfl hin rfl (by decide +kernel) rfl rfl (Nat.le_of_ble_eq_true rfl) dX10_init_54 (fun H locs hP hD hS => ?_)
  have hP : va_P (dC, dI) classes [(h0, .inr (10, [.ref q_1, .ref q_2, .ref q_3, .ref q_4, .ref q_5, .ref q_8, .null, .int 0, .int 0, .int 0, .int 0, .int 0])), (q_1, .inl (cy 1, 9, .inr (.inl (fun _ => 0)))), (q_2, .inl (cy 0, 9, .inl (fun _ => 0))), (q_3, .inl (cy 0, 81, .inl (fun _ => 0))), (q_4, .inl (cy 3, 81, .inl (fun _ => 0))), (q_5, .inr (1, [.ref q_7, .int 0])), (q_8, .inl (cy 4, 5, .inr (.inr (.inr (.inr (fun _ => none))))))] H := hP
  have hD : va_D A [(h0, .inr (10, [.ref q_1, .ref q_2, .ref q_3, .ref q_4, .ref q_5, .ref q_8, .null, .int 0, .int 0, .int 0, .int 0, .int 0])), (q_1, .inl (cy 1, 9, .inr (.inl (fun _ => 0)))), (q_2, .inl (cy 0, 9, .inl (fun _ => 0))), (q_3, .inl (cy 0, 81, .inl (fun _ => 0))), (q_4, .inl (cy 3, 81, .inl (fun _ => 0))), (q_5, .inr (1, [.ref q_7, .int 0])), (q_8, .inl (cy 4, 5, .inr (.inr (.inr (.inr (fun _ => none))))))] := hD
  refine lv_iconst (v := 0) hx hb dX10_init_57 (by decide +kernel) ?_
  refine lv_istore_n (lv' := [(1, .int 0), (0, .ref h0)]) hx hb dX10_init_58 rfl hl (by decide) rfl (fun ls hl => ?_)
  refine lv_iload_n hx hb dX10_init_59 rfl (lv_at hl 0 rfl) ?_
  refine lv_aload_n hx hb dX10_init_60 rfl (lv_at hl 1 rfl) ?_
  refine va_get (D := (dC, dI)) (ci := 10) (v := .ref q_8) (C := RX10) (T := TX10) (N := 12) hx hb hts inlX10 hown hK hP 0 rfl rfl 5 (by decide) (hts _ m_126) (fun _ h9 => h9) rfl dX10_init_61 ?_
  refine va_alen (v := 5) hx hb hK hP 6 4 rfl rfl rfl dX10_init_64 ?_
  refine lv_icmp_ge (tgt := 89) hx hb dX10_init_65 (by decide) (fun c_ => absurd c_ (by decide +kernel)) (fun _ => ?_)
  refine lv_aload_n hx hb dX10_init_68 rfl (lv_at hl 1 rfl) ?_
  refine va_get (D := (dC, dI)) (ci := 10) (v := .ref q_8) (C := RX10) (T := TX10) (N := 12) hx hb hts inlX10 hown hK hP 0 rfl rfl 5 (by decide) (hts _ m_126) (fun _ h9 => h9) rfl dX10_init_69 ?_
  refine lv_iload_n hx hb dX10_init_72 rfl (lv_at hl 0 rfl) ?_
  refine va_new (ci := 1) (fs := [.null, .int 0]) (C := RX1) (T := TX1) (N := 2) hx hb hts inlX1 tyX1 tyX1_ok hown (hts _ m_124) (hts _ m_37) (hts _ m_38) hK hP hD hS hA rfl dfX1 (show 7 + 1 ≤ 22 from by decide +kernel) (show 199 + 2 ≤ 1351 from by decide +kernel) dX10_init_73 (fun q_9 H hP hD hS => ?_)
  have hP : va_P (dC, dI) classes [(h0, .inr (10, [.ref q_1, .ref q_2, .ref q_3, .ref q_4, .ref q_5, .ref q_8, .null, .int 0, .int 0, .int 0, .int 0, .int 0])), (q_1, .inl (cy 1, 9, .inr (.inl (fun _ => 0)))), (q_2, .inl (cy 0, 9, .inl (fun _ => 0))), (q_3, .inl (cy 0, 81, .inl (fun _ => 0))), (q_4, .inl (cy 3, 81, .inl (fun _ => 0))), (q_5, .inr (1, [.ref q_7, .int 0])), (q_8, .inl (cy 4, 5, .inr (.inr (.inr (.inr (fun _ => none)))))), (q_9, .inr (1, [.null, .int 0]))] H := hP
  have hD : va_D A [(h0, .inr (10, [.ref q_1, .ref q_2, .ref q_3, .ref q_4, .ref q_5, .ref q_8, .null, .int 0, .int 0, .int 0, .int 0, .int 0])), (q_1, .inl (cy 1, 9, .inr (.inl (fun _ => 0)))), (q_2, .inl (cy 0, 9, .inl (fun _ => 0))), (q_3, .inl (cy 0, 81, .inl (fun _ => 0))), (q_4, .inl (cy 3, 81, .inl (fun _ => 0))), (q_5, .inr (1, [.ref q_7, .int 0])), (q_8, .inl (cy 4, 5, .inr (.inr (.inr (.inr (fun _ => none)))))), (q_9, .inr (1, [.null, .int 0]))] := hD
  refine W.widen (k := 8) (n := 201) (by decide +kernel) (by decide +kernel) ?_
  refine lv_dup hx hb dX10_init_76 rfl ?_
  refine lv_bipush (v := 8) hx hb dX10_init_77 (by decide +kernel) ?_
  have hPc := hP.sub (ws' := [(q_9, .inr (1, [.null, .int 0]))]) [7] rfl
  have hDc := hD.sub (ws' := [(q_9, .inr (1, [.null, .int 0]))]) [7] (by decide) rfl
  have hFc := va_free (wc := [(q_9, .inr (1, [.null, .int 0]))]) hD hS hA [7] rfl
  refine va_callv (va_runI (As := [.int 8]) (rest := [.ref q_9, .int 0, .ref q_8]) ⟨hx, hb, hml, hown, hts⟩ (kX1_init_2 l dC dI cy q_9 H.size) (cwI 1 hts (gdI m_133) rfl rfl rfl (hts _ m_38) (hts _ m_131) (hts _ m_132) rfl (by decide +kernel) ⟨Nat.le_of_ble_eq_true rfl, Nat.le_of_ble_eq_true rfl⟩) ⟨fun a U g mk q => by obtain ⟨q0, q1, qP, qE, qD⟩ := q; exact ⟨q0, q1, qP, qE.call, qD⟩, fun U hU hW => ⟨rfl, by rw [hU], by rw [hU]; exact hPc, hE.moved hW, hDc.weaken (fun _ _ _ _ => trivial)⟩⟩ rfl rfl hl.1 rfl (lv_room (Nat.le_of_ble_eq_true rfl)) dX10_init_79 ⟨(show 8 + 1 ≤ 22 from by decide +kernel), (show 201 + 8 ≤ 1351 from by decide +kernel)⟩) hS (fun q _ h => hFc q h) hFc (fun u t H1 locs ht hvm hw hB hz1 hk1 hS => ?_)
  obtain ⟨q_11, hP1, hD1⟩ := hB
  rw [ht] at hP1
  obtain ⟨hP, hD⟩ := va_join (wr := [(h0, .inr (10, [.ref q_1, .ref q_2, .ref q_3, .ref q_4, .ref q_5, .ref q_8, .null, .int 0, .int 0, .int 0, .int 0, .int 0])), (q_1, .inl (cy 1, 9, .inr (.inl (fun _ => 0)))), (q_2, .inl (cy 0, 9, .inl (fun _ => 0))), (q_3, .inl (cy 0, 81, .inl (fun _ => 0))), (q_4, .inl (cy 3, 81, .inl (fun _ => 0))), (q_5, .inr (1, [.ref q_7, .int 0])), (q_8, .inl (cy 4, 5, .inr (.inr (.inr (.inr (fun _ => none))))))]) (w1 := [(q_9, .inr (1, [.ref q_11, .int 0]))]) hP hD [7] [0, 1, 2, 3, 4, 5, 6] rfl rfl (by decide) (by decide) hk1 hFc hP1 hD1
  generalize H1 = H at hP hS ⊢
  have hP : va_P (dC, dI) classes [(h0, .inr (10, [.ref q_1, .ref q_2, .ref q_3, .ref q_4, .ref q_5, .ref q_8, .null, .int 0, .int 0, .int 0, .int 0, .int 0])), (q_1, .inl (cy 1, 9, .inr (.inl (fun _ => 0)))), (q_2, .inl (cy 0, 9, .inl (fun _ => 0))), (q_3, .inl (cy 0, 81, .inl (fun _ => 0))), (q_4, .inl (cy 3, 81, .inl (fun _ => 0))), (q_5, .inr (1, [.ref q_7, .int 0])), (q_8, .inl (cy 4, 5, .inr (.inr (.inr (.inr (fun _ => none)))))), (q_9, .inr (1, [.ref q_11, .int 0]))] H := hP
  have hD : va_D A [(h0, .inr (10, [.ref q_1, .ref q_2, .ref q_3, .ref q_4, .ref q_5, .ref q_8, .null, .int 0, .int 0, .int 0, .int 0, .int 0])), (q_1, .inl (cy 1, 9, .inr (.inl (fun _ => 0)))), (q_2, .inl (cy 0, 9, .inl (fun _ => 0))), (q_3, .inl (cy 0, 81, .inl (fun _ => 0))), (q_4, .inl (cy 3, 81, .inl (fun _ => 0))), (q_5, .inr (1, [.ref q_7, .int 0])), (q_8, .inl (cy 4, 5, .inr (.inr (.inr (.inr (fun _ => none)))))), (q_9, .inr (1, [.ref q_11, .int 0]))] := hD
  refine W.widen (k := 9) (n := 209) (by decide +kernel) (by decide +kernel) ?_
  refine va_astq hx hb hK hP hD hS 6 4 7 1 rfl rfl rfl rfl vi_0_5 dX10_init_82 (fun H locs hP hD hS => ?_)
  obtain ⟨g_12, eg_13⟩ : ∃ g : Nat → Option Nat, g = va_up (fun _ => none) (Int32.toNatClampNeg 0) (some q_9) := ⟨_, rfl⟩
  rw [← eg_13] at hP hD
  have eg_14 : g_12 0 = some q_9 := by rw [eg_13]; exact va_up_self _ _ _
  have hP : va_P (dC, dI) classes [(h0, .inr (10, [.ref q_1, .ref q_2, .ref q_3, .ref q_4, .ref q_5, .ref q_8, .null, .int 0, .int 0, .int 0, .int 0, .int 0])), (q_1, .inl (cy 1, 9, .inr (.inl (fun _ => 0)))), (q_2, .inl (cy 0, 9, .inl (fun _ => 0))), (q_3, .inl (cy 0, 81, .inl (fun _ => 0))), (q_4, .inl (cy 3, 81, .inl (fun _ => 0))), (q_5, .inr (1, [.ref q_7, .int 0])), (q_8, .inl (cy 4, 5, .inr (.inr (.inr (.inr (g_12)))))), (q_9, .inr (1, [.ref q_11, .int 0]))] H := hP
  have hD : va_D A [(h0, .inr (10, [.ref q_1, .ref q_2, .ref q_3, .ref q_4, .ref q_5, .ref q_8, .null, .int 0, .int 0, .int 0, .int 0, .int 0])), (q_1, .inl (cy 1, 9, .inr (.inl (fun _ => 0)))), (q_2, .inl (cy 0, 9, .inl (fun _ => 0))), (q_3, .inl (cy 0, 81, .inl (fun _ => 0))), (q_4, .inl (cy 3, 81, .inl (fun _ => 0))), (q_5, .inr (1, [.ref q_7, .int 0])), (q_8, .inl (cy 4, 5, .inr (.inr (.inr (.inr (g_12)))))), (q_9, .inr (1, [.ref q_11, .int 0]))] := hD
  have hP := hP.sub (ws' := [(h0, .inr (10, [.ref q_1, .ref q_2, .ref q_3, .ref q_4, .ref q_5, .ref q_8, .null, .int 0, .int 0, .int 0, .int 0, .int 0])), (q_1, .inl (cy 1, 9, .inr (.inl (fun _ => 0)))), (q_2, .inl (cy 0, 9, .inl (fun _ => 0))), (q_3, .inl (cy 0, 81, .inl (fun _ => 0))), (q_4, .inl (cy 3, 81, .inl (fun _ => 0))), (q_5, .inr (1, [.ref q_7, .int 0])), (q_8, .inl (cy 4, 5, .inr (.inr (.inr (.inr (g_12))))))]) [0, 1, 2, 3, 4, 5, 6] rfl
  have hD := hD.sub (ws' := [(h0, .inr (10, [.ref q_1, .ref q_2, .ref q_3, .ref q_4, .ref q_5, .ref q_8, .null, .int 0, .int 0, .int 0, .int 0, .int 0])), (q_1, .inl (cy 1, 9, .inr (.inl (fun _ => 0)))), (q_2, .inl (cy 0, 9, .inl (fun _ => 0))), (q_3, .inl (cy 0, 81, .inl (fun _ => 0))), (q_4, .inl (cy 3, 81, .inl (fun _ => 0))), (q_5, .inr (1, [.ref q_7, .int 0])), (q_8, .inl (cy 4, 5, .inr (.inr (.inr (.inr (g_12))))))]) [0, 1, 2, 3, 4, 5, 6] (by decide) rfl
  refine lv_iinc (v := 1) (lv' := [(1, .int 1), (0, .ref h0)]) hx hb dX10_init_83 hl (k := 0) rfl (by decide +kernel) (by decide) rfl (fun ls hl => ?_)
  refine lv_goto (tgt := 59) hx hb dX10_init_86 (by decide) ?_
  refine lv_iload_n hx hb dX10_init_59 rfl (lv_at hl 0 rfl) ?_
  refine lv_aload_n hx hb dX10_init_60 rfl (lv_at hl 1 rfl) ?_
  refine va_get (D := (dC, dI)) (ci := 10) (v := .ref q_8) (C := RX10) (T := TX10) (N := 12) hx hb hts inlX10 hown hK hP 0 rfl rfl 5 (by decide) (hts _ m_126) (fun _ h9 => h9) rfl dX10_init_61 ?_
  refine va_alen (v := 5) hx hb hK hP 6 4 rfl rfl rfl dX10_init_64 ?_
  refine lv_icmp_ge (tgt := 89) hx hb dX10_init_65 (by decide) (fun c_ => absurd c_ (by decide +kernel)) (fun _ => ?_)
  refine lv_aload_n hx hb dX10_init_68 rfl (lv_at hl 1 rfl) ?_
  refine va_get (D := (dC, dI)) (ci := 10) (v := .ref q_8) (C := RX10) (T := TX10) (N := 12) hx hb hts inlX10 hown hK hP 0 rfl rfl 5 (by decide) (hts _ m_126) (fun _ h9 => h9) rfl dX10_init_69 ?_
  refine lv_iload_n hx hb dX10_init_72 rfl (lv_at hl 0 rfl) ?_
  refine va_new (ci := 1) (fs := [.null, .int 0]) (C := RX1) (T := TX1) (N := 2) hx hb hts inlX1 tyX1 tyX1_ok hown (hts _ m_124) (hts _ m_37) (hts _ m_38) hK hP hD hS hA rfl dfX1 (show 9 + 1 ≤ 22 from by decide +kernel) (show 209 + 2 ≤ 1351 from by decide +kernel) dX10_init_73 (fun q_15 H hP hD hS => ?_)
  have hP : va_P (dC, dI) classes [(h0, .inr (10, [.ref q_1, .ref q_2, .ref q_3, .ref q_4, .ref q_5, .ref q_8, .null, .int 0, .int 0, .int 0, .int 0, .int 0])), (q_1, .inl (cy 1, 9, .inr (.inl (fun _ => 0)))), (q_2, .inl (cy 0, 9, .inl (fun _ => 0))), (q_3, .inl (cy 0, 81, .inl (fun _ => 0))), (q_4, .inl (cy 3, 81, .inl (fun _ => 0))), (q_5, .inr (1, [.ref q_7, .int 0])), (q_8, .inl (cy 4, 5, .inr (.inr (.inr (.inr (g_12)))))), (q_15, .inr (1, [.null, .int 0]))] H := hP
  have hD : va_D A [(h0, .inr (10, [.ref q_1, .ref q_2, .ref q_3, .ref q_4, .ref q_5, .ref q_8, .null, .int 0, .int 0, .int 0, .int 0, .int 0])), (q_1, .inl (cy 1, 9, .inr (.inl (fun _ => 0)))), (q_2, .inl (cy 0, 9, .inl (fun _ => 0))), (q_3, .inl (cy 0, 81, .inl (fun _ => 0))), (q_4, .inl (cy 3, 81, .inl (fun _ => 0))), (q_5, .inr (1, [.ref q_7, .int 0])), (q_8, .inl (cy 4, 5, .inr (.inr (.inr (.inr (g_12)))))), (q_15, .inr (1, [.null, .int 0]))] := hD
  refine W.widen (k := 10) (n := 211) (by decide +kernel) (by decide +kernel) ?_
  refine lv_dup hx hb dX10_init_76 rfl ?_
  refine lv_bipush (v := 8) hx hb dX10_init_77 (by decide +kernel) ?_
  have hPc := hP.sub (ws' := [(q_15, .inr (1, [.null, .int 0]))]) [7] rfl
  have hDc := hD.sub (ws' := [(q_15, .inr (1, [.null, .int 0]))]) [7] (by decide) rfl
  have hFc := va_free (wc := [(q_15, .inr (1, [.null, .int 0]))]) hD hS hA [7] rfl
  refine va_callv (va_runI (As := [.int 8]) (rest := [.ref q_15, .int 1, .ref q_8]) ⟨hx, hb, hml, hown, hts⟩ (kX1_init_2 l dC dI cy q_15 H.size) (cwI 1 hts (gdI m_133) rfl rfl rfl (hts _ m_38) (hts _ m_131) (hts _ m_132) rfl (by decide +kernel) ⟨Nat.le_of_ble_eq_true rfl, Nat.le_of_ble_eq_true rfl⟩) ⟨fun a U g mk q => by obtain ⟨q0, q1, qP, qE, qD⟩ := q; exact ⟨q0, q1, qP, qE.call, qD⟩, fun U hU hW => ⟨rfl, by rw [hU], by rw [hU]; exact hPc, hE.moved hW, hDc.weaken (fun _ _ _ _ => trivial)⟩⟩ rfl rfl hl.1 rfl (lv_room (Nat.le_of_ble_eq_true rfl)) dX10_init_79 ⟨(show 10 + 1 ≤ 22 from by decide +kernel), (show 211 + 8 ≤ 1351 from by decide +kernel)⟩) hS (fun q _ h => hFc q h) hFc (fun u t H1 locs ht hvm hw hB hz1 hk1 hS => ?_)
  obtain ⟨q_17, hP1, hD1⟩ := hB
  rw [ht] at hP1
  obtain ⟨hP, hD⟩ := va_join (wr := [(h0, .inr (10, [.ref q_1, .ref q_2, .ref q_3, .ref q_4, .ref q_5, .ref q_8, .null, .int 0, .int 0, .int 0, .int 0, .int 0])), (q_1, .inl (cy 1, 9, .inr (.inl (fun _ => 0)))), (q_2, .inl (cy 0, 9, .inl (fun _ => 0))), (q_3, .inl (cy 0, 81, .inl (fun _ => 0))), (q_4, .inl (cy 3, 81, .inl (fun _ => 0))), (q_5, .inr (1, [.ref q_7, .int 0])), (q_8, .inl (cy 4, 5, .inr (.inr (.inr (.inr (g_12))))))]) (w1 := [(q_15, .inr (1, [.ref q_17, .int 0]))]) hP hD [7] [0, 1, 2, 3, 4, 5, 6] rfl rfl (by decide) (by decide) hk1 hFc hP1 hD1
  generalize H1 = H at hP hS ⊢
  have hP : va_P (dC, dI) classes [(h0, .inr (10, [.ref q_1, .ref q_2, .ref q_3, .ref q_4, .ref q_5, .ref q_8, .null, .int 0, .int 0, .int 0, .int 0, .int 0])), (q_1, .inl (cy 1, 9, .inr (.inl (fun _ => 0)))), (q_2, .inl (cy 0, 9, .inl (fun _ => 0))), (q_3, .inl (cy 0, 81, .inl (fun _ => 0))), (q_4, .inl (cy 3, 81, .inl (fun _ => 0))), (q_5, .inr (1, [.ref q_7, .int 0])), (q_8, .inl (cy 4, 5, .inr (.inr (.inr (.inr (g_12)))))), (q_15, .inr (1, [.ref q_17, .int 0]))] H := hP
  have hD : va_D A [(h0, .inr (10, [.ref q_1, .ref q_2, .ref q_3, .ref q_4, .ref q_5, .ref q_8, .null, .int 0, .int 0, .int 0, .int 0, .int 0])), (q_1, .inl (cy 1, 9, .inr (.inl (fun _ => 0)))), (q_2, .inl (cy 0, 9, .inl (fun _ => 0))), (q_3, .inl (cy 0, 81, .inl (fun _ => 0))), (q_4, .inl (cy 3, 81, .inl (fun _ => 0))), (q_5, .inr (1, [.ref q_7, .int 0])), (q_8, .inl (cy 4, 5, .inr (.inr (.inr (.inr (g_12)))))), (q_15, .inr (1, [.ref q_17, .int 0]))] := hD
  refine W.widen (k := 11) (n := 219) (by decide +kernel) (by decide +kernel) ?_
  refine va_astq hx hb hK hP hD hS 6 4 7 1 rfl rfl rfl rfl vi_1_5 dX10_init_82 (fun H locs hP hD hS => ?_)
  obtain ⟨g_18, eg_19⟩ : ∃ g : Nat → Option Nat, g = va_up (g_12) (Int32.toNatClampNeg 1) (some q_15) := ⟨_, rfl⟩
  rw [← eg_19] at hP hD
  have eg_20 : g_18 1 = some q_15 := by rw [eg_19]; exact va_up_self _ _ _
  have hP : va_P (dC, dI) classes [(h0, .inr (10, [.ref q_1, .ref q_2, .ref q_3, .ref q_4, .ref q_5, .ref q_8, .null, .int 0, .int 0, .int 0, .int 0, .int 0])), (q_1, .inl (cy 1, 9, .inr (.inl (fun _ => 0)))), (q_2, .inl (cy 0, 9, .inl (fun _ => 0))), (q_3, .inl (cy 0, 81, .inl (fun _ => 0))), (q_4, .inl (cy 3, 81, .inl (fun _ => 0))), (q_5, .inr (1, [.ref q_7, .int 0])), (q_8, .inl (cy 4, 5, .inr (.inr (.inr (.inr (g_18)))))), (q_15, .inr (1, [.ref q_17, .int 0]))] H := hP
  have hD : va_D A [(h0, .inr (10, [.ref q_1, .ref q_2, .ref q_3, .ref q_4, .ref q_5, .ref q_8, .null, .int 0, .int 0, .int 0, .int 0, .int 0])), (q_1, .inl (cy 1, 9, .inr (.inl (fun _ => 0)))), (q_2, .inl (cy 0, 9, .inl (fun _ => 0))), (q_3, .inl (cy 0, 81, .inl (fun _ => 0))), (q_4, .inl (cy 3, 81, .inl (fun _ => 0))), (q_5, .inr (1, [.ref q_7, .int 0])), (q_8, .inl (cy 4, 5, .inr (.inr (.inr (.inr (g_18)))))), (q_15, .inr (1, [.ref q_17, .int 0]))] := hD
  have hP := hP.sub (ws' := [(h0, .inr (10, [.ref q_1, .ref q_2, .ref q_3, .ref q_4, .ref q_5, .ref q_8, .null, .int 0, .int 0, .int 0, .int 0, .int 0])), (q_1, .inl (cy 1, 9, .inr (.inl (fun _ => 0)))), (q_2, .inl (cy 0, 9, .inl (fun _ => 0))), (q_3, .inl (cy 0, 81, .inl (fun _ => 0))), (q_4, .inl (cy 3, 81, .inl (fun _ => 0))), (q_5, .inr (1, [.ref q_7, .int 0])), (q_8, .inl (cy 4, 5, .inr (.inr (.inr (.inr (g_18))))))]) [0, 1, 2, 3, 4, 5, 6] rfl
  have hD := hD.sub (ws' := [(h0, .inr (10, [.ref q_1, .ref q_2, .ref q_3, .ref q_4, .ref q_5, .ref q_8, .null, .int 0, .int 0, .int 0, .int 0, .int 0])), (q_1, .inl (cy 1, 9, .inr (.inl (fun _ => 0)))), (q_2, .inl (cy 0, 9, .inl (fun _ => 0))), (q_3, .inl (cy 0, 81, .inl (fun _ => 0))), (q_4, .inl (cy 3, 81, .inl (fun _ => 0))), (q_5, .inr (1, [.ref q_7, .int 0])), (q_8, .inl (cy 4, 5, .inr (.inr (.inr (.inr (g_18))))))]) [0, 1, 2, 3, 4, 5, 6] (by decide) rfl
  refine lv_iinc (v := 2) (lv' := [(1, .int 2), (0, .ref h0)]) hx hb dX10_init_83 hl (k := 0) rfl (by decide +kernel) (by decide) rfl (fun ls hl => ?_)
  refine lv_goto (tgt := 59) hx hb dX10_init_86 (by decide) ?_
  refine lv_iload_n hx hb dX10_init_59 rfl (lv_at hl 0 rfl) ?_
  refine lv_aload_n hx hb dX10_init_60 rfl (lv_at hl 1 rfl) ?_
  refine va_get (D := (dC, dI)) (ci := 10) (v := .ref q_8) (C := RX10) (T := TX10) (N := 12) hx hb hts inlX10 hown hK hP 0 rfl rfl 5 (by decide) (hts _ m_126) (fun _ h9 => h9) rfl dX10_init_61 ?_
  refine va_alen (v := 5) hx hb hK hP 6 4 rfl rfl rfl dX10_init_64 ?_
  refine lv_icmp_ge (tgt := 89) hx hb dX10_init_65 (by decide) (fun c_ => absurd c_ (by decide +kernel)) (fun _ => ?_)
  refine lv_aload_n hx hb dX10_init_68 rfl (lv_at hl 1 rfl) ?_
  refine va_get (D := (dC, dI)) (ci := 10) (v := .ref q_8) (C := RX10) (T := TX10) (N := 12) hx hb hts inlX10 hown hK hP 0 rfl rfl 5 (by decide) (hts _ m_126) (fun _ h9 => h9) rfl dX10_init_69 ?_
  refine lv_iload_n hx hb dX10_init_72 rfl (lv_at hl 0 rfl) ?_
  refine va_new (ci := 1) (fs := [.null, .int 0]) (C := RX1) (T := TX1) (N := 2) hx hb hts inlX1 tyX1 tyX1_ok hown (hts _ m_124) (hts _ m_37) (hts _ m_38) hK hP hD hS hA rfl dfX1 (show 11 + 1 ≤ 22 from by decide +kernel) (show 219 + 2 ≤ 1351 from by decide +kernel) dX10_init_73 (fun q_21 H hP hD hS => ?_)
  have hP : va_P (dC, dI) classes [(h0, .inr (10, [.ref q_1, .ref q_2, .ref q_3, .ref q_4, .ref q_5, .ref q_8, .null, .int 0, .int 0, .int 0, .int 0, .int 0])), (q_1, .inl (cy 1, 9, .inr (.inl (fun _ => 0)))), (q_2, .inl (cy 0, 9, .inl (fun _ => 0))), (q_3, .inl (cy 0, 81, .inl (fun _ => 0))), (q_4, .inl (cy 3, 81, .inl (fun _ => 0))), (q_5, .inr (1, [.ref q_7, .int 0])), (q_8, .inl (cy 4, 5, .inr (.inr (.inr (.inr (g_18)))))), (q_21, .inr (1, [.null, .int 0]))] H := hP
  have hD : va_D A [(h0, .inr (10, [.ref q_1, .ref q_2, .ref q_3, .ref q_4, .ref q_5, .ref q_8, .null, .int 0, .int 0, .int 0, .int 0, .int 0])), (q_1, .inl (cy 1, 9, .inr (.inl (fun _ => 0)))), (q_2, .inl (cy 0, 9, .inl (fun _ => 0))), (q_3, .inl (cy 0, 81, .inl (fun _ => 0))), (q_4, .inl (cy 3, 81, .inl (fun _ => 0))), (q_5, .inr (1, [.ref q_7, .int 0])), (q_8, .inl (cy 4, 5, .inr (.inr (.inr (.inr (g_18)))))), (q_21, .inr (1, [.null, .int 0]))] := hD
  refine W.widen (k := 12) (n := 221) (by decide +kernel) (by decide +kernel) ?_
  refine lv_dup hx hb dX10_init_76 rfl ?_
  refine lv_bipush (v := 8) hx hb dX10_init_77 (by decide +kernel) ?_
  have hPc := hP.sub (ws' := [(q_21, .inr (1, [.null, .int 0]))]) [7] rfl
  have hDc := hD.sub (ws' := [(q_21, .inr (1, [.null, .int 0]))]) [7] (by decide) rfl
  have hFc := va_free (wc := [(q_21, .inr (1, [.null, .int 0]))]) hD hS hA [7] rfl
  refine va_callv (va_runI (As := [.int 8]) (rest := [.ref q_21, .int 2, .ref q_8]) ⟨hx, hb, hml, hown, hts⟩ (kX1_init_2 l dC dI cy q_21 H.size) (cwI 1 hts (gdI m_133) rfl rfl rfl (hts _ m_38) (hts _ m_131) (hts _ m_132) rfl (by decide +kernel) ⟨Nat.le_of_ble_eq_true rfl, Nat.le_of_ble_eq_true rfl⟩) ⟨fun a U g mk q => by obtain ⟨q0, q1, qP, qE, qD⟩ := q; exact ⟨q0, q1, qP, qE.call, qD⟩, fun U hU hW => ⟨rfl, by rw [hU], by rw [hU]; exact hPc, hE.moved hW, hDc.weaken (fun _ _ _ _ => trivial)⟩⟩ rfl rfl hl.1 rfl (lv_room (Nat.le_of_ble_eq_true rfl)) dX10_init_79 ⟨(show 12 + 1 ≤ 22 from by decide +kernel), (show 221 + 8 ≤ 1351 from by decide +kernel)⟩) hS (fun q _ h => hFc q h) hFc (fun u t H1 locs ht hvm hw hB hz1 hk1 hS => ?_)
  obtain ⟨q_23, hP1, hD1⟩ := hB
  rw [ht] at hP1
  obtain ⟨hP, hD⟩ := va_join (wr := [(h0, .inr (10, [.ref q_1, .ref q_2, .ref q_3, .ref q_4, .ref q_5, .ref q_8, .null, .int 0, .int 0, .int 0, .int 0, .int 0])), (q_1, .inl (cy 1, 9, .inr (.inl (fun _ => 0)))), (q_2, .inl (cy 0, 9, .inl (fun _ => 0))), (q_3, .inl (cy 0, 81, .inl (fun _ => 0))), (q_4, .inl (cy 3, 81, .inl (fun _ => 0))), (q_5, .inr (1, [.ref q_7, .int 0])), (q_8, .inl (cy 4, 5, .inr (.inr (.inr (.inr (g_18))))))]) (w1 := [(q_21, .inr (1, [.ref q_23, .int 0]))]) hP hD [7] [0, 1, 2, 3, 4, 5, 6] rfl rfl (by decide) (by decide) hk1 hFc hP1 hD1
  generalize H1 = H at hP hS ⊢
  have hP : va_P (dC, dI) classes [(h0, .inr (10, [.ref q_1, .ref q_2, .ref q_3, .ref q_4, .ref q_5, .ref q_8, .null, .int 0, .int 0, .int 0, .int 0, .int 0])), (q_1, .inl (cy 1, 9, .inr (.inl (fun _ => 0)))), (q_2, .inl (cy 0, 9, .inl (fun _ => 0))), (q_3, .inl (cy 0, 81, .inl (fun _ => 0))), (q_4, .inl (cy 3, 81, .inl (fun _ => 0))), (q_5, .inr (1, [.ref q_7, .int 0])), (q_8, .inl (cy 4, 5, .inr (.inr (.inr (.inr (g_18)))))), (q_21, .inr (1, [.ref q_23, .int 0]))] H := hP
  have hD : va_D A [(h0, .inr (10, [.ref q_1, .ref q_2, .ref q_3, .ref q_4, .ref q_5, .ref q_8, .null, .int 0, .int 0, .int 0, .int 0, .int 0])), (q_1, .inl (cy 1, 9, .inr (.inl (fun _ => 0)))), (q_2, .inl (cy 0, 9, .inl (fun _ => 0))), (q_3, .inl (cy 0, 81, .inl (fun _ => 0))), (q_4, .inl (cy 3, 81, .inl (fun _ => 0))), (q_5, .inr (1, [.ref q_7, .int 0])), (q_8, .inl (cy 4, 5, .inr (.inr (.inr (.inr (g_18)))))), (q_21, .inr (1, [.ref q_23, .int 0]))] := hD
  refine W.widen (k := 13) (n := 229) (by decide +kernel) (by decide +kernel) ?_
  refine va_astq hx hb hK hP hD hS 6 4 7 1 rfl rfl rfl rfl vi_2_5 dX10_init_82 (fun H locs hP hD hS => ?_)
  obtain ⟨g_24, eg_25⟩ : ∃ g : Nat → Option Nat, g = va_up (g_18) (Int32.toNatClampNeg 2) (some q_21) := ⟨_, rfl⟩
  rw [← eg_25] at hP hD
  have eg_26 : g_24 2 = some q_21 := by rw [eg_25]; exact va_up_self _ _ _
  have hP : va_P (dC, dI) classes [(h0, .inr (10, [.ref q_1, .ref q_2, .ref q_3, .ref q_4, .ref q_5, .ref q_8, .null, .int 0, .int 0, .int 0, .int 0, .int 0])), (q_1, .inl (cy 1, 9, .inr (.inl (fun _ => 0)))), (q_2, .inl (cy 0, 9, .inl (fun _ => 0))), (q_3, .inl (cy 0, 81, .inl (fun _ => 0))), (q_4, .inl (cy 3, 81, .inl (fun _ => 0))), (q_5, .inr (1, [.ref q_7, .int 0])), (q_8, .inl (cy 4, 5, .inr (.inr (.inr (.inr (g_24)))))), (q_21, .inr (1, [.ref q_23, .int 0]))] H := hP
  have hD : va_D A [(h0, .inr (10, [.ref q_1, .ref q_2, .ref q_3, .ref q_4, .ref q_5, .ref q_8, .null, .int 0, .int 0, .int 0, .int 0, .int 0])), (q_1, .inl (cy 1, 9, .inr (.inl (fun _ => 0)))), (q_2, .inl (cy 0, 9, .inl (fun _ => 0))), (q_3, .inl (cy 0, 81, .inl (fun _ => 0))), (q_4, .inl (cy 3, 81, .inl (fun _ => 0))), (q_5, .inr (1, [.ref q_7, .int 0])), (q_8, .inl (cy 4, 5, .inr (.inr (.inr (.inr (g_24)))))), (q_21, .inr (1, [.ref q_23, .int 0]))] := hD
  have hP := hP.sub (ws' := [(h0, .inr (10, [.ref q_1, .ref q_2, .ref q_3, .ref q_4, .ref q_5, .ref q_8, .null, .int 0, .int 0, .int 0, .int 0, .int 0])), (q_1, .inl (cy 1, 9, .inr (.inl (fun _ => 0)))), (q_2, .inl (cy 0, 9, .inl (fun _ => 0))), (q_3, .inl (cy 0, 81, .inl (fun _ => 0))), (q_4, .inl (cy 3, 81, .inl (fun _ => 0))), (q_5, .inr (1, [.ref q_7, .int 0])), (q_8, .inl (cy 4, 5, .inr (.inr (.inr (.inr (g_24))))))]) [0, 1, 2, 3, 4, 5, 6] rfl
  have hD := hD.sub (ws' := [(h0, .inr (10, [.ref q_1, .ref q_2, .ref q_3, .ref q_4, .ref q_5, .ref q_8, .null, .int 0, .int 0, .int 0, .int 0, .int 0])), (q_1, .inl (cy 1, 9, .inr (.inl (fun _ => 0)))), (q_2, .inl (cy 0, 9, .inl (fun _ => 0))), (q_3, .inl (cy 0, 81, .inl (fun _ => 0))), (q_4, .inl (cy 3, 81, .inl (fun _ => 0))), (q_5, .inr (1, [.ref q_7, .int 0])), (q_8, .inl (cy 4, 5, .inr (.inr (.inr (.inr (g_24))))))]) [0, 1, 2, 3, 4, 5, 6] (by decide) rfl
  refine lv_iinc (v := 3) (lv' := [(1, .int 3), (0, .ref h0)]) hx hb dX10_init_83 hl (k := 0) rfl (by decide +kernel) (by decide) rfl (fun ls hl => ?_)
  refine lv_goto (tgt := 59) hx hb dX10_init_86 (by decide) ?_
  refine lv_iload_n hx hb dX10_init_59 rfl (lv_at hl 0 rfl) ?_
  refine lv_aload_n hx hb dX10_init_60 rfl (lv_at hl 1 rfl) ?_
  refine va_get (D := (dC, dI)) (ci := 10) (v := .ref q_8) (C := RX10) (T := TX10) (N := 12) hx hb hts inlX10 hown hK hP 0 rfl rfl 5 (by decide) (hts _ m_126) (fun _ h9 => h9) rfl dX10_init_61 ?_
  refine va_alen (v := 5) hx hb hK hP 6 4 rfl rfl rfl dX10_init_64 ?_
  refine lv_icmp_ge (tgt := 89) hx hb dX10_init_65 (by decide) (fun c_ => absurd c_ (by decide +kernel)) (fun _ => ?_)
  refine lv_aload_n hx hb dX10_init_68 rfl (lv_at hl 1 rfl) ?_
  refine va_get (D := (dC, dI)) (ci := 10) (v := .ref q_8) (C := RX10) (T := TX10) (N := 12) hx hb hts inlX10 hown hK hP 0 rfl rfl 5 (by decide) (hts _ m_126) (fun _ h9 => h9) rfl dX10_init_69 ?_
  refine lv_iload_n hx hb dX10_init_72 rfl (lv_at hl 0 rfl) ?_
  refine va_new (ci := 1) (fs := [.null, .int 0]) (C := RX1) (T := TX1) (N := 2) hx hb hts inlX1 tyX1 tyX1_ok hown (hts _ m_124) (hts _ m_37) (hts _ m_38) hK hP hD hS hA rfl dfX1 (show 13 + 1 ≤ 22 from by decide +kernel) (show 229 + 2 ≤ 1351 from by decide +kernel) dX10_init_73 (fun q_27 H hP hD hS => ?_)
  have hP : va_P (dC, dI) classes [(h0, .inr (10, [.ref q_1, .ref q_2, .ref q_3, .ref q_4, .ref q_5, .ref q_8, .null, .int 0, .int 0, .int 0, .int 0, .int 0])), (q_1, .inl (cy 1, 9, .inr (.inl (fun _ => 0)))), (q_2, .inl (cy 0, 9, .inl (fun _ => 0))), (q_3, .inl (cy 0, 81, .inl (fun _ => 0))), (q_4, .inl (cy 3, 81, .inl (fun _ => 0))), (q_5, .inr (1, [.ref q_7, .int 0])), (q_8, .inl (cy 4, 5, .inr (.inr (.inr (.inr (g_24)))))), (q_27, .inr (1, [.null, .int 0]))] H := hP
  have hD : va_D A [(h0, .inr (10, [.ref q_1, .ref q_2, .ref q_3, .ref q_4, .ref q_5, .ref q_8, .null, .int 0, .int 0, .int 0, .int 0, .int 0])), (q_1, .inl (cy 1, 9, .inr (.inl (fun _ => 0)))), (q_2, .inl (cy 0, 9, .inl (fun _ => 0))), (q_3, .inl (cy 0, 81, .inl (fun _ => 0))), (q_4, .inl (cy 3, 81, .inl (fun _ => 0))), (q_5, .inr (1, [.ref q_7, .int 0])), (q_8, .inl (cy 4, 5, .inr (.inr (.inr (.inr (g_24)))))), (q_27, .inr (1, [.null, .int 0]))] := hD
  refine W.widen (k := 14) (n := 231) (by decide +kernel) (by decide +kernel) ?_
  refine lv_dup hx hb dX10_init_76 rfl ?_
  refine lv_bipush (v := 8) hx hb dX10_init_77 (by decide +kernel) ?_
  have hPc := hP.sub (ws' := [(q_27, .inr (1, [.null, .int 0]))]) [7] rfl
  have hDc := hD.sub (ws' := [(q_27, .inr (1, [.null, .int 0]))]) [7] (by decide) rfl
  have hFc := va_free (wc := [(q_27, .inr (1, [.null, .int 0]))]) hD hS hA [7] rfl
  refine va_callv (va_runI (As := [.int 8]) (rest := [.ref q_27, .int 3, .ref q_8]) ⟨hx, hb, hml, hown, hts⟩ (kX1_init_2 l dC dI cy q_27 H.size) (cwI 1 hts (gdI m_133) rfl rfl rfl (hts _ m_38) (hts _ m_131) (hts _ m_132) rfl (by decide +kernel) ⟨Nat.le_of_ble_eq_true rfl, Nat.le_of_ble_eq_true rfl⟩) ⟨fun a U g mk q => by obtain ⟨q0, q1, qP, qE, qD⟩ := q; exact ⟨q0, q1, qP, qE.call, qD⟩, fun U hU hW => ⟨rfl, by rw [hU], by rw [hU]; exact hPc, hE.moved hW, hDc.weaken (fun _ _ _ _ => trivial)⟩⟩ rfl rfl hl.1 rfl (lv_room (Nat.le_of_ble_eq_true rfl)) dX10_init_79 ⟨(show 14 + 1 ≤ 22 from by decide +kernel), (show 231 + 8 ≤ 1351 from by decide +kernel)⟩) hS (fun q _ h => hFc q h) hFc (fun u t H1 locs ht hvm hw hB hz1 hk1 hS => ?_)
  obtain ⟨q_29, hP1, hD1⟩ := hB
  rw [ht] at hP1
  obtain ⟨hP, hD⟩ := va_join (wr := [(h0, .inr (10, [.ref q_1, .ref q_2, .ref q_3, .ref q_4, .ref q_5, .ref q_8, .null, .int 0, .int 0, .int 0, .int 0, .int 0])), (q_1, .inl (cy 1, 9, .inr (.inl (fun _ => 0)))), (q_2, .inl (cy 0, 9, .inl (fun _ => 0))), (q_3, .inl (cy 0, 81, .inl (fun _ => 0))), (q_4, .inl (cy 3, 81, .inl (fun _ => 0))), (q_5, .inr (1, [.ref q_7, .int 0])), (q_8, .inl (cy 4, 5, .inr (.inr (.inr (.inr (g_24))))))]) (w1 := [(q_27, .inr (1, [.ref q_29, .int 0]))]) hP hD [7] [0, 1, 2, 3, 4, 5, 6] rfl rfl (by decide) (by decide) hk1 hFc hP1 hD1
  generalize H1 = H at hP hS ⊢
  have hP : va_P (dC, dI) classes [(h0, .inr (10, [.ref q_1, .ref q_2, .ref q_3, .ref q_4, .ref q_5, .ref q_8, .null, .int 0, .int 0, .int 0, .int 0, .int 0])), (q_1, .inl (cy 1, 9, .inr (.inl (fun _ => 0)))), (q_2, .inl (cy 0, 9, .inl (fun _ => 0))), (q_3, .inl (cy 0, 81, .inl (fun _ => 0))), (q_4, .inl (cy 3, 81, .inl (fun _ => 0))), (q_5, .inr (1, [.ref q_7, .int 0])), (q_8, .inl (cy 4, 5, .inr (.inr (.inr (.inr (g_24)))))), (q_27, .inr (1, [.ref q_29, .int 0]))] H := hP
  have hD : va_D A [(h0, .inr (10, [.ref q_1, .ref q_2, .ref q_3, .ref q_4, .ref q_5, .ref q_8, .null, .int 0, .int 0, .int 0, .int 0, .int 0])), (q_1, .inl (cy 1, 9, .inr (.inl (fun _ => 0)))), (q_2, .inl (cy 0, 9, .inl (fun _ => 0))), (q_3, .inl (cy 0, 81, .inl (fun _ => 0))), (q_4, .inl (cy 3, 81, .inl (fun _ => 0))), (q_5, .inr (1, [.ref q_7, .int 0])), (q_8, .inl (cy 4, 5, .inr (.inr (.inr (.inr (g_24)))))), (q_27, .inr (1, [.ref q_29, .int 0]))] := hD
  refine W.widen (k := 15) (n := 239) (by decide +kernel) (by decide +kernel) ?_
  refine va_astq hx hb hK hP hD hS 6 4 7 1 rfl rfl rfl rfl vi_3_5 dX10_init_82 (fun H locs hP hD hS => ?_)
  obtain ⟨g_30, eg_31⟩ : ∃ g : Nat → Option Nat, g = va_up (g_24) (Int32.toNatClampNeg 3) (some q_27) := ⟨_, rfl⟩
  rw [← eg_31] at hP hD
  have eg_32 : g_30 3 = some q_27 := by rw [eg_31]; exact va_up_self _ _ _
  have hP : va_P (dC, dI) classes [(h0, .inr (10, [.ref q_1, .ref q_2, .ref q_3, .ref q_4, .ref q_5, .ref q_8, .null, .int 0, .int 0, .int 0, .int 0, .int 0])), (q_1, .inl (cy 1, 9, .inr (.inl (fun _ => 0)))), (q_2, .inl (cy 0, 9, .inl (fun _ => 0))), (q_3, .inl (cy 0, 81, .inl (fun _ => 0))), (q_4, .inl (cy 3, 81, .inl (fun _ => 0))), (q_5, .inr (1, [.ref q_7, .int 0])), (q_8, .inl (cy 4, 5, .inr (.inr (.inr (.inr (g_30)))))), (q_27, .inr (1, [.ref q_29, .int 0]))] H := hP
  have hD : va_D A [(h0, .inr (10, [.ref q_1, .ref q_2, .ref q_3, .ref q_4, .ref q_5, .ref q_8, .null, .int 0, .int 0, .int 0, .int 0, .int 0])), (q_1, .inl (cy 1, 9, .inr (.inl (fun _ => 0)))), (q_2, .inl (cy 0, 9, .inl (fun _ => 0))), (q_3, .inl (cy 0, 81, .inl (fun _ => 0))), (q_4, .inl (cy 3, 81, .inl (fun _ => 0))), (q_5, .inr (1, [.ref q_7, .int 0])), (q_8, .inl (cy 4, 5, .inr (.inr (.inr (.inr (g_30)))))), (q_27, .inr (1, [.ref q_29, .int 0]))] := hD
  have hP := hP.sub (ws' := [(h0, .inr (10, [.ref q_1, .ref q_2, .ref q_3, .ref q_4, .ref q_5, .ref q_8, .null, .int 0, .int 0, .int 0, .int 0, .int 0])), (q_1, .inl (cy 1, 9, .inr (.inl (fun _ => 0)))), (q_2, .inl (cy 0, 9, .inl (fun _ => 0))), (q_3, .inl (cy 0, 81, .inl (fun _ => 0))), (q_4, .inl (cy 3, 81, .inl (fun _ => 0))), (q_5, .inr (1, [.ref q_7, .int 0])), (q_8, .inl (cy 4, 5, .inr (.inr (.inr (.inr (g_30))))))]) [0, 1, 2, 3, 4, 5, 6] rfl
  have hD := hD.sub (ws' := [(h0, .inr (10, [.ref q_1, .ref q_2, .ref q_3, .ref q_4, .ref q_5, .ref q_8, .null, .int 0, .int 0, .int 0, .int 0, .int 0])), (q_1, .inl (cy 1, 9, .inr (.inl (fun _ => 0)))), (q_2, .inl (cy 0, 9, .inl (fun _ => 0))), (q_3, .inl (cy 0, 81, .inl (fun _ => 0))), (q_4, .inl (cy 3, 81, .inl (fun _ => 0))), (q_5, .inr (1, [.ref q_7, .int 0])), (q_8, .inl (cy 4, 5, .inr (.inr (.inr (.inr (g_30))))))]) [0, 1, 2, 3, 4, 5, 6] (by decide) rfl
  refine lv_iinc (v := 4) (lv' := [(1, .int 4), (0, .ref h0)]) hx hb dX10_init_83 hl (k := 0) rfl (by decide +kernel) (by decide) rfl (fun ls hl => ?_)
  refine lv_goto (tgt := 59) hx hb dX10_init_86 (by decide) ?_
  refine lv_iload_n hx hb dX10_init_59 rfl (lv_at hl 0 rfl) ?_
  refine lv_aload_n hx hb dX10_init_60 rfl (lv_at hl 1 rfl) ?_
  refine va_get (D := (dC, dI)) (ci := 10) (v := .ref q_8) (C := RX10) (T := TX10) (N := 12) hx hb hts inlX10 hown hK hP 0 rfl rfl 5 (by decide) (hts _ m_126) (fun _ h9 => h9) rfl dX10_init_61 ?_
  refine va_alen (v := 5) hx hb hK hP 6 4 rfl rfl rfl dX10_init_64 ?_
  refine lv_icmp_ge (tgt := 89) hx hb dX10_init_65 (by decide) (fun c_ => absurd c_ (by decide +kernel)) (fun _ => ?_)
  refine lv_aload_n hx hb dX10_init_68 rfl (lv_at hl 1 rfl) ?_
  refine va_get (D := (dC, dI)) (ci := 10) (v := .ref q_8) (C := RX10) (T := TX10) (N := 12) hx hb hts inlX10 hown hK hP 0 rfl rfl 5 (by decide) (hts _ m_126) (fun _ h9 => h9) rfl dX10_init_69 ?_
  refine lv_iload_n hx hb dX10_init_72 rfl (lv_at hl 0 rfl) ?_
  refine va_new (ci := 1) (fs := [.null, .int 0]) (C := RX1) (T := TX1) (N := 2) hx hb hts inlX1 tyX1 tyX1_ok hown (hts _ m_124) (hts _ m_37) (hts _ m_38) hK hP hD hS hA rfl dfX1 (show 15 + 1 ≤ 22 from by decide +kernel) (show 239 + 2 ≤ 1351 from by decide +kernel) dX10_init_73 (fun q_33 H hP hD hS => ?_)
  have hP : va_P (dC, dI) classes [(h0, .inr (10, [.ref q_1, .ref q_2, .ref q_3, .ref q_4, .ref q_5, .ref q_8, .null, .int 0, .int 0, .int 0, .int 0, .int 0])), (q_1, .inl (cy 1, 9, .inr (.inl (fun _ => 0)))), (q_2, .inl (cy 0, 9, .inl (fun _ => 0))), (q_3, .inl (cy 0, 81, .inl (fun _ => 0))), (q_4, .inl (cy 3, 81, .inl (fun _ => 0))), (q_5, .inr (1, [.ref q_7, .int 0])), (q_8, .inl (cy 4, 5, .inr (.inr (.inr (.inr (g_30)))))), (q_33, .inr (1, [.null, .int 0]))] H := hP
  have hD : va_D A [(h0, .inr (10, [.ref q_1, .ref q_2, .ref q_3, .ref q_4, .ref q_5, .ref q_8, .null, .int 0, .int 0, .int 0, .int 0, .int 0])), (q_1, .inl (cy 1, 9, .inr (.inl (fun _ => 0)))), (q_2, .inl (cy 0, 9, .inl (fun _ => 0))), (q_3, .inl (cy 0, 81, .inl (fun _ => 0))), (q_4, .inl (cy 3, 81, .inl (fun _ => 0))), (q_5, .inr (1, [.ref q_7, .int 0])), (q_8, .inl (cy 4, 5, .inr (.inr (.inr (.inr (g_30)))))), (q_33, .inr (1, [.null, .int 0]))] := hD
  refine W.widen (k := 16) (n := 241) (by decide +kernel) (by decide +kernel) ?_
  refine lv_dup hx hb dX10_init_76 rfl ?_
  refine lv_bipush (v := 8) hx hb dX10_init_77 (by decide +kernel) ?_
  have hPc := hP.sub (ws' := [(q_33, .inr (1, [.null, .int 0]))]) [7] rfl
  have hDc := hD.sub (ws' := [(q_33, .inr (1, [.null, .int 0]))]) [7] (by decide) rfl
  have hFc := va_free (wc := [(q_33, .inr (1, [.null, .int 0]))]) hD hS hA [7] rfl
  refine va_callv (va_runI (As := [.int 8]) (rest := [.ref q_33, .int 4, .ref q_8]) ⟨hx, hb, hml, hown, hts⟩ (kX1_init_2 l dC dI cy q_33 H.size) (cwI 1 hts (gdI m_133) rfl rfl rfl (hts _ m_38) (hts _ m_131) (hts _ m_132) rfl (by decide +kernel) ⟨Nat.le_of_ble_eq_true rfl, Nat.le_of_ble_eq_true rfl⟩) ⟨fun a U g mk q => by obtain ⟨q0, q1, qP, qE, qD⟩ := q; exact ⟨q0, q1, qP, qE.call, qD⟩, fun U hU hW => ⟨rfl, by rw [hU], by rw [hU]; exact hPc, hE.moved hW, hDc.weaken (fun _ _ _ _ => trivial)⟩⟩ rfl rfl hl.1 rfl (lv_room (Nat.le_of_ble_eq_true rfl)) dX10_init_79 ⟨(show 16 + 1 ≤ 22 from by decide +kernel), (show 241 + 8 ≤ 1351 from by decide +kernel)⟩) hS (fun q _ h => hFc q h) hFc (fun u t H1 locs ht hvm hw hB hz1 hk1 hS => ?_)
  obtain ⟨q_35, hP1, hD1⟩ := hB
  rw [ht] at hP1
  obtain ⟨hP, hD⟩ := va_join (wr := [(h0, .inr (10, [.ref q_1, .ref q_2, .ref q_3, .ref q_4, .ref q_5, .ref q_8, .null, .int 0, .int 0, .int 0, .int 0, .int 0])), (q_1, .inl (cy 1, 9, .inr (.inl (fun _ => 0)))), (q_2, .inl (cy 0, 9, .inl (fun _ => 0))), (q_3, .inl (cy 0, 81, .inl (fun _ => 0))), (q_4, .inl (cy 3, 81, .inl (fun _ => 0))), (q_5, .inr (1, [.ref q_7, .int 0])), (q_8, .inl (cy 4, 5, .inr (.inr (.inr (.inr (g_30))))))]) (w1 := [(q_33, .inr (1, [.ref q_35, .int 0]))]) hP hD [7] [0, 1, 2, 3, 4, 5, 6] rfl rfl (by decide) (by decide) hk1 hFc hP1 hD1
  generalize H1 = H at hP hS ⊢
  have hP : va_P (dC, dI) classes [(h0, .inr (10, [.ref q_1, .ref q_2, .ref q_3, .ref q_4, .ref q_5, .ref q_8, .null, .int 0, .int 0, .int 0, .int 0, .int 0])), (q_1, .inl (cy 1, 9, .inr (.inl (fun _ => 0)))), (q_2, .inl (cy 0, 9, .inl (fun _ => 0))), (q_3, .inl (cy 0, 81, .inl (fun _ => 0))), (q_4, .inl (cy 3, 81, .inl (fun _ => 0))), (q_5, .inr (1, [.ref q_7, .int 0])), (q_8, .inl (cy 4, 5, .inr (.inr (.inr (.inr (g_30)))))), (q_33, .inr (1, [.ref q_35, .int 0]))] H := hP
  have hD : va_D A [(h0, .inr (10, [.ref q_1, .ref q_2, .ref q_3, .ref q_4, .ref q_5, .ref q_8, .null, .int 0, .int 0, .int 0, .int 0, .int 0])), (q_1, .inl (cy 1, 9, .inr (.inl (fun _ => 0)))), (q_2, .inl (cy 0, 9, .inl (fun _ => 0))), (q_3, .inl (cy 0, 81, .inl (fun _ => 0))), (q_4, .inl (cy 3, 81, .inl (fun _ => 0))), (q_5, .inr (1, [.ref q_7, .int 0])), (q_8, .inl (cy 4, 5, .inr (.inr (.inr (.inr (g_30)))))), (q_33, .inr (1, [.ref q_35, .int 0]))] := hD
  refine W.widen (k := 17) (n := 249) (by decide +kernel) (by decide +kernel) ?_
  refine va_astq hx hb hK hP hD hS 6 4 7 1 rfl rfl rfl rfl vi_4_5 dX10_init_82 (fun H locs hP hD hS => ?_)
  obtain ⟨g_36, eg_37⟩ : ∃ g : Nat → Option Nat, g = va_up (g_30) (Int32.toNatClampNeg 4) (some q_33) := ⟨_, rfl⟩
  rw [← eg_37] at hP hD
  have eg_38 : g_36 4 = some q_33 := by rw [eg_37]; exact va_up_self _ _ _
  have hP : va_P (dC, dI) classes [(h0, .inr (10, [.ref q_1, .ref q_2, .ref q_3, .ref q_4, .ref q_5, .ref q_8, .null, .int 0, .int 0, .int 0, .int 0, .int 0])), (q_1, .inl (cy 1, 9, .inr (.inl (fun _ => 0)))), (q_2, .inl (cy 0, 9, .inl (fun _ => 0))), (q_3, .inl (cy 0, 81, .inl (fun _ => 0))), (q_4, .inl (cy 3, 81, .inl (fun _ => 0))), (q_5, .inr (1, [.ref q_7, .int 0])), (q_8, .inl (cy 4, 5, .inr (.inr (.inr (.inr (g_36)))))), (q_33, .inr (1, [.ref q_35, .int 0]))] H := hP
  have hD : va_D A [(h0, .inr (10, [.ref q_1, .ref q_2, .ref q_3, .ref q_4, .ref q_5, .ref q_8, .null, .int 0, .int 0, .int 0, .int 0, .int 0])), (q_1, .inl (cy 1, 9, .inr (.inl (fun _ => 0)))), (q_2, .inl (cy 0, 9, .inl (fun _ => 0))), (q_3, .inl (cy 0, 81, .inl (fun _ => 0))), (q_4, .inl (cy 3, 81, .inl (fun _ => 0))), (q_5, .inr (1, [.ref q_7, .int 0])), (q_8, .inl (cy 4, 5, .inr (.inr (.inr (.inr (g_36)))))), (q_33, .inr (1, [.ref q_35, .int 0]))] := hD
  have hP := hP.sub (ws' := [(h0, .inr (10, [.ref q_1, .ref q_2, .ref q_3, .ref q_4, .ref q_5, .ref q_8, .null, .int 0, .int 0, .int 0, .int 0, .int 0])), (q_1, .inl (cy 1, 9, .inr (.inl (fun _ => 0)))), (q_2, .inl (cy 0, 9, .inl (fun _ => 0))), (q_3, .inl (cy 0, 81, .inl (fun _ => 0))), (q_4, .inl (cy 3, 81, .inl (fun _ => 0))), (q_5, .inr (1, [.ref q_7, .int 0])), (q_8, .inl (cy 4, 5, .inr (.inr (.inr (.inr (g_36))))))]) [0, 1, 2, 3, 4, 5, 6] rfl
  have hD := hD.sub (ws' := [(h0, .inr (10, [.ref q_1, .ref q_2, .ref q_3, .ref q_4, .ref q_5, .ref q_8, .null, .int 0, .int 0, .int 0, .int 0, .int 0])), (q_1, .inl (cy 1, 9, .inr (.inl (fun _ => 0)))), (q_2, .inl (cy 0, 9, .inl (fun _ => 0))), (q_3, .inl (cy 0, 81, .inl (fun _ => 0))), (q_4, .inl (cy 3, 81, .inl (fun _ => 0))), (q_5, .inr (1, [.ref q_7, .int 0])), (q_8, .inl (cy 4, 5, .inr (.inr (.inr (.inr (g_36))))))]) [0, 1, 2, 3, 4, 5, 6] (by decide) rfl
  refine lv_iinc (v := 5) (lv' := [(1, .int 5), (0, .ref h0)]) hx hb dX10_init_83 hl (k := 0) rfl (by decide +kernel) (by decide) rfl (fun ls hl => ?_)
  refine lv_goto (tgt := 59) hx hb dX10_init_86 (by decide) ?_
  refine lv_iload_n hx hb dX10_init_59 rfl (lv_at hl 0 rfl) ?_
  refine lv_aload_n hx hb dX10_init_60 rfl (lv_at hl 1 rfl) ?_
  refine va_get (D := (dC, dI)) (ci := 10) (v := .ref q_8) (C := RX10) (T := TX10) (N := 12) hx hb hts inlX10 hown hK hP 0 rfl rfl 5 (by decide) (hts _ m_126) (fun _ h9 => h9) rfl dX10_init_61 ?_
  refine va_alen (v := 5) hx hb hK hP 6 4 rfl rfl rfl dX10_init_64 ?_
  refine lv_icmp_ge (tgt := 89) hx hb dX10_init_65 (by decide) (fun _ => ?_) (fun c_ => absurd (by decide +kernel) c_)
  refine lv_aload_n hx hb dX10_init_89 rfl (lv_at hl 1 rfl) ?_
  refine va_new (ci := 0) (fs := [.null, .null, .null, .null, .int 0, .int 0, .int 0, .int 0]) (C := RX0) (T := TX0) (N := 8) hx hb hts inlX0 tyX0 tyX0_ok hown (hts _ m_127) (hts _ m_128) (hts _ m_129) hK hP hD hS hA rfl dfX0 (show 17 + 1 ≤ 22 from by decide +kernel) (show 249 + 8 ≤ 1351 from by decide +kernel) dX10_init_90 (fun q_39 H hP hD hS => ?_)
  have hP : va_P (dC, dI) classes [(h0, .inr (10, [.ref q_1, .ref q_2, .ref q_3, .ref q_4, .ref q_5, .ref q_8, .null, .int 0, .int 0, .int 0, .int 0, .int 0])), (q_1, .inl (cy 1, 9, .inr (.inl (fun _ => 0)))), (q_2, .inl (cy 0, 9, .inl (fun _ => 0))), (q_3, .inl (cy 0, 81, .inl (fun _ => 0))), (q_4, .inl (cy 3, 81, .inl (fun _ => 0))), (q_5, .inr (1, [.ref q_7, .int 0])), (q_8, .inl (cy 4, 5, .inr (.inr (.inr (.inr (g_36)))))), (q_39, .inr (0, [.null, .null, .null, .null, .int 0, .int 0, .int 0, .int 0]))] H := hP
  have hD : va_D A [(h0, .inr (10, [.ref q_1, .ref q_2, .ref q_3, .ref q_4, .ref q_5, .ref q_8, .null, .int 0, .int 0, .int 0, .int 0, .int 0])), (q_1, .inl (cy 1, 9, .inr (.inl (fun _ => 0)))), (q_2, .inl (cy 0, 9, .inl (fun _ => 0))), (q_3, .inl (cy 0, 81, .inl (fun _ => 0))), (q_4, .inl (cy 3, 81, .inl (fun _ => 0))), (q_5, .inr (1, [.ref q_7, .int 0])), (q_8, .inl (cy 4, 5, .inr (.inr (.inr (.inr (g_36)))))), (q_39, .inr (0, [.null, .null, .null, .null, .int 0, .int 0, .int 0, .int 0]))] := hD
  refine W.widen (k := 18) (n := 257) (by decide +kernel) (by decide +kernel) ?_
  refine lv_dup hx hb dX10_init_93 rfl ?_
  have hPc := hP.sub (ws' := [(q_39, .inr (0, [.null, .null, .null, .null, .int 0, .int 0, .int 0, .int 0]))]) [7] rfl
  have hDc := hD.sub (ws' := [(q_39, .inr (0, [.null, .null, .null, .null, .int 0, .int 0, .int 0, .int 0]))]) [7] (by decide) rfl
  have hFc := va_free (wc := [(q_39, .inr (0, [.null, .null, .null, .null, .int 0, .int 0, .int 0, .int 0]))]) hD hS hA [7] rfl
  refine va_callv (va_runI (As := []) (rest := [.ref q_39, .ref h0]) ⟨hx, hb, hml, hown, hts⟩ (kX0_init_1 l dC dI cy q_39 H.size) (cwI 0 hts (gdI m_143) rfl rfl rfl (hts _ m_129) (hts _ m_141) (hts _ m_142) rfl (by decide +kernel) ⟨Nat.le_of_ble_eq_true rfl, Nat.le_of_ble_eq_true rfl⟩) ⟨fun a U g mk q => by obtain ⟨q0, q1, qP, qE, qD⟩ := q; exact ⟨q0, q1, qP, qE.call, qD⟩, fun U hU hW => ⟨rfl, by rw [hU], by rw [hU]; exact hPc, hE.moved hW, hDc.weaken (fun _ _ _ _ => trivial)⟩⟩ rfl rfl hl.1 rfl (lv_room (Nat.le_of_ble_eq_true rfl)) dX10_init_94 ⟨(show 18 + 4 ≤ 22 from by decide +kernel), (show 257 + 1094 ≤ 1351 from by decide +kernel)⟩) hS (fun q _ h => hFc q h) hFc (fun u t H1 locs ht hvm hw hB hz1 hk1 hS => ?_)
  obtain ⟨q_41, q_42, q_43, q_44, hP1, hD1⟩ := hB
  rw [ht] at hP1
  obtain ⟨hP, hD⟩ := va_join (wr := [(h0, .inr (10, [.ref q_1, .ref q_2, .ref q_3, .ref q_4, .ref q_5, .ref q_8, .null, .int 0, .int 0, .int 0, .int 0, .int 0])), (q_1, .inl (cy 1, 9, .inr (.inl (fun _ => 0)))), (q_2, .inl (cy 0, 9, .inl (fun _ => 0))), (q_3, .inl (cy 0, 81, .inl (fun _ => 0))), (q_4, .inl (cy 3, 81, .inl (fun _ => 0))), (q_5, .inr (1, [.ref q_7, .int 0])), (q_8, .inl (cy 4, 5, .inr (.inr (.inr (.inr (g_36))))))]) (w1 := [(q_39, .inr (0, [.ref q_41, .ref q_42, .ref q_43, .ref q_44, .int 0, .int 0, .int 0, .int 0]))]) hP hD [7] [0, 1, 2, 3, 4, 5, 6] rfl rfl (by decide) (by decide) hk1 hFc hP1 hD1
  generalize H1 = H at hP hS ⊢
  have hP : va_P (dC, dI) classes [(h0, .inr (10, [.ref q_1, .ref q_2, .ref q_3, .ref q_4, .ref q_5, .ref q_8, .null, .int 0, .int 0, .int 0, .int 0, .int 0])), (q_1, .inl (cy 1, 9, .inr (.inl (fun _ => 0)))), (q_2, .inl (cy 0, 9, .inl (fun _ => 0))), (q_3, .inl (cy 0, 81, .inl (fun _ => 0))), (q_4, .inl (cy 3, 81, .inl (fun _ => 0))), (q_5, .inr (1, [.ref q_7, .int 0])), (q_8, .inl (cy 4, 5, .inr (.inr (.inr (.inr (g_36)))))), (q_39, .inr (0, [.ref q_41, .ref q_42, .ref q_43, .ref q_44, .int 0, .int 0, .int 0, .int 0]))] H := hP
  have hD : va_D A [(h0, .inr (10, [.ref q_1, .ref q_2, .ref q_3, .ref q_4, .ref q_5, .ref q_8, .null, .int 0, .int 0, .int 0, .int 0, .int 0])), (q_1, .inl (cy 1, 9, .inr (.inl (fun _ => 0)))), (q_2, .inl (cy 0, 9, .inl (fun _ => 0))), (q_3, .inl (cy 0, 81, .inl (fun _ => 0))), (q_4, .inl (cy 3, 81, .inl (fun _ => 0))), (q_5, .inr (1, [.ref q_7, .int 0])), (q_8, .inl (cy 4, 5, .inr (.inr (.inr (.inr (g_36)))))), (q_39, .inr (0, [.ref q_41, .ref q_42, .ref q_43, .ref q_44, .int 0, .int 0, .int 0, .int 0]))] := hD
  refine W.widen (k := 22) (n := 1351) (by decide +kernel) (by decide +kernel) ?_
  refine va_putF (D := (dC, dI)) (ci := 10) (v := .ref q_39) (ty := (tyX10 6)) (C := RX10) (T := TX10) (N := 12) hx hb hts inlX10 tyX10 tyX10_ok nmX10 hown hK hP hD hS 0 rfl rfl 6 (by decide) (hts _ m_130) (fun _ h9 => h9) rfl hin rfl (by decide +kernel) rfl rfl (Nat.le_of_ble_eq_true rfl) dX10_init_97 (fun H locs hP hD hS => ?_)
  have hP : va_P (dC, dI) classes [(h0, .inr (10, [.ref q_1, .ref q_2, .ref q_3, .ref q_4, .ref q_5, .ref q_8, .ref q_39, .int 0, .int 0, .int 0, .int 0, .int 0])), (q_1, .inl (cy 1, 9, .inr (.inl (fun _ => 0)))), (q_2, .inl (cy 0, 9, .inl (fun _ => 0))), (q_3, .inl (cy 0, 81, .inl (fun _ => 0))), (q_4, .inl (cy 3, 81, .inl (fun _ => 0))), (q_5, .inr (1, [.ref q_7, .int 0])), (q_8, .inl (cy 4, 5, .inr (.inr (.inr (.inr (g_36)))))), (q_39, .inr (0, [.ref q_41, .ref q_42, .ref q_43, .ref q_44, .int 0, .int 0, .int 0, .int 0]))] H := hP
  have hD : va_D A [(h0, .inr (10, [.ref q_1, .ref q_2, .ref q_3, .ref q_4, .ref q_5, .ref q_8, .ref q_39, .int 0, .int 0, .int 0, .int 0, .int 0])), (q_1, .inl (cy 1, 9, .inr (.inl (fun _ => 0)))), (q_2, .inl (cy 0, 9, .inl (fun _ => 0))), (q_3, .inl (cy 0, 81, .inl (fun _ => 0))), (q_4, .inl (cy 3, 81, .inl (fun _ => 0))), (q_5, .inr (1, [.ref q_7, .int 0])), (q_8, .inl (cy 4, 5, .inr (.inr (.inr (.inr (g_36)))))), (q_39, .inr (0, [.ref q_41, .ref q_42, .ref q_43, .ref q_44, .int 0, .int 0, .int 0, .int 0]))] := hD
  have hP9 := hP.sub (ws' := [(h0, .inr (10, [.ref q_1, .ref q_2, .ref q_3, .ref q_4, .ref q_5, .ref q_8, .ref q_39, .int 0, .int 0, .int 0, .int 0, .int 0])), (q_3, .inl (cy 0, 81, .inl (fun _ => 0))), (q_4, .inl (cy 3, 81, .inl (fun _ => 0))), (q_5, .inr (1, [.ref q_7, .int 0])), (q_39, .inr (0, [.ref q_41, .ref q_42, .ref q_43, .ref q_44, .int 0, .int 0, .int 0, .int 0]))]) [0, 3, 4, 5, 7] rfl
  have hD9 := hD.sub (ws' := [(h0, .inr (10, [.ref q_1, .ref q_2, .ref q_3, .ref q_4, .ref q_5, .ref q_8, .ref q_39, .int 0, .int 0, .int 0, .int 0, .int 0])), (q_3, .inl (cy 0, 81, .inl (fun _ => 0))), (q_4, .inl (cy 3, 81, .inl (fun _ => 0))), (q_5, .inr (1, [.ref q_7, .int 0])), (q_39, .inr (0, [.ref q_41, .ref q_42, .ref q_43, .ref q_44, .int 0, .int 0, .int 0, .int 0]))]) [0, 3, 4, 5, 7] (by decide) rfl
  exact W.vret hx hb hr (fun t ht hW => ⟨⟨(), rfl, trivial, q_1, q_2, q_3, q_4, q_5, q_8, q_39, q_7, q_41, q_42, q_43, q_44, by rw [ht]; exact hP9, hD9⟩, hS.F ht⟩) hS.2.2 dX10_init_100
set_option maxHeartbeats 4000000 in
set_option maxRecDepth 100000 in
theorem kX6_init_1 (l : Launch) (dC : Nat → ClassId) (dI : Nat → Nat → Nat) (cy : Nat → ClassId) (h0 : Nat) (sz : Nat) (kq vq : Nat) (bf : Nat → Int32) : Met l yX6_init wmX6_init ({ frames := 5, cells := 26, slots := 2986, locals := 108 }) (va_Pc [.ref h0] (fun U => U.heap.size = sz ∧ va_P (dC, dI) classes [(h0, .inr (6, [.null, .null, .int 0, .int 0]))] U.heap ∧ EV dC dI cy U ∧ va_D (fun _ => True) [(h0, .inr (6, [.null, .null, .int 0, .int 0]))] ∧ SV kq vq bf (va_A [(h0, .inr (6, [.null, .null, .int 0, .int 0]))] sz) U)) (va_Qv (S := Unit) (fun _ => True) (fun _ t => ∃ (q_1 : Nat) (q_5 : Nat) (q_3 : Nat) (q_4 : Nat) (q_7 : Nat) (q_8 : Nat) (q_9 : Nat) (q_10 : Nat) (q_11 : Nat) (q_12 : Nat) (q_13 : Nat) (q_14 : Nat) (q_15 : Nat) (q_16 : Nat) (q_17 : Nat) (q_18 : Nat), va_P (dC, dI) classes [(h0, .inr (6, [.ref q_1, .ref q_5, .int 0, .int (-1)])), (q_1, .inr (9, [.ref q_3, .ref q_4, .int 0, .int 0, .int 0, .int 0, .int 0, .long 0])), (q_3, .inl (cy 2, 1600, .inl (fun _ => 0))), (q_5, .inr (10, [.ref q_7, .ref q_8, .ref q_9, .ref q_10, .ref q_11, .ref q_12, .ref q_13, .int 0, .int 0, .int 0, .int 0, .int 0])), (q_9, .inl (cy 0, 81, .inl (fun _ => 0))), (q_10, .inl (cy 3, 81, .inl (fun _ => 0))), (q_11, .inr (1, [.ref q_14, .int 0])), (q_13, .inr (0, [.ref q_15, .ref q_16, .ref q_17, .ref q_18, .int 0, .int 0, .int 0, .int 0]))] t.heap ∧ va_D (va_A [(h0, .inr (6, [.null, .null, .int 0, .int 0]))] sz) [(h0, .inr (6, [.ref q_1, .ref q_5, .int 0, .int (-1)])), (q_1, .inr (9, [.ref q_3, .ref q_4, .int 0, .int 0, .int 0, .int 0, .int 0, .long 0])), (q_3, .inl (cy 2, 1600, .inl (fun _ => 0))), (q_5, .inr (10, [.ref q_7, .ref q_8, .ref q_9, .ref q_10, .ref q_11, .ref q_12, .ref q_13, .int 0, .int 0, .int 0, .int 0, .int 0])), (q_9, .inl (cy 0, 81, .inl (fun _ => 0))), (q_10, .inl (cy 3, 81, .inl (fun _ => 0))), (q_11, .inr (1, [.ref q_14, .int 0])), (q_13, .inr (0, [.ref q_15, .ref q_16, .ref q_17, .ref q_18, .int 0, .int 0, .int 0, .int 0]))]) (va_A [(h0, .inr (6, [.null, .null, .int 0, .int 0]))] sz)) 26 2986 (va_A [(h0, .inr (6, [.null, .null, .int 0, .int 0]))] sz) := by
  refine Met.ofW (cc := cX6_init) (maxL := 1) (ret := none) (by decide +kernel) rfl ?_
  intro p e s m args below meth c s₁ B hml hv
  obtain ⟨rfl, hsz, hP, hE, hD0, hV⟩ := hv
  have hK := hE.1
  have hN := hE.2.1
  have hx := B.exec
  have hb := B.bytes
  have hr := B.returns
  have hts0 := atoms_spec (ws := wmX6_init) B.pre
  have hts : ∀ w ∈ wsL_law, w.before _ s = true := fun w h => hts0 w (List.mem_cons_of_mem _ h)
  have hown : s.vm.findClass RX6 = some m.cls := findClass_of_methodNamed B.named
  have hlocks := B.notSynchronized
  have hin : meth.name = "<init>" := (name_of_methodNamed B.named B.method).1
  subst hsz
  have hD := hD0.self (sz := s.heap.size)
  generalize hAe : va_A [(h0, .inr (6, [.null, .null, .int 0, .int 0]))] s.heap.size = A at hD hV ⊢
  have hA : ∀ q : Nat, s.heap.size ≤ q → A q := fun q h => by rw [← hAe]; exact Or.inr h
  have hS : va_S A s.heap s.heap [] := va_S.rf
  have hP : va_P (dC, dI) classes [(h0, .inr (6, [.null, .null, .int 0, .int 0]))] s.heap := hP
  have hl := lv_entry ([.ref h0]) (n := 1) (Nat.le_of_ble_eq_true rfl)
  rw [lg_entry_eq]
  generalize (lg_sl ([.ref h0]) ++ List.replicate (1 - (lg_sl ([.ref h0])).length) Slot.unset).toArray = ls at hl ⊢
  have hl : lv_has ls 1 [(0, .ref h0)] := hl
  refine lv_aload_n hx hb dX6_init_0 rfl (lv_at hl 0 rfl) ?_
  refine W.objInit hx hb hown (hts _ m_48) (hts _ m_10) (hts _ m_11) rfl (by rw [hml]; exact hl.1) rfl dX6_init_1 (Nat.le_of_ble_eq_true rfl) (Nat.le_of_ble_eq_true rfl) ?_
  refine W.eq (g2 := F0 m 4 ls []) rfl ?_
  refine lv_aload_n hx hb dX6_init_4 rfl (lv_at hl 0 rfl) ?_
  refine va_new (ci := 9) (fs := [.null, .null, .int 0, .int 0, .int 0, .int 0, .int 0, .long 0]) (C := RX9) (T := TX9) (N := 8) hx hb hts inlX9 tyX9 tyX9_ok hown (hts _ m_49) (hts _ m_50) (hts _ m_51) hK hP hD hS hA rfl dfX9 (show 0 + 1 ≤ 26 from by decide +kernel) (show 0 + 8 ≤ 2986 from by decide +kernel) dX6_init_5 (fun q_1 H hP hD hS => ?_)
  have hP : va_P (dC, dI) classes [(h0, .inr (6, [.null, .null, .int 0, .int 0])), (q_1, .inr (9, [.null, .null, .int 0, .int 0, .int 0, .int 0, .int 0, .long 0]))] H := hP
  have hD : va_D A [(h0, .inr (6, [.null, .null, .int 0, .int 0])), (q_1, .inr (9, [.null, .null, .int 0, .int 0, .int 0, .int 0, .int 0, .long 0]))] := hD
  refine W.widen (k := 1) (n := 8) (by decide +kernel) (by decide +kernel) ?_
  refine lv_dup hx hb dX6_init_8 rfl ?_
  have hPc := hP.sub (ws' := [(q_1, .inr (9, [.null, .null, .int 0, .int 0, .int 0, .int 0, .int 0, .long 0]))]) [1] rfl
  have hDc := hD.sub (ws' := [(q_1, .inr (9, [.null, .null, .int 0, .int 0, .int 0, .int 0, .int 0, .long 0]))]) [1] (by decide) rfl
  have hFc := va_free (wc := [(q_1, .inr (9, [.null, .null, .int 0, .int 0, .int 0, .int 0, .int 0, .long 0]))]) hD hS hA [1] rfl
  refine va_callv (va_runI (As := []) (rest := [.ref q_1, .ref h0]) ⟨hx, hb, hml, hown, hts⟩ (kX9_init_1 l dC dI cy q_1 H.size kq vq bf) (cwI 0 hts (gdI m_59) rfl rfl rfl (hts _ m_51) (hts _ m_57) (hts _ m_58) rfl (by decide +kernel) ⟨Nat.le_of_ble_eq_true rfl, Nat.le_of_ble_eq_true rfl⟩) ⟨fun a U g mk q => by obtain ⟨q0, q1, qP, qE, qD, qV⟩ := q; exact ⟨q0, q1, qP, qE.call, qD, qV.call⟩, fun U hU hW => ⟨rfl, by rw [hU], by rw [hU]; exact hPc, hE.moved hW, hDc.weaken (fun _ _ _ _ => trivial), hV.step hW (fun a h1 h2 => by rw [hU]; exact hS.2.1 a h1 h2) hFc⟩⟩ rfl rfl hl.1 rfl (lv_room (Nat.le_of_ble_eq_true rfl)) dX6_init_9 ⟨(show 1 + 2 ≤ 26 from by decide +kernel), (show 8 + 1615 ≤ 2986 from by decide +kernel)⟩) hS (fun q _ h => hFc q h) hFc (fun u t H1 locs ht hvm hw hB hz1 hk1 hS => ?_)
  obtain ⟨q_3, q_4, hP1, hD1⟩ := hB
  rw [ht] at hP1
  obtain ⟨hP, hD⟩ := va_join (wr := [(h0, .inr (6, [.null, .null, .int 0, .int 0]))]) (w1 := [(q_1, .inr (9, [.ref q_3, .ref q_4, .int 0, .int 0, .int 0, .int 0, .int 0, .long 0])), (q_3, .inl (cy 2, 1600, .inl (fun _ => 0)))]) hP hD [1] [0] rfl rfl (by decide) (by decide) hk1 hFc hP1 hD1
  generalize H1 = H at hP hS ⊢
  have hP : va_P (dC, dI) classes [(h0, .inr (6, [.null, .null, .int 0, .int 0])), (q_1, .inr (9, [.ref q_3, .ref q_4, .int 0, .int 0, .int 0, .int 0, .int 0, .long 0])), (q_3, .inl (cy 2, 1600, .inl (fun _ => 0)))] H := hP
  have hD : va_D A [(h0, .inr (6, [.null, .null, .int 0, .int 0])), (q_1, .inr (9, [.ref q_3, .ref q_4, .int 0, .int 0, .int 0, .int 0, .int 0, .long 0])), (q_3, .inl (cy 2, 1600, .inl (fun _ => 0)))] := hD
  refine W.widen (k := 3) (n := 1623) (by decide +kernel) (by decide +kernel) ?_
  refine va_putF (D := (dC, dI)) (ci := 6) (v := .ref q_1) (ty := (tyX6 0)) (C := RX6) (T := TX6) (N := 4) hx hb hts inlX6 tyX6 tyX6_ok nmX6 hown hK hP hD hS 0 rfl rfl 0 (by decide) (hts _ m_52) (fun _ h9 => h9) rfl hin rfl (by decide +kernel) rfl rfl (Nat.le_of_ble_eq_true rfl) dX6_init_12 (fun H locs hP hD hS => ?_)
  have hP : va_P (dC, dI) classes [(h0, .inr (6, [.ref q_1, .null, .int 0, .int 0])), (q_1, .inr (9, [.ref q_3, .ref q_4, .int 0, .int 0, .int 0, .int 0, .int 0, .long 0])), (q_3, .inl (cy 2, 1600, .inl (fun _ => 0)))] H := hP
  have hD : va_D A [(h0, .inr (6, [.ref q_1, .null, .int 0, .int 0])), (q_1, .inr (9, [.ref q_3, .ref q_4, .int 0, .int 0, .int 0, .int 0, .int 0, .long 0])), (q_3, .inl (cy 2, 1600, .inl (fun _ => 0)))] := hD
  refine lv_aload_n hx hb dX6_init_15 rfl (lv_at hl 0 rfl) ?_
  refine va_new (ci := 10) (fs := [.null, .null, .null, .null, .null, .null, .null, .int 0, .int 0, .int 0, .int 0, .int 0]) (C := RX10) (T := TX10) (N := 12) hx hb hts inlX10 tyX10 tyX10_ok hown (hts _ m_53) (hts _ m_42) (hts _ m_43) hK hP hD hS hA rfl dfX10 (show 3 + 1 ≤ 26 from by decide +kernel) (show 1623 + 12 ≤ 2986 from by decide +kernel) dX6_init_16 (fun q_5 H hP hD hS => ?_)
  have hP : va_P (dC, dI) classes [(h0, .inr (6, [.ref q_1, .null, .int 0, .int 0])), (q_1, .inr (9, [.ref q_3, .ref q_4, .int 0, .int 0, .int 0, .int 0, .int 0, .long 0])), (q_3, .inl (cy 2, 1600, .inl (fun _ => 0))), (q_5, .inr (10, [.null, .null, .null, .null, .null, .null, .null, .int 0, .int 0, .int 0, .int 0, .int 0]))] H := hP
  have hD : va_D A [(h0, .inr (6, [.ref q_1, .null, .int 0, .int 0])), (q_1, .inr (9, [.ref q_3, .ref q_4, .int 0, .int 0, .int 0, .int 0, .int 0, .long 0])), (q_3, .inl (cy 2, 1600, .inl (fun _ => 0))), (q_5, .inr (10, [.null, .null, .null, .null, .null, .null, .null, .int 0, .int 0, .int 0, .int 0, .int 0]))] := hD
  refine W.widen (k := 4) (n := 1635) (by decide +kernel) (by decide +kernel) ?_
  refine lv_dup hx hb dX6_init_19 rfl ?_
  have hPc := hP.sub (ws' := [(q_5, .inr (10, [.null, .null, .null, .null, .null, .null, .null, .int 0, .int 0, .int 0, .int 0, .int 0]))]) [3] rfl
  have hDc := hD.sub (ws' := [(q_5, .inr (10, [.null, .null, .null, .null, .null, .null, .null, .int 0, .int 0, .int 0, .int 0, .int 0]))]) [3] (by decide) rfl
  have hFc := va_free (wc := [(q_5, .inr (10, [.null, .null, .null, .null, .null, .null, .null, .int 0, .int 0, .int 0, .int 0, .int 0]))]) hD hS hA [3] rfl
  refine va_callv (va_runI (As := []) (rest := [.ref q_5, .ref h0]) ⟨hx, hb, hml, hown, hts⟩ (kX10_init_1 l dC dI cy q_5 H.size) (cwI 0 hts (gdI m_116) rfl rfl rfl (hts _ m_43) (hts _ m_114) (hts _ m_115) rfl (by decide +kernel) ⟨Nat.le_of_ble_eq_true rfl, Nat.le_of_ble_eq_true rfl⟩) ⟨fun a U g mk q => by obtain ⟨q0, q1, qP, qE, qD⟩ := q; exact ⟨q0, q1, qP, qE.call, qD⟩, fun U hU hW => ⟨rfl, by rw [hU], by rw [hU]; exact hPc, hE.moved hW, hDc.weaken (fun _ _ _ _ => trivial)⟩⟩ rfl rfl hl.1 rfl (lv_room (Nat.le_of_ble_eq_true rfl)) dX6_init_20 ⟨(show 4 + 22 ≤ 26 from by decide +kernel), (show 1635 + 1351 ≤ 2986 from by decide +kernel)⟩) hS (fun q _ h => hFc q h) hFc (fun u t H1 locs ht hvm hw hB hz1 hk1 hS => ?_)
  obtain ⟨q_7, q_8, q_9, q_10, q_11, q_12, q_13, q_14, q_15, q_16, q_17, q_18, hP1, hD1⟩ := hB
  rw [ht] at hP1
  obtain ⟨hP, hD⟩ := va_join (wr := [(h0, .inr (6, [.ref q_1, .null, .int 0, .int 0])), (q_1, .inr (9, [.ref q_3, .ref q_4, .int 0, .int 0, .int 0, .int 0, .int 0, .long 0])), (q_3, .inl (cy 2, 1600, .inl (fun _ => 0)))]) (w1 := [(q_5, .inr (10, [.ref q_7, .ref q_8, .ref q_9, .ref q_10, .ref q_11, .ref q_12, .ref q_13, .int 0, .int 0, .int 0, .int 0, .int 0])), (q_9, .inl (cy 0, 81, .inl (fun _ => 0))), (q_10, .inl (cy 3, 81, .inl (fun _ => 0))), (q_11, .inr (1, [.ref q_14, .int 0])), (q_13, .inr (0, [.ref q_15, .ref q_16, .ref q_17, .ref q_18, .int 0, .int 0, .int 0, .int 0]))]) hP hD [3] [0, 1, 2] rfl rfl (by decide) (by decide) hk1 hFc hP1 hD1
  generalize H1 = H at hP hS ⊢
  have hP : va_P (dC, dI) classes [(h0, .inr (6, [.ref q_1, .null, .int 0, .int 0])), (q_1, .inr (9, [.ref q_3, .ref q_4, .int 0, .int 0, .int 0, .int 0, .int 0, .long 0])), (q_3, .inl (cy 2, 1600, .inl (fun _ => 0))), (q_5, .inr (10, [.ref q_7, .ref q_8, .ref q_9, .ref q_10, .ref q_11, .ref q_12, .ref q_13, .int 0, .int 0, .int 0, .int 0, .int 0])), (q_9, .inl (cy 0, 81, .inl (fun _ => 0))), (q_10, .inl (cy 3, 81, .inl (fun _ => 0))), (q_11, .inr (1, [.ref q_14, .int 0])), (q_13, .inr (0, [.ref q_15, .ref q_16, .ref q_17, .ref q_18, .int 0, .int 0, .int 0, .int 0]))] H := hP
  have hD : va_D A [(h0, .inr (6, [.ref q_1, .null, .int 0, .int 0])), (q_1, .inr (9, [.ref q_3, .ref q_4, .int 0, .int 0, .int 0, .int 0, .int 0, .long 0])), (q_3, .inl (cy 2, 1600, .inl (fun _ => 0))), (q_5, .inr (10, [.ref q_7, .ref q_8, .ref q_9, .ref q_10, .ref q_11, .ref q_12, .ref q_13, .int 0, .int 0, .int 0, .int 0, .int 0])), (q_9, .inl (cy 0, 81, .inl (fun _ => 0))), (q_10, .inl (cy 3, 81, .inl (fun _ => 0))), (q_11, .inr (1, [.ref q_14, .int 0])), (q_13, .inr (0, [.ref q_15, .ref q_16, .ref q_17, .ref q_18, .int 0, .int 0, .int 0, .int 0]))] := hD
  refine W.widen (k := 26) (n := 2986) (by decide +kernel) (by decide +kernel) ?_
  refine va_put (D := (dC, dI)) (ci := 6) (v := .ref q_5) (ty := (tyX6 1)) (C := RX6) (T := TX6) (N := 4) hx hb hts inlX6 tyX6 tyX6_ok nmX6 hown hK hP hD hS 0 rfl rfl 1 (by decide) (hts _ m_54) (fun _ h9 => h9) rfl (by decide +kernel) rfl rfl (Nat.le_of_ble_eq_true rfl) dX6_init_23 (fun H locs hP hD hS => ?_)
  have hP : va_P (dC, dI) classes [(h0, .inr (6, [.ref q_1, .ref q_5, .int 0, .int 0])), (q_1, .inr (9, [.ref q_3, .ref q_4, .int 0, .int 0, .int 0, .int 0, .int 0, .long 0])), (q_3, .inl (cy 2, 1600, .inl (fun _ => 0))), (q_5, .inr (10, [.ref q_7, .ref q_8, .ref q_9, .ref q_10, .ref q_11, .ref q_12, .ref q_13, .int 0, .int 0, .int 0, .int 0, .int 0])), (q_9, .inl (cy 0, 81, .inl (fun _ => 0))), (q_10, .inl (cy 3, 81, .inl (fun _ => 0))), (q_11, .inr (1, [.ref q_14, .int 0])), (q_13, .inr (0, [.ref q_15, .ref q_16, .ref q_17, .ref q_18, .int 0, .int 0, .int 0, .int 0]))] H := hP
  have hD : va_D A [(h0, .inr (6, [.ref q_1, .ref q_5, .int 0, .int 0])), (q_1, .inr (9, [.ref q_3, .ref q_4, .int 0, .int 0, .int 0, .int 0, .int 0, .long 0])), (q_3, .inl (cy 2, 1600, .inl (fun _ => 0))), (q_5, .inr (10, [.ref q_7, .ref q_8, .ref q_9, .ref q_10, .ref q_11, .ref q_12, .ref q_13, .int 0, .int 0, .int 0, .int 0, .int 0])), (q_9, .inl (cy 0, 81, .inl (fun _ => 0))), (q_10, .inl (cy 3, 81, .inl (fun _ => 0))), (q_11, .inr (1, [.ref q_14, .int 0])), (q_13, .inr (0, [.ref q_15, .ref q_16, .ref q_17, .ref q_18, .int 0, .int 0, .int 0, .int 0]))] := hD
  refine lv_aload_n hx hb dX6_init_26 rfl (lv_at hl 0 rfl) ?_
  refine lv_iconst (v := 0) hx hb dX6_init_27 (by decide +kernel) ?_
  refine va_put (D := (dC, dI)) (ci := 6) (v := .int 0) (ty := .int) (C := RX6) (T := TX6) (N := 4) hx hb hts inlX6 tyX6 tyX6_ok nmX6 hown hK hP hD hS 0 rfl rfl 2 (by decide) (hts _ m_55) (fun _ h9 => h9) rfl (by decide +kernel) rfl rfl (Nat.le_of_ble_eq_true rfl) dX6_init_28 (fun H locs hP hD hS => ?_)
  have hP : va_P (dC, dI) classes [(h0, .inr (6, [.ref q_1, .ref q_5, .int 0, .int 0])), (q_1, .inr (9, [.ref q_3, .ref q_4, .int 0, .int 0, .int 0, .int 0, .int 0, .long 0])), (q_3, .inl (cy 2, 1600, .inl (fun _ => 0))), (q_5, .inr (10, [.ref q_7, .ref q_8, .ref q_9, .ref q_10, .ref q_11, .ref q_12, .ref q_13, .int 0, .int 0, .int 0, .int 0, .int 0])), (q_9, .inl (cy 0, 81, .inl (fun _ => 0))), (q_10, .inl (cy 3, 81, .inl (fun _ => 0))), (q_11, .inr (1, [.ref q_14, .int 0])), (q_13, .inr (0, [.ref q_15, .ref q_16, .ref q_17, .ref q_18, .int 0, .int 0, .int 0, .int 0]))] H := hP
  have hD : va_D A [(h0, .inr (6, [.ref q_1, .ref q_5, .int 0, .int 0])), (q_1, .inr (9, [.ref q_3, .ref q_4, .int 0, .int 0, .int 0, .int 0, .int 0, .long 0])), (q_3, .inl (cy 2, 1600, .inl (fun _ => 0))), (q_5, .inr (10, [.ref q_7, .ref q_8, .ref q_9, .ref q_10, .ref q_11, .ref q_12, .ref q_13, .int 0, .int 0, .int 0, .int 0, .int 0])), (q_9, .inl (cy 0, 81, .inl (fun _ => 0))), (q_10, .inl (cy 3, 81, .inl (fun _ => 0))), (q_11, .inr (1, [.ref q_14, .int 0])), (q_13, .inr (0, [.ref q_15, .ref q_16, .ref q_17, .ref q_18, .int 0, .int 0, .int 0, .int 0]))] := hD
  refine lv_aload_n hx hb dX6_init_31 rfl (lv_at hl 0 rfl) ?_
  refine lv_iconst (v := (-1)) hx hb dX6_init_32 (by decide +kernel) ?_
  refine va_put (D := (dC, dI)) (ci := 6) (v := .int (-1)) (ty := .int) (C := RX6) (T := TX6) (N := 4) hx hb hts inlX6 tyX6 tyX6_ok nmX6 hown hK hP hD hS 0 rfl rfl 3 (by decide) (hts _ m_56) (fun _ h9 => h9) rfl (by decide +kernel) rfl rfl (Nat.le_of_ble_eq_true rfl) dX6_init_33 (fun H locs hP hD hS => ?_)
  have hP : va_P (dC, dI) classes [(h0, .inr (6, [.ref q_1, .ref q_5, .int 0, .int (-1)])), (q_1, .inr (9, [.ref q_3, .ref q_4, .int 0, .int 0, .int 0, .int 0, .int 0, .long 0])), (q_3, .inl (cy 2, 1600, .inl (fun _ => 0))), (q_5, .inr (10, [.ref q_7, .ref q_8, .ref q_9, .ref q_10, .ref q_11, .ref q_12, .ref q_13, .int 0, .int 0, .int 0, .int 0, .int 0])), (q_9, .inl (cy 0, 81, .inl (fun _ => 0))), (q_10, .inl (cy 3, 81, .inl (fun _ => 0))), (q_11, .inr (1, [.ref q_14, .int 0])), (q_13, .inr (0, [.ref q_15, .ref q_16, .ref q_17, .ref q_18, .int 0, .int 0, .int 0, .int 0]))] H := hP
  have hD : va_D A [(h0, .inr (6, [.ref q_1, .ref q_5, .int 0, .int (-1)])), (q_1, .inr (9, [.ref q_3, .ref q_4, .int 0, .int 0, .int 0, .int 0, .int 0, .long 0])), (q_3, .inl (cy 2, 1600, .inl (fun _ => 0))), (q_5, .inr (10, [.ref q_7, .ref q_8, .ref q_9, .ref q_10, .ref q_11, .ref q_12, .ref q_13, .int 0, .int 0, .int 0, .int 0, .int 0])), (q_9, .inl (cy 0, 81, .inl (fun _ => 0))), (q_10, .inl (cy 3, 81, .inl (fun _ => 0))), (q_11, .inr (1, [.ref q_14, .int 0])), (q_13, .inr (0, [.ref q_15, .ref q_16, .ref q_17, .ref q_18, .int 0, .int 0, .int 0, .int 0]))] := hD
  have hP9 := hP.sub (ws' := [(h0, .inr (6, [.ref q_1, .ref q_5, .int 0, .int (-1)])), (q_1, .inr (9, [.ref q_3, .ref q_4, .int 0, .int 0, .int 0, .int 0, .int 0, .long 0])), (q_3, .inl (cy 2, 1600, .inl (fun _ => 0))), (q_5, .inr (10, [.ref q_7, .ref q_8, .ref q_9, .ref q_10, .ref q_11, .ref q_12, .ref q_13, .int 0, .int 0, .int 0, .int 0, .int 0])), (q_9, .inl (cy 0, 81, .inl (fun _ => 0))), (q_10, .inl (cy 3, 81, .inl (fun _ => 0))), (q_11, .inr (1, [.ref q_14, .int 0])), (q_13, .inr (0, [.ref q_15, .ref q_16, .ref q_17, .ref q_18, .int 0, .int 0, .int 0, .int 0]))]) [0, 1, 2, 3, 4, 5, 6, 7] rfl
  have hD9 := hD.sub (ws' := [(h0, .inr (6, [.ref q_1, .ref q_5, .int 0, .int (-1)])), (q_1, .inr (9, [.ref q_3, .ref q_4, .int 0, .int 0, .int 0, .int 0, .int 0, .long 0])), (q_3, .inl (cy 2, 1600, .inl (fun _ => 0))), (q_5, .inr (10, [.ref q_7, .ref q_8, .ref q_9, .ref q_10, .ref q_11, .ref q_12, .ref q_13, .int 0, .int 0, .int 0, .int 0, .int 0])), (q_9, .inl (cy 0, 81, .inl (fun _ => 0))), (q_10, .inl (cy 3, 81, .inl (fun _ => 0))), (q_11, .inr (1, [.ref q_14, .int 0])), (q_13, .inr (0, [.ref q_15, .ref q_16, .ref q_17, .ref q_18, .int 0, .int 0, .int 0, .int 0]))]) [0, 1, 2, 3, 4, 5, 6, 7] (by decide) rfl
  exact W.vret hx hb hr (fun t ht hW => ⟨⟨(), rfl, trivial, q_1, q_5, q_3, q_4, q_7, q_8, q_9, q_10, q_11, q_12, q_13, q_14, q_15, q_16, q_17, q_18, by rw [ht]; exact hP9, hD9⟩, hS.F ht⟩) hS.2.2 dX6_init_36
set_option maxHeartbeats 4000000 in
set_option maxRecDepth 100000 in
theorem kX5_init_1 (l : Launch) (dC : Nat → ClassId) (dI : Nat → Nat → Nat) (cy : Nat → ClassId) (h0 : Nat) (sz : Nat) : Met l yX5_init wmX5_init ({ frames := 3, cells := 141, slots := 829, locals := 62 }) (va_Pc [.ref h0] (fun U => U.heap.size = sz ∧ va_P (dC, dI) classes [(h0, .inr (5, [.null, .null, .null, .null, .null, .int 0, .int 0]))] U.heap ∧ EV dC dI cy U ∧ va_D (fun _ => True) [(h0, .inr (5, [.null, .null, .null, .null, .null, .int 0, .int 0]))])) (va_Qv (S := Unit) (fun _ => True) (fun _ t => ∃ (q_1 : Nat) (q_5 : Nat) (q_9 : Nat) (q_20 : Nat) (q_45 : Nat) (q_3 : Nat) (q_4 : Nat) (q_7 : Nat) (q_8 : Nat) (q_10 : Nat) (q_12 : Nat) (q_13 : Nat) (q_21 : Nat) (q_23 : Nat) (q_24 : Nat) (q_28 : Nat) (q_30 : Nat) (q_31 : Nat) (q_36 : Nat) (q_38 : Nat) (q_39 : Nat) (g_17 : Nat → Option Nat) (g_40 : Nat → Option Nat), (g_17 0 = some q_10) ∧ (g_40 0 = some q_21) ∧ (g_40 1 = some q_28) ∧ (g_40 2 = some q_36) ∧ va_P (dC, dI) classes [(h0, .inr (5, [.ref q_1, .ref q_5, .ref q_9, .ref q_20, .ref q_45, .int 0, .int 0])), (q_1, .inr (8, [.ref q_3, .int 0, .int 0])), (q_3, .inr (1, [.ref q_4, .int 0])), (q_5, .inr (8, [.ref q_7, .int 0, .int 0])), (q_7, .inr (1, [.ref q_8, .int 0])), (q_9, .inl (cy 5, 41, .inr (.inr (.inr (.inr (g_17)))))), (q_10, .inr (8, [.ref q_12, .int 0, .int 0])), (q_12, .inr (1, [.ref q_13, .int 0])), (q_20, .inl (cy 5, 3, .inr (.inr (.inr (.inr (g_40)))))), (q_21, .inr (8, [.ref q_23, .int 0, .int 0])), (q_23, .inr (1, [.ref q_24, .int 0])), (q_28, .inr (8, [.ref q_30, .int 0, .int 0])), (q_30, .inr (1, [.ref q_31, .int 0])), (q_36, .inr (8, [.ref q_38, .int 0, .int 0])), (q_38, .inr (1, [.ref q_39, .int 0])), (q_45, .inl (cy 3, 3, .inl (fun _ => 0)))] t.heap ∧ va_D (va_A [(h0, .inr (5, [.null, .null, .null, .null, .null, .int 0, .int 0]))] sz) [(h0, .inr (5, [.ref q_1, .ref q_5, .ref q_9, .ref q_20, .ref q_45, .int 0, .int 0])), (q_1, .inr (8, [.ref q_3, .int 0, .int 0])), (q_3, .inr (1, [.ref q_4, .int 0])), (q_5, .inr (8, [.ref q_7, .int 0, .int 0])), (q_7, .inr (1, [.ref q_8, .int 0])), (q_9, .inl (cy 5, 41, .inr (.inr (.inr (.inr (g_17)))))), (q_10, .inr (8, [.ref q_12, .int 0, .int 0])), (q_12, .inr (1, [.ref q_13, .int 0])), (q_20, .inl (cy 5, 3, .inr (.inr (.inr (.inr (g_40)))))), (q_21, .inr (8, [.ref q_23, .int 0, .int 0])), (q_23, .inr (1, [.ref q_24, .int 0])), (q_28, .inr (8, [.ref q_30, .int 0, .int 0])), (q_30, .inr (1, [.ref q_31, .int 0])), (q_36, .inr (8, [.ref q_38, .int 0, .int 0])), (q_38, .inr (1, [.ref q_39, .int 0])), (q_45, .inl (cy 3, 3, .inl (fun _ => 0)))]) (va_A [(h0, .inr (5, [.null, .null, .null, .null, .null, .int 0, .int 0]))] sz)) 141 829 (va_A [(h0, .inr (5, [.null, .null, .null, .null, .null, .int 0, .int 0]))] sz) := by
  refine Met.ofW (cc := cX5_init) (maxL := 2) (ret := none) (by decide +kernel) rfl ?_
  intro p e s m args below meth c s₁ B hml hv
  obtain ⟨rfl, hsz, hP, hE, hD0⟩ := hv
  have hK := hE.1
  have hN := hE.2.1
  have hx := B.exec
  have hb := B.bytes
  have hr := B.returns
  have hts0 := atoms_spec (ws := wmX5_init) B.pre
  have hts : ∀ w ∈ wsL_law, w.before _ s = true := fun w h => hts0 w (List.mem_cons_of_mem _ h)
  have hown : s.vm.findClass RX5 = some m.cls := findClass_of_methodNamed B.named
  have hlocks := B.notSynchronized
  have hin : meth.name = "<init>" := (name_of_methodNamed B.named B.method).1
  subst hsz
  have hD := hD0.self (sz := s.heap.size)
  generalize hAe : va_A [(h0, .inr (5, [.null, .null, .null, .null, .null, .int 0, .int 0]))] s.heap.size = A at hD ⊢
  have hA : ∀ q : Nat, s.heap.size ≤ q → A q := fun q h => by rw [← hAe]; exact Or.inr h
  have hS : va_S A s.heap s.heap [] := va_S.rf
  have hP : va_P (dC, dI) classes [(h0, .inr (5, [.null, .null, .null, .null, .null, .int 0, .int 0]))] s.heap := hP
  have hl := lv_entry ([.ref h0]) (n := 2) (Nat.le_of_ble_eq_true rfl)
  rw [lg_entry_eq]
  generalize (lg_sl ([.ref h0]) ++ List.replicate (2 - (lg_sl ([.ref h0])).length) Slot.unset).toArray = ls at hl ⊢
  have hl : lv_has ls 2 [(0, .ref h0)] := hl
  refine lv_aload_n hx hb dX5_init_0 rfl (lv_at hl 0 rfl) ?_
  refine W.objInit hx hb hown (hts _ m_152) (hts _ m_10) (hts _ m_11) rfl (by rw [hml]; exact hl.1) rfl dX5_init_1 (Nat.le_of_ble_eq_true rfl) (Nat.le_of_ble_eq_true rfl) ?_
  refine W.eq (g2 := F0 m 4 ls []) rfl ?_
  refine lv_aload_n hx hb dX5_init_4 rfl (lv_at hl 0 rfl) ?_
  refine va_new (ci := 8) (fs := [.null, .int 0, .int 0]) (C := RX8) (T := TX8) (N := 3) hx hb hts inlX8 tyX8 tyX8_ok hown (hts _ m_153) (hts _ m_154) (hts _ m_155) hK hP hD hS hA rfl dfX8 (show 0 + 1 ≤ 141 from by decide +kernel) (show 0 + 3 ≤ 829 from by decide +kernel) dX5_init_5 (fun q_1 H hP hD hS => ?_)
  have hP : va_P (dC, dI) classes [(h0, .inr (5, [.null, .null, .null, .null, .null, .int 0, .int 0])), (q_1, .inr (8, [.null, .int 0, .int 0]))] H := hP
  have hD : va_D A [(h0, .inr (5, [.null, .null, .null, .null, .null, .int 0, .int 0])), (q_1, .inr (8, [.null, .int 0, .int 0]))] := hD
  refine W.widen (k := 1) (n := 3) (by decide +kernel) (by decide +kernel) ?_
  refine lv_dup hx hb dX5_init_8 rfl ?_
  have hPc := hP.sub (ws' := [(q_1, .inr (8, [.null, .int 0, .int 0]))]) [1] rfl
  have hDc := hD.sub (ws' := [(q_1, .inr (8, [.null, .int 0, .int 0]))]) [1] (by decide) rfl
  have hFc := va_free (wc := [(q_1, .inr (8, [.null, .int 0, .int 0]))]) hD hS hA [1] rfl
  refine va_callv (va_runI (As := []) (rest := [.ref q_1, .ref h0]) ⟨hx, hb, hml, hown, hts⟩ (kX8_init_1 l dC dI cy q_1 H.size) (cwI 0 hts (gdI m_163) rfl rfl rfl (hts _ m_155) (hts _ m_161) (hts _ m_162) rfl (by decide +kernel) ⟨Nat.le_of_ble_eq_true rfl, Nat.le_of_ble_eq_true rfl⟩) ⟨fun a U g mk q => by obtain ⟨q0, q1, qP, qE, qD⟩ := q; exact ⟨q0, q1, qP, qE.call, qD⟩, fun U hU hW => ⟨rfl, by rw [hU], by rw [hU]; exact hPc, hE.moved hW, hDc.weaken (fun _ _ _ _ => trivial)⟩⟩ rfl rfl hl.1 rfl (lv_room (Nat.le_of_ble_eq_true rfl)) dX5_init_9 ⟨(show 1 + 2 ≤ 141 from by decide +kernel), (show 3 + 14 ≤ 829 from by decide +kernel)⟩) hS (fun q _ h => hFc q h) hFc (fun u t H1 locs ht hvm hw hB hz1 hk1 hS => ?_)
  obtain ⟨q_3, q_4, hP1, hD1⟩ := hB
  rw [ht] at hP1
  obtain ⟨hP, hD⟩ := va_join (wr := [(h0, .inr (5, [.null, .null, .null, .null, .null, .int 0, .int 0]))]) (w1 := [(q_1, .inr (8, [.ref q_3, .int 0, .int 0])), (q_3, .inr (1, [.ref q_4, .int 0]))]) hP hD [1] [0] rfl rfl (by decide) (by decide) hk1 hFc hP1 hD1
  generalize H1 = H at hP hS ⊢
  have hP : va_P (dC, dI) classes [(h0, .inr (5, [.null, .null, .null, .null, .null, .int 0, .int 0])), (q_1, .inr (8, [.ref q_3, .int 0, .int 0])), (q_3, .inr (1, [.ref q_4, .int 0]))] H := hP
  have hD : va_D A [(h0, .inr (5, [.null, .null, .null, .null, .null, .int 0, .int 0])), (q_1, .inr (8, [.ref q_3, .int 0, .int 0])), (q_3, .inr (1, [.ref q_4, .int 0]))] := hD
  refine W.widen (k := 3) (n := 17) (by decide +kernel) (by decide +kernel) ?_
  refine va_putF (D := (dC, dI)) (ci := 5) (v := .ref q_1) (ty := (tyX5 0)) (C := RX5) (T := TX5) (N := 7) hx hb hts inlX5 tyX5 tyX5_ok nmX5 hown hK hP hD hS 0 rfl rfl 0 (by decide) (hts _ m_156) (fun _ h9 => h9) rfl hin rfl (by decide +kernel) rfl rfl (Nat.le_of_ble_eq_true rfl) dX5_init_12 (fun H locs hP hD hS => ?_)
  have hP : va_P (dC, dI) classes [(h0, .inr (5, [.ref q_1, .null, .null, .null, .null, .int 0, .int 0])), (q_1, .inr (8, [.ref q_3, .int 0, .int 0])), (q_3, .inr (1, [.ref q_4, .int 0]))] H := hP
  have hD : va_D A [(h0, .inr (5, [.ref q_1, .null, .null, .null, .null, .int 0, .int 0])), (q_1, .inr (8, [.ref q_3, .int 0, .int 0])), (q_3, .inr (1, [.ref q_4, .int 0]))] := hD
  refine lv_aload_n hx hb dX5_init_15 rfl (lv_at hl 0 rfl) ?_
  refine va_new (ci := 8) (fs := [.null, .int 0, .int 0]) (C := RX8) (T := TX8) (N := 3) hx hb hts inlX8 tyX8 tyX8_ok hown (hts _ m_153) (hts _ m_154) (hts _ m_155) hK hP hD hS hA rfl dfX8 (show 3 + 1 ≤ 141 from by decide +kernel) (show 17 + 3 ≤ 829 from by decide +kernel) dX5_init_16 (fun q_5 H hP hD hS => ?_)
  have hP : va_P (dC, dI) classes [(h0, .inr (5, [.ref q_1, .null, .null, .null, .null, .int 0, .int 0])), (q_1, .inr (8, [.ref q_3, .int 0, .int 0])), (q_3, .inr (1, [.ref q_4, .int 0])), (q_5, .inr (8, [.null, .int 0, .int 0]))] H := hP
  have hD : va_D A [(h0, .inr (5, [.ref q_1, .null, .null, .null, .null, .int 0, .int 0])), (q_1, .inr (8, [.ref q_3, .int 0, .int 0])), (q_3, .inr (1, [.ref q_4, .int 0])), (q_5, .inr (8, [.null, .int 0, .int 0]))] := hD
  refine W.widen (k := 4) (n := 20) (by decide +kernel) (by decide +kernel) ?_
  refine lv_dup hx hb dX5_init_19 rfl ?_
  have hPc := hP.sub (ws' := [(q_5, .inr (8, [.null, .int 0, .int 0]))]) [3] rfl
  have hDc := hD.sub (ws' := [(q_5, .inr (8, [.null, .int 0, .int 0]))]) [3] (by decide) rfl
  have hFc := va_free (wc := [(q_5, .inr (8, [.null, .int 0, .int 0]))]) hD hS hA [3] rfl
  refine va_callv (va_runI (As := []) (rest := [.ref q_5, .ref h0]) ⟨hx, hb, hml, hown, hts⟩ (kX8_init_1 l dC dI cy q_5 H.size) (cwI 0 hts (gdI m_163) rfl rfl rfl (hts _ m_155) (hts _ m_161) (hts _ m_162) rfl (by decide +kernel) ⟨Nat.le_of_ble_eq_true rfl, Nat.le_of_ble_eq_true rfl⟩) ⟨fun a U g mk q => by obtain ⟨q0, q1, qP, qE, qD⟩ := q; exact ⟨q0, q1, qP, qE.call, qD⟩, fun U hU hW => ⟨rfl, by rw [hU], by rw [hU]; exact hPc, hE.moved hW, hDc.weaken (fun _ _ _ _ => trivial)⟩⟩ rfl rfl hl.1 rfl (lv_room (Nat.le_of_ble_eq_true rfl)) dX5_init_20 ⟨(show 4 + 2 ≤ 141 from by decide +kernel), (show 20 + 14 ≤ 829 from by decide +kernel)⟩) hS (fun q _ h => hFc q h) hFc (fun u t H1 locs ht hvm hw hB hz1 hk1 hS => ?_)
  obtain ⟨q_7, q_8, hP1, hD1⟩ := hB
  rw [ht] at hP1
  obtain ⟨hP, hD⟩ := va_join (wr := [(h0, .inr (5, [.ref q_1, .null, .null, .null, .null, .int 0, .int 0])), (q_1, .inr (8, [.ref q_3, .int 0, .int 0])), (q_3, .inr (1, [.ref q_4, .int 0]))]) (w1 := [(q_5, .inr (8, [.ref q_7, .int 0, .int 0])), (q_7, .inr (1, [.ref q_8, .int 0]))]) hP hD [3] [0, 1, 2] rfl rfl (by decide) (by decide) hk1 hFc hP1 hD1
  generalize H1 = H at hP hS ⊢
  have hP : va_P (dC, dI) classes [(h0, .inr (5, [.ref q_1, .null, .null, .null, .null, .int 0, .int 0])), (q_1, .inr (8, [.ref q_3, .int 0, .int 0])), (q_3, .inr (1, [.ref q_4, .int 0])), (q_5, .inr (8, [.ref q_7, .int 0, .int 0])), (q_7, .inr (1, [.ref q_8, .int 0]))] H := hP
  have hD : va_D A [(h0, .inr (5, [.ref q_1, .null, .null, .null, .null, .int 0, .int 0])), (q_1, .inr (8, [.ref q_3, .int 0, .int 0])), (q_3, .inr (1, [.ref q_4, .int 0])), (q_5, .inr (8, [.ref q_7, .int 0, .int 0])), (q_7, .inr (1, [.ref q_8, .int 0]))] := hD
  refine W.widen (k := 6) (n := 34) (by decide +kernel) (by decide +kernel) ?_
  refine va_putF (D := (dC, dI)) (ci := 5) (v := .ref q_5) (ty := (tyX5 1)) (C := RX5) (T := TX5) (N := 7) hx hb hts inlX5 tyX5 tyX5_ok nmX5 hown hK hP hD hS 0 rfl rfl 1 (by decide) (hts _ m_157) (fun _ h9 => h9) rfl hin rfl (by decide +kernel) rfl rfl (Nat.le_of_ble_eq_true rfl) dX5_init_23 (fun H locs hP hD hS => ?_)
  have hP : va_P (dC, dI) classes [(h0, .inr (5, [.ref q_1, .ref q_5, .null, .null, .null, .int 0, .int 0])), (q_1, .inr (8, [.ref q_3, .int 0, .int 0])), (q_3, .inr (1, [.ref q_4, .int 0])), (q_5, .inr (8, [.ref q_7, .int 0, .int 0])), (q_7, .inr (1, [.ref q_8, .int 0]))] H := hP
  have hD : va_D A [(h0, .inr (5, [.ref q_1, .ref q_5, .null, .null, .null, .int 0, .int 0])), (q_1, .inr (8, [.ref q_3, .int 0, .int 0])), (q_3, .inr (1, [.ref q_4, .int 0])), (q_5, .inr (8, [.ref q_7, .int 0, .int 0])), (q_7, .inr (1, [.ref q_8, .int 0]))] := hD
  refine lv_aload_n hx hb dX5_init_26 rfl (lv_at hl 0 rfl) ?_
  refine lv_bipush (v := 41) hx hb dX5_init_27 (by decide +kernel) ?_
  refine xa_newq (C := RX8) (c0 := cy 5) (N' := 41) hx hb hown (hts _ m_153) hE.2.2.2 hK 5 rfl hP hD hS hA (by decide +kernel) (by decide +kernel) (by decide +kernel) (show 6 + 1 ≤ 141 from by decide +kernel) (show 34 + 41 ≤ 829 from by decide +kernel) dX5_init_29 (fun q_9 H hP hD hS => ?_)
  have hP : va_P (dC, dI) classes [(h0, .inr (5, [.ref q_1, .ref q_5, .null, .null, .null, .int 0, .int 0])), (q_1, .inr (8, [.ref q_3, .int 0, .int 0])), (q_3, .inr (1, [.ref q_4, .int 0])), (q_5, .inr (8, [.ref q_7, .int 0, .int 0])), (q_7, .inr (1, [.ref q_8, .int 0])), (q_9, .inl (cy 5, 41, .inr (.inr (.inr (.inr (fun _ => none))))))] H := hP
  have hD : va_D A [(h0, .inr (5, [.ref q_1, .ref q_5, .null, .null, .null, .int 0, .int 0])), (q_1, .inr (8, [.ref q_3, .int 0, .int 0])), (q_3, .inr (1, [.ref q_4, .int 0])), (q_5, .inr (8, [.ref q_7, .int 0, .int 0])), (q_7, .inr (1, [.ref q_8, .int 0])), (q_9, .inl (cy 5, 41, .inr (.inr (.inr (.inr (fun _ => none))))))] := hD
  refine W.widen (k := 7) (n := 75) (by decide +kernel) (by decide +kernel) ?_
  refine va_putF (D := (dC, dI)) (ci := 5) (v := .ref q_9) (ty := (tyX5 2)) (C := RX5) (T := TX5) (N := 7) hx hb hts inlX5 tyX5 tyX5_ok nmX5 hown hK hP hD hS 0 rfl rfl 2 (by decide) (hts _ m_158) (fun _ h9 => h9) rfl hin rfl (by decide +kernel) rfl rfl (Nat.le_of_ble_eq_true rfl) dX5_init_32 (fun H locs hP hD hS => ?_)
  have hP : va_P (dC, dI) classes [(h0, .inr (5, [.ref q_1, .ref q_5, .ref q_9, .null, .null, .int 0, .int 0])), (q_1, .inr (8, [.ref q_3, .int 0, .int 0])), (q_3, .inr (1, [.ref q_4, .int 0])), (q_5, .inr (8, [.ref q_7, .int 0, .int 0])), (q_7, .inr (1, [.ref q_8, .int 0])), (q_9, .inl (cy 5, 41, .inr (.inr (.inr (.inr (fun _ => none))))))] H := hP
  have hD : va_D A [(h0, .inr (5, [.ref q_1, .ref q_5, .ref q_9, .null, .null, .int 0, .int 0])), (q_1, .inr (8, [.ref q_3, .int 0, .int 0])), (q_3, .inr (1, [.ref q_4, .int 0])), (q_5, .inr (8, [.ref q_7, .int 0, .int 0])), (q_7, .inr (1, [.ref q_8, .int 0])), (q_9, .inl (cy 5, 41, .inr (.inr (.inr (.inr (fun _ => none))))))] := hD
  refine lv_iconst (v := 0) hx hb dX5_init_35 (by decide +kernel) ?_
  refine lv_istore_n (lv' := [(1, .int 0), (0, .ref h0)]) hx hb dX5_init_36 rfl hl (by decide) rfl (fun ls hl => ?_)
  refine lv_iload_n hx hb dX5_init_37 rfl (lv_at hl 0 rfl) ?_
  refine lv_aload_n hx hb dX5_init_38 rfl (lv_at hl 1 rfl) ?_
  refine va_get (D := (dC, dI)) (ci := 5) (v := .ref q_9) (C := RX5) (T := TX5) (N := 7) hx hb hts inlX5 hown hK hP 0 rfl rfl 2 (by decide) (hts _ m_158) (fun _ h9 => h9) rfl dX5_init_39 ?_
  refine va_alen (v := 41) hx hb hK hP 5 5 rfl rfl rfl dX5_init_42 ?_
  refine lv_icmp_ge (tgt := 65) hx hb dX5_init_43 (by decide) (fun c_ => absurd c_ (by decide +kernel)) (fun _ => ?_)
  refine lv_aload_n hx hb dX5_init_46 rfl (lv_at hl 1 rfl) ?_
  refine va_get (D := (dC, dI)) (ci := 5) (v := .ref q_9) (C := RX5) (T := TX5) (N := 7) hx hb hts inlX5 hown hK hP 0 rfl rfl 2 (by decide) (hts _ m_158) (fun _ h9 => h9) rfl dX5_init_47 ?_
  refine lv_iload_n hx hb dX5_init_50 rfl (lv_at hl 0 rfl) ?_
  refine va_new (ci := 8) (fs := [.null, .int 0, .int 0]) (C := RX8) (T := TX8) (N := 3) hx hb hts inlX8 tyX8 tyX8_ok hown (hts _ m_153) (hts _ m_154) (hts _ m_155) hK hP hD hS hA rfl dfX8 (show 7 + 1 ≤ 141 from by decide +kernel) (show 75 + 3 ≤ 829 from by decide +kernel) dX5_init_51 (fun q_10 H hP hD hS => ?_)
  have hP : va_P (dC, dI) classes [(h0, .inr (5, [.ref q_1, .ref q_5, .ref q_9, .null, .null, .int 0, .int 0])), (q_1, .inr (8, [.ref q_3, .int 0, .int 0])), (q_3, .inr (1, [.ref q_4, .int 0])), (q_5, .inr (8, [.ref q_7, .int 0, .int 0])), (q_7, .inr (1, [.ref q_8, .int 0])), (q_9, .inl (cy 5, 41, .inr (.inr (.inr (.inr (fun _ => none)))))), (q_10, .inr (8, [.null, .int 0, .int 0]))] H := hP
  have hD : va_D A [(h0, .inr (5, [.ref q_1, .ref q_5, .ref q_9, .null, .null, .int 0, .int 0])), (q_1, .inr (8, [.ref q_3, .int 0, .int 0])), (q_3, .inr (1, [.ref q_4, .int 0])), (q_5, .inr (8, [.ref q_7, .int 0, .int 0])), (q_7, .inr (1, [.ref q_8, .int 0])), (q_9, .inl (cy 5, 41, .inr (.inr (.inr (.inr (fun _ => none)))))), (q_10, .inr (8, [.null, .int 0, .int 0]))] := hD
  refine W.widen (k := 8) (n := 78) (by decide +kernel) (by decide +kernel) ?_
  refine lv_dup hx hb dX5_init_54 rfl ?_
  have hPc := hP.sub (ws' := [(q_10, .inr (8, [.null, .int 0, .int 0]))]) [6] rfl
  have hDc := hD.sub (ws' := [(q_10, .inr (8, [.null, .int 0, .int 0]))]) [6] (by decide) rfl
  have hFc := va_free (wc := [(q_10, .inr (8, [.null, .int 0, .int 0]))]) hD hS hA [6] rfl
  refine va_callv (va_runI (As := []) (rest := [.ref q_10, .int 0, .ref q_9]) ⟨hx, hb, hml, hown, hts⟩ (kX8_init_1 l dC dI cy q_10 H.size) (cwI 0 hts (gdI m_163) rfl rfl rfl (hts _ m_155) (hts _ m_161) (hts _ m_162) rfl (by decide +kernel) ⟨Nat.le_of_ble_eq_true rfl, Nat.le_of_ble_eq_true rfl⟩) ⟨fun a U g mk q => by obtain ⟨q0, q1, qP, qE, qD⟩ := q; exact ⟨q0, q1, qP, qE.call, qD⟩, fun U hU hW => ⟨rfl, by rw [hU], by rw [hU]; exact hPc, hE.moved hW, hDc.weaken (fun _ _ _ _ => trivial)⟩⟩ rfl rfl hl.1 rfl (lv_room (Nat.le_of_ble_eq_true rfl)) dX5_init_55 ⟨(show 8 + 2 ≤ 141 from by decide +kernel), (show 78 + 14 ≤ 829 from by decide +kernel)⟩) hS (fun q _ h => hFc q h) hFc (fun u t H1 locs ht hvm hw hB hz1 hk1 hS => ?_)
  obtain ⟨q_12, q_13, hP1, hD1⟩ := hB
  rw [ht] at hP1
  obtain ⟨hP, hD⟩ := va_join (wr := [(h0, .inr (5, [.ref q_1, .ref q_5, .ref q_9, .null, .null, .int 0, .int 0])), (q_1, .inr (8, [.ref q_3, .int 0, .int 0])), (q_3, .inr (1, [.ref q_4, .int 0])), (q_5, .inr (8, [.ref q_7, .int 0, .int 0])), (q_7, .inr (1, [.ref q_8, .int 0])), (q_9, .inl (cy 5, 41, .inr (.inr (.inr (.inr (fun _ => none))))))]) (w1 := [(q_10, .inr (8, [.ref q_12, .int 0, .int 0])), (q_12, .inr (1, [.ref q_13, .int 0]))]) hP hD [6] [0, 1, 2, 3, 4, 5] rfl rfl (by decide) (by decide) hk1 hFc hP1 hD1
  generalize H1 = H at hP hS ⊢
  have hP : va_P (dC, dI) classes [(h0, .inr (5, [.ref q_1, .ref q_5, .ref q_9, .null, .null, .int 0, .int 0])), (q_1, .inr (8, [.ref q_3, .int 0, .int 0])), (q_3, .inr (1, [.ref q_4, .int 0])), (q_5, .inr (8, [.ref q_7, .int 0, .int 0])), (q_7, .inr (1, [.ref q_8, .int 0])), (q_9, .inl (cy 5, 41, .inr (.inr (.inr (.inr (fun _ => none)))))), (q_10, .inr (8, [.ref q_12, .int 0, .int 0])), (q_12, .inr (1, [.ref q_13, .int 0]))] H := hP
  have hD : va_D A [(h0, .inr (5, [.ref q_1, .ref q_5, .ref q_9, .null, .null, .int 0, .int 0])), (q_1, .inr (8, [.ref q_3, .int 0, .int 0])), (q_3, .inr (1, [.ref q_4, .int 0])), (q_5, .inr (8, [.ref q_7, .int 0, .int 0])), (q_7, .inr (1, [.ref q_8, .int 0])), (q_9, .inl (cy 5, 41, .inr (.inr (.inr (.inr (fun _ => none)))))), (q_10, .inr (8, [.ref q_12, .int 0, .int 0])), (q_12, .inr (1, [.ref q_13, .int 0]))] := hD
  refine W.widen (k := 10) (n := 92) (by decide +kernel) (by decide +kernel) ?_
  refine va_astq hx hb hK hP hD hS 5 5 6 8 rfl rfl rfl rfl vi_0_41 dX5_init_58 (fun H locs hP hD hS => ?_)
  obtain ⟨g_14, eg_15⟩ : ∃ g : Nat → Option Nat, g = va_up (fun _ => none) (Int32.toNatClampNeg 0) (some q_10) := ⟨_, rfl⟩
  rw [← eg_15] at hP hD
  have eg_16 : g_14 0 = some q_10 := by rw [eg_15]; exact va_up_self _ _ _
  have hP : va_P (dC, dI) classes [(h0, .inr (5, [.ref q_1, .ref q_5, .ref q_9, .null, .null, .int 0, .int 0])), (q_1, .inr (8, [.ref q_3, .int 0, .int 0])), (q_3, .inr (1, [.ref q_4, .int 0])), (q_5, .inr (8, [.ref q_7, .int 0, .int 0])), (q_7, .inr (1, [.ref q_8, .int 0])), (q_9, .inl (cy 5, 41, .inr (.inr (.inr (.inr (g_14)))))), (q_10, .inr (8, [.ref q_12, .int 0, .int 0])), (q_12, .inr (1, [.ref q_13, .int 0]))] H := hP
  have hD : va_D A [(h0, .inr (5, [.ref q_1, .ref q_5, .ref q_9, .null, .null, .int 0, .int 0])), (q_1, .inr (8, [.ref q_3, .int 0, .int 0])), (q_3, .inr (1, [.ref q_4, .int 0])), (q_5, .inr (8, [.ref q_7, .int 0, .int 0])), (q_7, .inr (1, [.ref q_8, .int 0])), (q_9, .inl (cy 5, 41, .inr (.inr (.inr (.inr (g_14)))))), (q_10, .inr (8, [.ref q_12, .int 0, .int 0])), (q_12, .inr (1, [.ref q_13, .int 0]))] := hD
  refine lv_iinc (v := 1) (lv' := [(1, .int 1), (0, .ref h0)]) hx hb dX5_init_59 hl (k := 0) rfl (by decide +kernel) (by decide) rfl (fun ls hl => ?_)
  refine lv_goto (tgt := 37) hx hb dX5_init_62 (by decide) ?_
  refine lpX5_init dC dI cy h0 q_1 q_3 q_4 q_5 q_7 q_8 q_9 q_10 q_12 q_13 hx hb hml hown hts hE hA (Nat.le_of_ble_eq_true rfl) (Nat.le_of_ble_eq_true rfl) 130 772 (show 130 ≤ 141 from by decide +kernel) (show 772 ≤ 829 from by decide +kernel) (fun z_19 g_17 ls H locs eg_18 hP hD hS hl => ?_) _ 1 g_14 ls _ _ 10 92 (by decide +kernel) (Nat.lt_succ_self _) (by decide +kernel) (by decide +kernel) eg_16 hP hD hS hl
  have hP : va_P (dC, dI) classes [(h0, .inr (5, [.ref q_1, .ref q_5, .ref q_9, .null, .null, .int 0, .int 0])), (q_1, .inr (8, [.ref q_3, .int 0, .int 0])), (q_3, .inr (1, [.ref q_4, .int 0])), (q_5, .inr (8, [.ref q_7, .int 0, .int 0])), (q_7, .inr (1, [.ref q_8, .int 0])), (q_9, .inl (cy 5, 41, .inr (.inr (.inr (.inr (g_17)))))), (q_10, .inr (8, [.ref q_12, .int 0, .int 0])), (q_12, .inr (1, [.ref q_13, .int 0]))] H := hP
  have hD : va_D A [(h0, .inr (5, [.ref q_1, .ref q_5, .ref q_9, .null, .null, .int 0, .int 0])), (q_1, .inr (8, [.ref q_3, .int 0, .int 0])), (q_3, .inr (1, [.ref q_4, .int 0])), (q_5, .inr (8, [.ref q_7, .int 0, .int 0])), (q_7, .inr (1, [.ref q_8, .int 0])), (q_9, .inl (cy 5, 41, .inr (.inr (.inr (.inr (g_17)))))), (q_10, .inr (8, [.ref q_12, .int 0, .int 0])), (q_12, .inr (1, [.ref q_13, .int 0]))] := hD
  refine lv_aload_n hx hb dX5_init_65 rfl (lv_at hl 1 rfl) ?_
  refine lv_iconst (v := 3) hx hb dX5_init_66 (by decide +kernel) ?_
  refine xa_newq (C := RX8) (c0 := cy 5) (N' := 3) hx hb hown (hts _ m_153) hE.2.2.2 hK 5 rfl hP hD hS hA (by decide +kernel) (by decide +kernel) (by decide +kernel) (show 130 + 1 ≤ 141 from by decide +kernel) (show 772 + 3 ≤ 829 from by decide +kernel) dX5_init_67 (fun q_20 H hP hD hS => ?_)
  have hP : va_P (dC, dI) classes [(h0, .inr (5, [.ref q_1, .ref q_5, .ref q_9, .null, .null, .int 0, .int 0])), (q_1, .inr (8, [.ref q_3, .int 0, .int 0])), (q_3, .inr (1, [.ref q_4, .int 0])), (q_5, .inr (8, [.ref q_7, .int 0, .int 0])), (q_7, .inr (1, [.ref q_8, .int 0])), (q_9, .inl (cy 5, 41, .inr (.inr (.inr (.inr (g_17)))))), (q_10, .inr (8, [.ref q_12, .int 0, .int 0])), (q_12, .inr (1, [.ref q_13, .int 0])), (q_20, .inl (cy 5, 3, .inr (.inr (.inr (.inr (fun _ => none))))))] H := hP
  have hD : va_D A [(h0, .inr (5, [.ref q_1, .ref q_5, .ref q_9, .null, .null, .int 0, .int 0])), (q_1, .inr (8, [.ref q_3, .int 0, .int 0])), (q_3, .inr (1, [.ref q_4, .int 0])), (q_5, .inr (8, [.ref q_7, .int 0, .int 0])), (q_7, .inr (1, [.ref q_8, .int 0])), (q_9, .inl (cy 5, 41, .inr (.inr (.inr (.inr (g_17)))))), (q_10, .inr (8, [.ref q_12, .int 0, .int 0])), (q_12, .inr (1, [.ref q_13, .int 0])), (q_20, .inl (cy 5, 3, .inr (.inr (.inr (.inr (fun _ => none))))))] := hD
  refine W.widen (k := 131) (n := 775) (by decide +kernel) (by decide +kernel) ?_
  refine va_putF (D := (dC, dI)) (ci := 5) (v := .ref q_20) (ty := (tyX5 3)) (C := RX5) (T := TX5) (N := 7) hx hb hts inlX5 tyX5 tyX5_ok nmX5 hown hK hP hD hS 0 rfl rfl 3 (by decide) (hts _ m_159) (fun _ h9 => h9) rfl hin rfl (by decide +kernel) rfl rfl (Nat.le_of_ble_eq_true rfl) dX5_init_70 (fun H locs hP hD hS => ?_)
  have hP : va_P (dC, dI) classes [(h0, .inr (5, [.ref q_1, .ref q_5, .ref q_9, .ref q_20, .null, .int 0, .int 0])), (q_1, .inr (8, [.ref q_3, .int 0, .int 0])), (q_3, .inr (1, [.ref q_4, .int 0])), (q_5, .inr (8, [.ref q_7, .int 0, .int 0])), (q_7, .inr (1, [.ref q_8, .int 0])), (q_9, .inl (cy 5, 41, .inr (.inr (.inr (.inr (g_17)))))), (q_10, .inr (8, [.ref q_12, .int 0, .int 0])), (q_12, .inr (1, [.ref q_13, .int 0])), (q_20, .inl (cy 5, 3, .inr (.inr (.inr (.inr (fun _ => none))))))] H := hP
  have hD : va_D A [(h0, .inr (5, [.ref q_1, .ref q_5, .ref q_9, .ref q_20, .null, .int 0, .int 0])), (q_1, .inr (8, [.ref q_3, .int 0, .int 0])), (q_3, .inr (1, [.ref q_4, .int 0])), (q_5, .inr (8, [.ref q_7, .int 0, .int 0])), (q_7, .inr (1, [.ref q_8, .int 0])), (q_9, .inl (cy 5, 41, .inr (.inr (.inr (.inr (g_17)))))), (q_10, .inr (8, [.ref q_12, .int 0, .int 0])), (q_12, .inr (1, [.ref q_13, .int 0])), (q_20, .inl (cy 5, 3, .inr (.inr (.inr (.inr (fun _ => none))))))] := hD
  refine lv_iconst (v := 0) hx hb dX5_init_73 (by decide +kernel) ?_
  refine lv_istore_n (lv' := [(1, .int 0), (0, .ref h0)]) hx hb dX5_init_74 rfl hl (by decide) rfl (fun ls hl => ?_)
  refine lv_iload_n hx hb dX5_init_75 rfl (lv_at hl 0 rfl) ?_
  refine lv_aload_n hx hb dX5_init_76 rfl (lv_at hl 1 rfl) ?_
  refine va_get (D := (dC, dI)) (ci := 5) (v := .ref q_20) (C := RX5) (T := TX5) (N := 7) hx hb hts inlX5 hown hK hP 0 rfl rfl 3 (by decide) (hts _ m_159) (fun _ h9 => h9) rfl dX5_init_77 ?_
  refine va_alen (v := 3) hx hb hK hP 8 5 rfl rfl rfl dX5_init_80 ?_
  refine lv_icmp_ge (tgt := 103) hx hb dX5_init_81 (by decide) (fun c_ => absurd c_ (by decide +kernel)) (fun _ => ?_)
  refine lv_aload_n hx hb dX5_init_84 rfl (lv_at hl 1 rfl) ?_
  refine va_get (D := (dC, dI)) (ci := 5) (v := .ref q_20) (C := RX5) (T := TX5) (N := 7) hx hb hts inlX5 hown hK hP 0 rfl rfl 3 (by decide) (hts _ m_159) (fun _ h9 => h9) rfl dX5_init_85 ?_
  refine lv_iload_n hx hb dX5_init_88 rfl (lv_at hl 0 rfl) ?_
  refine va_new (ci := 8) (fs := [.null, .int 0, .int 0]) (C := RX8) (T := TX8) (N := 3) hx hb hts inlX8 tyX8 tyX8_ok hown (hts _ m_153) (hts _ m_154) (hts _ m_155) hK hP hD hS hA rfl dfX8 (show 131 + 1 ≤ 141 from by decide +kernel) (show 775 + 3 ≤ 829 from by decide +kernel) dX5_init_89 (fun q_21 H hP hD hS => ?_)
  have hP : va_P (dC, dI) classes [(h0, .inr (5, [.ref q_1, .ref q_5, .ref q_9, .ref q_20, .null, .int 0, .int 0])), (q_1, .inr (8, [.ref q_3, .int 0, .int 0])), (q_3, .inr (1, [.ref q_4, .int 0])), (q_5, .inr (8, [.ref q_7, .int 0, .int 0])), (q_7, .inr (1, [.ref q_8, .int 0])), (q_9, .inl (cy 5, 41, .inr (.inr (.inr (.inr (g_17)))))), (q_10, .inr (8, [.ref q_12, .int 0, .int 0])), (q_12, .inr (1, [.ref q_13, .int 0])), (q_20, .inl (cy 5, 3, .inr (.inr (.inr (.inr (fun _ => none)))))), (q_21, .inr (8, [.null, .int 0, .int 0]))] H := hP
  have hD : va_D A [(h0, .inr (5, [.ref q_1, .ref q_5, .ref q_9, .ref q_20, .null, .int 0, .int 0])), (q_1, .inr (8, [.ref q_3, .int 0, .int 0])), (q_3, .inr (1, [.ref q_4, .int 0])), (q_5, .inr (8, [.ref q_7, .int 0, .int 0])), (q_7, .inr (1, [.ref q_8, .int 0])), (q_9, .inl (cy 5, 41, .inr (.inr (.inr (.inr (g_17)))))), (q_10, .inr (8, [.ref q_12, .int 0, .int 0])), (q_12, .inr (1, [.ref q_13, .int 0])), (q_20, .inl (cy 5, 3, .inr (.inr (.inr (.inr (fun _ => none)))))), (q_21, .inr (8, [.null, .int 0, .int 0]))] := hD
  refine W.widen (k := 132) (n := 778) (by decide +kernel) (by decide +kernel) ?_
  refine lv_dup hx hb dX5_init_92 rfl ?_
  have hPc := hP.sub (ws' := [(q_21, .inr (8, [.null, .int 0, .int 0]))]) [9] rfl
  have hDc := hD.sub (ws' := [(q_21, .inr (8, [.null, .int 0, .int 0]))]) [9] (by decide) rfl
  have hFc := va_free (wc := [(q_21, .inr (8, [.null, .int 0, .int 0]))]) hD hS hA [9] rfl
  refine va_callv (va_runI (As := []) (rest := [.ref q_21, .int 0, .ref q_20]) ⟨hx, hb, hml, hown, hts⟩ (kX8_init_1 l dC dI cy q_21 H.size) (cwI 0 hts (gdI m_163) rfl rfl rfl (hts _ m_155) (hts _ m_161) (hts _ m_162) rfl (by decide +kernel) ⟨Nat.le_of_ble_eq_true rfl, Nat.le_of_ble_eq_true rfl⟩) ⟨fun a U g mk q => by obtain ⟨q0, q1, qP, qE, qD⟩ := q; exact ⟨q0, q1, qP, qE.call, qD⟩, fun U hU hW => ⟨rfl, by rw [hU], by rw [hU]; exact hPc, hE.moved hW, hDc.weaken (fun _ _ _ _ => trivial)⟩⟩ rfl rfl hl.1 rfl (lv_room (Nat.le_of_ble_eq_true rfl)) dX5_init_93 ⟨(show 132 + 2 ≤ 141 from by decide +kernel), (show 778 + 14 ≤ 829 from by decide +kernel)⟩) hS (fun q _ h => hFc q h) hFc (fun u t H1 locs ht hvm hw hB hz1 hk1 hS => ?_)
  obtain ⟨q_23, q_24, hP1, hD1⟩ := hB
  rw [ht] at hP1
  obtain ⟨hP, hD⟩ := va_join (wr := [(h0, .inr (5, [.ref q_1, .ref q_5, .ref q_9, .ref q_20, .null, .int 0, .int 0])), (q_1, .inr (8, [.ref q_3, .int 0, .int 0])), (q_3, .inr (1, [.ref q_4, .int 0])), (q_5, .inr (8, [.ref q_7, .int 0, .int 0])), (q_7, .inr (1, [.ref q_8, .int 0])), (q_9, .inl (cy 5, 41, .inr (.inr (.inr (.inr (g_17)))))), (q_10, .inr (8, [.ref q_12, .int 0, .int 0])), (q_12, .inr (1, [.ref q_13, .int 0])), (q_20, .inl (cy 5, 3, .inr (.inr (.inr (.inr (fun _ => none))))))]) (w1 := [(q_21, .inr (8, [.ref q_23, .int 0, .int 0])), (q_23, .inr (1, [.ref q_24, .int 0]))]) hP hD [9] [0, 1, 2, 3, 4, 5, 6, 7, 8] rfl rfl (by decide) (by decide) hk1 hFc hP1 hD1
  generalize H1 = H at hP hS ⊢
  have hP : va_P (dC, dI) classes [(h0, .inr (5, [.ref q_1, .ref q_5, .ref q_9, .ref q_20, .null, .int 0, .int 0])), (q_1, .inr (8, [.ref q_3, .int 0, .int 0])), (q_3, .inr (1, [.ref q_4, .int 0])), (q_5, .inr (8, [.ref q_7, .int 0, .int 0])), (q_7, .inr (1, [.ref q_8, .int 0])), (q_9, .inl (cy 5, 41, .inr (.inr (.inr (.inr (g_17)))))), (q_10, .inr (8, [.ref q_12, .int 0, .int 0])), (q_12, .inr (1, [.ref q_13, .int 0])), (q_20, .inl (cy 5, 3, .inr (.inr (.inr (.inr (fun _ => none)))))), (q_21, .inr (8, [.ref q_23, .int 0, .int 0])), (q_23, .inr (1, [.ref q_24, .int 0]))] H := hP
  have hD : va_D A [(h0, .inr (5, [.ref q_1, .ref q_5, .ref q_9, .ref q_20, .null, .int 0, .int 0])), (q_1, .inr (8, [.ref q_3, .int 0, .int 0])), (q_3, .inr (1, [.ref q_4, .int 0])), (q_5, .inr (8, [.ref q_7, .int 0, .int 0])), (q_7, .inr (1, [.ref q_8, .int 0])), (q_9, .inl (cy 5, 41, .inr (.inr (.inr (.inr (g_17)))))), (q_10, .inr (8, [.ref q_12, .int 0, .int 0])), (q_12, .inr (1, [.ref q_13, .int 0])), (q_20, .inl (cy 5, 3, .inr (.inr (.inr (.inr (fun _ => none)))))), (q_21, .inr (8, [.ref q_23, .int 0, .int 0])), (q_23, .inr (1, [.ref q_24, .int 0]))] := hD
  refine W.widen (k := 134) (n := 792) (by decide +kernel) (by decide +kernel) ?_
  refine va_astq hx hb hK hP hD hS 8 5 9 8 rfl rfl rfl rfl vi_0_3 dX5_init_96 (fun H locs hP hD hS => ?_)
  obtain ⟨g_25, eg_26⟩ : ∃ g : Nat → Option Nat, g = va_up (fun _ => none) (Int32.toNatClampNeg 0) (some q_21) := ⟨_, rfl⟩
  rw [← eg_26] at hP hD
  have eg_27 : g_25 0 = some q_21 := by rw [eg_26]; exact va_up_self _ _ _
  have hP : va_P (dC, dI) classes [(h0, .inr (5, [.ref q_1, .ref q_5, .ref q_9, .ref q_20, .null, .int 0, .int 0])), (q_1, .inr (8, [.ref q_3, .int 0, .int 0])), (q_3, .inr (1, [.ref q_4, .int 0])), (q_5, .inr (8, [.ref q_7, .int 0, .int 0])), (q_7, .inr (1, [.ref q_8, .int 0])), (q_9, .inl (cy 5, 41, .inr (.inr (.inr (.inr (g_17)))))), (q_10, .inr (8, [.ref q_12, .int 0, .int 0])), (q_12, .inr (1, [.ref q_13, .int 0])), (q_20, .inl (cy 5, 3, .inr (.inr (.inr (.inr (g_25)))))), (q_21, .inr (8, [.ref q_23, .int 0, .int 0])), (q_23, .inr (1, [.ref q_24, .int 0]))] H := hP
  have hD : va_D A [(h0, .inr (5, [.ref q_1, .ref q_5, .ref q_9, .ref q_20, .null, .int 0, .int 0])), (q_1, .inr (8, [.ref q_3, .int 0, .int 0])), (q_3, .inr (1, [.ref q_4, .int 0])), (q_5, .inr (8, [.ref q_7, .int 0, .int 0])), (q_7, .inr (1, [.ref q_8, .int 0])), (q_9, .inl (cy 5, 41, .inr (.inr (.inr (.inr (g_17)))))), (q_10, .inr (8, [.ref q_12, .int 0, .int 0])), (q_12, .inr (1, [.ref q_13, .int 0])), (q_20, .inl (cy 5, 3, .inr (.inr (.inr (.inr (g_25)))))), (q_21, .inr (8, [.ref q_23, .int 0, .int 0])), (q_23, .inr (1, [.ref q_24, .int 0]))] := hD
  refine lv_iinc (v := 1) (lv' := [(1, .int 1), (0, .ref h0)]) hx hb dX5_init_97 hl (k := 0) rfl (by decide +kernel) (by decide) rfl (fun ls hl => ?_)
  refine lv_goto (tgt := 75) hx hb dX5_init_100 (by decide) ?_
  refine lv_iload_n hx hb dX5_init_75 rfl (lv_at hl 0 rfl) ?_
  refine lv_aload_n hx hb dX5_init_76 rfl (lv_at hl 1 rfl) ?_
  refine va_get (D := (dC, dI)) (ci := 5) (v := .ref q_20) (C := RX5) (T := TX5) (N := 7) hx hb hts inlX5 hown hK hP 0 rfl rfl 3 (by decide) (hts _ m_159) (fun _ h9 => h9) rfl dX5_init_77 ?_
  refine va_alen (v := 3) hx hb hK hP 8 5 rfl rfl rfl dX5_init_80 ?_
  refine lv_icmp_ge (tgt := 103) hx hb dX5_init_81 (by decide) (fun c_ => absurd c_ (by decide +kernel)) (fun _ => ?_)
  refine lv_aload_n hx hb dX5_init_84 rfl (lv_at hl 1 rfl) ?_
  refine va_get (D := (dC, dI)) (ci := 5) (v := .ref q_20) (C := RX5) (T := TX5) (N := 7) hx hb hts inlX5 hown hK hP 0 rfl rfl 3 (by decide) (hts _ m_159) (fun _ h9 => h9) rfl dX5_init_85 ?_
  refine lv_iload_n hx hb dX5_init_88 rfl (lv_at hl 0 rfl) ?_
  refine va_new (ci := 8) (fs := [.null, .int 0, .int 0]) (C := RX8) (T := TX8) (N := 3) hx hb hts inlX8 tyX8 tyX8_ok hown (hts _ m_153) (hts _ m_154) (hts _ m_155) hK hP hD hS hA rfl dfX8 (show 134 + 1 ≤ 141 from by decide +kernel) (show 792 + 3 ≤ 829 from by decide +kernel) dX5_init_89 (fun q_28 H hP hD hS => ?_)
  have hP : va_P (dC, dI) classes [(h0, .inr (5, [.ref q_1, .ref q_5, .ref q_9, .ref q_20, .null, .int 0, .int 0])), (q_1, .inr (8, [.ref q_3, .int 0, .int 0])), (q_3, .inr (1, [.ref q_4, .int 0])), (q_5, .inr (8, [.ref q_7, .int 0, .int 0])), (q_7, .inr (1, [.ref q_8, .int 0])), (q_9, .inl (cy 5, 41, .inr (.inr (.inr (.inr (g_17)))))), (q_10, .inr (8, [.ref q_12, .int 0, .int 0])), (q_12, .inr (1, [.ref q_13, .int 0])), (q_20, .inl (cy 5, 3, .inr (.inr (.inr (.inr (g_25)))))), (q_21, .inr (8, [.ref q_23, .int 0, .int 0])), (q_23, .inr (1, [.ref q_24, .int 0])), (q_28, .inr (8, [.null, .int 0, .int 0]))] H := hP
  have hD : va_D A [(h0, .inr (5, [.ref q_1, .ref q_5, .ref q_9, .ref q_20, .null, .int 0, .int 0])), (q_1, .inr (8, [.ref q_3, .int 0, .int 0])), (q_3, .inr (1, [.ref q_4, .int 0])), (q_5, .inr (8, [.ref q_7, .int 0, .int 0])), (q_7, .inr (1, [.ref q_8, .int 0])), (q_9, .inl (cy 5, 41, .inr (.inr (.inr (.inr (g_17)))))), (q_10, .inr (8, [.ref q_12, .int 0, .int 0])), (q_12, .inr (1, [.ref q_13, .int 0])), (q_20, .inl (cy 5, 3, .inr (.inr (.inr (.inr (g_25)))))), (q_21, .inr (8, [.ref q_23, .int 0, .int 0])), (q_23, .inr (1, [.ref q_24, .int 0])), (q_28, .inr (8, [.null, .int 0, .int 0]))] := hD
  refine W.widen (k := 135) (n := 795) (by decide +kernel) (by decide +kernel) ?_
  refine lv_dup hx hb dX5_init_92 rfl ?_
  have hPc := hP.sub (ws' := [(q_28, .inr (8, [.null, .int 0, .int 0]))]) [11] rfl
  have hDc := hD.sub (ws' := [(q_28, .inr (8, [.null, .int 0, .int 0]))]) [11] (by decide) rfl
  have hFc := va_free (wc := [(q_28, .inr (8, [.null, .int 0, .int 0]))]) hD hS hA [11] rfl
  refine va_callv (va_runI (As := []) (rest := [.ref q_28, .int 1, .ref q_20]) ⟨hx, hb, hml, hown, hts⟩ (kX8_init_1 l dC dI cy q_28 H.size) (cwI 0 hts (gdI m_163) rfl rfl rfl (hts _ m_155) (hts _ m_161) (hts _ m_162) rfl (by decide +kernel) ⟨Nat.le_of_ble_eq_true rfl, Nat.le_of_ble_eq_true rfl⟩) ⟨fun a U g mk q => by obtain ⟨q0, q1, qP, qE, qD⟩ := q; exact ⟨q0, q1, qP, qE.call, qD⟩, fun U hU hW => ⟨rfl, by rw [hU], by rw [hU]; exact hPc, hE.moved hW, hDc.weaken (fun _ _ _ _ => trivial)⟩⟩ rfl rfl hl.1 rfl (lv_room (Nat.le_of_ble_eq_true rfl)) dX5_init_93 ⟨(show 135 + 2 ≤ 141 from by decide +kernel), (show 795 + 14 ≤ 829 from by decide +kernel)⟩) hS (fun q _ h => hFc q h) hFc (fun u t H1 locs ht hvm hw hB hz1 hk1 hS => ?_)
  obtain ⟨q_30, q_31, hP1, hD1⟩ := hB
  rw [ht] at hP1
  obtain ⟨hP, hD⟩ := va_join (wr := [(h0, .inr (5, [.ref q_1, .ref q_5, .ref q_9, .ref q_20, .null, .int 0, .int 0])), (q_1, .inr (8, [.ref q_3, .int 0, .int 0])), (q_3, .inr (1, [.ref q_4, .int 0])), (q_5, .inr (8, [.ref q_7, .int 0, .int 0])), (q_7, .inr (1, [.ref q_8, .int 0])), (q_9, .inl (cy 5, 41, .inr (.inr (.inr (.inr (g_17)))))), (q_10, .inr (8, [.ref q_12, .int 0, .int 0])), (q_12, .inr (1, [.ref q_13, .int 0])), (q_20, .inl (cy 5, 3, .inr (.inr (.inr (.inr (g_25)))))), (q_21, .inr (8, [.ref q_23, .int 0, .int 0])), (q_23, .inr (1, [.ref q_24, .int 0]))]) (w1 := [(q_28, .inr (8, [.ref q_30, .int 0, .int 0])), (q_30, .inr (1, [.ref q_31, .int 0]))]) hP hD [11] [0, 1, 2, 3, 4, 5, 6, 7, 8, 9, 10] rfl rfl (by decide) (by decide) hk1 hFc hP1 hD1
  generalize H1 = H at hP hS ⊢
  have hP : va_P (dC, dI) classes [(h0, .inr (5, [.ref q_1, .ref q_5, .ref q_9, .ref q_20, .null, .int 0, .int 0])), (q_1, .inr (8, [.ref q_3, .int 0, .int 0])), (q_3, .inr (1, [.ref q_4, .int 0])), (q_5, .inr (8, [.ref q_7, .int 0, .int 0])), (q_7, .inr (1, [.ref q_8, .int 0])), (q_9, .inl (cy 5, 41, .inr (.inr (.inr (.inr (g_17)))))), (q_10, .inr (8, [.ref q_12, .int 0, .int 0])), (q_12, .inr (1, [.ref q_13, .int 0])), (q_20, .inl (cy 5, 3, .inr (.inr (.inr (.inr (g_25)))))), (q_21, .inr (8, [.ref q_23, .int 0, .int 0])), (q_23, .inr (1, [.ref q_24, .int 0])), (q_28, .inr (8, [.ref q_30, .int 0, .int 0])), (q_30, .inr (1, [.ref q_31, .int 0]))] H := hP
  have hD : va_D A [(h0, .inr (5, [.ref q_1, .ref q_5, .ref q_9, .ref q_20, .null, .int 0, .int 0])), (q_1, .inr (8, [.ref q_3, .int 0, .int 0])), (q_3, .inr (1, [.ref q_4, .int 0])), (q_5, .inr (8, [.ref q_7, .int 0, .int 0])), (q_7, .inr (1, [.ref q_8, .int 0])), (q_9, .inl (cy 5, 41, .inr (.inr (.inr (.inr (g_17)))))), (q_10, .inr (8, [.ref q_12, .int 0, .int 0])), (q_12, .inr (1, [.ref q_13, .int 0])), (q_20, .inl (cy 5, 3, .inr (.inr (.inr (.inr (g_25)))))), (q_21, .inr (8, [.ref q_23, .int 0, .int 0])), (q_23, .inr (1, [.ref q_24, .int 0])), (q_28, .inr (8, [.ref q_30, .int 0, .int 0])), (q_30, .inr (1, [.ref q_31, .int 0]))] := hD
  refine W.widen (k := 137) (n := 809) (by decide +kernel) (by decide +kernel) ?_
  refine va_astq hx hb hK hP hD hS 8 5 11 8 rfl rfl rfl rfl vi_1_3 dX5_init_96 (fun H locs hP hD hS => ?_)
  obtain ⟨g_32, eg_33⟩ : ∃ g : Nat → Option Nat, g = va_up (g_25) (Int32.toNatClampNeg 1) (some q_28) := ⟨_, rfl⟩
  rw [← eg_33] at hP hD
  have eg_34 : g_32 0 = some q_21 := by rw [eg_33]; exact (va_up_ne _ _ (by decide +kernel)).trans eg_27
  have eg_35 : g_32 1 = some q_28 := by rw [eg_33]; exact va_up_self _ _ _
  have hP : va_P (dC, dI) classes [(h0, .inr (5, [.ref q_1, .ref q_5, .ref q_9, .ref q_20, .null, .int 0, .int 0])), (q_1, .inr (8, [.ref q_3, .int 0, .int 0])), (q_3, .inr (1, [.ref q_4, .int 0])), (q_5, .inr (8, [.ref q_7, .int 0, .int 0])), (q_7, .inr (1, [.ref q_8, .int 0])), (q_9, .inl (cy 5, 41, .inr (.inr (.inr (.inr (g_17)))))), (q_10, .inr (8, [.ref q_12, .int 0, .int 0])), (q_12, .inr (1, [.ref q_13, .int 0])), (q_20, .inl (cy 5, 3, .inr (.inr (.inr (.inr (g_32)))))), (q_21, .inr (8, [.ref q_23, .int 0, .int 0])), (q_23, .inr (1, [.ref q_24, .int 0])), (q_28, .inr (8, [.ref q_30, .int 0, .int 0])), (q_30, .inr (1, [.ref q_31, .int 0]))] H := hP
  have hD : va_D A [(h0, .inr (5, [.ref q_1, .ref q_5, .ref q_9, .ref q_20, .null, .int 0, .int 0])), (q_1, .inr (8, [.ref q_3, .int 0, .int 0])), (q_3, .inr (1, [.ref q_4, .int 0])), (q_5, .inr (8, [.ref q_7, .int 0, .int 0])), (q_7, .inr (1, [.ref q_8, .int 0])), (q_9, .inl (cy 5, 41, .inr (.inr (.inr (.inr (g_17)))))), (q_10, .inr (8, [.ref q_12, .int 0, .int 0])), (q_12, .inr (1, [.ref q_13, .int 0])), (q_20, .inl (cy 5, 3, .inr (.inr (.inr (.inr (g_32)))))), (q_21, .inr (8, [.ref q_23, .int 0, .int 0])), (q_23, .inr (1, [.ref q_24, .int 0])), (q_28, .inr (8, [.ref q_30, .int 0, .int 0])), (q_30, .inr (1, [.ref q_31, .int 0]))] := hD
  refine lv_iinc (v := 2) (lv' := [(1, .int 2), (0, .ref h0)]) hx hb dX5_init_97 hl (k := 0) rfl (by decide +kernel) (by decide) rfl (fun ls hl => ?_)
  refine lv_goto (tgt := 75) hx hb dX5_init_100 (by decide) ?_
  refine lv_iload_n hx hb dX5_init_75 rfl (lv_at hl 0 rfl) ?_
  refine lv_aload_n hx hb dX5_init_76 rfl (lv_at hl 1 rfl) ?_
  refine va_get (D := (dC, dI)) (ci := 5) (v := .ref q_20) (C := RX5) (T := TX5) (N := 7) hx hb hts inlX5 hown hK hP 0 rfl rfl 3 (by decide) (hts _ m_159) (fun _ h9 => h9) rfl dX5_init_77 ?_
  refine va_alen (v := 3) hx hb hK hP 8 5 rfl rfl rfl dX5_init_80 ?_
  refine lv_icmp_ge (tgt := 103) hx hb dX5_init_81 (by decide) (fun c_ => absurd c_ (by decide +kernel)) (fun _ => ?_)
  refine lv_aload_n hx hb dX5_init_84 rfl (lv_at hl 1 rfl) ?_
  refine va_get (D := (dC, dI)) (ci := 5) (v := .ref q_20) (C := RX5) (T := TX5) (N := 7) hx hb hts inlX5 hown hK hP 0 rfl rfl 3 (by decide) (hts _ m_159) (fun _ h9 => h9) rfl dX5_init_85 ?_
  refine lv_iload_n hx hb dX5_init_88 rfl (lv_at hl 0 rfl) ?_
  refine va_new (ci := 8) (fs := [.null, .int 0, .int 0]) (C := RX8) (T := TX8) (N := 3) hx hb hts inlX8 tyX8 tyX8_ok hown (hts _ m_153) (hts _ m_154) (hts _ m_155) hK hP hD hS hA rfl dfX8 (show 137 + 1 ≤ 141 from by decide +kernel) (show 809 + 3 ≤ 829 from by decide +kernel) dX5_init_89 (fun q_36 H hP hD hS => ?_)
  have hP : va_P (dC, dI) classes [(h0, .inr (5, [.ref q_1, .ref q_5, .ref q_9, .ref q_20, .null, .int 0, .int 0])), (q_1, .inr (8, [.ref q_3, .int 0, .int 0])), (q_3, .inr (1, [.ref q_4, .int 0])), (q_5, .inr (8, [.ref q_7, .int 0, .int 0])), (q_7, .inr (1, [.ref q_8, .int 0])), (q_9, .inl (cy 5, 41, .inr (.inr (.inr (.inr (g_17)))))), (q_10, .inr (8, [.ref q_12, .int 0, .int 0])), (q_12, .inr (1, [.ref q_13, .int 0])), (q_20, .inl (cy 5, 3, .inr (.inr (.inr (.inr (g_32)))))), (q_21, .inr (8, [.ref q_23, .int 0, .int 0])), (q_23, .inr (1, [.ref q_24, .int 0])), (q_28, .inr (8, [.ref q_30, .int 0, .int 0])), (q_30, .inr (1, [.ref q_31, .int 0])), (q_36, .inr (8, [.null, .int 0, .int 0]))] H := hP
  have hD : va_D A [(h0, .inr (5, [.ref q_1, .ref q_5, .ref q_9, .ref q_20, .null, .int 0, .int 0])), (q_1, .inr (8, [.ref q_3, .int 0, .int 0])), (q_3, .inr (1, [.ref q_4, .int 0])), (q_5, .inr (8, [.ref q_7, .int 0, .int 0])), (q_7, .inr (1, [.ref q_8, .int 0])), (q_9, .inl (cy 5, 41, .inr (.inr (.inr (.inr (g_17)))))), (q_10, .inr (8, [.ref q_12, .int 0, .int 0])), (q_12, .inr (1, [.ref q_13, .int 0])), (q_20, .inl (cy 5, 3, .inr (.inr (.inr (.inr (g_32)))))), (q_21, .inr (8, [.ref q_23, .int 0, .int 0])), (q_23, .inr (1, [.ref q_24, .int 0])), (q_28, .inr (8, [.ref q_30, .int 0, .int 0])), (q_30, .inr (1, [.ref q_31, .int 0])), (q_36, .inr (8, [.null, .int 0, .int 0]))] := hD
  refine W.widen (k := 138) (n := 812) (by decide +kernel) (by decide +kernel) ?_
  refine lv_dup hx hb dX5_init_92 rfl ?_
  have hPc := hP.sub (ws' := [(q_36, .inr (8, [.null, .int 0, .int 0]))]) [13] rfl
  have hDc := hD.sub (ws' := [(q_36, .inr (8, [.null, .int 0, .int 0]))]) [13] (by decide) rfl
  have hFc := va_free (wc := [(q_36, .inr (8, [.null, .int 0, .int 0]))]) hD hS hA [13] rfl
  refine va_callv (va_runI (As := []) (rest := [.ref q_36, .int 2, .ref q_20]) ⟨hx, hb, hml, hown, hts⟩ (kX8_init_1 l dC dI cy q_36 H.size) (cwI 0 hts (gdI m_163) rfl rfl rfl (hts _ m_155) (hts _ m_161) (hts _ m_162) rfl (by decide +kernel) ⟨Nat.le_of_ble_eq_true rfl, Nat.le_of_ble_eq_true rfl⟩) ⟨fun a U g mk q => by obtain ⟨q0, q1, qP, qE, qD⟩ := q; exact ⟨q0, q1, qP, qE.call, qD⟩, fun U hU hW => ⟨rfl, by rw [hU], by rw [hU]; exact hPc, hE.moved hW, hDc.weaken (fun _ _ _ _ => trivial)⟩⟩ rfl rfl hl.1 rfl (lv_room (Nat.le_of_ble_eq_true rfl)) dX5_init_93 ⟨(show 138 + 2 ≤ 141 from by decide +kernel), (show 812 + 14 ≤ 829 from by decide +kernel)⟩) hS (fun q _ h => hFc q h) hFc (fun u t H1 locs ht hvm hw hB hz1 hk1 hS => ?_)
  obtain ⟨q_38, q_39, hP1, hD1⟩ := hB
  rw [ht] at hP1
  obtain ⟨hP, hD⟩ := va_join (wr := [(h0, .inr (5, [.ref q_1, .ref q_5, .ref q_9, .ref q_20, .null, .int 0, .int 0])), (q_1, .inr (8, [.ref q_3, .int 0, .int 0])), (q_3, .inr (1, [.ref q_4, .int 0])), (q_5, .inr (8, [.ref q_7, .int 0, .int 0])), (q_7, .inr (1, [.ref q_8, .int 0])), (q_9, .inl (cy 5, 41, .inr (.inr (.inr (.inr (g_17)))))), (q_10, .inr (8, [.ref q_12, .int 0, .int 0])), (q_12, .inr (1, [.ref q_13, .int 0])), (q_20, .inl (cy 5, 3, .inr (.inr (.inr (.inr (g_32)))))), (q_21, .inr (8, [.ref q_23, .int 0, .int 0])), (q_23, .inr (1, [.ref q_24, .int 0])), (q_28, .inr (8, [.ref q_30, .int 0, .int 0])), (q_30, .inr (1, [.ref q_31, .int 0]))]) (w1 := [(q_36, .inr (8, [.ref q_38, .int 0, .int 0])), (q_38, .inr (1, [.ref q_39, .int 0]))]) hP hD [13] [0, 1, 2, 3, 4, 5, 6, 7, 8, 9, 10, 11, 12] rfl rfl (by decide) (by decide) hk1 hFc hP1 hD1
  generalize H1 = H at hP hS ⊢
  have hP : va_P (dC, dI) classes [(h0, .inr (5, [.ref q_1, .ref q_5, .ref q_9, .ref q_20, .null, .int 0, .int 0])), (q_1, .inr (8, [.ref q_3, .int 0, .int 0])), (q_3, .inr (1, [.ref q_4, .int 0])), (q_5, .inr (8, [.ref q_7, .int 0, .int 0])), (q_7, .inr (1, [.ref q_8, .int 0])), (q_9, .inl (cy 5, 41, .inr (.inr (.inr (.inr (g_17)))))), (q_10, .inr (8, [.ref q_12, .int 0, .int 0])), (q_12, .inr (1, [.ref q_13, .int 0])), (q_20, .inl (cy 5, 3, .inr (.inr (.inr (.inr (g_32)))))), (q_21, .inr (8, [.ref q_23, .int 0, .int 0])), (q_23, .inr (1, [.ref q_24, .int 0])), (q_28, .inr (8, [.ref q_30, .int 0, .int 0])), (q_30, .inr (1, [.ref q_31, .int 0])), (q_36, .inr (8, [.ref q_38, .int 0, .int 0])), (q_38, .inr (1, [.ref q_39, .int 0]))] H := hP
  have hD : va_D A [(h0, .inr (5, [.ref q_1, .ref q_5, .ref q_9, .ref q_20, .null, .int 0, .int 0])), (q_1, .inr (8, [.ref q_3, .int 0, .int 0])), (q_3, .inr (1, [.ref q_4, .int 0])), (q_5, .inr (8, [.ref q_7, .int 0, .int 0])), (q_7, .inr (1, [.ref q_8, .int 0])), (q_9, .inl (cy 5, 41, .inr (.inr (.inr (.inr (g_17)))))), (q_10, .inr (8, [.ref q_12, .int 0, .int 0])), (q_12, .inr (1, [.ref q_13, .int 0])), (q_20, .inl (cy 5, 3, .inr (.inr (.inr (.inr (g_32)))))), (q_21, .inr (8, [.ref q_23, .int 0, .int 0])), (q_23, .inr (1, [.ref q_24, .int 0])), (q_28, .inr (8, [.ref q_30, .int 0, .int 0])), (q_30, .inr (1, [.ref q_31, .int 0])), (q_36, .inr (8, [.ref q_38, .int 0, .int 0])), (q_38, .inr (1, [.ref q_39, .int 0]))] := hD
  refine W.widen (k := 140) (n := 826) (by decide +kernel) (by decide +kernel) ?_
  refine va_astq hx hb hK hP hD hS 8 5 13 8 rfl rfl rfl rfl vi_2_3 dX5_init_96 (fun H locs hP hD hS => ?_)
  obtain ⟨g_40, eg_41⟩ : ∃ g : Nat → Option Nat, g = va_up (g_32) (Int32.toNatClampNeg 2) (some q_36) := ⟨_, rfl⟩
  rw [← eg_41] at hP hD
  have eg_42 : g_40 0 = some q_21 := by rw [eg_41]; exact (va_up_ne _ _ (by decide +kernel)).trans eg_34
  have eg_43 : g_40 1 = some q_28 := by rw [eg_41]; exact (va_up_ne _ _ (by decide +kernel)).trans eg_35
  have eg_44 : g_40 2 = some q_36 := by rw [eg_41]; exact va_up_self _ _ _
  have hP : va_P (dC, dI) classes [(h0, .inr (5, [.ref q_1, .ref q_5, .ref q_9, .ref q_20, .null, .int 0, .int 0])), (q_1, .inr (8, [.ref q_3, .int 0, .int 0])), (q_3, .inr (1, [.ref q_4, .int 0])), (q_5, .inr (8, [.ref q_7, .int 0, .int 0])), (q_7, .inr (1, [.ref q_8, .int 0])), (q_9, .inl (cy 5, 41, .inr (.inr (.inr (.inr (g_17)))))), (q_10, .inr (8, [.ref q_12, .int 0, .int 0])), (q_12, .inr (1, [.ref q_13, .int 0])), (q_20, .inl (cy 5, 3, .inr (.inr (.inr (.inr (g_40)))))), (q_21, .inr (8, [.ref q_23, .int 0, .int 0])), (q_23, .inr (1, [.ref q_24, .int 0])), (q_28, .inr (8, [.ref q_30, .int 0, .int 0])), (q_30, .inr (1, [.ref q_31, .int 0])), (q_36, .inr (8, [.ref q_38, .int 0, .int 0])), (q_38, .inr (1, [.ref q_39, .int 0]))] H := hP
  have hD : va_D A [(h0, .inr (5, [.ref q_1, .ref q_5, .ref q_9, .ref q_20, .null, .int 0, .int 0])), (q_1, .inr (8, [.ref q_3, .int 0, .int 0])), (q_3, .inr (1, [.ref q_4, .int 0])), (q_5, .inr (8, [.ref q_7, .int 0, .int 0])), (q_7, .inr (1, [.ref q_8, .int 0])), (q_9, .inl (cy 5, 41, .inr (.inr (.inr (.inr (g_17)))))), (q_10, .inr (8, [.ref q_12, .int 0, .int 0])), (q_12, .inr (1, [.ref q_13, .int 0])), (q_20, .inl (cy 5, 3, .inr (.inr (.inr (.inr (g_40)))))), (q_21, .inr (8, [.ref q_23, .int 0, .int 0])), (q_23, .inr (1, [.ref q_24, .int 0])), (q_28, .inr (8, [.ref q_30, .int 0, .int 0])), (q_30, .inr (1, [.ref q_31, .int 0])), (q_36, .inr (8, [.ref q_38, .int 0, .int 0])), (q_38, .inr (1, [.ref q_39, .int 0]))] := hD
  refine lv_iinc (v := 3) (lv' := [(1, .int 3), (0, .ref h0)]) hx hb dX5_init_97 hl (k := 0) rfl (by decide +kernel) (by decide) rfl (fun ls hl => ?_)
  refine lv_goto (tgt := 75) hx hb dX5_init_100 (by decide) ?_
  refine lv_iload_n hx hb dX5_init_75 rfl (lv_at hl 0 rfl) ?_
  refine lv_aload_n hx hb dX5_init_76 rfl (lv_at hl 1 rfl) ?_
  refine va_get (D := (dC, dI)) (ci := 5) (v := .ref q_20) (C := RX5) (T := TX5) (N := 7) hx hb hts inlX5 hown hK hP 0 rfl rfl 3 (by decide) (hts _ m_159) (fun _ h9 => h9) rfl dX5_init_77 ?_
  refine va_alen (v := 3) hx hb hK hP 8 5 rfl rfl rfl dX5_init_80 ?_
  refine lv_icmp_ge (tgt := 103) hx hb dX5_init_81 (by decide) (fun _ => ?_) (fun c_ => absurd (by decide +kernel) c_)
  refine lv_aload_n hx hb dX5_init_103 rfl (lv_at hl 1 rfl) ?_
  refine lv_iconst (v := 3) hx hb dX5_init_104 (by decide +kernel) ?_
  refine xa_newa (atype := .boolean) (ty := .boolean) (c0 := cy 3) (a0 := (3, .inl (fun _ => 0))) hx hb (hts _ m_122) rfl hK 3 rfl hP hD hS hA (xa_zZ 3) (by decide +kernel) (by decide +kernel) (by decide +kernel) (show 140 + 1 ≤ 141 from by decide +kernel) (show 826 + 3 ≤ 829 from by decide +kernel) dX5_init_105 (fun q_45 H hP hD hS => ?_)
  have hP : va_P (dC, dI) classes [(h0, .inr (5, [.ref q_1, .ref q_5, .ref q_9, .ref q_20, .null, .int 0, .int 0])), (q_1, .inr (8, [.ref q_3, .int 0, .int 0])), (q_3, .inr (1, [.ref q_4, .int 0])), (q_5, .inr (8, [.ref q_7, .int 0, .int 0])), (q_7, .inr (1, [.ref q_8, .int 0])), (q_9, .inl (cy 5, 41, .inr (.inr (.inr (.inr (g_17)))))), (q_10, .inr (8, [.ref q_12, .int 0, .int 0])), (q_12, .inr (1, [.ref q_13, .int 0])), (q_20, .inl (cy 5, 3, .inr (.inr (.inr (.inr (g_40)))))), (q_21, .inr (8, [.ref q_23, .int 0, .int 0])), (q_23, .inr (1, [.ref q_24, .int 0])), (q_28, .inr (8, [.ref q_30, .int 0, .int 0])), (q_30, .inr (1, [.ref q_31, .int 0])), (q_36, .inr (8, [.ref q_38, .int 0, .int 0])), (q_38, .inr (1, [.ref q_39, .int 0])), (q_45, .inl (cy 3, 3, .inl (fun _ => 0)))] H := hP
  have hD : va_D A [(h0, .inr (5, [.ref q_1, .ref q_5, .ref q_9, .ref q_20, .null, .int 0, .int 0])), (q_1, .inr (8, [.ref q_3, .int 0, .int 0])), (q_3, .inr (1, [.ref q_4, .int 0])), (q_5, .inr (8, [.ref q_7, .int 0, .int 0])), (q_7, .inr (1, [.ref q_8, .int 0])), (q_9, .inl (cy 5, 41, .inr (.inr (.inr (.inr (g_17)))))), (q_10, .inr (8, [.ref q_12, .int 0, .int 0])), (q_12, .inr (1, [.ref q_13, .int 0])), (q_20, .inl (cy 5, 3, .inr (.inr (.inr (.inr (g_40)))))), (q_21, .inr (8, [.ref q_23, .int 0, .int 0])), (q_23, .inr (1, [.ref q_24, .int 0])), (q_28, .inr (8, [.ref q_30, .int 0, .int 0])), (q_30, .inr (1, [.ref q_31, .int 0])), (q_36, .inr (8, [.ref q_38, .int 0, .int 0])), (q_38, .inr (1, [.ref q_39, .int 0])), (q_45, .inl (cy 3, 3, .inl (fun _ => 0)))] := hD
  refine W.widen (k := 141) (n := 829) (by decide +kernel) (by decide +kernel) ?_
  refine va_putF (D := (dC, dI)) (ci := 5) (v := .ref q_45) (ty := (tyX5 4)) (C := RX5) (T := TX5) (N := 7) hx hb hts inlX5 tyX5 tyX5_ok nmX5 hown hK hP hD hS 0 rfl rfl 4 (by decide) (hts _ m_160) (fun _ h9 => h9) rfl hin rfl (by decide +kernel) rfl rfl (Nat.le_of_ble_eq_true rfl) dX5_init_107 (fun H locs hP hD hS => ?_)
  have hP : va_P (dC, dI) classes [(h0, .inr (5, [.ref q_1, .ref q_5, .ref q_9, .ref q_20, .ref q_45, .int 0, .int 0])), (q_1, .inr (8, [.ref q_3, .int 0, .int 0])), (q_3, .inr (1, [.ref q_4, .int 0])), (q_5, .inr (8, [.ref q_7, .int 0, .int 0])), (q_7, .inr (1, [.ref q_8, .int 0])), (q_9, .inl (cy 5, 41, .inr (.inr (.inr (.inr (g_17)))))), (q_10, .inr (8, [.ref q_12, .int 0, .int 0])), (q_12, .inr (1, [.ref q_13, .int 0])), (q_20, .inl (cy 5, 3, .inr (.inr (.inr (.inr (g_40)))))), (q_21, .inr (8, [.ref q_23, .int 0, .int 0])), (q_23, .inr (1, [.ref q_24, .int 0])), (q_28, .inr (8, [.ref q_30, .int 0, .int 0])), (q_30, .inr (1, [.ref q_31, .int 0])), (q_36, .inr (8, [.ref q_38, .int 0, .int 0])), (q_38, .inr (1, [.ref q_39, .int 0])), (q_45, .inl (cy 3, 3, .inl (fun _ => 0)))] H := hP
  have hD : va_D A [(h0, .inr (5, [.ref q_1, .ref q_5, .ref q_9, .ref q_20, .ref q_45, .int 0, .int 0])), (q_1, .inr (8, [.ref q_3, .int 0, .int 0])), (q_3, .inr (1, [.ref q_4, .int 0])), (q_5, .inr (8, [.ref q_7, .int 0, .int 0])), (q_7, .inr (1, [.ref q_8, .int 0])), (q_9, .inl (cy 5, 41, .inr (.inr (.inr (.inr (g_17)))))), (q_10, .inr (8, [.ref q_12, .int 0, .int 0])), (q_12, .inr (1, [.ref q_13, .int 0])), (q_20, .inl (cy 5, 3, .inr (.inr (.inr (.inr (g_40)))))), (q_21, .inr (8, [.ref q_23, .int 0, .int 0])), (q_23, .inr (1, [.ref q_24, .int 0])), (q_28, .inr (8, [.ref q_30, .int 0, .int 0])), (q_30, .inr (1, [.ref q_31, .int 0])), (q_36, .inr (8, [.ref q_38, .int 0, .int 0])), (q_38, .inr (1, [.ref q_39, .int 0])), (q_45, .inl (cy 3, 3, .inl (fun _ => 0)))] := hD
  have hP9 := hP.sub (ws' := [(h0, .inr (5, [.ref q_1, .ref q_5, .ref q_9, .ref q_20, .ref q_45, .int 0, .int 0])), (q_1, .inr (8, [.ref q_3, .int 0, .int 0])), (q_3, .inr (1, [.ref q_4, .int 0])), (q_5, .inr (8, [.ref q_7, .int 0, .int 0])), (q_7, .inr (1, [.ref q_8, .int 0])), (q_9, .inl (cy 5, 41, .inr (.inr (.inr (.inr (g_17)))))), (q_10, .inr (8, [.ref q_12, .int 0, .int 0])), (q_12, .inr (1, [.ref q_13, .int 0])), (q_20, .inl (cy 5, 3, .inr (.inr (.inr (.inr (g_40)))))), (q_21, .inr (8, [.ref q_23, .int 0, .int 0])), (q_23, .inr (1, [.ref q_24, .int 0])), (q_28, .inr (8, [.ref q_30, .int 0, .int 0])), (q_30, .inr (1, [.ref q_31, .int 0])), (q_36, .inr (8, [.ref q_38, .int 0, .int 0])), (q_38, .inr (1, [.ref q_39, .int 0])), (q_45, .inl (cy 3, 3, .inl (fun _ => 0)))]) [0, 1, 2, 3, 4, 5, 6, 7, 8, 9, 10, 11, 12, 13, 14, 15] rfl
  have hD9 := hD.sub (ws' := [(h0, .inr (5, [.ref q_1, .ref q_5, .ref q_9, .ref q_20, .ref q_45, .int 0, .int 0])), (q_1, .inr (8, [.ref q_3, .int 0, .int 0])), (q_3, .inr (1, [.ref q_4, .int 0])), (q_5, .inr (8, [.ref q_7, .int 0, .int 0])), (q_7, .inr (1, [.ref q_8, .int 0])), (q_9, .inl (cy 5, 41, .inr (.inr (.inr (.inr (g_17)))))), (q_10, .inr (8, [.ref q_12, .int 0, .int 0])), (q_12, .inr (1, [.ref q_13, .int 0])), (q_20, .inl (cy 5, 3, .inr (.inr (.inr (.inr (g_40)))))), (q_21, .inr (8, [.ref q_23, .int 0, .int 0])), (q_23, .inr (1, [.ref q_24, .int 0])), (q_28, .inr (8, [.ref q_30, .int 0, .int 0])), (q_30, .inr (1, [.ref q_31, .int 0])), (q_36, .inr (8, [.ref q_38, .int 0, .int 0])), (q_38, .inr (1, [.ref q_39, .int 0])), (q_45, .inl (cy 3, 3, .inl (fun _ => 0)))]) [0, 1, 2, 3, 4, 5, 6, 7, 8, 9, 10, 11, 12, 13, 14, 15] (by decide) rfl
  exact W.vret hx hb hr (fun t ht hW => ⟨⟨(), rfl, trivial, q_1, q_5, q_9, q_20, q_45, q_3, q_4, q_7, q_8, q_10, q_12, q_13, q_21, q_23, q_24, q_28, q_30, q_31, q_36, q_38, q_39, g_17, g_40, eg_18, eg_42, eg_43, eg_44, by rw [ht]; exact hP9, hD9⟩, hS.F ht⟩) hS.2.2 dX5_init_110
set_option maxHeartbeats 4000000 in
set_option maxRecDepth 100000 in
theorem kX1_init_3 (l : Launch) (dC : Nat → ClassId) (dI : Nat → Nat → Nat) (cy : Nat → ClassId) (h0 : Nat) (sz : Nat) : Met l yX1_init wmX1_init ({ frames := 1, cells := 1, slots := 0, locals := 21 }) (va_Pc [.ref h0, .int 0] (fun U => U.heap.size = sz ∧ va_P (dC, dI) classes [(h0, .inr (1, [.null, .int 0]))] U.heap ∧ EV dC dI cy U ∧ va_D (fun _ => True) [(h0, .inr (1, [.null, .int 0]))])) (va_Qv (S := Unit) (fun _ => True) (fun _ t => ∃ (q_2 : Nat), va_P (dC, dI) classes [(h0, .inr (1, [.ref q_2, .int 0]))] t.heap ∧ va_D (va_A [(h0, .inr (1, [.null, .int 0]))] sz) [(h0, .inr (1, [.ref q_2, .int 0]))]) (va_A [(h0, .inr (1, [.null, .int 0]))] sz)) 1 0 (va_A [(h0, .inr (1, [.null, .int 0]))] sz) := by
  refine Met.ofW (cc := cX1_init) (maxL := 2) (ret := none) (by decide +kernel) rfl ?_
  intro p e s m args below meth c s₁ B hml hv
  obtain ⟨rfl, hsz, hP, hE, hD0⟩ := hv
  have hK := hE.1
  have hN := hE.2.1
  have hx := B.exec
  have hb := B.bytes
  have hr := B.returns
  have hts0 := atoms_spec (ws := wmX1_init) B.pre
  have hts : ∀ w ∈ wsL_law, w.before _ s = true := fun w h => hts0 w (List.mem_cons_of_mem _ h)
  have hown : s.vm.findClass RX1 = some m.cls := findClass_of_methodNamed B.named
  have hlocks := B.notSynchronized
  have hin : meth.name = "<init>" := (name_of_methodNamed B.named B.method).1
  subst hsz
  have hD := hD0.self (sz := s.heap.size)
  generalize hAe : va_A [(h0, .inr (1, [.null, .int 0]))] s.heap.size = A at hD ⊢
  have hA : ∀ q : Nat, s.heap.size ≤ q → A q := fun q h => by rw [← hAe]; exact Or.inr h
  have hS : va_S A s.heap s.heap [] := va_S.rf
  have hP : va_P (dC, dI) classes [(h0, .inr (1, [.null, .int 0]))] s.heap := hP
  have hl := lv_entry ([.ref h0, .int 0]) (n := 2) (Nat.le_of_ble_eq_true rfl)
  rw [lg_entry_eq]
  generalize (lg_sl ([.ref h0, .int 0]) ++ List.replicate (2 - (lg_sl ([.ref h0, .int 0])).length) Slot.unset).toArray = ls at hl ⊢
  have hl : lv_has ls 2 [(0, .ref h0), (1, .int 0)] := hl
  refine lv_aload_n hx hb dX1_init_0 rfl (lv_at hl 0 rfl) ?_
  refine W.objInit hx hb hown (hts _ m_134) (hts _ m_10) (hts _ m_11) rfl (by rw [hml]; exact hl.1) rfl dX1_init_1 (Nat.le_of_ble_eq_true rfl) (Nat.le_of_ble_eq_true rfl) ?_
  refine W.eq (g2 := F0 m 4 ls []) rfl ?_
  refine lv_aload_n hx hb dX1_init_4 rfl (lv_at hl 0 rfl) ?_
  refine lv_iload_n hx hb dX1_init_5 rfl (lv_at hl 1 rfl) ?_
  refine lv_iconst (v := 0) hx hb dX1_init_6 (by decide +kernel) ?_
  refine va_mmax hx hb (by rw [hml]; exact hl.1.symm) hown (hts _ m_135) (hts _ m_136) (hts _ m_137) (hts _ m_138) (Nat.le_of_ble_eq_true rfl) (Nat.le_of_ble_eq_true rfl) (Nat.le_of_ble_eq_true rfl) (Nat.le_of_ble_eq_true rfl) dX1_init_7 ?_
  refine lv_topi (fun z_1 ez_1 => ?_)
  obtain rfl : z_1 = 0 := ez_1.trans (by decide +kernel)
  refine xa_newa (atype := .int) (ty := .int) (c0 := cy 0) (a0 := (0, .inl (fun _ => 0))) hx hb (hts _ m_119) rfl hK 0 rfl hP hD hS hA (xa_zI 0) (by decide +kernel) (by decide +kernel) (by decide +kernel) (show 0 + 1 ≤ 1 from by decide +kernel) (show 0 + 0 ≤ 0 from by decide +kernel) dX1_init_10 (fun q_2 H hP hD hS => ?_)
  have hP : va_P (dC, dI) classes [(h0, .inr (1, [.null, .int 0])), (q_2, .inl (cy 0, 0, .inl (fun _ => 0)))] H := hP
  have hD : va_D A [(h0, .inr (1, [.null, .int 0])), (q_2, .inl (cy 0, 0, .inl (fun _ => 0)))] := hD
  refine W.widen (k := 1) (n := 0) (by decide +kernel) (by decide +kernel) ?_
  refine va_putF (D := (dC, dI)) (ci := 1) (v := .ref q_2) (ty := (tyX1 0)) (C := RX1) (T := TX1) (N := 2) hx hb hts inlX1 tyX1 tyX1_ok nmX1 hown hK hP hD hS 0 rfl rfl 0 (by decide) (hts _ m_139) (fun _ h9 => h9) rfl hin rfl (by decide +kernel) rfl rfl (Nat.le_of_ble_eq_true rfl) dX1_init_12 (fun H locs hP hD hS => ?_)
  have hP : va_P (dC, dI) classes [(h0, .inr (1, [.ref q_2, .int 0])), (q_2, .inl (cy 0, 0, .inl (fun _ => 0)))] H := hP
  have hD : va_D A [(h0, .inr (1, [.ref q_2, .int 0])), (q_2, .inl (cy 0, 0, .inl (fun _ => 0)))] := hD
  refine lv_aload_n hx hb dX1_init_15 rfl (lv_at hl 0 rfl) ?_
  refine lv_iconst (v := 0) hx hb dX1_init_16 (by decide +kernel) ?_
  refine va_put (D := (dC, dI)) (ci := 1) (v := .int 0) (ty := .int) (C := RX1) (T := TX1) (N := 2) hx hb hts inlX1 tyX1 tyX1_ok nmX1 hown hK hP hD hS 0 rfl rfl 1 (by decide) (hts _ m_140) (fun _ h9 => h9) rfl (by decide +kernel) rfl rfl (Nat.le_of_ble_eq_true rfl) dX1_init_17 (fun H locs hP hD hS => ?_)
  have hP : va_P (dC, dI) classes [(h0, .inr (1, [.ref q_2, .int 0])), (q_2, .inl (cy 0, 0, .inl (fun _ => 0)))] H := hP
  have hD : va_D A [(h0, .inr (1, [.ref q_2, .int 0])), (q_2, .inl (cy 0, 0, .inl (fun _ => 0)))] := hD
  have hP9 := hP.sub (ws' := [(h0, .inr (1, [.ref q_2, .int 0]))]) [0] rfl
  have hD9 := hD.sub (ws' := [(h0, .inr (1, [.ref q_2, .int 0]))]) [0] (by decide) rfl
  exact W.vret hx hb hr (fun t ht hW => ⟨⟨(), rfl, trivial, q_2, by rw [ht]; exact hP9, hD9⟩, hS.F ht⟩) hS.2.2 dX1_init_20
set_option maxHeartbeats 4000000 in
set_option maxRecDepth 100000 in
theorem kX4_init_1 (l : Launch) (dC : Nat → ClassId) (dI : Nat → Nat → Nat) (cy : Nat → ClassId) (h0 : Nat) (sz : Nat) : Met l yX4_init wmX4_init ({ frames := 2, cells := 6, slots := 1632, locals := 42 }) (va_Pc [.ref h0] (fun U => U.heap.size = sz ∧ va_P (dC, dI) classes [(h0, .inr (4, [.null, .null, .null, .null, .null, .null, .null]))] U.heap ∧ EV dC dI cy U ∧ va_D (fun _ => True) [(h0, .inr (4, [.null, .null, .null, .null, .null, .null, .null]))])) (va_Qv (S := Unit) (fun _ => True) (fun _ t => ∃ (q_1 : Nat) (q_2 : Nat) (q_3 : Nat) (q_4 : Nat) (q_5 : Nat), va_P (dC, dI) classes [(h0, .inr (4, [.ref q_1, .ref q_2, .ref q_3, .ref q_4, .ref q_5, .ref q_5, .ref q_5])), (q_1, .inl (cy 0, 169, .inl (fun _ => 0)))] t.heap ∧ va_D (va_A [(h0, .inr (4, [.null, .null, .null, .null, .null, .null, .null]))] sz) [(h0, .inr (4, [.ref q_1, .ref q_2, .ref q_3, .ref q_4, .ref q_5, .ref q_5, .ref q_5])), (q_1, .inl (cy 0, 169, .inl (fun _ => 0)))]) (va_A [(h0, .inr (4, [.null, .null, .null, .null, .null, .null, .null]))] sz)) 6 1632 (va_A [(h0, .inr (4, [.null, .null, .null, .null, .null, .null, .null]))] sz) := by
  refine Met.ofW (cc := cX4_init) (maxL := 1) (ret := none) (by decide +kernel) rfl ?_
  intro p e s m args below meth c s₁ B hml hv
  obtain ⟨rfl, hsz, hP, hE, hD0⟩ := hv
  have hK := hE.1
  have hN := hE.2.1
  have hx := B.exec
  have hb := B.bytes
  have hr := B.returns
  have hts0 := atoms_spec (ws := wmX4_init) B.pre
  have hts : ∀ w ∈ wsL_law, w.before _ s = true := fun w h => hts0 w (List.mem_cons_of_mem _ h)
  have hown : s.vm.findClass RX4 = some m.cls := findClass_of_methodNamed B.named
  have hlocks := B.notSynchronized
  have hin : meth.name = "<init>" := (name_of_methodNamed B.named B.method).1
  subst hsz
  have hD := hD0.self (sz := s.heap.size)
  generalize hAe : va_A [(h0, .inr (4, [.null, .null, .null, .null, .null, .null, .null]))] s.heap.size = A at hD ⊢
  have hA : ∀ q : Nat, s.heap.size ≤ q → A q := fun q h => by rw [← hAe]; exact Or.inr h
  have hS : va_S A s.heap s.heap [] := va_S.rf
  have hP : va_P (dC, dI) classes [(h0, .inr (4, [.null, .null, .null, .null, .null, .null, .null]))] s.heap := hP
  have hl := lv_entry ([.ref h0]) (n := 1) (Nat.le_of_ble_eq_true rfl)
  rw [lg_entry_eq]
  generalize (lg_sl ([.ref h0]) ++ List.replicate (1 - (lg_sl ([.ref h0])).length) Slot.unset).toArray = ls at hl ⊢
  have hl : lv_has ls 1 [(0, .ref h0)] := hl
  refine lv_aload_n hx hb dX4_init_0 rfl (lv_at hl 0 rfl) ?_
  refine W.objInit hx hb hown (hts _ m_173) (hts _ m_10) (hts _ m_11) rfl (by rw [hml]; exact hl.1) rfl dX4_init_1 (Nat.le_of_ble_eq_true rfl) (Nat.le_of_ble_eq_true rfl) ?_
  refine W.eq (g2 := F0 m 4 ls []) rfl ?_
  refine lv_aload_n hx hb dX4_init_4 rfl (lv_at hl 0 rfl) ?_
  refine lv_sipush (v := 169) hx hb dX4_init_5 (by decide +kernel) ?_
  refine xa_newa (atype := .int) (ty := .int) (c0 := cy 0) (a0 := (169, .inl (fun _ => 0))) hx hb (hts _ m_119) rfl hK 0 rfl hP hD hS hA (xa_zI 169) (by decide +kernel) (by decide +kernel) (by decide +kernel) (show 0 + 1 ≤ 6 from by decide +kernel) (show 0 + 169 ≤ 1632 from by decide +kernel) dX4_init_8 (fun q_1 H hP hD hS => ?_)
  have hP : va_P (dC, dI) classes [(h0, .inr (4, [.null, .null, .null, .null, .null, .null, .null])), (q_1, .inl (cy 0, 169, .inl (fun _ => 0)))] H := hP
  have hD : va_D A [(h0, .inr (4, [.null, .null, .null, .null, .null, .null, .null])), (q_1, .inl (cy 0, 169, .inl (fun _ => 0)))] := hD
  refine W.widen (k := 1) (n := 169) (by decide +kernel) (by decide +kernel) ?_
  refine va_putF (D := (dC, dI)) (ci := 4) (v := .ref q_1) (ty := (tyX4 0)) (C := RX4) (T := TX4) (N := 7) hx hb hts inlX4 tyX4 tyX4_ok nmX4 hown hK hP hD hS 0 rfl rfl 0 (by decide) (hts _ m_174) (fun _ h9 => h9) rfl hin rfl (by decide +kernel) rfl rfl (Nat.le_of_ble_eq_true rfl) dX4_init_10 (fun H locs hP hD hS => ?_)
  have hP : va_P (dC, dI) classes [(h0, .inr (4, [.ref q_1, .null, .null, .null, .null, .null, .null])), (q_1, .inl (cy 0, 169, .inl (fun _ => 0)))] H := hP
  have hD : va_D A [(h0, .inr (4, [.ref q_1, .null, .null, .null, .null, .null, .null])), (q_1, .inl (cy 0, 169, .inl (fun _ => 0)))] := hD
  refine lv_aload_n hx hb dX4_init_13 rfl (lv_at hl 0 rfl) ?_
  refine lv_sipush (v := 729) hx hb dX4_init_14 (by decide +kernel) ?_
  refine xa_newa (atype := .int) (ty := .int) (c0 := cy 0) (a0 := (729, .inl (fun _ => 0))) hx hb (hts _ m_119) rfl hK 0 rfl hP hD hS hA (xa_zI 729) (by decide +kernel) (by decide +kernel) (by decide +kernel) (show 1 + 1 ≤ 6 from by decide +kernel) (show 169 + 729 ≤ 1632 from by decide +kernel) dX4_init_17 (fun q_2 H hP hD hS => ?_)
  have hP : va_P (dC, dI) classes [(h0, .inr (4, [.ref q_1, .null, .null, .null, .null, .null, .null])), (q_1, .inl (cy 0, 169, .inl (fun _ => 0))), (q_2, .inl (cy 0, 729, .inl (fun _ => 0)))] H := hP
  have hD : va_D A [(h0, .inr (4, [.ref q_1, .null, .null, .null, .null, .null, .null])), (q_1, .inl (cy 0, 169, .inl (fun _ => 0))), (q_2, .inl (cy 0, 729, .inl (fun _ => 0)))] := hD
  refine W.widen (k := 2) (n := 898) (by decide +kernel) (by decide +kernel) ?_
  refine va_putF (D := (dC, dI)) (ci := 4) (v := .ref q_2) (ty := (tyX4 1)) (C := RX4) (T := TX4) (N := 7) hx hb hts inlX4 tyX4 tyX4_ok nmX4 hown hK hP hD hS 0 rfl rfl 1 (by decide) (hts _ m_175) (fun _ h9 => h9) rfl hin rfl (by decide +kernel) rfl rfl (Nat.le_of_ble_eq_true rfl) dX4_init_19 (fun H locs hP hD hS => ?_)
  have hP : va_P (dC, dI) classes [(h0, .inr (4, [.ref q_1, .ref q_2, .null, .null, .null, .null, .null])), (q_1, .inl (cy 0, 169, .inl (fun _ => 0))), (q_2, .inl (cy 0, 729, .inl (fun _ => 0)))] H := hP
  have hD : va_D A [(h0, .inr (4, [.ref q_1, .ref q_2, .null, .null, .null, .null, .null])), (q_1, .inl (cy 0, 169, .inl (fun _ => 0))), (q_2, .inl (cy 0, 729, .inl (fun _ => 0)))] := hD
  refine lv_aload_n hx hb dX4_init_22 rfl (lv_at hl 0 rfl) ?_
  refine lv_sipush (v := 729) hx hb dX4_init_23 (by decide +kernel) ?_
  refine xa_newa (atype := .int) (ty := .int) (c0 := cy 0) (a0 := (729, .inl (fun _ => 0))) hx hb (hts _ m_119) rfl hK 0 rfl hP hD hS hA (xa_zI 729) (by decide +kernel) (by decide +kernel) (by decide +kernel) (show 2 + 1 ≤ 6 from by decide +kernel) (show 898 + 729 ≤ 1632 from by decide +kernel) dX4_init_26 (fun q_3 H hP hD hS => ?_)
  have hP : va_P (dC, dI) classes [(h0, .inr (4, [.ref q_1, .ref q_2, .null, .null, .null, .null, .null])), (q_1, .inl (cy 0, 169, .inl (fun _ => 0))), (q_2, .inl (cy 0, 729, .inl (fun _ => 0))), (q_3, .inl (cy 0, 729, .inl (fun _ => 0)))] H := hP
  have hD : va_D A [(h0, .inr (4, [.ref q_1, .ref q_2, .null, .null, .null, .null, .null])), (q_1, .inl (cy 0, 169, .inl (fun _ => 0))), (q_2, .inl (cy 0, 729, .inl (fun _ => 0))), (q_3, .inl (cy 0, 729, .inl (fun _ => 0)))] := hD
  refine W.widen (k := 3) (n := 1627) (by decide +kernel) (by decide +kernel) ?_
  refine va_putF (D := (dC, dI)) (ci := 4) (v := .ref q_3) (ty := (tyX4 2)) (C := RX4) (T := TX4) (N := 7) hx hb hts inlX4 tyX4 tyX4_ok nmX4 hown hK hP hD hS 0 rfl rfl 2 (by decide) (hts _ m_176) (fun _ h9 => h9) rfl hin rfl (by decide +kernel) rfl rfl (Nat.le_of_ble_eq_true rfl) dX4_init_28 (fun H locs hP hD hS => ?_)
  have hP : va_P (dC, dI) classes [(h0, .inr (4, [.ref q_1, .ref q_2, .ref q_3, .null, .null, .null, .null])), (q_1, .inl (cy 0, 169, .inl (fun _ => 0))), (q_2, .inl (cy 0, 729, .inl (fun _ => 0))), (q_3, .inl (cy 0, 729, .inl (fun _ => 0)))] H := hP
  have hD : va_D A [(h0, .inr (4, [.ref q_1, .ref q_2, .ref q_3, .null, .null, .null, .null])), (q_1, .inl (cy 0, 169, .inl (fun _ => 0))), (q_2, .inl (cy 0, 729, .inl (fun _ => 0))), (q_3, .inl (cy 0, 729, .inl (fun _ => 0)))] := hD
  refine lv_aload_n hx hb dX4_init_31 rfl (lv_at hl 0 rfl) ?_
  refine lv_iconst (v := 3) hx hb dX4_init_32 (by decide +kernel) ?_
  refine xa_newa (atype := .int) (ty := .int) (c0 := cy 0) (a0 := (3, .inl (fun _ => 0))) hx hb (hts _ m_119) rfl hK 0 rfl hP hD hS hA (xa_zI 3) (by decide +kernel) (by decide +kernel) (by decide +kernel) (show 3 + 1 ≤ 6 from by decide +kernel) (show 1627 + 3 ≤ 1632 from by decide +kernel) dX4_init_33 (fun q_4 H hP hD hS => ?_)
  have hP : va_P (dC, dI) classes [(h0, .inr (4, [.ref q_1, .ref q_2, .ref q_3, .null, .null, .null, .null])), (q_1, .inl (cy 0, 169, .inl (fun _ => 0))), (q_2, .inl (cy 0, 729, .inl (fun _ => 0))), (q_3, .inl (cy 0, 729, .inl (fun _ => 0))), (q_4, .inl (cy 0, 3, .inl (fun _ => 0)))] H := hP
  have hD : va_D A [(h0, .inr (4, [.ref q_1, .ref q_2, .ref q_3, .null, .null, .null, .null])), (q_1, .inl (cy 0, 169, .inl (fun _ => 0))), (q_2, .inl (cy 0, 729, .inl (fun _ => 0))), (q_3, .inl (cy 0, 729, .inl (fun _ => 0))), (q_4, .inl (cy 0, 3, .inl (fun _ => 0)))] := hD
  refine W.widen (k := 4) (n := 1630) (by decide +kernel) (by decide +kernel) ?_
  refine va_putF (D := (dC, dI)) (ci := 4) (v := .ref q_4) (ty := (tyX4 3)) (C := RX4) (T := TX4) (N := 7) hx hb hts inlX4 tyX4 tyX4_ok nmX4 hown hK hP hD hS 0 rfl rfl 3 (by decide) (hts _ m_177) (fun _ h9 => h9) rfl hin rfl (by decide +kernel) rfl rfl (Nat.le_of_ble_eq_true rfl) dX4_init_35 (fun H locs hP hD hS => ?_)
  have hP : va_P (dC, dI) classes [(h0, .inr (4, [.ref q_1, .ref q_2, .ref q_3, .ref q_4, .null, .null, .null])), (q_1, .inl (cy 0, 169, .inl (fun _ => 0))), (q_2, .inl (cy 0, 729, .inl (fun _ => 0))), (q_3, .inl (cy 0, 729, .inl (fun _ => 0))), (q_4, .inl (cy 0, 3, .inl (fun _ => 0)))] H := hP
  have hD : va_D A [(h0, .inr (4, [.ref q_1, .ref q_2, .ref q_3, .ref q_4, .null, .null, .null])), (q_1, .inl (cy 0, 169, .inl (fun _ => 0))), (q_2, .inl (cy 0, 729, .inl (fun _ => 0))), (q_3, .inl (cy 0, 729, .inl (fun _ => 0))), (q_4, .inl (cy 0, 3, .inl (fun _ => 0)))] := hD
  refine lv_aload_n hx hb dX4_init_38 rfl (lv_at hl 0 rfl) ?_
  refine va_new (ci := 1) (fs := [.null, .int 0]) (C := RX1) (T := TX1) (N := 2) hx hb hts inlX1 tyX1 tyX1_ok hown (hts _ m_178) (hts _ m_37) (hts _ m_38) hK hP hD hS hA rfl dfX1 (show 4 + 1 ≤ 6 from by decide +kernel) (show 1630 + 2 ≤ 1632 from by decide +kernel) dX4_init_39 (fun q_5 H hP hD hS => ?_)
  have hP : va_P (dC, dI) classes [(h0, .inr (4, [.ref q_1, .ref q_2, .ref q_3, .ref q_4, .null, .null, .null])), (q_1, .inl (cy 0, 169, .inl (fun _ => 0))), (q_2, .inl (cy 0, 729, .inl (fun _ => 0))), (q_3, .inl (cy 0, 729, .inl (fun _ => 0))), (q_4, .inl (cy 0, 3, .inl (fun _ => 0))), (q_5, .inr (1, [.null, .int 0]))] H := hP
  have hD : va_D A [(h0, .inr (4, [.ref q_1, .ref q_2, .ref q_3, .ref q_4, .null, .null, .null])), (q_1, .inl (cy 0, 169, .inl (fun _ => 0))), (q_2, .inl (cy 0, 729, .inl (fun _ => 0))), (q_3, .inl (cy 0, 729, .inl (fun _ => 0))), (q_4, .inl (cy 0, 3, .inl (fun _ => 0))), (q_5, .inr (1, [.null, .int 0]))] := hD
  refine W.widen (k := 5) (n := 1632) (by decide +kernel) (by decide +kernel) ?_
  refine lv_dup hx hb dX4_init_42 rfl ?_
  refine lv_iconst (v := 0) hx hb dX4_init_43 (by decide +kernel) ?_
  have hPc := hP.sub (ws' := [(q_5, .inr (1, [.null, .int 0]))]) [5] rfl
  have hDc := hD.sub (ws' := [(q_5, .inr (1, [.null, .int 0]))]) [5] (by decide) rfl
  have hFc := va_free (wc := [(q_5, .inr (1, [.null, .int 0]))]) hD hS hA [5] rfl
  refine va_callv (va_runI (As := [.int 0]) (rest := [.ref q_5, .ref h0]) ⟨hx, hb, hml, hown, hts⟩ (kX1_init_3 l dC dI cy q_5 H.size) (cwI 1 hts (gdI m_133) rfl rfl rfl (hts _ m_38) (hts _ m_182) (hts _ m_132) rfl (by decide +kernel) ⟨Nat.le_of_ble_eq_true rfl, Nat.le_of_ble_eq_true rfl⟩) ⟨fun a U g mk q => by obtain ⟨q0, q1, qP, qE, qD⟩ := q; exact ⟨q0, q1, qP, qE.call, qD⟩, fun U hU hW => ⟨rfl, by rw [hU], by rw [hU]; exact hPc, hE.moved hW, hDc.weaken (fun _ _ _ _ => trivial)⟩⟩ rfl rfl hl.1 rfl (lv_room (Nat.le_of_ble_eq_true rfl)) dX4_init_44 ⟨(show 5 + 1 ≤ 6 from by decide +kernel), (show 1632 + 0 ≤ 1632 from by decide +kernel)⟩) hS (fun q _ h => hFc q h) hFc (fun u t H1 locs ht hvm hw hB hz1 hk1 hS => ?_)
  obtain ⟨q_7, hP1, hD1⟩ := hB
  rw [ht] at hP1
  obtain ⟨hP, hD⟩ := va_join (wr := [(h0, .inr (4, [.ref q_1, .ref q_2, .ref q_3, .ref q_4, .null, .null, .null])), (q_1, .inl (cy 0, 169, .inl (fun _ => 0))), (q_2, .inl (cy 0, 729, .inl (fun _ => 0))), (q_3, .inl (cy 0, 729, .inl (fun _ => 0))), (q_4, .inl (cy 0, 3, .inl (fun _ => 0)))]) (w1 := [(q_5, .inr (1, [.ref q_7, .int 0]))]) hP hD [5] [0, 1, 2, 3, 4] rfl rfl (by decide) (by decide) hk1 hFc hP1 hD1
  generalize H1 = H at hP hS ⊢
  have hP : va_P (dC, dI) classes [(h0, .inr (4, [.ref q_1, .ref q_2, .ref q_3, .ref q_4, .null, .null, .null])), (q_1, .inl (cy 0, 169, .inl (fun _ => 0))), (q_2, .inl (cy 0, 729, .inl (fun _ => 0))), (q_3, .inl (cy 0, 729, .inl (fun _ => 0))), (q_4, .inl (cy 0, 3, .inl (fun _ => 0))), (q_5, .inr (1, [.ref q_7, .int 0]))] H := hP
  have hD : va_D A [(h0, .inr (4, [.ref q_1, .ref q_2, .ref q_3, .ref q_4, .null, .null, .null])), (q_1, .inl (cy 0, 169, .inl (fun _ => 0))), (q_2, .inl (cy 0, 729, .inl (fun _ => 0))), (q_3, .inl (cy 0, 729, .inl (fun _ => 0))), (q_4, .inl (cy 0, 3, .inl (fun _ => 0))), (q_5, .inr (1, [.ref q_7, .int 0]))] := hD
  refine W.widen (k := 6) (n := 1632) (by decide +kernel) (by decide +kernel) ?_
  refine va_put (D := (dC, dI)) (ci := 4) (v := .ref q_5) (ty := (tyX4 4)) (C := RX4) (T := TX4) (N := 7) hx hb hts inlX4 tyX4 tyX4_ok nmX4 hown hK hP hD hS 0 rfl rfl 4 (by decide) (hts _ m_179) (fun _ h9 => h9) rfl (by decide +kernel) rfl rfl (Nat.le_of_ble_eq_true rfl) dX4_init_47 (fun H locs hP hD hS => ?_)
  have hP : va_P (dC, dI) classes [(h0, .inr (4, [.ref q_1, .ref q_2, .ref q_3, .ref q_4, .ref q_5, .null, .null])), (q_1, .inl (cy 0, 169, .inl (fun _ => 0))), (q_2, .inl (cy 0, 729, .inl (fun _ => 0))), (q_3, .inl (cy 0, 729, .inl (fun _ => 0))), (q_4, .inl (cy 0, 3, .inl (fun _ => 0))), (q_5, .inr (1, [.ref q_7, .int 0]))] H := hP
  have hD : va_D A [(h0, .inr (4, [.ref q_1, .ref q_2, .ref q_3, .ref q_4, .ref q_5, .null, .null])), (q_1, .inl (cy 0, 169, .inl (fun _ => 0))), (q_2, .inl (cy 0, 729, .inl (fun _ => 0))), (q_3, .inl (cy 0, 729, .inl (fun _ => 0))), (q_4, .inl (cy 0, 3, .inl (fun _ => 0))), (q_5, .inr (1, [.ref q_7, .int 0]))] := hD
  refine lv_aload_n hx hb dX4_init_50 rfl (lv_at hl 0 rfl) ?_
  refine lv_aload_n hx hb dX4_init_51 rfl (lv_at hl 0 rfl) ?_
  refine va_get (D := (dC, dI)) (ci := 4) (v := .ref q_5) (C := RX4) (T := TX4) (N := 7) hx hb hts inlX4 hown hK hP 0 rfl rfl 4 (by decide) (hts _ m_179) (fun _ h9 => h9) rfl dX4_init_52 ?_
  refine va_put (D := (dC, dI)) (ci := 4) (v := .ref q_5) (ty := (tyX4 5)) (C := RX4) (T := TX4) (N := 7) hx hb hts inlX4 tyX4 tyX4_ok nmX4 hown hK hP hD hS 0 rfl rfl 5 (by decide) (hts _ m_180) (fun _ h9 => h9) rfl (by decide +kernel) rfl rfl (Nat.le_of_ble_eq_true rfl) dX4_init_55 (fun H locs hP hD hS => ?_)
  have hP : va_P (dC, dI) classes [(h0, .inr (4, [.ref q_1, .ref q_2, .ref q_3, .ref q_4, .ref q_5, .ref q_5, .null])), (q_1, .inl (cy 0, 169, .inl (fun _ => 0))), (q_2, .inl (cy 0, 729, .inl (fun _ => 0))), (q_3, .inl (cy 0, 729, .inl (fun _ => 0))), (q_4, .inl (cy 0, 3, .inl (fun _ => 0))), (q_5, .inr (1, [.ref q_7, .int 0]))] H := hP
  have hD : va_D A [(h0, .inr (4, [.ref q_1, .ref q_2, .ref q_3, .ref q_4, .ref q_5, .ref q_5, .null])), (q_1, .inl (cy 0, 169, .inl (fun _ => 0))), (q_2, .inl (cy 0, 729, .inl (fun _ => 0))), (q_3, .inl (cy 0, 729, .inl (fun _ => 0))), (q_4, .inl (cy 0, 3, .inl (fun _ => 0))), (q_5, .inr (1, [.ref q_7, .int 0]))] := hD
  refine lv_aload_n hx hb dX4_init_58 rfl (lv_at hl 0 rfl) ?_
  refine lv_aload_n hx hb dX4_init_59 rfl (lv_at hl 0 rfl) ?_
  refine va_get (D := (dC, dI)) (ci := 4) (v := .ref q_5) (C := RX4) (T := TX4) (N := 7) hx hb hts inlX4 hown hK hP 0 rfl rfl 4 (by decide) (hts _ m_179) (fun _ h9 => h9) rfl dX4_init_60 ?_
  refine va_put (D := (dC, dI)) (ci := 4) (v := .ref q_5) (ty := (tyX4 6)) (C := RX4) (T := TX4) (N := 7) hx hb hts inlX4 tyX4 tyX4_ok nmX4 hown hK hP hD hS 0 rfl rfl 6 (by decide) (hts _ m_181) (fun _ h9 => h9) rfl (by decide +kernel) rfl rfl (Nat.le_of_ble_eq_true rfl) dX4_init_63 (fun H locs hP hD hS => ?_)
  have hP : va_P (dC, dI) classes [(h0, .inr (4, [.ref q_1, .ref q_2, .ref q_3, .ref q_4, .ref q_5, .ref q_5, .ref q_5])), (q_1, .inl (cy 0, 169, .inl (fun _ => 0))), (q_2, .inl (cy 0, 729, .inl (fun _ => 0))), (q_3, .inl (cy 0, 729, .inl (fun _ => 0))), (q_4, .inl (cy 0, 3, .inl (fun _ => 0))), (q_5, .inr (1, [.ref q_7, .int 0]))] H := hP
  have hD : va_D A [(h0, .inr (4, [.ref q_1, .ref q_2, .ref q_3, .ref q_4, .ref q_5, .ref q_5, .ref q_5])), (q_1, .inl (cy 0, 169, .inl (fun _ => 0))), (q_2, .inl (cy 0, 729, .inl (fun _ => 0))), (q_3, .inl (cy 0, 729, .inl (fun _ => 0))), (q_4, .inl (cy 0, 3, .inl (fun _ => 0))), (q_5, .inr (1, [.ref q_7, .int 0]))] := hD
  have hP9 := hP.sub (ws' := [(h0, .inr (4, [.ref q_1, .ref q_2, .ref q_3, .ref q_4, .ref q_5, .ref q_5, .ref q_5])), (q_1, .inl (cy 0, 169, .inl (fun _ => 0)))]) [0, 1] rfl
  have hD9 := hD.sub (ws' := [(h0, .inr (4, [.ref q_1, .ref q_2, .ref q_3, .ref q_4, .ref q_5, .ref q_5, .ref q_5])), (q_1, .inl (cy 0, 169, .inl (fun _ => 0)))]) [0, 1] (by decide) rfl
  exact W.vret hx hb hr (fun t ht hW => ⟨⟨(), rfl, trivial, q_1, q_2, q_3, q_4, q_5, by rw [ht]; exact hP9, hD9⟩, hS.F ht⟩) hS.2.2 dX4_init_66
set_option maxHeartbeats 4000000 in
set_option maxRecDepth 100000 in
theorem kX2_init_1 (l : Launch) (dC : Nat → ClassId) (dI : Nat → Nat → Nat) (cy : Nat → ClassId) (h0 : Nat) (sz : Nat) : Met l yX2_init wmX2_init ({ frames := 1, cells := 1, slots := 4096, locals := 20 }) (va_Pc [.ref h0] (fun U => U.heap.size = sz ∧ va_P (dC, dI) classes [(h0, .inr (2, [.null]))] U.heap ∧ EV dC dI cy U ∧ va_D (fun _ => True) [(h0, .inr (2, [.null]))])) (va_Qv (S := Unit) (fun _ => True) (fun _ t => ∃ (q_1 : Nat), va_P (dC, dI) classes [(h0, .inr (2, [.ref q_1]))] t.heap ∧ va_D (va_A [(h0, .inr (2, [.null]))] sz) [(h0, .inr (2, [.ref q_1]))]) (va_A [(h0, .inr (2, [.null]))] sz)) 1 4096 (va_A [(h0, .inr (2, [.null]))] sz) := by
  refine Met.ofW (cc := cX2_init) (maxL := 1) (ret := none) (by decide +kernel) rfl ?_
  intro p e s m args below meth c s₁ B hml hv
  obtain ⟨rfl, hsz, hP, hE, hD0⟩ := hv
  have hK := hE.1
  have hN := hE.2.1
  have hx := B.exec
  have hb := B.bytes
  have hr := B.returns
  have hts0 := atoms_spec (ws := wmX2_init) B.pre
  have hts : ∀ w ∈ wsL_law, w.before _ s = true := fun w h => hts0 w (List.mem_cons_of_mem _ h)
  have hown : s.vm.findClass RX2 = some m.cls := findClass_of_methodNamed B.named
  have hlocks := B.notSynchronized
  have hin : meth.name = "<init>" := (name_of_methodNamed B.named B.method).1
  subst hsz
  have hD := hD0.self (sz := s.heap.size)
  generalize hAe : va_A [(h0, .inr (2, [.null]))] s.heap.size = A at hD ⊢
  have hA : ∀ q : Nat, s.heap.size ≤ q → A q := fun q h => by rw [← hAe]; exact Or.inr h
  have hS : va_S A s.heap s.heap [] := va_S.rf
  have hP : va_P (dC, dI) classes [(h0, .inr (2, [.null]))] s.heap := hP
  have hl := lv_entry ([.ref h0]) (n := 1) (Nat.le_of_ble_eq_true rfl)
  rw [lg_entry_eq]
  generalize (lg_sl ([.ref h0]) ++ List.replicate (1 - (lg_sl ([.ref h0])).length) Slot.unset).toArray = ls at hl ⊢
  have hl : lv_has ls 1 [(0, .ref h0)] := hl
  refine lv_aload_n hx hb dX2_init_0 rfl (lv_at hl 0 rfl) ?_
  refine W.objInit hx hb hown (hts _ m_186) (hts _ m_10) (hts _ m_11) rfl (by rw [hml]; exact hl.1) rfl dX2_init_1 (Nat.le_of_ble_eq_true rfl) (Nat.le_of_ble_eq_true rfl) ?_
  refine W.eq (g2 := F0 m 4 ls []) rfl ?_
  refine lv_aload_n hx hb dX2_init_4 rfl (lv_at hl 0 rfl) ?_
  refine lv_sipush (v := 4096) hx hb dX2_init_5 (by decide +kernel) ?_
  refine xa_newa (atype := .int) (ty := .int) (c0 := cy 0) (a0 := (4096, .inl (fun _ => 0))) hx hb (hts _ m_119) rfl hK 0 rfl hP hD hS hA (xa_zI 4096) (by decide +kernel) (by decide +kernel) (by decide +kernel) (show 0 + 1 ≤ 1 from by decide +kernel) (show 0 + 4096 ≤ 4096 from by decide +kernel) dX2_init_8 (fun q_1 H hP hD hS => ?_)
  have hP : va_P (dC, dI) classes [(h0, .inr (2, [.null])), (q_1, .inl (cy 0, 4096, .inl (fun _ => 0)))] H := hP
  have hD : va_D A [(h0, .inr (2, [.null])), (q_1, .inl (cy 0, 4096, .inl (fun _ => 0)))] := hD
  refine W.widen (k := 1) (n := 4096) (by decide +kernel) (by decide +kernel) ?_
  refine va_putF (D := (dC, dI)) (ci := 2) (v := .ref q_1) (ty := (tyX2 0)) (C := RX2) (T := TX2) (N := 1) hx hb hts inlX2 tyX2 tyX2_ok nmX2 hown hK hP hD hS 0 rfl rfl 0 (by decide) (hts _ m_187) (fun _ h9 => h9) rfl hin rfl (by decide +kernel) rfl rfl (Nat.le_of_ble_eq_true rfl) dX2_init_10 (fun H locs hP hD hS => ?_)
  have hP : va_P (dC, dI) classes [(h0, .inr (2, [.ref q_1])), (q_1, .inl (cy 0, 4096, .inl (fun _ => 0)))] H := hP
  have hD : va_D A [(h0, .inr (2, [.ref q_1])), (q_1, .inl (cy 0, 4096, .inl (fun _ => 0)))] := hD
  have hP9 := hP.sub (ws' := [(h0, .inr (2, [.ref q_1]))]) [0] rfl
  have hD9 := hD.sub (ws' := [(h0, .inr (2, [.ref q_1]))]) [0] (by decide) rfl
  exact W.vret hx hb hr (fun t ht hW => ⟨⟨(), rfl, trivial, q_1, by rw [ht]; exact hP9, hD9⟩, hS.F ht⟩) hS.2.2 dX2_init_13
set_option maxHeartbeats 4000000 in
set_option maxRecDepth 100000 in
theorem kX3_init_1 (l : Launch) (dC : Nat → ClassId) (dI : Nat → Nat → Nat) (cy : Nat → ClassId) (h0 : Nat) (sz : Nat) : Met l yX3_init wmX3_init ({ frames := 2, cells := 6, slots := 42, locals := 42 }) (va_Pc [.ref h0] (fun U => U.heap.size = sz ∧ va_P (dC, dI) classes [(h0, .inr (3, [.null, .null, .null]))] U.heap ∧ EV dC dI cy U ∧ va_D (fun _ => True) [(h0, .inr (3, [.null, .null, .null]))])) (va_Qv (S := Unit) (fun _ => True) (fun _ t => ∃ (q_1 : Nat) (q_4 : Nat) (q_7 : Nat), va_P (dC, dI) classes [(h0, .inr (3, [.ref q_1, .ref q_4, .ref q_7]))] t.heap ∧ va_D (va_A [(h0, .inr (3, [.null, .null, .null]))] sz) [(h0, .inr (3, [.ref q_1, .ref q_4, .ref q_7]))]) (va_A [(h0, .inr (3, [.null, .null, .null]))] sz)) 6 42 (va_A [(h0, .inr (3, [.null, .null, .null]))] sz) := by
  refine Met.ofW (cc := cX3_init) (maxL := 1) (ret := none) (by decide +kernel) rfl ?_
  intro p e s m args below meth c s₁ B hml hv
  obtain ⟨rfl, hsz, hP, hE, hD0⟩ := hv
  have hK := hE.1
  have hN := hE.2.1
  have hx := B.exec
  have hb := B.bytes
  have hr := B.returns
  have hts0 := atoms_spec (ws := wmX3_init) B.pre
  have hts : ∀ w ∈ wsL_law, w.before _ s = true := fun w h => hts0 w (List.mem_cons_of_mem _ h)
  have hown : s.vm.findClass RX3 = some m.cls := findClass_of_methodNamed B.named
  have hlocks := B.notSynchronized
  have hin : meth.name = "<init>" := (name_of_methodNamed B.named B.method).1
  subst hsz
  have hD := hD0.self (sz := s.heap.size)
  generalize hAe : va_A [(h0, .inr (3, [.null, .null, .null]))] s.heap.size = A at hD ⊢
  have hA : ∀ q : Nat, s.heap.size ≤ q → A q := fun q h => by rw [← hAe]; exact Or.inr h
  have hS : va_S A s.heap s.heap [] := va_S.rf
  have hP : va_P (dC, dI) classes [(h0, .inr (3, [.null, .null, .null]))] s.heap := hP
  have hl := lv_entry ([.ref h0]) (n := 1) (Nat.le_of_ble_eq_true rfl)
  rw [lg_entry_eq]
  generalize (lg_sl ([.ref h0]) ++ List.replicate (1 - (lg_sl ([.ref h0])).length) Slot.unset).toArray = ls at hl ⊢
  have hl : lv_has ls 1 [(0, .ref h0)] := hl
  refine lv_aload_n hx hb dX3_init_0 rfl (lv_at hl 0 rfl) ?_
  refine W.objInit hx hb hown (hts _ m_191) (hts _ m_10) (hts _ m_11) rfl (by rw [hml]; exact hl.1) rfl dX3_init_1 (Nat.le_of_ble_eq_true rfl) (Nat.le_of_ble_eq_true rfl) ?_
  refine W.eq (g2 := F0 m 4 ls []) rfl ?_
  refine lv_aload_n hx hb dX3_init_4 rfl (lv_at hl 0 rfl) ?_
  refine va_new (ci := 1) (fs := [.null, .int 0]) (C := RX1) (T := TX1) (N := 2) hx hb hts inlX1 tyX1 tyX1_ok hown (hts _ m_192) (hts _ m_37) (hts _ m_38) hK hP hD hS hA rfl dfX1 (show 0 + 1 ≤ 6 from by decide +kernel) (show 0 + 2 ≤ 42 from by decide +kernel) dX3_init_5 (fun q_1 H hP hD hS => ?_)
  have hP : va_P (dC, dI) classes [(h0, .inr (3, [.null, .null, .null])), (q_1, .inr (1, [.null, .int 0]))] H := hP
  have hD : va_D A [(h0, .inr (3, [.null, .null, .null])), (q_1, .inr (1, [.null, .int 0]))] := hD
  refine W.widen (k := 1) (n := 2) (by decide +kernel) (by decide +kernel) ?_
  refine lv_dup hx hb dX3_init_8 rfl ?_
  refine lv_bipush (v := 12) hx hb dX3_init_9 (by decide +kernel) ?_
  have hPc := hP.sub (ws' := [(q_1, .inr (1, [.null, .int 0]))]) [1] rfl
  have hDc := hD.sub (ws' := [(q_1, .inr (1, [.null, .int 0]))]) [1] (by decide) rfl
  have hFc := va_free (wc := [(q_1, .inr (1, [.null, .int 0]))]) hD hS hA [1] rfl
  refine va_callv (va_runI (As := [.int 12]) (rest := [.ref q_1, .ref h0]) ⟨hx, hb, hml, hown, hts⟩ (kX1_init_1 l dC dI cy q_1 H.size) (cwI 1 hts (gdI m_133) rfl rfl rfl (hts _ m_38) (hts _ m_196) (hts _ m_132) rfl (by decide +kernel) ⟨Nat.le_of_ble_eq_true rfl, Nat.le_of_ble_eq_true rfl⟩) ⟨fun a U g mk q => by obtain ⟨q0, q1, qP, qE, qD⟩ := q; exact ⟨q0, q1, qP, qE.call, qD⟩, fun U hU hW => ⟨rfl, by rw [hU], by rw [hU]; exact hPc, hE.moved hW, hDc.weaken (fun _ _ _ _ => trivial)⟩⟩ rfl rfl hl.1 rfl (lv_room (Nat.le_of_ble_eq_true rfl)) dX3_init_11 ⟨(show 1 + 1 ≤ 6 from by decide +kernel), (show 2 + 12 ≤ 42 from by decide +kernel)⟩) hS (fun q _ h => hFc q h) hFc (fun u t H1 locs ht hvm hw hB hz1 hk1 hS => ?_)
  obtain ⟨q_3, hP1, hD1⟩ := hB
  rw [ht] at hP1
  obtain ⟨hP, hD⟩ := va_join (wr := [(h0, .inr (3, [.null, .null, .null]))]) (w1 := [(q_1, .inr (1, [.ref q_3, .int 0]))]) hP hD [1] [0] rfl rfl (by decide) (by decide) hk1 hFc hP1 hD1
  generalize H1 = H at hP hS ⊢
  have hP : va_P (dC, dI) classes [(h0, .inr (3, [.null, .null, .null])), (q_1, .inr (1, [.ref q_3, .int 0]))] H := hP
  have hD : va_D A [(h0, .inr (3, [.null, .null, .null])), (q_1, .inr (1, [.ref q_3, .int 0]))] := hD
  refine W.widen (k := 2) (n := 14) (by decide +kernel) (by decide +kernel) ?_
  refine va_putF (D := (dC, dI)) (ci := 3) (v := .ref q_1) (ty := (tyX3 0)) (C := RX3) (T := TX3) (N := 3) hx hb hts inlX3 tyX3 tyX3_ok nmX3 hown hK hP hD hS 0 rfl rfl 0 (by decide) (hts _ m_193) (fun _ h9 => h9) rfl hin rfl (by decide +kernel) rfl rfl (Nat.le_of_ble_eq_true rfl) dX3_init_14 (fun H locs hP hD hS => ?_)
  have hP : va_P (dC, dI) classes [(h0, .inr (3, [.ref q_1, .null, .null])), (q_1, .inr (1, [.ref q_3, .int 0]))] H := hP
  have hD : va_D A [(h0, .inr (3, [.ref q_1, .null, .null])), (q_1, .inr (1, [.ref q_3, .int 0]))] := hD
  refine lv_aload_n hx hb dX3_init_17 rfl (lv_at hl 0 rfl) ?_
  refine va_new (ci := 1) (fs := [.null, .int 0]) (C := RX1) (T := TX1) (N := 2) hx hb hts inlX1 tyX1 tyX1_ok hown (hts _ m_192) (hts _ m_37) (hts _ m_38) hK hP hD hS hA rfl dfX1 (show 2 + 1 ≤ 6 from by decide +kernel) (show 14 + 2 ≤ 42 from by decide +kernel) dX3_init_18 (fun q_4 H hP hD hS => ?_)
  have hP : va_P (dC, dI) classes [(h0, .inr (3, [.ref q_1, .null, .null])), (q_1, .inr (1, [.ref q_3, .int 0])), (q_4, .inr (1, [.null, .int 0]))] H := hP
  have hD : va_D A [(h0, .inr (3, [.ref q_1, .null, .null])), (q_1, .inr (1, [.ref q_3, .int 0])), (q_4, .inr (1, [.null, .int 0]))] := hD
  refine W.widen (k := 3) (n := 16) (by decide +kernel) (by decide +kernel) ?_
  refine lv_dup hx hb dX3_init_21 rfl ?_
  refine lv_bipush (v := 12) hx hb dX3_init_22 (by decide +kernel) ?_
  have hPc := hP.sub (ws' := [(q_4, .inr (1, [.null, .int 0]))]) [2] rfl
  have hDc := hD.sub (ws' := [(q_4, .inr (1, [.null, .int 0]))]) [2] (by decide) rfl
  have hFc := va_free (wc := [(q_4, .inr (1, [.null, .int 0]))]) hD hS hA [2] rfl
  refine va_callv (va_runI (As := [.int 12]) (rest := [.ref q_4, .ref h0]) ⟨hx, hb, hml, hown, hts⟩ (kX1_init_1 l dC dI cy q_4 H.size) (cwI 1 hts (gdI m_133) rfl rfl rfl (hts _ m_38) (hts _ m_196) (hts _ m_132) rfl (by decide +kernel) ⟨Nat.le_of_ble_eq_true rfl, Nat.le_of_ble_eq_true rfl⟩) ⟨fun a U g mk q => by obtain ⟨q0, q1, qP, qE, qD⟩ := q; exact ⟨q0, q1, qP, qE.call, qD⟩, fun U hU hW => ⟨rfl, by rw [hU], by rw [hU]; exact hPc, hE.moved hW, hDc.weaken (fun _ _ _ _ => trivial)⟩⟩ rfl rfl hl.1 rfl (lv_room (Nat.le_of_ble_eq_true rfl)) dX3_init_24 ⟨(show 3 + 1 ≤ 6 from by decide +kernel), (show 16 + 12 ≤ 42 from by decide +kernel)⟩) hS (fun q _ h => hFc q h) hFc (fun u t H1 locs ht hvm hw hB hz1 hk1 hS => ?_)
  obtain ⟨q_6, hP1, hD1⟩ := hB
  rw [ht] at hP1
  obtain ⟨hP, hD⟩ := va_join (wr := [(h0, .inr (3, [.ref q_1, .null, .null])), (q_1, .inr (1, [.ref q_3, .int 0]))]) (w1 := [(q_4, .inr (1, [.ref q_6, .int 0]))]) hP hD [2] [0, 1] rfl rfl (by decide) (by decide) hk1 hFc hP1 hD1
  generalize H1 = H at hP hS ⊢
  have hP : va_P (dC, dI) classes [(h0, .inr (3, [.ref q_1, .null, .null])), (q_1, .inr (1, [.ref q_3, .int 0])), (q_4, .inr (1, [.ref q_6, .int 0]))] H := hP
  have hD : va_D A [(h0, .inr (3, [.ref q_1, .null, .null])), (q_1, .inr (1, [.ref q_3, .int 0])), (q_4, .inr (1, [.ref q_6, .int 0]))] := hD
  refine W.widen (k := 4) (n := 28) (by decide +kernel) (by decide +kernel) ?_
  refine va_putF (D := (dC, dI)) (ci := 3) (v := .ref q_4) (ty := (tyX3 1)) (C := RX3) (T := TX3) (N := 3) hx hb hts inlX3 tyX3 tyX3_ok nmX3 hown hK hP hD hS 0 rfl rfl 1 (by decide) (hts _ m_194) (fun _ h9 => h9) rfl hin rfl (by decide +kernel) rfl rfl (Nat.le_of_ble_eq_true rfl) dX3_init_27 (fun H locs hP hD hS => ?_)
  have hP : va_P (dC, dI) classes [(h0, .inr (3, [.ref q_1, .ref q_4, .null])), (q_1, .inr (1, [.ref q_3, .int 0])), (q_4, .inr (1, [.ref q_6, .int 0]))] H := hP
  have hD : va_D A [(h0, .inr (3, [.ref q_1, .ref q_4, .null])), (q_1, .inr (1, [.ref q_3, .int 0])), (q_4, .inr (1, [.ref q_6, .int 0]))] := hD
  refine lv_aload_n hx hb dX3_init_30 rfl (lv_at hl 0 rfl) ?_
  refine va_new (ci := 1) (fs := [.null, .int 0]) (C := RX1) (T := TX1) (N := 2) hx hb hts inlX1 tyX1 tyX1_ok hown (hts _ m_192) (hts _ m_37) (hts _ m_38) hK hP hD hS hA rfl dfX1 (show 4 + 1 ≤ 6 from by decide +kernel) (show 28 + 2 ≤ 42 from by decide +kernel) dX3_init_31 (fun q_7 H hP hD hS => ?_)
  have hP : va_P (dC, dI) classes [(h0, .inr (3, [.ref q_1, .ref q_4, .null])), (q_1, .inr (1, [.ref q_3, .int 0])), (q_4, .inr (1, [.ref q_6, .int 0])), (q_7, .inr (1, [.null, .int 0]))] H := hP
  have hD : va_D A [(h0, .inr (3, [.ref q_1, .ref q_4, .null])), (q_1, .inr (1, [.ref q_3, .int 0])), (q_4, .inr (1, [.ref q_6, .int 0])), (q_7, .inr (1, [.null, .int 0]))] := hD
  refine W.widen (k := 5) (n := 30) (by decide +kernel) (by decide +kernel) ?_
  refine lv_dup hx hb dX3_init_34 rfl ?_
  refine lv_bipush (v := 12) hx hb dX3_init_35 (by decide +kernel) ?_
  have hPc := hP.sub (ws' := [(q_7, .inr (1, [.null, .int 0]))]) [3] rfl
  have hDc := hD.sub (ws' := [(q_7, .inr (1, [.null, .int 0]))]) [3] (by decide) rfl
  have hFc := va_free (wc := [(q_7, .inr (1, [.null, .int 0]))]) hD hS hA [3] rfl
  refine va_callv (va_runI (As := [.int 12]) (rest := [.ref q_7, .ref h0]) ⟨hx, hb, hml, hown, hts⟩ (kX1_init_1 l dC dI cy q_7 H.size) (cwI 1 hts (gdI m_133) rfl rfl rfl (hts _ m_38) (hts _ m_196) (hts _ m_132) rfl (by decide +kernel) ⟨Nat.le_of_ble_eq_true rfl, Nat.le_of_ble_eq_true rfl⟩) ⟨fun a U g mk q => by obtain ⟨q0, q1, qP, qE, qD⟩ := q; exact ⟨q0, q1, qP, qE.call, qD⟩, fun U hU hW => ⟨rfl, by rw [hU], by rw [hU]; exact hPc, hE.moved hW, hDc.weaken (fun _ _ _ _ => trivial)⟩⟩ rfl rfl hl.1 rfl (lv_room (Nat.le_of_ble_eq_true rfl)) dX3_init_37 ⟨(show 5 + 1 ≤ 6 from by decide +kernel), (show 30 + 12 ≤ 42 from by decide +kernel)⟩) hS (fun q _ h => hFc q h) hFc (fun u t H1 locs ht hvm hw hB hz1 hk1 hS => ?_)
  obtain ⟨q_9, hP1, hD1⟩ := hB
  rw [ht] at hP1
  obtain ⟨hP, hD⟩ := va_join (wr := [(h0, .inr (3, [.ref q_1, .ref q_4, .null])), (q_1, .inr (1, [.ref q_3, .int 0])), (q_4, .inr (1, [.ref q_6, .int 0]))]) (w1 := [(q_7, .inr (1, [.ref q_9, .int 0]))]) hP hD [3] [0, 1, 2] rfl rfl (by decide) (by decide) hk1 hFc hP1 hD1
  generalize H1 = H at hP hS ⊢
  have hP : va_P (dC, dI) classes [(h0, .inr (3, [.ref q_1, .ref q_4, .null])), (q_1, .inr (1, [.ref q_3, .int 0])), (q_4, .inr (1, [.ref q_6, .int 0])), (q_7, .inr (1, [.ref q_9, .int 0]))] H := hP
  have hD : va_D A [(h0, .inr (3, [.ref q_1, .ref q_4, .null])), (q_1, .inr (1, [.ref q_3, .int 0])), (q_4, .inr (1, [.ref q_6, .int 0])), (q_7, .inr (1, [.ref q_9, .int 0]))] := hD
  refine W.widen (k := 6) (n := 42) (by decide +kernel) (by decide +kernel) ?_
  refine va_putF (D := (dC, dI)) (ci := 3) (v := .ref q_7) (ty := (tyX3 2)) (C := RX3) (T := TX3) (N := 3) hx hb hts inlX3 tyX3 tyX3_ok nmX3 hown hK hP hD hS 0 rfl rfl 2 (by decide) (hts _ m_195) (fun _ h9 => h9) rfl hin rfl (by decide +kernel) rfl rfl (Nat.le_of_ble_eq_true rfl) dX3_init_40 (fun H locs hP hD hS => ?_)
  have hP : va_P (dC, dI) classes [(h0, .inr (3, [.ref q_1, .ref q_4, .ref q_7])), (q_1, .inr (1, [.ref q_3, .int 0])), (q_4, .inr (1, [.ref q_6, .int 0])), (q_7, .inr (1, [.ref q_9, .int 0]))] H := hP
  have hD : va_D A [(h0, .inr (3, [.ref q_1, .ref q_4, .ref q_7])), (q_1, .inr (1, [.ref q_3, .int 0])), (q_4, .inr (1, [.ref q_6, .int 0])), (q_7, .inr (1, [.ref q_9, .int 0]))] := hD
  have hP9 := hP.sub (ws' := [(h0, .inr (3, [.ref q_1, .ref q_4, .ref q_7]))]) [0] rfl
  have hD9 := hD.sub (ws' := [(h0, .inr (3, [.ref q_1, .ref q_4, .ref q_7]))]) [0] (by decide) rfl
  exact W.vret hx hb hr (fun t ht hW => ⟨⟨(), rfl, trivial, q_1, q_4, q_7, by rw [ht]; exact hP9, hD9⟩, hS.F ht⟩) hS.2.2 dX3_init_43
set_option maxHeartbeats 4000000 in
set_option maxRecDepth 100000 in
theorem kX1_init_4 (l : Launch) (dC : Nat → ClassId) (dI : Nat → Nat → Nat) (cy : Nat → ClassId) (h0 : Nat) (sz : Nat) : Met l yX1_init wmX1_init ({ frames := 1, cells := 1, slots := 5, locals := 21 }) (va_Pc [.ref h0, .int 5] (fun U => U.heap.size = sz ∧ va_P (dC, dI) classes [(h0, .inr (1, [.null, .int 0]))] U.heap ∧ EV dC dI cy U ∧ va_D (fun _ => True) [(h0, .inr (1, [.null, .int 0]))])) (va_Qv (S := Unit) (fun _ => True) (fun _ t => ∃ (q_2 : Nat), va_P (dC, dI) classes [(h0, .inr (1, [.ref q_2, .int 0]))] t.heap ∧ va_D (va_A [(h0, .inr (1, [.null, .int 0]))] sz) [(h0, .inr (1, [.ref q_2, .int 0]))]) (va_A [(h0, .inr (1, [.null, .int 0]))] sz)) 1 5 (va_A [(h0, .inr (1, [.null, .int 0]))] sz) := by
  refine Met.ofW (cc := cX1_init) (maxL := 2) (ret := none) (by decide +kernel) rfl ?_
  intro p e s m args below meth c s₁ B hml hv
  obtain ⟨rfl, hsz, hP, hE, hD0⟩ := hv
  have hK := hE.1
  have hN := hE.2.1
  have hx := B.exec
  have hb := B.bytes
  have hr := B.returns
  have hts0 := atoms_spec (ws := wmX1_init) B.pre
  have hts : ∀ w ∈ wsL_law, w.before _ s = true := fun w h => hts0 w (List.mem_cons_of_mem _ h)
  have hown : s.vm.findClass RX1 = some m.cls := findClass_of_methodNamed B.named
  have hlocks := B.notSynchronized
  have hin : meth.name = "<init>" := (name_of_methodNamed B.named B.method).1
  subst hsz
  have hD := hD0.self (sz := s.heap.size)
  generalize hAe : va_A [(h0, .inr (1, [.null, .int 0]))] s.heap.size = A at hD ⊢
  have hA : ∀ q : Nat, s.heap.size ≤ q → A q := fun q h => by rw [← hAe]; exact Or.inr h
  have hS : va_S A s.heap s.heap [] := va_S.rf
  have hP : va_P (dC, dI) classes [(h0, .inr (1, [.null, .int 0]))] s.heap := hP
  have hl := lv_entry ([.ref h0, .int 5]) (n := 2) (Nat.le_of_ble_eq_true rfl)
  rw [lg_entry_eq]
  generalize (lg_sl ([.ref h0, .int 5]) ++ List.replicate (2 - (lg_sl ([.ref h0, .int 5])).length) Slot.unset).toArray = ls at hl ⊢
  have hl : lv_has ls 2 [(0, .ref h0), (1, .int 5)] := hl
  refine lv_aload_n hx hb dX1_init_0 rfl (lv_at hl 0 rfl) ?_
  refine W.objInit hx hb hown (hts _ m_134) (hts _ m_10) (hts _ m_11) rfl (by rw [hml]; exact hl.1) rfl dX1_init_1 (Nat.le_of_ble_eq_true rfl) (Nat.le_of_ble_eq_true rfl) ?_
  refine W.eq (g2 := F0 m 4 ls []) rfl ?_
  refine lv_aload_n hx hb dX1_init_4 rfl (lv_at hl 0 rfl) ?_
  refine lv_iload_n hx hb dX1_init_5 rfl (lv_at hl 1 rfl) ?_
  refine lv_iconst (v := 0) hx hb dX1_init_6 (by decide +kernel) ?_
  refine va_mmax hx hb (by rw [hml]; exact hl.1.symm) hown (hts _ m_135) (hts _ m_136) (hts _ m_137) (hts _ m_138) (Nat.le_of_ble_eq_true rfl) (Nat.le_of_ble_eq_true rfl) (Nat.le_of_ble_eq_true rfl) (Nat.le_of_ble_eq_true rfl) dX1_init_7 ?_
  refine lv_topi (fun z_1 ez_1 => ?_)
  obtain rfl : z_1 = 5 := ez_1.trans (by decide +kernel)
  refine xa_newa (atype := .int) (ty := .int) (c0 := cy 0) (a0 := (5, .inl (fun _ => 0))) hx hb (hts _ m_119) rfl hK 0 rfl hP hD hS hA (xa_zI 5) (by decide +kernel) (by decide +kernel) (by decide +kernel) (show 0 + 1 ≤ 1 from by decide +kernel) (show 0 + 5 ≤ 5 from by decide +kernel) dX1_init_10 (fun q_2 H hP hD hS => ?_)
  have hP : va_P (dC, dI) classes [(h0, .inr (1, [.null, .int 0])), (q_2, .inl (cy 0, 5, .inl (fun _ => 0)))] H := hP
  have hD : va_D A [(h0, .inr (1, [.null, .int 0])), (q_2, .inl (cy 0, 5, .inl (fun _ => 0)))] := hD
  refine W.widen (k := 1) (n := 5) (by decide +kernel) (by decide +kernel) ?_
  refine va_putF (D := (dC, dI)) (ci := 1) (v := .ref q_2) (ty := (tyX1 0)) (C := RX1) (T := TX1) (N := 2) hx hb hts inlX1 tyX1 tyX1_ok nmX1 hown hK hP hD hS 0 rfl rfl 0 (by decide) (hts _ m_139) (fun _ h9 => h9) rfl hin rfl (by decide +kernel) rfl rfl (Nat.le_of_ble_eq_true rfl) dX1_init_12 (fun H locs hP hD hS => ?_)
  have hP : va_P (dC, dI) classes [(h0, .inr (1, [.ref q_2, .int 0])), (q_2, .inl (cy 0, 5, .inl (fun _ => 0)))] H := hP
  have hD : va_D A [(h0, .inr (1, [.ref q_2, .int 0])), (q_2, .inl (cy 0, 5, .inl (fun _ => 0)))] := hD
  refine lv_aload_n hx hb dX1_init_15 rfl (lv_at hl 0 rfl) ?_
  refine lv_iconst (v := 0) hx hb dX1_init_16 (by decide +kernel) ?_
  refine va_put (D := (dC, dI)) (ci := 1) (v := .int 0) (ty := .int) (C := RX1) (T := TX1) (N := 2) hx hb hts inlX1 tyX1 tyX1_ok nmX1 hown hK hP hD hS 0 rfl rfl 1 (by decide) (hts _ m_140) (fun _ h9 => h9) rfl (by decide +kernel) rfl rfl (Nat.le_of_ble_eq_true rfl) dX1_init_17 (fun H locs hP hD hS => ?_)
  have hP : va_P (dC, dI) classes [(h0, .inr (1, [.ref q_2, .int 0])), (q_2, .inl (cy 0, 5, .inl (fun _ => 0)))] H := hP
  have hD : va_D A [(h0, .inr (1, [.ref q_2, .int 0])), (q_2, .inl (cy 0, 5, .inl (fun _ => 0)))] := hD
  have hP9 := hP.sub (ws' := [(h0, .inr (1, [.ref q_2, .int 0]))]) [0] rfl
  have hD9 := hD.sub (ws' := [(h0, .inr (1, [.ref q_2, .int 0]))]) [0] (by decide) rfl
  exact W.vret hx hb hr (fun t ht hW => ⟨⟨(), rfl, trivial, q_2, by rw [ht]; exact hP9, hD9⟩, hS.F ht⟩) hS.2.2 dX1_init_20
