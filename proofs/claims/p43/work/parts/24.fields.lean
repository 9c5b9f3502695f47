-- lists of proofs, calls
theorem fx_an {α : Type} {P : α → Prop} : ∀ q ∈ ([] : List α), P q := fun q h => absurd h (by simp)
theorem fx_ac {α : Type} {P : α → Prop} {a : α} {l : List α} (h : P a) (hl : ∀ q ∈ l, P q) : ∀ q ∈ a :: l, P q := fun q hq => (List.mem_cons.mp hq).elim (fun e => e ▸ h) (hl q)
theorem ht_tys (cy : Nat → ClassId) : fx_tb (tys cy) cy := ⟨rfl, rfl, rfl, rfl, fun t0 h1 h2 => by
  match t0, h1, h2 with
  | 4, _, _ => exact ⟨_, rfl⟩
  | 5, _, _ => exact ⟨_, rfl⟩⟩
theorem oc_0 (cy : Nat → ClassId) : fx_oc classes (tys cy) cy (4, 1) := ⟨_, rfl, rfl⟩
theorem oc_1 (cy : Nat → ClassId) : fx_oc classes (tys cy) cy (5, 8) := ⟨_, rfl, rfl⟩
theorem ev_S {l : Launch} {E : (Nat → Prop) → State → Prop} {Y : fx_Y} {ad : List Nat} {D : va_G} {own : String} {R : Room} {pc i : Nat} {c : fx_C} {y : MethodName} {bytes : ByteArray} {maxL : Nat} {ret : Option FieldType} {fr lo : Nat} (hm : fx_Met l y (Cond.code y bytes maxL ret :: wsL_law) ({ frames := fr, cells := 0, slots := 0, locals := lo }) E Y ad D classes c) (h3 : fr + 1 ≤ R.frames ∧ 8 + (maxL + 11) + lo ≤ R.locals) (h5 : y.cls ≠ "java/lang/invoke/MethodHandle" ∧ y.cls ≠ "java/lang/invoke/VarHandle" ∧ (parseMethodDescriptor y.desc).map (fun d => d.parameters.length) = some c.1.length) (h6 : GoodIn wsL_law (va_wsS own i y (Cond.code y bytes maxL ret :: wsL_law))) :
    (((pc, i, 1000, c) : fx_K).2.2.1 = 1000 → fx_EvS l E Y ad D classes wsL_law own R ((pc, i, 1000, c) : fx_K).2.1 ((pc, i, 1000, c) : fx_K).2.2.2) ∧ (((pc, i, 1000, c) : fx_K).2.2.1 < 1000 → fx_EvV l E Y ad D classes wsL_law own R ((pc, i, 1000, c) : fx_K).2.1 ((pc, i, 1000, c) : fx_K).2.2.1 ((pc, i, 1000, c) : fx_K).2.2.2) ∧ (1000 < ((pc, i, 1000, c) : fx_K).2.2.1 → fx_EvM wsL_law own R ((pc, i, 1000, c) : fx_K).2.1 ((pc, i, 1000, c) : fx_K).2.2.1) :=
  ⟨fun _ => ⟨y, bytes, maxL, ret, wsL_law, _, rfl, rfl, h3, hm, h5, h6⟩, fun h => absurd h (Nat.lt_irrefl _), fun h => absurd h (Nat.lt_irrefl _)⟩
theorem ev_V {l : Launch} {E : (Nat → Prop) → State → Prop} {Y : fx_Y} {ad : List Nat} {D : va_G} {own : String} {R : Room} {pc i ci : Nat} {c : fx_C} {y : MethodName} {bytes : ByteArray} {maxL : Nat} {ret : Option FieldType} {fr lo : Nat} {C : String} {T : u_T} {N : Nat} (hm : fx_Met l y (Cond.code y bytes maxL ret :: wsL_law) ({ frames := fr, cells := 0, slots := 0, locals := lo }) E Y ad D classes c) (hci : ci < 1000) (hc : classes[ci]? = some (C, T, N)) (h3 : fr + 1 ≤ R.frames ∧ 8 + (maxL + 11) + lo ≤ R.locals) (h5 : y.cls = C ∧ y.cls ≠ "java/lang/invoke/MethodHandle" ∧ y.cls ≠ "java/lang/invoke/VarHandle" ∧ (parseMethodDescriptor y.desc).map (fun d => d.parameters.length) = some (c.1.length - 1)) (h6 : GoodIn wsL_law (wsV own i C y (Cond.code y bytes maxL ret :: wsL_law))) :
    (((pc, i, ci, c) : fx_K).2.2.1 = 1000 → fx_EvS l E Y ad D classes wsL_law own R ((pc, i, ci, c) : fx_K).2.1 ((pc, i, ci, c) : fx_K).2.2.2) ∧ (((pc, i, ci, c) : fx_K).2.2.1 < 1000 → fx_EvV l E Y ad D classes wsL_law own R ((pc, i, ci, c) : fx_K).2.1 ((pc, i, ci, c) : fx_K).2.2.1 ((pc, i, ci, c) : fx_K).2.2.2) ∧ (1000 < ((pc, i, ci, c) : fx_K).2.2.1 → fx_EvM wsL_law own R ((pc, i, ci, c) : fx_K).2.1 ((pc, i, ci, c) : fx_K).2.2.1) :=
  ⟨fun h => absurd h (Nat.ne_of_lt hci), fun _ => ⟨y, bytes, maxL, ret, wsL_law, _, _, rfl, rfl, h3, hm, hc, h5, h6⟩, fun h => absurd h (Nat.lt_asymm hci)⟩
theorem ev_M {l : Launch} {E : (Nat → Prop) → State → Prop} {Y : fx_Y} {ad : List Nat} {D : va_G} {own : String} {R : Room} {pc i k : Nat} {c : fx_C} (hk : 1000 < k) (h : fx_EvM wsL_law own R i k) :
    (((pc, i, k, c) : fx_K).2.2.1 = 1000 → fx_EvS l E Y ad D classes wsL_law own R ((pc, i, k, c) : fx_K).2.1 ((pc, i, k, c) : fx_K).2.2.2) ∧ (((pc, i, k, c) : fx_K).2.2.1 < 1000 → fx_EvV l E Y ad D classes wsL_law own R ((pc, i, k, c) : fx_K).2.1 ((pc, i, k, c) : fx_K).2.2.1 ((pc, i, k, c) : fx_K).2.2.2) ∧ (1000 < ((pc, i, k, c) : fx_K).2.2.1 → fx_EvM wsL_law own R ((pc, i, k, c) : fx_K).2.1 ((pc, i, k, c) : fx_K).2.2.1) :=
  ⟨fun h => absurd h (Nat.ne_of_gt hk), fun h => absurd h (Nat.lt_asymm hk), fun _ => h⟩
theorem nw_0 : Cond.fieldLinkNest RX11 83 "LostWords$Tape" "length" "I" "LostWords" ∈ nestW := List.mem_of_getElem? (i := 0) rfl
theorem nw_1 : Cond.fieldLinkNest RX6 38 "LostWords$Tape" "kind" "I" "LostWords" ∈ nestW := List.mem_of_getElem? (i := 1) rfl
theorem nw_2 : Cond.fieldLinkNest RX6 82 "LostWords$Tape" "start" "I" "LostWords" ∈ nestW := List.mem_of_getElem? (i := 2) rfl
theorem nw_3 : Cond.fieldLinkNest RX6 96 "LostWords$Tape" "number" "I" "LostWords" ∈ nestW := List.mem_of_getElem? (i := 3) rfl
theorem nw_4 : Cond.fieldLinkNest RX6 74 "LostWords$Tape" "name" "J" "LostWords" ∈ nestW := List.mem_of_getElem? (i := 4) rfl
theorem nw_5 : Cond.fieldLinkNest RX4 39 "LostWords$Line" "count" "I" "LostWords" ∈ nestW := List.mem_of_getElem? (i := 5) rfl
theorem nw_6 : Cond.fieldLinkNest RX8 31 "LostWords$Line" "count" "I" "LostWords" ∈ nestW := List.mem_of_getElem? (i := 6) rfl
theorem nw_7 : Cond.fieldLinkNest RX5 58 "LostWords$Line" "count" "I" "LostWords" ∈ nestW := List.mem_of_getElem? (i := 7) rfl
theorem nw_8 : Cond.fieldLinkNest RX3 40 "LostWords$Line" "count" "I" "LostWords" ∈ nestW := List.mem_of_getElem? (i := 8) rfl
theorem nw_9 : Cond.fieldLinkNest RX2 37 "LostWords$Line" "count" "I" "LostWords" ∈ nestW := List.mem_of_getElem? (i := 9) rfl
theorem nw_10 : Cond.fieldLinkNest RX10 77 "LostWords$Line" "count" "I" "LostWords" ∈ nestW := List.mem_of_getElem? (i := 10) rfl
theorem nw_11 : Cond.fieldLinkNest RX11 134 "LostWords$Line" "count" "I" "LostWords" ∈ nestW := List.mem_of_getElem? (i := 11) rfl
theorem nw_12 : Cond.fieldLinkNest RX6 165 "LostWords$Formula" "units" "I" "LostWords" ∈ nestW := List.mem_of_getElem? (i := 12) rfl
theorem nw_13 : Cond.fieldLinkNest RX11 328 "LostWords$Formula" "units" "I" "LostWords" ∈ nestW := List.mem_of_getElem? (i := 13) rfl
theorem nw_14 : Cond.fieldLinkNest RX6 120 "LostWords$Formula" "isTold" "Z" "LostWords" ∈ nestW := List.mem_of_getElem? (i := 14) rfl
theorem nw_15 : Cond.fieldLinkNest RX10 91 "LostWords$Formula" "isTold" "Z" "LostWords" ∈ nestW := List.mem_of_getElem? (i := 15) rfl
theorem nw_16 : Cond.fieldLinkNest RX5 36 "LostWords$Told" "row" "LLostWords$Line;" "LostWords" ∈ nestW := List.mem_of_getElem? (i := 16) rfl
theorem nw_17 : Cond.fieldLinkNest RX6 116 "LostWords$Told" "formula" "LLostWords$Formula;" "LostWords" ∈ nestW := List.mem_of_getElem? (i := 17) rfl
theorem nw_18 : Cond.fieldLinkNest RX11 324 "LostWords$Told" "formula" "LLostWords$Formula;" "LostWords" ∈ nestW := List.mem_of_getElem? (i := 18) rfl
theorem nw_19 : Cond.fieldLinkNest RX6 68 "LostWords$Told" "wordCount" "I" "LostWords" ∈ nestW := List.mem_of_getElem? (i := 19) rfl
theorem nw_20 : Cond.fieldLinkNest RX3 55 "LostWords$Told" "wordCount" "I" "LostWords" ∈ nestW := List.mem_of_getElem? (i := 20) rfl
theorem nw_21 : Cond.fieldLinkNest RX11 300 "LostWords$Told" "wordCount" "I" "LostWords" ∈ nestW := List.mem_of_getElem? (i := 21) rfl
theorem nw_22 : Cond.fieldLinkNest RX6 103 "LostWords$Told" "pairCount" "I" "LostWords" ∈ nestW := List.mem_of_getElem? (i := 22) rfl
theorem nw_23 : Cond.fieldLinkNest RX11 309 "LostWords$Told" "pairCount" "I" "LostWords" ∈ nestW := List.mem_of_getElem? (i := 23) rfl
theorem nw_24 : Cond.fieldLinkNest RX7 45 "LostWords$Told" "slipCount" "I" "LostWords" ∈ nestW := List.mem_of_getElem? (i := 24) rfl
theorem nw_25 : Cond.fieldLinkNest RX11 105 "LostWords$Told" "slipCount" "I" "LostWords" ∈ nestW := List.mem_of_getElem? (i := 25) rfl
theorem nw_26 : Cond.fieldLinkNest RX5 49 "LostWords$Told" "draw" "I" "LostWords" ∈ nestW := List.mem_of_getElem? (i := 26) rfl
theorem nw_27 : Cond.fieldLinkNest RX6 132 "LostWords$Told" "draw" "I" "LostWords" ∈ nestW := List.mem_of_getElem? (i := 27) rfl
theorem nw_28 : Cond.fieldLinkNest RX6 129 "LostWords$Told" "isDrawTold" "Z" "LostWords" ∈ nestW := List.mem_of_getElem? (i := 28) rfl
theorem nw_29 : Cond.fieldLinkNest RX11 70 "LostWords$Reader" "tape" "LLostWords$Tape;" "LostWords" ∈ nestW := List.mem_of_getElem? (i := 29) rfl
theorem nw_30 : Cond.fieldLinkNest RX11 108 "LostWords$Reader" "fault" "I" "LostWords" ∈ nestW := List.mem_of_getElem? (i := 30) rfl
theorem nw_31 : Cond.fieldLinkNest RX11 111 "LostWords$Reader" "place" "I" "LostWords" ∈ nestW := List.mem_of_getElem? (i := 31) rfl
theorem nw_32 : Cond.fieldLinkNest RX5 32 "LostWords$State" "row" "LLostWords$Line;" "LostWords" ∈ nestW := List.mem_of_getElem? (i := 32) rfl
theorem nw_33 : Cond.fieldLinkNest RX11 118 "LostWords$State" "row" "LLostWords$Line;" "LostWords" ∈ nestW := List.mem_of_getElem? (i := 33) rfl
theorem nw_34 : Cond.fieldLinkNest RX5 45 "LostWords$State" "round" "I" "LostWords" ∈ nestW := List.mem_of_getElem? (i := 34) rfl
theorem nw_35 : Cond.fieldLinkNest RX11 303 "LostWords$State" "round" "I" "LostWords" ∈ nestW := List.mem_of_getElem? (i := 35) rfl
theorem nw_36 : Cond.fieldLinkNest RX5 52 "LostWords$State" "seed" "I" "LostWords" ∈ nestW := List.mem_of_getElem? (i := 36) rfl
theorem nw_37 : Cond.fieldLinkNest RX11 306 "LostWords$State" "seed" "I" "LostWords" ∈ nestW := List.mem_of_getElem? (i := 37) rfl
theorem nw_38 : Cond.fieldLinkNest RX11 114 "LostWords$Play" "now" "LLostWords$State;" "LostWords" ∈ nestW := List.mem_of_getElem? (i := 38) rfl
theorem nw_39 : Cond.fieldLinkNest RX11 263 "LostWords$Seating" "firstOrder" "LLostWords$Line;" "LostWords" ∈ nestW := List.mem_of_getElem? (i := 39) rfl
theorem nw_40 : Cond.fieldLinkNest RX11 318 "LostWords$Seating" "hintCount" "I" "LostWords" ∈ nestW := List.mem_of_getElem? (i := 40) rfl
theorem nw_41 : Cond.fieldLinkNest RX11 321 "LostWords$Seating" "time" "I" "LostWords" ∈ nestW := List.mem_of_getElem? (i := 41) rfl
theorem fl_X9_9 : fx_gl wsL_law nestW classes RX9 (9, 9, 0) := ⟨RX9, TX9, 8, rfl, by decide, inlX9, Or.inl m_62⟩
theorem fl_X9_31 : fx_gl wsL_law nestW classes RX9 (31, 9, 2) := ⟨RX9, TX9, 8, rfl, by decide, inlX9, Or.inl m_290⟩
theorem pl_X9_31 : fx_pl wsL_law nestW classes RX9 (31, 9, 2, 0) := ⟨RX9, TX9, 8, tyX9, tyX9 2, rfl, by decide, inlX9, tyX9_ok, nmX9, rfl, tyX9_ok 2 (by decide), rfl, Or.inl m_290⟩
theorem fl_X11_10 : fx_gl wsL_law nestW classes RX11 (10, 11, 0) := ⟨RX11, TX11, 9, rfl, by decide, inlX11, Or.inl m_15⟩
theorem fl_X11_70 : fx_gl wsL_law nestW classes RX11 (70, 6, 0) := ⟨RX6, TX6, 4, rfl, by decide, inlX6, Or.inr ⟨_, nw_29⟩⟩
theorem fl_X11_83 : fx_gl wsL_law nestW classes RX11 (83, 9, 2) := ⟨RX9, TX9, 8, rfl, by decide, inlX9, Or.inr ⟨_, nw_0⟩⟩
theorem pl_X11_83 : fx_pl wsL_law nestW classes RX11 (83, 9, 2, 0) := ⟨RX9, TX9, 8, tyX9, tyX9 2, rfl, by decide, inlX9, tyX9_ok, nmX9, rfl, tyX9_ok 2 (by decide), rfl, Or.inr ⟨_, nw_0⟩⟩
theorem pl_X1_21 : fx_pl wsL_law nestW classes RX1 (21, 1, 1, 0) := ⟨RX1, TX1, 2, tyX1, tyX1 1, rfl, by decide, inlX1, tyX1_ok, nmX1, rfl, tyX1_ok 1 (by decide), rfl, Or.inl m_140⟩
theorem pl_X0_24 : fx_pl wsL_law nestW classes RX0 (24, 0, 4, 0) := ⟨RX0, TX0, 8, tyX0, tyX0 4, rfl, by decide, inlX0, tyX0_ok, nmX0, rfl, tyX0_ok 4 (by decide), rfl, Or.inl m_333⟩
theorem pl_X0_28 : fx_pl wsL_law nestW classes RX0 (28, 0, 6, 0) := ⟨RX0, TX0, 8, tyX0, tyX0 6, rfl, by decide, inlX0, tyX0_ok, nmX0, rfl, tyX0_ok 6 (by decide), rfl, Or.inl m_334⟩
theorem pl_X0_31 : fx_pl wsL_law nestW classes RX0 (31, 0, 7, 3) := ⟨RX0, TX0, 8, tyX0, tyX0 7, rfl, by decide, inlX0, tyX0_ok, nmX0, rfl, tyX0_ok 7 (by decide), rfl, Or.inl m_335⟩
theorem fl_X10_19 : fx_gl wsL_law nestW classes RX10 (19, 10, 2) := ⟨RX10, TX10, 12, rfl, by decide, inlX10, Or.inl m_121⟩
theorem fl_X10_22 : fx_gl wsL_law nestW classes RX10 (22, 10, 3) := ⟨RX10, TX10, 12, rfl, by decide, inlX10, Or.inl m_123⟩
theorem fl_X10_31 : fx_gl wsL_law nestW classes RX10 (31, 10, 4) := ⟨RX10, TX10, 12, rfl, by decide, inlX10, Or.inl m_125⟩
theorem fl_X10_42 : fx_gl wsL_law nestW classes RX10 (42, 10, 6) := ⟨RX10, TX10, 12, rfl, by decide, inlX10, Or.inl m_130⟩
theorem pl_X10_46 : fx_pl wsL_law nestW classes RX10 (46, 10, 7, 0) := ⟨RX10, TX10, 12, tyX10, tyX10 7, rfl, by decide, inlX10, tyX10_ok, nmX10, rfl, tyX10_ok 7 (by decide), rfl, Or.inl m_320⟩
theorem pl_X10_50 : fx_pl wsL_law nestW classes RX10 (50, 10, 8, 0) := ⟨RX10, TX10, 12, tyX10, tyX10 8, rfl, by decide, inlX10, tyX10_ok, nmX10, rfl, tyX10_ok 8 (by decide), rfl, Or.inl m_321⟩
theorem pl_X10_53 : fx_pl wsL_law nestW classes RX10 (53, 10, 9, 0) := ⟨RX10, TX10, 12, tyX10, tyX10 9, rfl, by decide, inlX10, tyX10_ok, nmX10, rfl, tyX10_ok 9 (by decide), rfl, Or.inl m_322⟩
theorem pl_X10_56 : fx_pl wsL_law nestW classes RX10 (56, 10, 10, 0) := ⟨RX10, TX10, 12, tyX10, tyX10 10, rfl, by decide, inlX10, tyX10_ok, nmX10, rfl, tyX10_ok 10 (by decide), rfl, Or.inl m_323⟩
theorem pl_X10_59 : fx_pl wsL_law nestW classes RX10 (59, 10, 11, 3) := ⟨RX10, TX10, 12, tyX10, tyX10 11, rfl, by decide, inlX10, tyX10_ok, nmX10, rfl, tyX10_ok 11 (by decide), rfl, Or.inl m_324⟩
theorem fl_X9_34 : fx_gl wsL_law nestW classes RX9 (34, 9, 3) := ⟨RX9, TX9, 8, rfl, by decide, inlX9, Or.inl m_344⟩
theorem pl_X9_34 : fx_pl wsL_law nestW classes RX9 (34, 9, 3, 0) := ⟨RX9, TX9, 8, tyX9, tyX9 3, rfl, by decide, inlX9, tyX9_ok, nmX9, rfl, tyX9_ok 3 (by decide), rfl, Or.inl m_344⟩
theorem fl_X9_15 : fx_gl wsL_law nestW classes RX9 (15, 9, 1) := ⟨RX9, TX9, 8, rfl, by decide, inlX9, Or.inl m_64⟩
theorem fl_X9_74 : fx_gl wsL_law nestW classes RX9 (74, 9, 7) := ⟨RX9, TX9, 8, rfl, by decide, inlX9, Or.inl m_369⟩
theorem fl_X9_43 : fx_gl wsL_law nestW classes RX9 (43, 9, 5) := ⟨RX9, TX9, 8, rfl, by decide, inlX9, Or.inl m_349⟩
theorem pl_X9_63 : fx_pl wsL_law nestW classes RX9 (63, 9, 4, 0) := ⟨RX9, TX9, 8, tyX9, tyX9 4, rfl, by decide, inlX9, tyX9_ok, nmX9, rfl, tyX9_ok 4 (by decide), rfl, Or.inl m_350⟩
theorem pl_X9_74 : fx_pl wsL_law nestW classes RX9 (74, 9, 7, 1) := ⟨RX9, TX9, 8, tyX9, tyX9 7, rfl, by decide, inlX9, tyX9_ok, nmX9, rfl, tyX9_ok 7 (by decide), rfl, Or.inl m_369⟩
theorem fl_X9_81 : fx_gl wsL_law nestW classes RX9 (81, 9, 6) := ⟨RX9, TX9, 8, rfl, by decide, inlX9, Or.inl m_381⟩
theorem pl_X9_81 : fx_pl wsL_law nestW classes RX9 (81, 9, 6, 0) := ⟨RX9, TX9, 8, tyX9, tyX9 6, rfl, by decide, inlX9, tyX9_ok, nmX9, rfl, tyX9_ok 6 (by decide), rfl, Or.inl m_381⟩
theorem pl_X6_25 : fx_pl wsL_law nestW classes RX6 (25, 6, 2, 0) := ⟨RX6, TX6, 4, tyX6, tyX6 2, rfl, by decide, inlX6, tyX6_ok, nmX6, rfl, tyX6_ok 2 (by decide), rfl, Or.inl m_55⟩
theorem pl_X6_29 : fx_pl wsL_law nestW classes RX6 (29, 6, 3, 0) := ⟨RX6, TX6, 4, tyX6, tyX6 3, rfl, by decide, inlX6, tyX6_ok, nmX6, rfl, tyX6_ok 3 (by decide), rfl, Or.inl m_56⟩
theorem fl_X6_12 : fx_gl wsL_law nestW classes RX6 (12, 6, 0) := ⟨RX6, TX6, 4, rfl, by decide, inlX6, Or.inl m_52⟩
theorem fl_X6_38 : fx_gl wsL_law nestW classes RX6 (38, 9, 4) := ⟨RX9, TX9, 8, rfl, by decide, inlX9, Or.inr ⟨_, nw_1⟩⟩
theorem fl_X6_82 : fx_gl wsL_law nestW classes RX6 (82, 9, 5) := ⟨RX9, TX9, 8, rfl, by decide, inlX9, Or.inr ⟨_, nw_2⟩⟩
theorem fl_X6_96 : fx_gl wsL_law nestW classes RX6 (96, 9, 6) := ⟨RX9, TX9, 8, rfl, by decide, inlX9, Or.inr ⟨_, nw_3⟩⟩
theorem fl_X6_21 : fx_gl wsL_law nestW classes RX6 (21, 6, 1) := ⟨RX6, TX6, 4, rfl, by decide, inlX6, Or.inl m_54⟩
theorem fl_X6_129 : fx_gl wsL_law nestW classes RX6 (129, 10, 11) := ⟨RX10, TX10, 12, rfl, by decide, inlX10, Or.inr ⟨_, nw_28⟩⟩
theorem pl_X6_129 : fx_pl wsL_law nestW classes RX6 (129, 10, 11, 3) := ⟨RX10, TX10, 12, tyX10, tyX10 11, rfl, by decide, inlX10, tyX10_ok, nmX10, rfl, tyX10_ok 11 (by decide), rfl, Or.inr ⟨_, nw_28⟩⟩
theorem pl_X6_132 : fx_pl wsL_law nestW classes RX6 (132, 10, 10, 0) := ⟨RX10, TX10, 12, tyX10, tyX10 10, rfl, by decide, inlX10, tyX10_ok, nmX10, rfl, tyX10_ok 10 (by decide), rfl, Or.inr ⟨_, nw_27⟩⟩
theorem fl_X0_9 : fx_gl wsL_law nestW classes RX0 (9, 0, 0) := ⟨RX0, TX0, 8, rfl, by decide, inlX0, Or.inl m_145⟩
theorem fl_X0_13 : fx_gl wsL_law nestW classes RX0 (13, 0, 1) := ⟨RX0, TX0, 8, rfl, by decide, inlX0, Or.inl m_146⟩
theorem fl_X0_24 : fx_gl wsL_law nestW classes RX0 (24, 0, 4) := ⟨RX0, TX0, 8, rfl, by decide, inlX0, Or.inl m_333⟩
theorem fl_X6_116 : fx_gl wsL_law nestW classes RX6 (116, 10, 6) := ⟨RX10, TX10, 12, rfl, by decide, inlX10, Or.inr ⟨_, nw_17⟩⟩
theorem fl_X6_165 : fx_gl wsL_law nestW classes RX6 (165, 0, 6) := ⟨RX0, TX0, 8, rfl, by decide, inlX0, Or.inr ⟨_, nw_12⟩⟩
theorem pl_X6_165 : fx_pl wsL_law nestW classes RX6 (165, 0, 6, 0) := ⟨RX0, TX0, 8, tyX0, tyX0 6, rfl, by decide, inlX0, tyX0_ok, nmX0, rfl, tyX0_ok 6 (by decide), rfl, Or.inr ⟨_, nw_12⟩⟩
theorem fl_X6_120 : fx_gl wsL_law nestW classes RX6 (120, 0, 7) := ⟨RX0, TX0, 8, rfl, by decide, inlX0, Or.inr ⟨_, nw_14⟩⟩
theorem pl_X6_120 : fx_pl wsL_law nestW classes RX6 (120, 0, 7, 3) := ⟨RX0, TX0, 8, tyX0, tyX0 7, rfl, by decide, inlX0, tyX0_ok, nmX0, rfl, tyX0_ok 7 (by decide), rfl, Or.inr ⟨_, nw_14⟩⟩
theorem fl_X10_35 : fx_gl wsL_law nestW classes RX10 (35, 10, 5) := ⟨RX10, TX10, 12, rfl, by decide, inlX10, Or.inl m_126⟩
theorem fl_X10_53 : fx_gl wsL_law nestW classes RX10 (53, 10, 9) := ⟨RX10, TX10, 12, rfl, by decide, inlX10, Or.inl m_322⟩
theorem fl_X10_9 : fx_gl wsL_law nestW classes RX10 (9, 10, 0) := ⟨RX10, TX10, 12, rfl, by decide, inlX10, Or.inl m_118⟩
theorem fl_X10_46 : fx_gl wsL_law nestW classes RX10 (46, 10, 7) := ⟨RX10, TX10, 12, rfl, by decide, inlX10, Or.inl m_320⟩
theorem fl_X6_74 : fx_gl wsL_law nestW classes RX6 (74, 9, 7) := ⟨RX9, TX9, 8, rfl, by decide, inlX9, Or.inr ⟨_, nw_4⟩⟩
theorem fl_X1_15 : fx_gl wsL_law nestW classes RX1 (15, 1, 0) := ⟨RX1, TX1, 2, rfl, by decide, inlX1, Or.inl m_139⟩
theorem fl_X1_21 : fx_gl wsL_law nestW classes RX1 (21, 1, 1) := ⟨RX1, TX1, 2, rfl, by decide, inlX1, Or.inl m_140⟩
theorem fl_X10_77 : fx_gl wsL_law nestW classes RX10 (77, 1, 1) := ⟨RX1, TX1, 2, rfl, by decide, inlX1, Or.inr ⟨_, nw_10⟩⟩
theorem fl_X10_50 : fx_gl wsL_law nestW classes RX10 (50, 10, 8) := ⟨RX10, TX10, 12, rfl, by decide, inlX10, Or.inl m_321⟩
theorem fl_X6_103 : fx_gl wsL_law nestW classes RX6 (103, 10, 8) := ⟨RX10, TX10, 12, rfl, by decide, inlX10, Or.inr ⟨_, nw_22⟩⟩
theorem fl_X10_15 : fx_gl wsL_law nestW classes RX10 (15, 10, 1) := ⟨RX10, TX10, 12, rfl, by decide, inlX10, Or.inl m_120⟩
theorem fl_X6_68 : fx_gl wsL_law nestW classes RX6 (68, 10, 7) := ⟨RX10, TX10, 12, rfl, by decide, inlX10, Or.inr ⟨_, nw_19⟩⟩
theorem fl_X6_25 : fx_gl wsL_law nestW classes RX6 (25, 6, 2) := ⟨RX6, TX6, 4, rfl, by decide, inlX6, Or.inl m_55⟩
theorem pl_X6_21 : fx_pl wsL_law nestW classes RX6 (21, 6, 1, 4) := ⟨RX6, TX6, 4, tyX6, tyX6 1, rfl, by decide, inlX6, tyX6_ok, nmX6, rfl, tyX6_ok 1 (by decide), ⟨_, rfl⟩, Or.inl m_54⟩
theorem fl_X8_14 : fx_gl wsL_law nestW classes RX8 (14, 8, 0) := ⟨RX8, TX8, 3, rfl, by decide, inlX8, Or.inl m_166⟩
theorem fl_X8_20 : fx_gl wsL_law nestW classes RX8 (20, 8, 1) := ⟨RX8, TX8, 3, rfl, by decide, inlX8, Or.inl m_167⟩
theorem fl_X8_24 : fx_gl wsL_law nestW classes RX8 (24, 8, 2) := ⟨RX8, TX8, 3, rfl, by decide, inlX8, Or.inl m_168⟩
theorem pl_X8_20 : fx_pl wsL_law nestW classes RX8 (20, 8, 1, 0) := ⟨RX8, TX8, 3, tyX8, tyX8 1, rfl, by decide, inlX8, tyX8_ok, nmX8, rfl, tyX8_ok 1 (by decide), rfl, Or.inl m_167⟩
theorem pl_X8_24 : fx_pl wsL_law nestW classes RX8 (24, 8, 2, 0) := ⟨RX8, TX8, 3, tyX8, tyX8 2, rfl, by decide, inlX8, tyX8_ok, nmX8, rfl, tyX8_ok 2 (by decide), rfl, Or.inl m_168⟩
theorem fl_X5_12 : fx_gl wsL_law nestW classes RX5 (12, 5, 0) := ⟨RX5, TX5, 7, rfl, by decide, inlX5, Or.inl m_156⟩
theorem fl_X5_21 : fx_gl wsL_law nestW classes RX5 (21, 5, 2) := ⟨RX5, TX5, 7, rfl, by decide, inlX5, Or.inl m_158⟩
theorem pl_X5_91 : fx_pl wsL_law nestW classes RX5 (91, 5, 5, 0) := ⟨RX5, TX5, 7, tyX5, tyX5 5, rfl, by decide, inlX5, tyX5_ok, nmX5, rfl, tyX5_ok 5 (by decide), rfl, Or.inl m_582⟩
theorem pl_X5_97 : fx_pl wsL_law nestW classes RX5 (97, 5, 6, 0) := ⟨RX5, TX5, 7, tyX5, tyX5 6, rfl, by decide, inlX5, tyX5_ok, nmX5, rfl, tyX5_ok 6 (by decide), rfl, Or.inl m_583⟩
theorem fl_X5_28 : fx_gl wsL_law nestW classes RX5 (28, 5, 4) := ⟨RX5, TX5, 7, rfl, by decide, inlX5, Or.inl m_160⟩
theorem fl_X5_32 : fx_gl wsL_law nestW classes RX5 (32, 8, 0) := ⟨RX8, TX8, 3, rfl, by decide, inlX8, Or.inr ⟨_, nw_32⟩⟩
theorem fl_X5_36 : fx_gl wsL_law nestW classes RX5 (36, 10, 4) := ⟨RX10, TX10, 12, rfl, by decide, inlX10, Or.inr ⟨_, nw_16⟩⟩
theorem fl_X5_49 : fx_gl wsL_law nestW classes RX5 (49, 10, 10) := ⟨RX10, TX10, 12, rfl, by decide, inlX10, Or.inr ⟨_, nw_26⟩⟩
theorem pl_X5_45 : fx_pl wsL_law nestW classes RX5 (45, 8, 1, 0) := ⟨RX8, TX8, 3, tyX8, tyX8 1, rfl, by decide, inlX8, tyX8_ok, nmX8, rfl, tyX8_ok 1 (by decide), rfl, Or.inr ⟨_, nw_34⟩⟩
theorem pl_X5_52 : fx_pl wsL_law nestW classes RX5 (52, 8, 2, 0) := ⟨RX8, TX8, 3, tyX8, tyX8 2, rfl, by decide, inlX8, tyX8_ok, nmX8, rfl, tyX8_ok 2 (by decide), rfl, Or.inr ⟨_, nw_36⟩⟩
theorem fl_X4_39 : fx_gl wsL_law nestW classes RX4 (39, 1, 1) := ⟨RX1, TX1, 2, rfl, by decide, inlX1, Or.inr ⟨_, nw_5⟩⟩
theorem fl_X7_9 : fx_gl wsL_law nestW classes RX7 (9, 7, 0) := ⟨RX7, TX7, 13, rfl, by decide, inlX7, Or.inl m_201⟩
theorem fl_X7_45 : fx_gl wsL_law nestW classes RX7 (45, 10, 9) := ⟨RX10, TX10, 12, rfl, by decide, inlX10, Or.inr ⟨_, nw_24⟩⟩
theorem fl_X7_57 : fx_gl wsL_law nestW classes RX7 (57, 7, 9) := ⟨RX7, TX7, 13, rfl, by decide, inlX7, Or.inl m_594⟩
theorem pl_X7_57 : fx_pl wsL_law nestW classes RX7 (57, 7, 9, 0) := ⟨RX7, TX7, 13, tyX7, tyX7 9, rfl, by decide, inlX7, tyX7_ok, nmX7, rfl, tyX7_ok 9 (by decide), rfl, Or.inl m_594⟩
theorem pl_X7_58 : fx_pl wsL_law nestW classes RX7 (58, 7, 10, 0) := ⟨RX7, TX7, 13, tyX7, tyX7 10, rfl, by decide, inlX7, tyX7_ok, nmX7, rfl, tyX7_ok 10 (by decide), rfl, Or.inl m_595⟩
theorem fl_X11_19 : fx_gl wsL_law nestW classes RX11 (19, 11, 1) := ⟨RX11, TX11, 9, rfl, by decide, inlX11, Or.inl m_19⟩
theorem fl_X11_26 : fx_gl wsL_law nestW classes RX11 (26, 11, 2) := ⟨RX11, TX11, 9, rfl, by decide, inlX11, Or.inl m_23⟩
theorem fl_X11_47 : fx_gl wsL_law nestW classes RX11 (47, 11, 5) := ⟨RX11, TX11, 9, rfl, by decide, inlX11, Or.inl m_35⟩
theorem fl_X11_56 : fx_gl wsL_law nestW classes RX11 (56, 11, 6) := ⟨RX11, TX11, 9, rfl, by decide, inlX11, Or.inl m_39⟩
theorem fl_X11_66 : fx_gl wsL_law nestW classes RX11 (66, 11, 8) := ⟨RX11, TX11, 9, rfl, by decide, inlX11, Or.inl m_44⟩
theorem fl_X11_105 : fx_gl wsL_law nestW classes RX11 (105, 10, 9) := ⟨RX10, TX10, 12, rfl, by decide, inlX10, Or.inr ⟨_, nw_25⟩⟩
theorem pl_X11_66 : fx_pl wsL_law nestW classes RX11 (66, 11, 8, 4) := ⟨RX11, TX11, 9, tyX11, tyX11 8, rfl, by decide, inlX11, tyX11_ok, nmX11, rfl, tyX11_ok 8 (by decide), ⟨_, rfl⟩, Or.inl m_44⟩
theorem fl_X11_108 : fx_gl wsL_law nestW classes RX11 (108, 6, 2) := ⟨RX6, TX6, 4, rfl, by decide, inlX6, Or.inr ⟨_, nw_30⟩⟩
theorem fl_X11_111 : fx_gl wsL_law nestW classes RX11 (111, 6, 3) := ⟨RX6, TX6, 4, rfl, by decide, inlX6, Or.inr ⟨_, nw_31⟩⟩
theorem fl_X11_114 : fx_gl wsL_law nestW classes RX11 (114, 5, 0) := ⟨RX5, TX5, 7, rfl, by decide, inlX5, Or.inr ⟨_, nw_38⟩⟩
theorem fl_X11_118 : fx_gl wsL_law nestW classes RX11 (118, 8, 0) := ⟨RX8, TX8, 3, rfl, by decide, inlX8, Or.inr ⟨_, nw_33⟩⟩
theorem fl_X11_134 : fx_gl wsL_law nestW classes RX11 (134, 1, 1) := ⟨RX1, TX1, 2, rfl, by decide, inlX1, Or.inr ⟨_, nw_11⟩⟩
theorem fl_X0_21 : fx_gl wsL_law nestW classes RX0 (21, 0, 3) := ⟨RX0, TX0, 8, rfl, by decide, inlX0, Or.inl m_148⟩
theorem fl_X0_16 : fx_gl wsL_law nestW classes RX0 (16, 0, 2) := ⟨RX0, TX0, 8, rfl, by decide, inlX0, Or.inl m_147⟩
theorem fl_X0_35 : fx_gl wsL_law nestW classes RX0 (35, 0, 5) := ⟨RX0, TX0, 8, rfl, by decide, inlX0, Or.inl m_902⟩
theorem pl_X0_35 : fx_pl wsL_law nestW classes RX0 (35, 0, 5, 0) := ⟨RX0, TX0, 8, tyX0, tyX0 5, rfl, by decide, inlX0, tyX0_ok, nmX0, rfl, tyX0_ok 5 (by decide), rfl, Or.inl m_902⟩
theorem fl_X10_91 : fx_gl wsL_law nestW classes RX10 (91, 0, 7) := ⟨RX0, TX0, 8, rfl, by decide, inlX0, Or.inr ⟨_, nw_15⟩⟩
theorem fl_X8_31 : fx_gl wsL_law nestW classes RX8 (31, 1, 1) := ⟨RX1, TX1, 2, rfl, by decide, inlX1, Or.inr ⟨_, nw_6⟩⟩
theorem fl_X5_91 : fx_gl wsL_law nestW classes RX5 (91, 5, 5) := ⟨RX5, TX5, 7, rfl, by decide, inlX5, Or.inl m_582⟩
theorem fl_X5_45 : fx_gl wsL_law nestW classes RX5 (45, 8, 1) := ⟨RX8, TX8, 3, rfl, by decide, inlX8, Or.inr ⟨_, nw_34⟩⟩
theorem fl_X5_58 : fx_gl wsL_law nestW classes RX5 (58, 1, 1) := ⟨RX1, TX1, 2, rfl, by decide, inlX1, Or.inr ⟨_, nw_7⟩⟩
theorem fl_X5_97 : fx_gl wsL_law nestW classes RX5 (97, 5, 6) := ⟨RX5, TX5, 7, rfl, by decide, inlX5, Or.inl m_583⟩
theorem fl_X4_11 : fx_gl wsL_law nestW classes RX4 (11, 4, 0) := ⟨RX4, TX4, 7, rfl, by decide, inlX4, Or.inl m_174⟩
theorem fl_X4_21 : fx_gl wsL_law nestW classes RX4 (21, 4, 3) := ⟨RX4, TX4, 7, rfl, by decide, inlX4, Or.inl m_177⟩
theorem fl_X4_29 : fx_gl wsL_law nestW classes RX4 (29, 4, 4) := ⟨RX4, TX4, 7, rfl, by decide, inlX4, Or.inl m_179⟩
theorem fl_X4_33 : fx_gl wsL_law nestW classes RX4 (33, 4, 5) := ⟨RX4, TX4, 7, rfl, by decide, inlX4, Or.inl m_180⟩
theorem fl_X4_36 : fx_gl wsL_law nestW classes RX4 (36, 4, 6) := ⟨RX4, TX4, 7, rfl, by decide, inlX4, Or.inl m_181⟩
theorem fl_X4_15 : fx_gl wsL_law nestW classes RX4 (15, 4, 1) := ⟨RX4, TX4, 7, rfl, by decide, inlX4, Or.inl m_175⟩
theorem fl_X4_18 : fx_gl wsL_law nestW classes RX4 (18, 4, 2) := ⟨RX4, TX4, 7, rfl, by decide, inlX4, Or.inl m_176⟩
theorem pl_X4_29 : fx_pl wsL_law nestW classes RX4 (29, 4, 4, 4) := ⟨RX4, TX4, 7, tyX4, tyX4 4, rfl, by decide, inlX4, tyX4_ok, nmX4, rfl, tyX4_ok 4 (by decide), ⟨_, rfl⟩, Or.inl m_179⟩
theorem pl_X4_33 : fx_pl wsL_law nestW classes RX4 (33, 4, 5, 4) := ⟨RX4, TX4, 7, tyX4, tyX4 5, rfl, by decide, inlX4, tyX4_ok, nmX4, rfl, tyX4_ok 5 (by decide), ⟨_, rfl⟩, Or.inl m_180⟩
theorem pl_X4_36 : fx_pl wsL_law nestW classes RX4 (36, 4, 6, 4) := ⟨RX4, TX4, 7, tyX4, tyX4 6, rfl, by decide, inlX4, tyX4_ok, nmX4, rfl, tyX4_ok 6 (by decide), ⟨_, rfl⟩, Or.inl m_181⟩
theorem fl_X11_60 : fx_gl wsL_law nestW classes RX11 (60, 11, 7) := ⟨RX11, TX11, 9, rfl, by decide, inlX11, Or.inl m_40⟩
theorem fl_X2_37 : fx_gl wsL_law nestW classes RX2 (37, 1, 1) := ⟨RX1, TX1, 2, rfl, by decide, inlX1, Or.inr ⟨_, nw_9⟩⟩
theorem fl_X11_33 : fx_gl wsL_law nestW classes RX11 (33, 11, 3) := ⟨RX11, TX11, 9, rfl, by decide, inlX11, Or.inl m_27⟩
theorem fl_X2_11 : fx_gl wsL_law nestW classes RX2 (11, 2, 0) := ⟨RX2, TX2, 1, rfl, by decide, inlX2, Or.inl m_187⟩
theorem fl_X5_18 : fx_gl wsL_law nestW classes RX5 (18, 5, 1) := ⟨RX5, TX5, 7, rfl, by decide, inlX5, Or.inl m_157⟩
theorem fl_X3_40 : fx_gl wsL_law nestW classes RX3 (40, 1, 1) := ⟨RX1, TX1, 2, rfl, by decide, inlX1, Or.inr ⟨_, nw_8⟩⟩
theorem fl_X3_20 : fx_gl wsL_law nestW classes RX3 (20, 3, 1) := ⟨RX3, TX3, 3, rfl, by decide, inlX3, Or.inl m_194⟩
theorem fl_X3_23 : fx_gl wsL_law nestW classes RX3 (23, 3, 2) := ⟨RX3, TX3, 3, rfl, by decide, inlX3, Or.inl m_195⟩
theorem fl_X3_55 : fx_gl wsL_law nestW classes RX3 (55, 10, 7) := ⟨RX10, TX10, 12, rfl, by decide, inlX10, Or.inr ⟨_, nw_20⟩⟩
theorem fl_X11_40 : fx_gl wsL_law nestW classes RX11 (40, 11, 4) := ⟨RX11, TX11, 9, rfl, by decide, inlX11, Or.inl m_31⟩
theorem fl_X3_14 : fx_gl wsL_law nestW classes RX3 (14, 3, 0) := ⟨RX3, TX3, 3, rfl, by decide, inlX3, Or.inl m_193⟩
theorem fl_X7_21 : fx_gl wsL_law nestW classes RX7 (21, 7, 3) := ⟨RX7, TX7, 13, rfl, by decide, inlX7, Or.inl m_204⟩
theorem fl_X7_24 : fx_gl wsL_law nestW classes RX7 (24, 7, 4) := ⟨RX7, TX7, 13, rfl, by decide, inlX7, Or.inl m_205⟩
theorem fl_X7_30 : fx_gl wsL_law nestW classes RX7 (30, 7, 6) := ⟨RX7, TX7, 13, rfl, by decide, inlX7, Or.inl m_207⟩
theorem fl_X7_33 : fx_gl wsL_law nestW classes RX7 (33, 7, 7) := ⟨RX7, TX7, 13, rfl, by decide, inlX7, Or.inl m_208⟩
theorem fl_X7_41 : fx_gl wsL_law nestW classes RX7 (41, 7, 8) := ⟨RX7, TX7, 13, rfl, by decide, inlX7, Or.inl m_210⟩
theorem fl_X7_79 : fx_gl wsL_law nestW classes RX7 (79, 7, 12) := ⟨RX7, TX7, 13, rfl, by decide, inlX7, Or.inl m_1542⟩
theorem pl_X7_79 : fx_pl wsL_law nestW classes RX7 (79, 7, 12, 0) := ⟨RX7, TX7, 13, tyX7, tyX7 12, rfl, by decide, inlX7, tyX7_ok, nmX7, rfl, tyX7_ok 12 (by decide), rfl, Or.inl m_1542⟩
theorem fl_X7_27 : fx_gl wsL_law nestW classes RX7 (27, 7, 5) := ⟨RX7, TX7, 13, rfl, by decide, inlX7, Or.inl m_206⟩
theorem fl_X7_15 : fx_gl wsL_law nestW classes RX7 (15, 7, 1) := ⟨RX7, TX7, 13, rfl, by decide, inlX7, Or.inl m_202⟩
theorem fl_X7_18 : fx_gl wsL_law nestW classes RX7 (18, 7, 2) := ⟨RX7, TX7, 13, rfl, by decide, inlX7, Or.inl m_203⟩
theorem fl_X7_58 : fx_gl wsL_law nestW classes RX7 (58, 7, 10) := ⟨RX7, TX7, 13, rfl, by decide, inlX7, Or.inl m_595⟩
theorem fl_X11_263 : fx_gl wsL_law nestW classes RX11 (263, 7, 8) := ⟨RX7, TX7, 13, rfl, by decide, inlX7, Or.inr ⟨_, nw_39⟩⟩
theorem fl_X7_71 : fx_gl wsL_law nestW classes RX7 (71, 7, 11) := ⟨RX7, TX7, 13, rfl, by decide, inlX7, Or.inl m_1608⟩
theorem pl_X7_71 : fx_pl wsL_law nestW classes RX7 (71, 7, 11, 0) := ⟨RX7, TX7, 13, tyX7, tyX7 11, rfl, by decide, inlX7, tyX7_ok, nmX7, rfl, tyX7_ok 11 (by decide), rfl, Or.inl m_1608⟩
theorem fl_X5_25 : fx_gl wsL_law nestW classes RX5 (25, 5, 3) := ⟨RX5, TX5, 7, rfl, by decide, inlX5, Or.inl m_159⟩
theorem fl_X11_300 : fx_gl wsL_law nestW classes RX11 (300, 10, 7) := ⟨RX10, TX10, 12, rfl, by decide, inlX10, Or.inr ⟨_, nw_21⟩⟩
theorem fl_X11_303 : fx_gl wsL_law nestW classes RX11 (303, 8, 1) := ⟨RX8, TX8, 3, rfl, by decide, inlX8, Or.inr ⟨_, nw_35⟩⟩
theorem fl_X11_306 : fx_gl wsL_law nestW classes RX11 (306, 8, 2) := ⟨RX8, TX8, 3, rfl, by decide, inlX8, Or.inr ⟨_, nw_37⟩⟩
theorem fl_X11_309 : fx_gl wsL_law nestW classes RX11 (309, 10, 8) := ⟨RX10, TX10, 12, rfl, by decide, inlX10, Or.inr ⟨_, nw_23⟩⟩
theorem fl_X11_318 : fx_gl wsL_law nestW classes RX11 (318, 7, 10) := ⟨RX7, TX7, 13, rfl, by decide, inlX7, Or.inr ⟨_, nw_40⟩⟩
theorem fl_X11_321 : fx_gl wsL_law nestW classes RX11 (321, 7, 11) := ⟨RX7, TX7, 13, rfl, by decide, inlX7, Or.inr ⟨_, nw_41⟩⟩
theorem fl_X11_324 : fx_gl wsL_law nestW classes RX11 (324, 10, 6) := ⟨RX10, TX10, 12, rfl, by decide, inlX10, Or.inr ⟨_, nw_18⟩⟩
theorem fl_X11_328 : fx_gl wsL_law nestW classes RX11 (328, 0, 6) := ⟨RX0, TX0, 8, rfl, by decide, inlX0, Or.inr ⟨_, nw_13⟩⟩
theorem kc_X11_147 : fx_k4 wsL_law RX11 (147, -1000000) := m_840
theorem kc_J6_265 : fx_k4 wsL_law RJ6 (265, 1431655765) := m_1301
theorem kc_J6_266 : fx_k4 wsL_law RJ6 (266, 858993459) := m_1302
theorem kc_J6_267 : fx_k4 wsL_law RJ6 (267, 252645135) := m_1303
theorem kc_X2_47 : fx_k4 wsL_law RX2 (47, -1000000) := m_1371
theorem kc_X7_74 : fx_k4 wsL_law RX7 (74, 100000) := m_1634
