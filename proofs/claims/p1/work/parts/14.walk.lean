set_option maxHeartbeats 4000000 in
set_option maxRecDepth 100000 in
theorem kX9_hasRoom_1 (l : Launch) (dC : Nat → ClassId) (dI : Nat → Nat → Nat) (cy : Nat → ClassId) (h0 h1 h2 : Nat) : Met l yX9_hasRoom wmX9_hasRoom ({ frames := 0, cells := 0, slots := 0, locals := 0 }) (va_Pc [.ref h0, .int 20] (fun U => va_P (dC, dI) classes [(h0, .inr (9, [.ref h1, .ref h2, .int 0, .int 0, .int 0, .int 0, .int 0, .long 0])), (h1, .inl (cy 2, 1600, .inl (fun _ => 0)))] U.heap ∧ EV dC dI cy U)) (vp_Si (fun r_ => r_ = 1)) 0 0 (fun _ => False) := by
  refine Met.ofW (cc := cX9_hasRoom) (maxL := 2) (ret := (some .boolean)) (by decide +kernel) rfl ?_
  intro p e s m args below meth c s₁ B hml hv
  obtain ⟨rfl, hP, hE⟩ := hv
  have hK := hE.1
  have hN := hE.2.1
  have hx := B.exec
  have hb := B.bytes
  have hr := B.returns
  have hts0 := atoms_spec (ws := wmX9_hasRoom) B.pre
  have hts : ∀ w ∈ wsL_law, w.before _ s = true := fun w h => hts0 w (List.mem_cons_of_mem _ h)
  have hown : s.vm.findClass RX9 = some m.cls := findClass_of_methodNamed B.named
  have hlocks := B.notSynchronized
  have hl := lv_entry ([.ref h0, .int 20]) (n := 2) (Nat.le_of_ble_eq_true rfl)
  rw [lg_entry_eq]
  generalize (lg_sl ([.ref h0, .int 20]) ++ List.replicate (2 - (lg_sl ([.ref h0, .int 20])).length) Slot.unset).toArray = ls at hl ⊢
  have hl : lv_has ls 2 [(0, .ref h0), (1, .int 20)] := hl
  refine lv_aload_n hx hb dX9_hasRoom_0 rfl (lv_at hl 0 rfl) ?_
  refine va_get (D := (dC, dI)) (ci := 9) (v := .int 0) (C := RX9) (T := TX9) (N := 8) hx hb hts inlX9 hown hK hP 0 rfl rfl 2 (by decide) (hts _ m_290) (fun _ h9 => h9) rfl dX9_hasRoom_1 ?_
  refine lv_iload_n hx hb dX9_hasRoom_4 rfl (lv_at hl 1 rfl) ?_
  refine lv_iadd hx hb dX9_hasRoom_5 ?_
  refine lv_topi (fun z_1 ez_1 => ?_)
  obtain rfl : z_1 = 20 := ez_1.trans (by decide +kernel)
  refine lv_aload_n hx hb dX9_hasRoom_6 rfl (lv_at hl 0 rfl) ?_
  refine va_get (D := (dC, dI)) (ci := 9) (v := .ref h1) (C := RX9) (T := TX9) (N := 8) hx hb hts inlX9 hown hK hP 0 rfl rfl 0 (by decide) (hts _ m_62) (fun _ h9 => h9) rfl dX9_hasRoom_7 ?_
  refine va_alen (v := 1600) hx hb hK hP 1 2 rfl rfl rfl dX9_hasRoom_10 ?_
  refine lv_icmp_gt (tgt := 18) hx hb dX9_hasRoom_11 (by decide) (fun c_ => absurd c_ (by decide +kernel)) (fun _ => ?_)
  refine lv_iconst (v := 1) hx hb dX9_hasRoom_14 (by decide +kernel) ?_
  refine lv_goto (tgt := 19) hx hb dX9_hasRoom_15 (by decide) ?_
  exact W.zret (v := 1) hx hb hr (by decide +kernel) (fun t ht hW => ⟨1, rfl, rfl, ht⟩) (fun _ h_ => (List.not_mem_nil h_).elim) dX9_hasRoom_19
set_option maxHeartbeats 4000000 in
set_option maxRecDepth 100000 in
theorem kX9_append_1 (l : Launch) (dC : Nat → ClassId) (dI : Nat → Nat → Nat) (cy : Nat → ClassId) (h0 h1 h2 : Nat) (p0 : Int32) (sz : Nat) : Met l yX9_append wmX9_append ({ frames := 0, cells := 0, slots := 0, locals := 0 }) (va_Pc [.ref h0, .int p0] (fun U => U.heap.size = sz ∧ va_P (dC, dI) classes [(h0, .inr (9, [.ref h1, .ref h2, .int 0, .int 0, .int 0, .int 0, .int 0, .long 0])), (h1, .inl (cy 2, 1600, .inl (fun _ => 0)))] U.heap ∧ EV dC dI cy U ∧ va_D (fun _ => True) [(h0, .inr (9, [.ref h1, .ref h2, .int 0, .int 0, .int 0, .int 0, .int 0, .long 0])), (h1, .inl (cy 2, 1600, .inl (fun _ => 0)))])) (va_Qv (S := Unit) (fun _ => True) (fun _ t => ∃ (f_15 : Nat → Int32), va_P (dC, dI) classes [(h0, .inr (9, [.ref h1, .ref h2, .int 4, .int 0, .int 0, .int 0, .int 0, .long 0])), (h1, .inl (cy 2, 1600, .inl f_15))] t.heap ∧ va_D (va_A [(h0, .inr (9, [.ref h1, .ref h2, .int 0, .int 0, .int 0, .int 0, .int 0, .long 0])), (h1, .inl (cy 2, 1600, .inl (fun _ => 0)))] sz) [(h0, .inr (9, [.ref h1, .ref h2, .int 4, .int 0, .int 0, .int 0, .int 0, .long 0])), (h1, .inl (cy 2, 1600, .inl f_15))]) (va_A [(h0, .inr (9, [.ref h1, .ref h2, .int 0, .int 0, .int 0, .int 0, .int 0, .long 0])), (h1, .inl (cy 2, 1600, .inl (fun _ => 0)))] sz)) 0 0 (va_A [(h0, .inr (9, [.ref h1, .ref h2, .int 0, .int 0, .int 0, .int 0, .int 0, .long 0])), (h1, .inl (cy 2, 1600, .inl (fun _ => 0)))] sz) := by
  refine Met.ofW (cc := cX9_append) (maxL := 3) (ret := none) (by decide +kernel) rfl ?_
  intro p e s m args below meth c s₁ B hml hv
  obtain ⟨rfl, hsz, hP, hE, hD0⟩ := hv
  have hK := hE.1
  have hN := hE.2.1
  have hx := B.exec
  have hb := B.bytes
  have hr := B.returns
  have hts0 := atoms_spec (ws := wmX9_append) B.pre
  have hts : ∀ w ∈ wsL_law, w.before _ s = true := fun w h => hts0 w (List.mem_cons_of_mem _ h)
  have hown : s.vm.findClass RX9 = some m.cls := findClass_of_methodNamed B.named
  have hlocks := B.notSynchronized
  subst hsz
  have hD := hD0.self (sz := s.heap.size)
  generalize hAe : va_A [(h0, .inr (9, [.ref h1, .ref h2, .int 0, .int 0, .int 0, .int 0, .int 0, .long 0])), (h1, .inl (cy 2, 1600, .inl (fun _ => 0)))] s.heap.size = A at hD ⊢
  have hA : ∀ q : Nat, s.heap.size ≤ q → A q := fun q h => by rw [← hAe]; exact Or.inr h
  have hS : va_S A s.heap s.heap [] := va_S.rf
  have hP : va_P (dC, dI) classes [(h0, .inr (9, [.ref h1, .ref h2, .int 0, .int 0, .int 0, .int 0, .int 0, .long 0])), (h1, .inl (cy 2, 1600, .inl (fun _ => 0)))] s.heap := hP
  have hl := lv_entry ([.ref h0, .int p0]) (n := 3) (Nat.le_of_ble_eq_true rfl)
  rw [lg_entry_eq]
  generalize (lg_sl ([.ref h0, .int p0]) ++ List.replicate (3 - (lg_sl ([.ref h0, .int p0])).length) Slot.unset).toArray = ls at hl ⊢
  have hl : lv_has ls 3 [(0, .ref h0), (1, .int p0)] := hl
  refine lv_bipush (v := 24) hx hb dX9_append_0 (by decide +kernel) ?_
  refine lv_istore_n (lv' := [(2, .int 24), (0, .ref h0), (1, .int p0)]) hx hb dX9_append_2 rfl hl (by decide) rfl (fun ls hl => ?_)
  refine lv_iload_n hx hb dX9_append_3 rfl (lv_at hl 0 rfl) ?_
  refine lv_if_lt (tgt := 55) hx hb dX9_append_4 (by decide) (fun c_ => absurd c_ (by decide +kernel)) (fun _ => ?_)
  refine lv_aload_n hx hb dX9_append_7 rfl (lv_at hl 1 rfl) ?_
  refine va_get (D := (dC, dI)) (ci := 9) (v := .int 0) (C := RX9) (T := TX9) (N := 8) hx hb hts inlX9 hown hK hP 0 rfl rfl 2 (by decide) (hts _ m_290) (fun _ h9 => h9) rfl dX9_append_8 ?_
  refine lv_if_lt (tgt := 49) hx hb dX9_append_11 (by decide) (fun c_ => absurd c_ (by decide +kernel)) (fun _ => ?_)
  refine lv_aload_n hx hb dX9_append_14 rfl (lv_at hl 1 rfl) ?_
  refine va_get (D := (dC, dI)) (ci := 9) (v := .int 0) (C := RX9) (T := TX9) (N := 8) hx hb hts inlX9 hown hK hP 0 rfl rfl 2 (by decide) (hts _ m_290) (fun _ h9 => h9) rfl dX9_append_15 ?_
  refine lv_aload_n hx hb dX9_append_18 rfl (lv_at hl 1 rfl) ?_
  refine va_get (D := (dC, dI)) (ci := 9) (v := .ref h1) (C := RX9) (T := TX9) (N := 8) hx hb hts inlX9 hown hK hP 0 rfl rfl 0 (by decide) (hts _ m_62) (fun _ h9 => h9) rfl dX9_append_19 ?_
  refine va_alen (v := 1600) hx hb hK hP 1 2 rfl rfl rfl dX9_append_22 ?_
  refine lv_icmp_ge (tgt := 49) hx hb dX9_append_23 (by decide) (fun c_ => absurd c_ (by decide +kernel)) (fun _ => ?_)
  refine lv_aload_n hx hb dX9_append_26 rfl (lv_at hl 1 rfl) ?_
  refine va_get (D := (dC, dI)) (ci := 9) (v := .ref h1) (C := RX9) (T := TX9) (N := 8) hx hb hts inlX9 hown hK hP 0 rfl rfl 0 (by decide) (hts _ m_62) (fun _ h9 => h9) rfl dX9_append_27 ?_
  refine lv_aload_n hx hb dX9_append_30 rfl (lv_at hl 1 rfl) ?_
  refine va_get (D := (dC, dI)) (ci := 9) (v := .int 0) (C := RX9) (T := TX9) (N := 8) hx hb hts inlX9 hown hK hP 0 rfl rfl 2 (by decide) (hts _ m_290) (fun _ h9 => h9) rfl dX9_append_31 ?_
  refine lv_iload_n hx hb dX9_append_34 rfl (lv_at hl 2 rfl) ?_
  refine lv_iload_n hx hb dX9_append_35 rfl (lv_at hl 0 rfl) ?_
  refine lv_iushr hx hb dX9_append_36 rfl ?_
  refine lv_topi (fun z_1 ez_1 => ?_)
  refine lv_i2b hx hb dX9_append_37 rfl ?_
  refine lv_topi (fun z_2 ez_2 => ?_)
  refine va_bast hx hb hK hP hD hS 1 2 rfl rfl vi_0_1600 dX9_append_38 (fun H locs hP hD hS => ?_)
  generalize upd (fun _ => 0) (Int32.toNatClampNeg 0) (vp_nar .byte z_2) = f_3 at hP hD
  have hP : va_P (dC, dI) classes [(h0, .inr (9, [.ref h1, .ref h2, .int 0, .int 0, .int 0, .int 0, .int 0, .long 0])), (h1, .inl (cy 2, 1600, .inl f_3))] H := hP
  have hD : va_D A [(h0, .inr (9, [.ref h1, .ref h2, .int 0, .int 0, .int 0, .int 0, .int 0, .long 0])), (h1, .inl (cy 2, 1600, .inl f_3))] := hD
  refine lv_aload_n hx hb dX9_append_39 rfl (lv_at hl 1 rfl) ?_
  refine lv_dup hx hb dX9_append_40 rfl ?_
  refine va_get (D := (dC, dI)) (ci := 9) (v := .int 0) (C := RX9) (T := TX9) (N := 8) hx hb hts inlX9 hown hK hP 0 rfl rfl 2 (by decide) (hts _ m_290) (fun _ h9 => h9) rfl dX9_append_41 ?_
  refine lv_iconst (v := 1) hx hb dX9_append_44 (by decide +kernel) ?_
  refine lv_iadd hx hb dX9_append_45 ?_
  refine lv_topi (fun z_4 ez_4 => ?_)
  obtain rfl : z_4 = 1 := ez_4.trans (by decide +kernel)
  refine va_put (D := (dC, dI)) (ci := 9) (v := .int 1) (ty := .int) (C := RX9) (T := TX9) (N := 8) hx hb hts inlX9 tyX9 tyX9_ok nmX9 hown hK hP hD hS 0 rfl rfl 2 (by decide) (hts _ m_290) (fun _ h9 => h9) rfl (by decide +kernel) rfl rfl (Nat.le_of_ble_eq_true rfl) dX9_append_46 (fun H locs hP hD hS => ?_)
  have hP : va_P (dC, dI) classes [(h0, .inr (9, [.ref h1, .ref h2, .int 1, .int 0, .int 0, .int 0, .int 0, .long 0])), (h1, .inl (cy 2, 1600, .inl f_3))] H := hP
  have hD : va_D A [(h0, .inr (9, [.ref h1, .ref h2, .int 1, .int 0, .int 0, .int 0, .int 0, .long 0])), (h1, .inl (cy 2, 1600, .inl f_3))] := hD
  refine lv_iinc (v := 16) (lv' := [(2, .int 16), (0, .ref h0), (1, .int p0)]) hx hb dX9_append_49 hl (k := 0) rfl (by decide +kernel) (by decide) rfl (fun ls hl => ?_)
  refine lv_goto (tgt := 3) hx hb dX9_append_52 (by decide) ?_
  refine lv_iload_n hx hb dX9_append_3 rfl (lv_at hl 0 rfl) ?_
  refine lv_if_lt (tgt := 55) hx hb dX9_append_4 (by decide) (fun c_ => absurd c_ (by decide +kernel)) (fun _ => ?_)
  refine lv_aload_n hx hb dX9_append_7 rfl (lv_at hl 1 rfl) ?_
  refine va_get (D := (dC, dI)) (ci := 9) (v := .int 1) (C := RX9) (T := TX9) (N := 8) hx hb hts inlX9 hown hK hP 0 rfl rfl 2 (by decide) (hts _ m_290) (fun _ h9 => h9) rfl dX9_append_8 ?_
  refine lv_if_lt (tgt := 49) hx hb dX9_append_11 (by decide) (fun c_ => absurd c_ (by decide +kernel)) (fun _ => ?_)
  refine lv_aload_n hx hb dX9_append_14 rfl (lv_at hl 1 rfl) ?_
  refine va_get (D := (dC, dI)) (ci := 9) (v := .int 1) (C := RX9) (T := TX9) (N := 8) hx hb hts inlX9 hown hK hP 0 rfl rfl 2 (by decide) (hts _ m_290) (fun _ h9 => h9) rfl dX9_append_15 ?_
  refine lv_aload_n hx hb dX9_append_18 rfl (lv_at hl 1 rfl) ?_
  refine va_get (D := (dC, dI)) (ci := 9) (v := .ref h1) (C := RX9) (T := TX9) (N := 8) hx hb hts inlX9 hown hK hP 0 rfl rfl 0 (by decide) (hts _ m_62) (fun _ h9 => h9) rfl dX9_append_19 ?_
  refine va_alen (v := 1600) hx hb hK hP 1 2 rfl rfl rfl dX9_append_22 ?_
  refine lv_icmp_ge (tgt := 49) hx hb dX9_append_23 (by decide) (fun c_ => absurd c_ (by decide +kernel)) (fun _ => ?_)
  refine lv_aload_n hx hb dX9_append_26 rfl (lv_at hl 1 rfl) ?_
  refine va_get (D := (dC, dI)) (ci := 9) (v := .ref h1) (C := RX9) (T := TX9) (N := 8) hx hb hts inlX9 hown hK hP 0 rfl rfl 0 (by decide) (hts _ m_62) (fun _ h9 => h9) rfl dX9_append_27 ?_
  refine lv_aload_n hx hb dX9_append_30 rfl (lv_at hl 1 rfl) ?_
  refine va_get (D := (dC, dI)) (ci := 9) (v := .int 1) (C := RX9) (T := TX9) (N := 8) hx hb hts inlX9 hown hK hP 0 rfl rfl 2 (by decide) (hts _ m_290) (fun _ h9 => h9) rfl dX9_append_31 ?_
  refine lv_iload_n hx hb dX9_append_34 rfl (lv_at hl 2 rfl) ?_
  refine lv_iload_n hx hb dX9_append_35 rfl (lv_at hl 0 rfl) ?_
  refine lv_iushr hx hb dX9_append_36 rfl ?_
  refine lv_topi (fun z_5 ez_5 => ?_)
  refine lv_i2b hx hb dX9_append_37 rfl ?_
  refine lv_topi (fun z_6 ez_6 => ?_)
  refine va_bast hx hb hK hP hD hS 1 2 rfl rfl vi_1_1600 dX9_append_38 (fun H locs hP hD hS => ?_)
  generalize upd (f_3) (Int32.toNatClampNeg 1) (vp_nar .byte z_6) = f_7 at hP hD
  have hP : va_P (dC, dI) classes [(h0, .inr (9, [.ref h1, .ref h2, .int 1, .int 0, .int 0, .int 0, .int 0, .long 0])), (h1, .inl (cy 2, 1600, .inl f_7))] H := hP
  have hD : va_D A [(h0, .inr (9, [.ref h1, .ref h2, .int 1, .int 0, .int 0, .int 0, .int 0, .long 0])), (h1, .inl (cy 2, 1600, .inl f_7))] := hD
  refine lv_aload_n hx hb dX9_append_39 rfl (lv_at hl 1 rfl) ?_
  refine lv_dup hx hb dX9_append_40 rfl ?_
  refine va_get (D := (dC, dI)) (ci := 9) (v := .int 1) (C := RX9) (T := TX9) (N := 8) hx hb hts inlX9 hown hK hP 0 rfl rfl 2 (by decide) (hts _ m_290) (fun _ h9 => h9) rfl dX9_append_41 ?_
  refine lv_iconst (v := 1) hx hb dX9_append_44 (by decide +kernel) ?_
  refine lv_iadd hx hb dX9_append_45 ?_
  refine lv_topi (fun z_8 ez_8 => ?_)
  obtain rfl : z_8 = 2 := ez_8.trans (by decide +kernel)
  refine va_put (D := (dC, dI)) (ci := 9) (v := .int 2) (ty := .int) (C := RX9) (T := TX9) (N := 8) hx hb hts inlX9 tyX9 tyX9_ok nmX9 hown hK hP hD hS 0 rfl rfl 2 (by decide) (hts _ m_290) (fun _ h9 => h9) rfl (by decide +kernel) rfl rfl (Nat.le_of_ble_eq_true rfl) dX9_append_46 (fun H locs hP hD hS => ?_)
  have hP : va_P (dC, dI) classes [(h0, .inr (9, [.ref h1, .ref h2, .int 2, .int 0, .int 0, .int 0, .int 0, .long 0])), (h1, .inl (cy 2, 1600, .inl f_7))] H := hP
  have hD : va_D A [(h0, .inr (9, [.ref h1, .ref h2, .int 2, .int 0, .int 0, .int 0, .int 0, .long 0])), (h1, .inl (cy 2, 1600, .inl f_7))] := hD
  refine lv_iinc (v := 8) (lv' := [(2, .int 8), (0, .ref h0), (1, .int p0)]) hx hb dX9_append_49 hl (k := 0) rfl (by decide +kernel) (by decide) rfl (fun ls hl => ?_)
  refine lv_goto (tgt := 3) hx hb dX9_append_52 (by decide) ?_
  refine lv_iload_n hx hb dX9_append_3 rfl (lv_at hl 0 rfl) ?_
  refine lv_if_lt (tgt := 55) hx hb dX9_append_4 (by decide) (fun c_ => absurd c_ (by decide +kernel)) (fun _ => ?_)
  refine lv_aload_n hx hb dX9_append_7 rfl (lv_at hl 1 rfl) ?_
  refine va_get (D := (dC, dI)) (ci := 9) (v := .int 2) (C := RX9) (T := TX9) (N := 8) hx hb hts inlX9 hown hK hP 0 rfl rfl 2 (by decide) (hts _ m_290) (fun _ h9 => h9) rfl dX9_append_8 ?_
  refine lv_if_lt (tgt := 49) hx hb dX9_append_11 (by decide) (fun c_ => absurd c_ (by decide +kernel)) (fun _ => ?_)
  refine lv_aload_n hx hb dX9_append_14 rfl (lv_at hl 1 rfl) ?_
  refine va_get (D := (dC, dI)) (ci := 9) (v := .int 2) (C := RX9) (T := TX9) (N := 8) hx hb hts inlX9 hown hK hP 0 rfl rfl 2 (by decide) (hts _ m_290) (fun _ h9 => h9) rfl dX9_append_15 ?_
  refine lv_aload_n hx hb dX9_append_18 rfl (lv_at hl 1 rfl) ?_
  refine va_get (D := (dC, dI)) (ci := 9) (v := .ref h1) (C := RX9) (T := TX9) (N := 8) hx hb hts inlX9 hown hK hP 0 rfl rfl 0 (by decide) (hts _ m_62) (fun _ h9 => h9) rfl dX9_append_19 ?_
  refine va_alen (v := 1600) hx hb hK hP 1 2 rfl rfl rfl dX9_append_22 ?_
  refine lv_icmp_ge (tgt := 49) hx hb dX9_append_23 (by decide) (fun c_ => absurd c_ (by decide +kernel)) (fun _ => ?_)
  refine lv_aload_n hx hb dX9_append_26 rfl (lv_at hl 1 rfl) ?_
  refine va_get (D := (dC, dI)) (ci := 9) (v := .ref h1) (C := RX9) (T := TX9) (N := 8) hx hb hts inlX9 hown hK hP 0 rfl rfl 0 (by decide) (hts _ m_62) (fun _ h9 => h9) rfl dX9_append_27 ?_
  refine lv_aload_n hx hb dX9_append_30 rfl (lv_at hl 1 rfl) ?_
  refine va_get (D := (dC, dI)) (ci := 9) (v := .int 2) (C := RX9) (T := TX9) (N := 8) hx hb hts inlX9 hown hK hP 0 rfl rfl 2 (by decide) (hts _ m_290) (fun _ h9 => h9) rfl dX9_append_31 ?_
  refine lv_iload_n hx hb dX9_append_34 rfl (lv_at hl 2 rfl) ?_
  refine lv_iload_n hx hb dX9_append_35 rfl (lv_at hl 0 rfl) ?_
  refine lv_iushr hx hb dX9_append_36 rfl ?_
  refine lv_topi (fun z_9 ez_9 => ?_)
  refine lv_i2b hx hb dX9_append_37 rfl ?_
  refine lv_topi (fun z_10 ez_10 => ?_)
  refine va_bast hx hb hK hP hD hS 1 2 rfl rfl vi_2_1600 dX9_append_38 (fun H locs hP hD hS => ?_)
  generalize upd (f_7) (Int32.toNatClampNeg 2) (vp_nar .byte z_10) = f_11 at hP hD
  have hP : va_P (dC, dI) classes [(h0, .inr (9, [.ref h1, .ref h2, .int 2, .int 0, .int 0, .int 0, .int 0, .long 0])), (h1, .inl (cy 2, 1600, .inl f_11))] H := hP
  have hD : va_D A [(h0, .inr (9, [.ref h1, .ref h2, .int 2, .int 0, .int 0, .int 0, .int 0, .long 0])), (h1, .inl (cy 2, 1600, .inl f_11))] := hD
  refine lv_aload_n hx hb dX9_append_39 rfl (lv_at hl 1 rfl) ?_
  refine lv_dup hx hb dX9_append_40 rfl ?_
  refine va_get (D := (dC, dI)) (ci := 9) (v := .int 2) (C := RX9) (T := TX9) (N := 8) hx hb hts inlX9 hown hK hP 0 rfl rfl 2 (by decide) (hts _ m_290) (fun _ h9 => h9) rfl dX9_append_41 ?_
  refine lv_iconst (v := 1) hx hb dX9_append_44 (by decide +kernel) ?_
  refine lv_iadd hx hb dX9_append_45 ?_
  refine lv_topi (fun z_12 ez_12 => ?_)
  obtain rfl : z_12 = 3 := ez_12.trans (by decide +kernel)
  refine va_put (D := (dC, dI)) (ci := 9) (v := .int 3) (ty := .int) (C := RX9) (T := TX9) (N := 8) hx hb hts inlX9 tyX9 tyX9_ok nmX9 hown hK hP hD hS 0 rfl rfl 2 (by decide) (hts _ m_290) (fun _ h9 => h9) rfl (by decide +kernel) rfl rfl (Nat.le_of_ble_eq_true rfl) dX9_append_46 (fun H locs hP hD hS => ?_)
  have hP : va_P (dC, dI) classes [(h0, .inr (9, [.ref h1, .ref h2, .int 3, .int 0, .int 0, .int 0, .int 0, .long 0])), (h1, .inl (cy 2, 1600, .inl f_11))] H := hP
  have hD : va_D A [(h0, .inr (9, [.ref h1, .ref h2, .int 3, .int 0, .int 0, .int 0, .int 0, .long 0])), (h1, .inl (cy 2, 1600, .inl f_11))] := hD
  refine lv_iinc (v := 0) (lv' := [(2, .int 0), (0, .ref h0), (1, .int p0)]) hx hb dX9_append_49 hl (k := 0) rfl (by decide +kernel) (by decide) rfl (fun ls hl => ?_)
  refine lv_goto (tgt := 3) hx hb dX9_append_52 (by decide) ?_
  refine lv_iload_n hx hb dX9_append_3 rfl (lv_at hl 0 rfl) ?_
  refine lv_if_lt (tgt := 55) hx hb dX9_append_4 (by decide) (fun c_ => absurd c_ (by decide +kernel)) (fun _ => ?_)
  refine lv_aload_n hx hb dX9_append_7 rfl (lv_at hl 1 rfl) ?_
  refine va_get (D := (dC, dI)) (ci := 9) (v := .int 3) (C := RX9) (T := TX9) (N := 8) hx hb hts inlX9 hown hK hP 0 rfl rfl 2 (by decide) (hts _ m_290) (fun _ h9 => h9) rfl dX9_append_8 ?_
  refine lv_if_lt (tgt := 49) hx hb dX9_append_11 (by decide) (fun c_ => absurd c_ (by decide +kernel)) (fun _ => ?_)
  refine lv_aload_n hx hb dX9_append_14 rfl (lv_at hl 1 rfl) ?_
  refine va_get (D := (dC, dI)) (ci := 9) (v := .int 3) (C := RX9) (T := TX9) (N := 8) hx hb hts inlX9 hown hK hP 0 rfl rfl 2 (by decide) (hts _ m_290) (fun _ h9 => h9) rfl dX9_append_15 ?_
  refine lv_aload_n hx hb dX9_append_18 rfl (lv_at hl 1 rfl) ?_
  refine va_get (D := (dC, dI)) (ci := 9) (v := .ref h1) (C := RX9) (T := TX9) (N := 8) hx hb hts inlX9 hown hK hP 0 rfl rfl 0 (by decide) (hts _ m_62) (fun _ h9 => h9) rfl dX9_append_19 ?_
  refine va_alen (v := 1600) hx hb hK hP 1 2 rfl rfl rfl dX9_append_22 ?_
  refine lv_icmp_ge (tgt := 49) hx hb dX9_append_23 (by decide) (fun c_ => absurd c_ (by decide +kernel)) (fun _ => ?_)
  refine lv_aload_n hx hb dX9_append_26 rfl (lv_at hl 1 rfl) ?_
  refine va_get (D := (dC, dI)) (ci := 9) (v := .ref h1) (C := RX9) (T := TX9) (N := 8) hx hb hts inlX9 hown hK hP 0 rfl rfl 0 (by decide) (hts _ m_62) (fun _ h9 => h9) rfl dX9_append_27 ?_
  refine lv_aload_n hx hb dX9_append_30 rfl (lv_at hl 1 rfl) ?_
  refine va_get (D := (dC, dI)) (ci := 9) (v := .int 3) (C := RX9) (T := TX9) (N := 8) hx hb hts inlX9 hown hK hP 0 rfl rfl 2 (by decide) (hts _ m_290) (fun _ h9 => h9) rfl dX9_append_31 ?_
  refine lv_iload_n hx hb dX9_append_34 rfl (lv_at hl 2 rfl) ?_
  refine lv_iload_n hx hb dX9_append_35 rfl (lv_at hl 0 rfl) ?_
  refine lv_iushr hx hb dX9_append_36 rfl ?_
  refine lv_topi (fun z_13 ez_13 => ?_)
  refine lv_i2b hx hb dX9_append_37 rfl ?_
  refine lv_topi (fun z_14 ez_14 => ?_)
  refine va_bast hx hb hK hP hD hS 1 2 rfl rfl vi_3_1600 dX9_append_38 (fun H locs hP hD hS => ?_)
  generalize upd (f_11) (Int32.toNatClampNeg 3) (vp_nar .byte z_14) = f_15 at hP hD
  have hP : va_P (dC, dI) classes [(h0, .inr (9, [.ref h1, .ref h2, .int 3, .int 0, .int 0, .int 0, .int 0, .long 0])), (h1, .inl (cy 2, 1600, .inl f_15))] H := hP
  have hD : va_D A [(h0, .inr (9, [.ref h1, .ref h2, .int 3, .int 0, .int 0, .int 0, .int 0, .long 0])), (h1, .inl (cy 2, 1600, .inl f_15))] := hD
  refine lv_aload_n hx hb dX9_append_39 rfl (lv_at hl 1 rfl) ?_
  refine lv_dup hx hb dX9_append_40 rfl ?_
  refine va_get (D := (dC, dI)) (ci := 9) (v := .int 3) (C := RX9) (T := TX9) (N := 8) hx hb hts inlX9 hown hK hP 0 rfl rfl 2 (by decide) (hts _ m_290) (fun _ h9 => h9) rfl dX9_append_41 ?_
  refine lv_iconst (v := 1) hx hb dX9_append_44 (by decide +kernel) ?_
  refine lv_iadd hx hb dX9_append_45 ?_
  refine lv_topi (fun z_16 ez_16 => ?_)
  obtain rfl : z_16 = 4 := ez_16.trans (by decide +kernel)
  refine va_put (D := (dC, dI)) (ci := 9) (v := .int 4) (ty := .int) (C := RX9) (T := TX9) (N := 8) hx hb hts inlX9 tyX9 tyX9_ok nmX9 hown hK hP hD hS 0 rfl rfl 2 (by decide) (hts _ m_290) (fun _ h9 => h9) rfl (by decide +kernel) rfl rfl (Nat.le_of_ble_eq_true rfl) dX9_append_46 (fun H locs hP hD hS => ?_)
  have hP : va_P (dC, dI) classes [(h0, .inr (9, [.ref h1, .ref h2, .int 4, .int 0, .int 0, .int 0, .int 0, .long 0])), (h1, .inl (cy 2, 1600, .inl f_15))] H := hP
  have hD : va_D A [(h0, .inr (9, [.ref h1, .ref h2, .int 4, .int 0, .int 0, .int 0, .int 0, .long 0])), (h1, .inl (cy 2, 1600, .inl f_15))] := hD
  refine lv_iinc (v := (-8)) (lv' := [(2, .int (-8)), (0, .ref h0), (1, .int p0)]) hx hb dX9_append_49 hl (k := 0) rfl (by decide +kernel) (by decide) rfl (fun ls hl => ?_)
  refine lv_goto (tgt := 3) hx hb dX9_append_52 (by decide) ?_
  refine lv_iload_n hx hb dX9_append_3 rfl (lv_at hl 0 rfl) ?_
  refine lv_if_lt (tgt := 55) hx hb dX9_append_4 (by decide) (fun _ => ?_) (fun c_ => absurd (by decide +kernel) c_)
  have hP9 := hP.sub (ws' := [(h0, .inr (9, [.ref h1, .ref h2, .int 4, .int 0, .int 0, .int 0, .int 0, .long 0])), (h1, .inl (cy 2, 1600, .inl f_15))]) [0, 1] rfl
  have hD9 := hD.sub (ws' := [(h0, .inr (9, [.ref h1, .ref h2, .int 4, .int 0, .int 0, .int 0, .int 0, .long 0])), (h1, .inl (cy 2, 1600, .inl f_15))]) [0, 1] (by decide) rfl
  exact W.vret hx hb hr (fun t ht hW => ⟨⟨(), rfl, trivial, f_15, by rw [ht]; exact hP9, hD9⟩, hS.F ht⟩) hS.2.2 dX9_append_55
set_option maxHeartbeats 4000000 in
set_option maxRecDepth 100000 in
theorem kX9_append_2 (l : Launch) (dC : Nat → ClassId) (dI : Nat → Nat → Nat) (cy : Nat → ClassId) (h0 h1 h2 : Nat) (f0 : Nat → Int32) (p0 : Int32) (sz : Nat) : Met l yX9_append wmX9_append ({ frames := 0, cells := 0, slots := 0, locals := 0 }) (va_Pc [.ref h0, .int p0] (fun U => U.heap.size = sz ∧ va_P (dC, dI) classes [(h0, .inr (9, [.ref h1, .ref h2, .int 4, .int 0, .int 0, .int 0, .int 0, .long 0])), (h1, .inl (cy 2, 1600, .inl f0))] U.heap ∧ EV dC dI cy U ∧ va_D (fun _ => True) [(h0, .inr (9, [.ref h1, .ref h2, .int 4, .int 0, .int 0, .int 0, .int 0, .long 0])), (h1, .inl (cy 2, 1600, .inl f0))])) (va_Qv (S := Unit) (fun _ => True) (fun _ t => ∃ (f_15 : Nat → Int32), va_P (dC, dI) classes [(h0, .inr (9, [.ref h1, .ref h2, .int 8, .int 0, .int 0, .int 0, .int 0, .long 0])), (h1, .inl (cy 2, 1600, .inl f_15))] t.heap ∧ va_D (va_A [(h0, .inr (9, [.ref h1, .ref h2, .int 4, .int 0, .int 0, .int 0, .int 0, .long 0])), (h1, .inl (cy 2, 1600, .inl f0))] sz) [(h0, .inr (9, [.ref h1, .ref h2, .int 8, .int 0, .int 0, .int 0, .int 0, .long 0])), (h1, .inl (cy 2, 1600, .inl f_15))]) (va_A [(h0, .inr (9, [.ref h1, .ref h2, .int 4, .int 0, .int 0, .int 0, .int 0, .long 0])), (h1, .inl (cy 2, 1600, .inl f0))] sz)) 0 0 (va_A [(h0, .inr (9, [.ref h1, .ref h2, .int 4, .int 0, .int 0, .int 0, .int 0, .long 0])), (h1, .inl (cy 2, 1600, .inl f0))] sz) := by
  refine Met.ofW (cc := cX9_append) (maxL := 3) (ret := none) (by decide +kernel) rfl ?_
  intro p e s m args below meth c s₁ B hml hv
  obtain ⟨rfl, hsz, hP, hE, hD0⟩ := hv
  have hK := hE.1
  have hN := hE.2.1
  have hx := B.exec
  have hb := B.bytes
  have hr := B.returns
  have hts0 := atoms_spec (ws := wmX9_append) B.pre
  have hts : ∀ w ∈ wsL_law, w.before _ s = true := fun w h => hts0 w (List.mem_cons_of_mem _ h)
  have hown : s.vm.findClass RX9 = some m.cls := findClass_of_methodNamed B.named
  have hlocks := B.notSynchronized
  subst hsz
  have hD := hD0.self (sz := s.heap.size)
  generalize hAe : va_A [(h0, .inr (9, [.ref h1, .ref h2, .int 4, .int 0, .int 0, .int 0, .int 0, .long 0])), (h1, .inl (cy 2, 1600, .inl f0))] s.heap.size = A at hD ⊢
  have hA : ∀ q : Nat, s.heap.size ≤ q → A q := fun q h => by rw [← hAe]; exact Or.inr h
  have hS : va_S A s.heap s.heap [] := va_S.rf
  have hP : va_P (dC, dI) classes [(h0, .inr (9, [.ref h1, .ref h2, .int 4, .int 0, .int 0, .int 0, .int 0, .long 0])), (h1, .inl (cy 2, 1600, .inl f0))] s.heap := hP
  have hl := lv_entry ([.ref h0, .int p0]) (n := 3) (Nat.le_of_ble_eq_true rfl)
  rw [lg_entry_eq]
  generalize (lg_sl ([.ref h0, .int p0]) ++ List.replicate (3 - (lg_sl ([.ref h0, .int p0])).length) Slot.unset).toArray = ls at hl ⊢
  have hl : lv_has ls 3 [(0, .ref h0), (1, .int p0)] := hl
  refine lv_bipush (v := 24) hx hb dX9_append_0 (by decide +kernel) ?_
  refine lv_istore_n (lv' := [(2, .int 24), (0, .ref h0), (1, .int p0)]) hx hb dX9_append_2 rfl hl (by decide) rfl (fun ls hl => ?_)
  refine lv_iload_n hx hb dX9_append_3 rfl (lv_at hl 0 rfl) ?_
  refine lv_if_lt (tgt := 55) hx hb dX9_append_4 (by decide) (fun c_ => absurd c_ (by decide +kernel)) (fun _ => ?_)
  refine lv_aload_n hx hb dX9_append_7 rfl (lv_at hl 1 rfl) ?_
  refine va_get (D := (dC, dI)) (ci := 9) (v := .int 4) (C := RX9) (T := TX9) (N := 8) hx hb hts inlX9 hown hK hP 0 rfl rfl 2 (by decide) (hts _ m_290) (fun _ h9 => h9) rfl dX9_append_8 ?_
  refine lv_if_lt (tgt := 49) hx hb dX9_append_11 (by decide) (fun c_ => absurd c_ (by decide +kernel)) (fun _ => ?_)
  refine lv_aload_n hx hb dX9_append_14 rfl (lv_at hl 1 rfl) ?_
  refine va_get (D := (dC, dI)) (ci := 9) (v := .int 4) (C := RX9) (T := TX9) (N := 8) hx hb hts inlX9 hown hK hP 0 rfl rfl 2 (by decide) (hts _ m_290) (fun _ h9 => h9) rfl dX9_append_15 ?_
  refine lv_aload_n hx hb dX9_append_18 rfl (lv_at hl 1 rfl) ?_
  refine va_get (D := (dC, dI)) (ci := 9) (v := .ref h1) (C := RX9) (T := TX9) (N := 8) hx hb hts inlX9 hown hK hP 0 rfl rfl 0 (by decide) (hts _ m_62) (fun _ h9 => h9) rfl dX9_append_19 ?_
  refine va_alen (v := 1600) hx hb hK hP 1 2 rfl rfl rfl dX9_append_22 ?_
  refine lv_icmp_ge (tgt := 49) hx hb dX9_append_23 (by decide) (fun c_ => absurd c_ (by decide +kernel)) (fun _ => ?_)
  refine lv_aload_n hx hb dX9_append_26 rfl (lv_at hl 1 rfl) ?_
  refine va_get (D := (dC, dI)) (ci := 9) (v := .ref h1) (C := RX9) (T := TX9) (N := 8) hx hb hts inlX9 hown hK hP 0 rfl rfl 0 (by decide) (hts _ m_62) (fun _ h9 => h9) rfl dX9_append_27 ?_
  refine lv_aload_n hx hb dX9_append_30 rfl (lv_at hl 1 rfl) ?_
  refine va_get (D := (dC, dI)) (ci := 9) (v := .int 4) (C := RX9) (T := TX9) (N := 8) hx hb hts inlX9 hown hK hP 0 rfl rfl 2 (by decide) (hts _ m_290) (fun _ h9 => h9) rfl dX9_append_31 ?_
  refine lv_iload_n hx hb dX9_append_34 rfl (lv_at hl 2 rfl) ?_
  refine lv_iload_n hx hb dX9_append_35 rfl (lv_at hl 0 rfl) ?_
  refine lv_iushr hx hb dX9_append_36 rfl ?_
  refine lv_topi (fun z_1 ez_1 => ?_)
  refine lv_i2b hx hb dX9_append_37 rfl ?_
  refine lv_topi (fun z_2 ez_2 => ?_)
  refine va_bast hx hb hK hP hD hS 1 2 rfl rfl vi_4_1600 dX9_append_38 (fun H locs hP hD hS => ?_)
  generalize upd (f0) (Int32.toNatClampNeg 4) (vp_nar .byte z_2) = f_3 at hP hD
  have hP : va_P (dC, dI) classes [(h0, .inr (9, [.ref h1, .ref h2, .int 4, .int 0, .int 0, .int 0, .int 0, .long 0])), (h1, .inl (cy 2, 1600, .inl f_3))] H := hP
  have hD : va_D A [(h0, .inr (9, [.ref h1, .ref h2, .int 4, .int 0, .int 0, .int 0, .int 0, .long 0])), (h1, .inl (cy 2, 1600, .inl f_3))] := hD
  refine lv_aload_n hx hb dX9_append_39 rfl (lv_at hl 1 rfl) ?_
  refine lv_dup hx hb dX9_append_40 rfl ?_
  refine va_get (D := (dC, dI)) (ci := 9) (v := .int 4) (C := RX9) (T := TX9) (N := 8) hx hb hts inlX9 hown hK hP 0 rfl rfl 2 (by decide) (hts _ m_290) (fun _ h9 => h9) rfl dX9_append_41 ?_
  refine lv_iconst (v := 1) hx hb dX9_append_44 (by decide +kernel) ?_
  refine lv_iadd hx hb dX9_append_45 ?_
  refine lv_topi (fun z_4 ez_4 => ?_)
  obtain rfl : z_4 = 5 := ez_4.trans (by decide +kernel)
  refine va_put (D := (dC, dI)) (ci := 9) (v := .int 5) (ty := .int) (C := RX9) (T := TX9) (N := 8) hx hb hts inlX9 tyX9 tyX9_ok nmX9 hown hK hP hD hS 0 rfl rfl 2 (by decide) (hts _ m_290) (fun _ h9 => h9) rfl (by decide +kernel) rfl rfl (Nat.le_of_ble_eq_true rfl) dX9_append_46 (fun H locs hP hD hS => ?_)
  have hP : va_P (dC, dI) classes [(h0, .inr (9, [.ref h1, .ref h2, .int 5, .int 0, .int 0, .int 0, .int 0, .long 0])), (h1, .inl (cy 2, 1600, .inl f_3))] H := hP
  have hD : va_D A [(h0, .inr (9, [.ref h1, .ref h2, .int 5, .int 0, .int 0, .int 0, .int 0, .long 0])), (h1, .inl (cy 2, 1600, .inl f_3))] := hD
  refine lv_iinc (v := 16) (lv' := [(2, .int 16), (0, .ref h0), (1, .int p0)]) hx hb dX9_append_49 hl (k := 0) rfl (by decide +kernel) (by decide) rfl (fun ls hl => ?_)
  refine lv_goto (tgt := 3) hx hb dX9_append_52 (by decide) ?_
  refine lv_iload_n hx hb dX9_append_3 rfl (lv_at hl 0 rfl) ?_
  refine lv_if_lt (tgt := 55) hx hb dX9_append_4 (by decide) (fun c_ => absurd c_ (by decide +kernel)) (fun _ => ?_)
  refine lv_aload_n hx hb dX9_append_7 rfl (lv_at hl 1 rfl) ?_
  refine va_get (D := (dC, dI)) (ci := 9) (v := .int 5) (C := RX9) (T := TX9) (N := 8) hx hb hts inlX9 hown hK hP 0 rfl rfl 2 (by decide) (hts _ m_290) (fun _ h9 => h9) rfl dX9_append_8 ?_
  refine lv_if_lt (tgt := 49) hx hb dX9_append_11 (by decide) (fun c_ => absurd c_ (by decide +kernel)) (fun _ => ?_)
  refine lv_aload_n hx hb dX9_append_14 rfl (lv_at hl 1 rfl) ?_
  refine va_get (D := (dC, dI)) (ci := 9) (v := .int 5) (C := RX9) (T := TX9) (N := 8) hx hb hts inlX9 hown hK hP 0 rfl rfl 2 (by decide) (hts _ m_290) (fun _ h9 => h9) rfl dX9_append_15 ?_
  refine lv_aload_n hx hb dX9_append_18 rfl (lv_at hl 1 rfl) ?_
  refine va_get (D := (dC, dI)) (ci := 9) (v := .ref h1) (C := RX9) (T := TX9) (N := 8) hx hb hts inlX9 hown hK hP 0 rfl rfl 0 (by decide) (hts _ m_62) (fun _ h9 => h9) rfl dX9_append_19 ?_
  refine va_alen (v := 1600) hx hb hK hP 1 2 rfl rfl rfl dX9_append_22 ?_
  refine lv_icmp_ge (tgt := 49) hx hb dX9_append_23 (by decide) (fun c_ => absurd c_ (by decide +kernel)) (fun _ => ?_)
  refine lv_aload_n hx hb dX9_append_26 rfl (lv_at hl 1 rfl) ?_
  refine va_get (D := (dC, dI)) (ci := 9) (v := .ref h1) (C := RX9) (T := TX9) (N := 8) hx hb hts inlX9 hown hK hP 0 rfl rfl 0 (by decide) (hts _ m_62) (fun _ h9 => h9) rfl dX9_append_27 ?_
  refine lv_aload_n hx hb dX9_append_30 rfl (lv_at hl 1 rfl) ?_
  refine va_get (D := (dC, dI)) (ci := 9) (v := .int 5) (C := RX9) (T := TX9) (N := 8) hx hb hts inlX9 hown hK hP 0 rfl rfl 2 (by decide) (hts _ m_290) (fun _ h9 => h9) rfl dX9_append_31 ?_
  refine lv_iload_n hx hb dX9_append_34 rfl (lv_at hl 2 rfl) ?_
  refine lv_iload_n hx hb dX9_append_35 rfl (lv_at hl 0 rfl) ?_
  refine lv_iushr hx hb dX9_append_36 rfl ?_
  refine lv_topi (fun z_5 ez_5 => ?_)
  refine lv_i2b hx hb dX9_append_37 rfl ?_
  refine lv_topi (fun z_6 ez_6 => ?_)
  refine va_bast hx hb hK hP hD hS 1 2 rfl rfl vi_5_1600 dX9_append_38 (fun H locs hP hD hS => ?_)
  generalize upd (f_3) (Int32.toNatClampNeg 5) (vp_nar .byte z_6) = f_7 at hP hD
  have hP : va_P (dC, dI) classes [(h0, .inr (9, [.ref h1, .ref h2, .int 5, .int 0, .int 0, .int 0, .int 0, .long 0])), (h1, .inl (cy 2, 1600, .inl f_7))] H := hP
  have hD : va_D A [(h0, .inr (9, [.ref h1, .ref h2, .int 5, .int 0, .int 0, .int 0, .int 0, .long 0])), (h1, .inl (cy 2, 1600, .inl f_7))] := hD
  refine lv_aload_n hx hb dX9_append_39 rfl (lv_at hl 1 rfl) ?_
  refine lv_dup hx hb dX9_append_40 rfl ?_
  refine va_get (D := (dC, dI)) (ci := 9) (v := .int 5) (C := RX9) (T := TX9) (N := 8) hx hb hts inlX9 hown hK hP 0 rfl rfl 2 (by decide) (hts _ m_290) (fun _ h9 => h9) rfl dX9_append_41 ?_
  refine lv_iconst (v := 1) hx hb dX9_append_44 (by decide +kernel) ?_
  refine lv_iadd hx hb dX9_append_45 ?_
  refine lv_topi (fun z_8 ez_8 => ?_)
  obtain rfl : z_8 = 6 := ez_8.trans (by decide +kernel)
  refine va_put (D := (dC, dI)) (ci := 9) (v := .int 6) (ty := .int) (C := RX9) (T := TX9) (N := 8) hx hb hts inlX9 tyX9 tyX9_ok nmX9 hown hK hP hD hS 0 rfl rfl 2 (by decide) (hts _ m_290) (fun _ h9 => h9) rfl (by decide +kernel) rfl rfl (Nat.le_of_ble_eq_true rfl) dX9_append_46 (fun H locs hP hD hS => ?_)
  have hP : va_P (dC, dI) classes [(h0, .inr (9, [.ref h1, .ref h2, .int 6, .int 0, .int 0, .int 0, .int 0, .long 0])), (h1, .inl (cy 2, 1600, .inl f_7))] H := hP
  have hD : va_D A [(h0, .inr (9, [.ref h1, .ref h2, .int 6, .int 0, .int 0, .int 0, .int 0, .long 0])), (h1, .inl (cy 2, 1600, .inl f_7))] := hD
  refine lv_iinc (v := 8) (lv' := [(2, .int 8), (0, .ref h0), (1, .int p0)]) hx hb dX9_append_49 hl (k := 0) rfl (by decide +kernel) (by decide) rfl (fun ls hl => ?_)
  refine lv_goto (tgt := 3) hx hb dX9_append_52 (by decide) ?_
  refine lv_iload_n hx hb dX9_append_3 rfl (lv_at hl 0 rfl) ?_
  refine lv_if_lt (tgt := 55) hx hb dX9_append_4 (by decide) (fun c_ => absurd c_ (by decide +kernel)) (fun _ => ?_)
  refine lv_aload_n hx hb dX9_append_7 rfl (lv_at hl 1 rfl) ?_
  refine va_get (D := (dC, dI)) (ci := 9) (v := .int 6) (C := RX9) (T := TX9) (N := 8) hx hb hts inlX9 hown hK hP 0 rfl rfl 2 (by decide) (hts _ m_290) (fun _ h9 => h9) rfl dX9_append_8 ?_
  refine lv_if_lt (tgt := 49) hx hb dX9_append_11 (by decide) (fun c_ => absurd c_ (by decide +kernel)) (fun _ => ?_)
  refine lv_aload_n hx hb dX9_append_14 rfl (lv_at hl 1 rfl) ?_
  refine va_get (D := (dC, dI)) (ci := 9) (v := .int 6) (C := RX9) (T := TX9) (N := 8) hx hb hts inlX9 hown hK hP 0 rfl rfl 2 (by decide) (hts _ m_290) (fun _ h9 => h9) rfl dX9_append_15 ?_
  refine lv_aload_n hx hb dX9_append_18 rfl (lv_at hl 1 rfl) ?_
  refine va_get (D := (dC, dI)) (ci := 9) (v := .ref h1) (C := RX9) (T := TX9) (N := 8) hx hb hts inlX9 hown hK hP 0 rfl rfl 0 (by decide) (hts _ m_62) (fun _ h9 => h9) rfl dX9_append_19 ?_
  refine va_alen (v := 1600) hx hb hK hP 1 2 rfl rfl rfl dX9_append_22 ?_
  refine lv_icmp_ge (tgt := 49) hx hb dX9_append_23 (by decide) (fun c_ => absurd c_ (by decide +kernel)) (fun _ => ?_)
  refine lv_aload_n hx hb dX9_append_26 rfl (lv_at hl 1 rfl) ?_
  refine va_get (D := (dC, dI)) (ci := 9) (v := .ref h1) (C := RX9) (T := TX9) (N := 8) hx hb hts inlX9 hown hK hP 0 rfl rfl 0 (by decide) (hts _ m_62) (fun _ h9 => h9) rfl dX9_append_27 ?_
  refine lv_aload_n hx hb dX9_append_30 rfl (lv_at hl 1 rfl) ?_
  refine va_get (D := (dC, dI)) (ci := 9) (v := .int 6) (C := RX9) (T := TX9) (N := 8) hx hb hts inlX9 hown hK hP 0 rfl rfl 2 (by decide) (hts _ m_290) (fun _ h9 => h9) rfl dX9_append_31 ?_
  refine lv_iload_n hx hb dX9_append_34 rfl (lv_at hl 2 rfl) ?_
  refine lv_iload_n hx hb dX9_append_35 rfl (lv_at hl 0 rfl) ?_
  refine lv_iushr hx hb dX9_append_36 rfl ?_
  refine lv_topi (fun z_9 ez_9 => ?_)
  refine lv_i2b hx hb dX9_append_37 rfl ?_
  refine lv_topi (fun z_10 ez_10 => ?_)
  refine va_bast hx hb hK hP hD hS 1 2 rfl rfl vi_6_1600 dX9_append_38 (fun H locs hP hD hS => ?_)
  generalize upd (f_7) (Int32.toNatClampNeg 6) (vp_nar .byte z_10) = f_11 at hP hD
  have hP : va_P (dC, dI) classes [(h0, .inr (9, [.ref h1, .ref h2, .int 6, .int 0, .int 0, .int 0, .int 0, .long 0])), (h1, .inl (cy 2, 1600, .inl f_11))] H := hP
  have hD : va_D A [(h0, .inr (9, [.ref h1, .ref h2, .int 6, .int 0, .int 0, .int 0, .int 0, .long 0])), (h1, .inl (cy 2, 1600, .inl f_11))] := hD
  refine lv_aload_n hx hb dX9_append_39 rfl (lv_at hl 1 rfl) ?_
  refine lv_dup hx hb dX9_append_40 rfl ?_
  refine va_get (D := (dC, dI)) (ci := 9) (v := .int 6) (C := RX9) (T := TX9) (N := 8) hx hb hts inlX9 hown hK hP 0 rfl rfl 2 (by decide) (hts _ m_290) (fun _ h9 => h9) rfl dX9_append_41 ?_
  refine lv_iconst (v := 1) hx hb dX9_append_44 (by decide +kernel) ?_
  refine lv_iadd hx hb dX9_append_45 ?_
  refine lv_topi (fun z_12 ez_12 => ?_)
  obtain rfl : z_12 = 7 := ez_12.trans (by decide +kernel)
  refine va_put (D := (dC, dI)) (ci := 9) (v := .int 7) (ty := .int) (C := RX9) (T := TX9) (N := 8) hx hb hts inlX9 tyX9 tyX9_ok nmX9 hown hK hP hD hS 0 rfl rfl 2 (by decide) (hts _ m_290) (fun _ h9 => h9) rfl (by decide +kernel) rfl rfl (Nat.le_of_ble_eq_true rfl) dX9_append_46 (fun H locs hP hD hS => ?_)
  have hP : va_P (dC, dI) classes [(h0, .inr (9, [.ref h1, .ref h2, .int 7, .int 0, .int 0, .int 0, .int 0, .long 0])), (h1, .inl (cy 2, 1600, .inl f_11))] H := hP
  have hD : va_D A [(h0, .inr (9, [.ref h1, .ref h2, .int 7, .int 0, .int 0, .int 0, .int 0, .long 0])), (h1, .inl (cy 2, 1600, .inl f_11))] := hD
  refine lv_iinc (v := 0) (lv' := [(2, .int 0), (0, .ref h0), (1, .int p0)]) hx hb dX9_append_49 hl (k := 0) rfl (by decide +kernel) (by decide) rfl (fun ls hl => ?_)
  refine lv_goto (tgt := 3) hx hb dX9_append_52 (by decide) ?_
  refine lv_iload_n hx hb dX9_append_3 rfl (lv_at hl 0 rfl) ?_
  refine lv_if_lt (tgt := 55) hx hb dX9_append_4 (by decide) (fun c_ => absurd c_ (by decide +kernel)) (fun _ => ?_)
  refine lv_aload_n hx hb dX9_append_7 rfl (lv_at hl 1 rfl) ?_
  refine va_get (D := (dC, dI)) (ci := 9) (v := .int 7) (C := RX9) (T := TX9) (N := 8) hx hb hts inlX9 hown hK hP 0 rfl rfl 2 (by decide) (hts _ m_290) (fun _ h9 => h9) rfl dX9_append_8 ?_
  refine lv_if_lt (tgt := 49) hx hb dX9_append_11 (by decide) (fun c_ => absurd c_ (by decide +kernel)) (fun _ => ?_)
  refine lv_aload_n hx hb dX9_append_14 rfl (lv_at hl 1 rfl) ?_
  refine va_get (D := (dC, dI)) (ci := 9) (v := .int 7) (C := RX9) (T := TX9) (N := 8) hx hb hts inlX9 hown hK hP 0 rfl rfl 2 (by decide) (hts _ m_290) (fun _ h9 => h9) rfl dX9_append_15 ?_
  refine lv_aload_n hx hb dX9_append_18 rfl (lv_at hl 1 rfl) ?_
  refine va_get (D := (dC, dI)) (ci := 9) (v := .ref h1) (C := RX9) (T := TX9) (N := 8) hx hb hts inlX9 hown hK hP 0 rfl rfl 0 (by decide) (hts _ m_62) (fun _ h9 => h9) rfl dX9_append_19 ?_
  refine va_alen (v := 1600) hx hb hK hP 1 2 rfl rfl rfl dX9_append_22 ?_
  refine lv_icmp_ge (tgt := 49) hx hb dX9_append_23 (by decide) (fun c_ => absurd c_ (by decide +kernel)) (fun _ => ?_)
  refine lv_aload_n hx hb dX9_append_26 rfl (lv_at hl 1 rfl) ?_
  refine va_get (D := (dC, dI)) (ci := 9) (v := .ref h1) (C := RX9) (T := TX9) (N := 8) hx hb hts inlX9 hown hK hP 0 rfl rfl 0 (by decide) (hts _ m_62) (fun _ h9 => h9) rfl dX9_append_27 ?_
  refine lv_aload_n hx hb dX9_append_30 rfl (lv_at hl 1 rfl) ?_
  refine va_get (D := (dC, dI)) (ci := 9) (v := .int 7) (C := RX9) (T := TX9) (N := 8) hx hb hts inlX9 hown hK hP 0 rfl rfl 2 (by decide) (hts _ m_290) (fun _ h9 => h9) rfl dX9_append_31 ?_
  refine lv_iload_n hx hb dX9_append_34 rfl (lv_at hl 2 rfl) ?_
  refine lv_iload_n hx hb dX9_append_35 rfl (lv_at hl 0 rfl) ?_
  refine lv_iushr hx hb dX9_append_36 rfl ?_
  refine lv_topi (fun z_13 ez_13 => ?_)
  refine lv_i2b hx hb dX9_append_37 rfl ?_
  refine lv_topi (fun z_14 ez_14 => ?_)
  refine va_bast hx hb hK hP hD hS 1 2 rfl rfl vi_7_1600 dX9_append_38 (fun H locs hP hD hS => ?_)
  generalize upd (f_11) (Int32.toNatClampNeg 7) (vp_nar .byte z_14) = f_15 at hP hD
  have hP : va_P (dC, dI) classes [(h0, .inr (9, [.ref h1, .ref h2, .int 7, .int 0, .int 0, .int 0, .int 0, .long 0])), (h1, .inl (cy 2, 1600, .inl f_15))] H := hP
  have hD : va_D A [(h0, .inr (9, [.ref h1, .ref h2, .int 7, .int 0, .int 0, .int 0, .int 0, .long 0])), (h1, .inl (cy 2, 1600, .inl f_15))] := hD
  refine lv_aload_n hx hb dX9_append_39 rfl (lv_at hl 1 rfl) ?_
  refine lv_dup hx hb dX9_append_40 rfl ?_
  refine va_get (D := (dC, dI)) (ci := 9) (v := .int 7) (C := RX9) (T := TX9) (N := 8) hx hb hts inlX9 hown hK hP 0 rfl rfl 2 (by decide) (hts _ m_290) (fun _ h9 => h9) rfl dX9_append_41 ?_
  refine lv_iconst (v := 1) hx hb dX9_append_44 (by decide +kernel) ?_
  refine lv_iadd hx hb dX9_append_45 ?_
  refine lv_topi (fun z_16 ez_16 => ?_)
  obtain rfl : z_16 = 8 := ez_16.trans (by decide +kernel)
  refine va_put (D := (dC, dI)) (ci := 9) (v := .int 8) (ty := .int) (C := RX9) (T := TX9) (N := 8) hx hb hts inlX9 tyX9 tyX9_ok nmX9 hown hK hP hD hS 0 rfl rfl 2 (by decide) (hts _ m_290) (fun _ h9 => h9) rfl (by decide +kernel) rfl rfl (Nat.le_of_ble_eq_true rfl) dX9_append_46 (fun H locs hP hD hS => ?_)
  have hP : va_P (dC, dI) classes [(h0, .inr (9, [.ref h1, .ref h2, .int 8, .int 0, .int 0, .int 0, .int 0, .long 0])), (h1, .inl (cy 2, 1600, .inl f_15))] H := hP
  have hD : va_D A [(h0, .inr (9, [.ref h1, .ref h2, .int 8, .int 0, .int 0, .int 0, .int 0, .long 0])), (h1, .inl (cy 2, 1600, .inl f_15))] := hD
  refine lv_iinc (v := (-8)) (lv' := [(2, .int (-8)), (0, .ref h0), (1, .int p0)]) hx hb dX9_append_49 hl (k := 0) rfl (by decide +kernel) (by decide) rfl (fun ls hl => ?_)
  refine lv_goto (tgt := 3) hx hb dX9_append_52 (by decide) ?_
  refine lv_iload_n hx hb dX9_append_3 rfl (lv_at hl 0 rfl) ?_
  refine lv_if_lt (tgt := 55) hx hb dX9_append_4 (by decide) (fun _ => ?_) (fun c_ => absurd (by decide +kernel) c_)
  have hP9 := hP.sub (ws' := [(h0, .inr (9, [.ref h1, .ref h2, .int 8, .int 0, .int 0, .int 0, .int 0, .long 0])), (h1, .inl (cy 2, 1600, .inl f_15))]) [0, 1] rfl
  have hD9 := hD.sub (ws' := [(h0, .inr (9, [.ref h1, .ref h2, .int 8, .int 0, .int 0, .int 0, .int 0, .long 0])), (h1, .inl (cy 2, 1600, .inl f_15))]) [0, 1] (by decide) rfl
  exact W.vret hx hb hr (fun t ht hW => ⟨⟨(), rfl, trivial, f_15, by rw [ht]; exact hP9, hD9⟩, hS.F ht⟩) hS.2.2 dX9_append_55
set_option maxHeartbeats 4000000 in
set_option maxRecDepth 100000 in
theorem kX9_append_3 (l : Launch) (dC : Nat → ClassId) (dI : Nat → Nat → Nat) (cy : Nat → ClassId) (h0 h1 h2 : Nat) (f0 : Nat → Int32) (p0 : Int32) (sz : Nat) : Met l yX9_append wmX9_append ({ frames := 0, cells := 0, slots := 0, locals := 0 }) (va_Pc [.ref h0, .int p0] (fun U => U.heap.size = sz ∧ va_P (dC, dI) classes [(h0, .inr (9, [.ref h1, .ref h2, .int 8, .int 0, .int 0, .int 0, .int 0, .long 0])), (h1, .inl (cy 2, 1600, .inl f0))] U.heap ∧ EV dC dI cy U ∧ va_D (fun _ => True) [(h0, .inr (9, [.ref h1, .ref h2, .int 8, .int 0, .int 0, .int 0, .int 0, .long 0])), (h1, .inl (cy 2, 1600, .inl f0))])) (va_Qv (S := Unit) (fun _ => True) (fun _ t => ∃ (f_15 : Nat → Int32), va_P (dC, dI) classes [(h0, .inr (9, [.ref h1, .ref h2, .int 12, .int 0, .int 0, .int 0, .int 0, .long 0])), (h1, .inl (cy 2, 1600, .inl f_15))] t.heap ∧ va_D (va_A [(h0, .inr (9, [.ref h1, .ref h2, .int 8, .int 0, .int 0, .int 0, .int 0, .long 0])), (h1, .inl (cy 2, 1600, .inl f0))] sz) [(h0, .inr (9, [.ref h1, .ref h2, .int 12, .int 0, .int 0, .int 0, .int 0, .long 0])), (h1, .inl (cy 2, 1600, .inl f_15))]) (va_A [(h0, .inr (9, [.ref h1, .ref h2, .int 8, .int 0, .int 0, .int 0, .int 0, .long 0])), (h1, .inl (cy 2, 1600, .inl f0))] sz)) 0 0 (va_A [(h0, .inr (9, [.ref h1, .ref h2, .int 8, .int 0, .int 0, .int 0, .int 0, .long 0])), (h1, .inl (cy 2, 1600, .inl f0))] sz) := by
  refine Met.ofW (cc := cX9_append) (maxL := 3) (ret := none) (by decide +kernel) rfl ?_
  intro p e s m args below meth c s₁ B hml hv
  obtain ⟨rfl, hsz, hP, hE, hD0⟩ := hv
  have hK := hE.1
  have hN := hE.2.1
  have hx := B.exec
  have hb := B.bytes
  have hr := B.returns
  have hts0 := atoms_spec (ws := wmX9_append) B.pre
  have hts : ∀ w ∈ wsL_law, w.before _ s = true := fun w h => hts0 w (List.mem_cons_of_mem _ h)
  have hown : s.vm.findClass RX9 = some m.cls := findClass_of_methodNamed B.named
  have hlocks := B.notSynchronized
  subst hsz
  have hD := hD0.self (sz := s.heap.size)
  generalize hAe : va_A [(h0, .inr (9, [.ref h1, .ref h2, .int 8, .int 0, .int 0, .int 0, .int 0, .long 0])), (h1, .inl (cy 2, 1600, .inl f0))] s.heap.size = A at hD ⊢
  have hA : ∀ q : Nat, s.heap.size ≤ q → A q := fun q h => by rw [← hAe]; exact Or.inr h
  have hS : va_S A s.heap s.heap [] := va_S.rf
  have hP : va_P (dC, dI) classes [(h0, .inr (9, [.ref h1, .ref h2, .int 8, .int 0, .int 0, .int 0, .int 0, .long 0])), (h1, .inl (cy 2, 1600, .inl f0))] s.heap := hP
  have hl := lv_entry ([.ref h0, .int p0]) (n := 3) (Nat.le_of_ble_eq_true rfl)
  rw [lg_entry_eq]
  generalize (lg_sl ([.ref h0, .int p0]) ++ List.replicate (3 - (lg_sl ([.ref h0, .int p0])).length) Slot.unset).toArray = ls at hl ⊢
  have hl : lv_has ls 3 [(0, .ref h0), (1, .int p0)] := hl
  refine lv_bipush (v := 24) hx hb dX9_append_0 (by decide +kernel) ?_
  refine lv_istore_n (lv' := [(2, .int 24), (0, .ref h0), (1, .int p0)]) hx hb dX9_append_2 rfl hl (by decide) rfl (fun ls hl => ?_)
  refine lv_iload_n hx hb dX9_append_3 rfl (lv_at hl 0 rfl) ?_
  refine lv_if_lt (tgt := 55) hx hb dX9_append_4 (by decide) (fun c_ => absurd c_ (by decide +kernel)) (fun _ => ?_)
  refine lv_aload_n hx hb dX9_append_7 rfl (lv_at hl 1 rfl) ?_
  refine va_get (D := (dC, dI)) (ci := 9) (v := .int 8) (C := RX9) (T := TX9) (N := 8) hx hb hts inlX9 hown hK hP 0 rfl rfl 2 (by decide) (hts _ m_290) (fun _ h9 => h9) rfl dX9_append_8 ?_
  refine lv_if_lt (tgt := 49) hx hb dX9_append_11 (by decide) (fun c_ => absurd c_ (by decide +kernel)) (fun _ => ?_)
  refine lv_aload_n hx hb dX9_append_14 rfl (lv_at hl 1 rfl) ?_
  refine va_get (D := (dC, dI)) (ci := 9) (v := .int 8) (C := RX9) (T := TX9) (N := 8) hx hb hts inlX9 hown hK hP 0 rfl rfl 2 (by decide) (hts _ m_290) (fun _ h9 => h9) rfl dX9_append_15 ?_
  refine lv_aload_n hx hb dX9_append_18 rfl (lv_at hl 1 rfl) ?_
  refine va_get (D := (dC, dI)) (ci := 9) (v := .ref h1) (C := RX9) (T := TX9) (N := 8) hx hb hts inlX9 hown hK hP 0 rfl rfl 0 (by decide) (hts _ m_62) (fun _ h9 => h9) rfl dX9_append_19 ?_
  refine va_alen (v := 1600) hx hb hK hP 1 2 rfl rfl rfl dX9_append_22 ?_
  refine lv_icmp_ge (tgt := 49) hx hb dX9_append_23 (by decide) (fun c_ => absurd c_ (by decide +kernel)) (fun _ => ?_)
  refine lv_aload_n hx hb dX9_append_26 rfl (lv_at hl 1 rfl) ?_
  refine va_get (D := (dC, dI)) (ci := 9) (v := .ref h1) (C := RX9) (T := TX9) (N := 8) hx hb hts inlX9 hown hK hP 0 rfl rfl 0 (by decide) (hts _ m_62) (fun _ h9 => h9) rfl dX9_append_27 ?_
  refine lv_aload_n hx hb dX9_append_30 rfl (lv_at hl 1 rfl) ?_
  refine va_get (D := (dC, dI)) (ci := 9) (v := .int 8) (C := RX9) (T := TX9) (N := 8) hx hb hts inlX9 hown hK hP 0 rfl rfl 2 (by decide) (hts _ m_290) (fun _ h9 => h9) rfl dX9_append_31 ?_
  refine lv_iload_n hx hb dX9_append_34 rfl (lv_at hl 2 rfl) ?_
  refine lv_iload_n hx hb dX9_append_35 rfl (lv_at hl 0 rfl) ?_
  refine lv_iushr hx hb dX9_append_36 rfl ?_
  refine lv_topi (fun z_1 ez_1 => ?_)
  refine lv_i2b hx hb dX9_append_37 rfl ?_
  refine lv_topi (fun z_2 ez_2 => ?_)
  refine va_bast hx hb hK hP hD hS 1 2 rfl rfl vi_8_1600 dX9_append_38 (fun H locs hP hD hS => ?_)
  generalize upd (f0) (Int32.toNatClampNeg 8) (vp_nar .byte z_2) = f_3 at hP hD
  have hP : va_P (dC, dI) classes [(h0, .inr (9, [.ref h1, .ref h2, .int 8, .int 0, .int 0, .int 0, .int 0, .long 0])), (h1, .inl (cy 2, 1600, .inl f_3))] H := hP
  have hD : va_D A [(h0, .inr (9, [.ref h1, .ref h2, .int 8, .int 0, .int 0, .int 0, .int 0, .long 0])), (h1, .inl (cy 2, 1600, .inl f_3))] := hD
  refine lv_aload_n hx hb dX9_append_39 rfl (lv_at hl 1 rfl) ?_
  refine lv_dup hx hb dX9_append_40 rfl ?_
  refine va_get (D := (dC, dI)) (ci := 9) (v := .int 8) (C := RX9) (T := TX9) (N := 8) hx hb hts inlX9 hown hK hP 0 rfl rfl 2 (by decide) (hts _ m_290) (fun _ h9 => h9) rfl dX9_append_41 ?_
  refine lv_iconst (v := 1) hx hb dX9_append_44 (by decide +kernel) ?_
  refine lv_iadd hx hb dX9_append_45 ?_
  refine lv_topi (fun z_4 ez_4 => ?_)
  obtain rfl : z_4 = 9 := ez_4.trans (by decide +kernel)
  refine va_put (D := (dC, dI)) (ci := 9) (v := .int 9) (ty := .int) (C := RX9) (T := TX9) (N := 8) hx hb hts inlX9 tyX9 tyX9_ok nmX9 hown hK hP hD hS 0 rfl rfl 2 (by decide) (hts _ m_290) (fun _ h9 => h9) rfl (by decide +kernel) rfl rfl (Nat.le_of_ble_eq_true rfl) dX9_append_46 (fun H locs hP hD hS => ?_)
  have hP : va_P (dC, dI) classes [(h0, .inr (9, [.ref h1, .ref h2, .int 9, .int 0, .int 0, .int 0, .int 0, .long 0])), (h1, .inl (cy 2, 1600, .inl f_3))] H := hP
  have hD : va_D A [(h0, .inr (9, [.ref h1, .ref h2, .int 9, .int 0, .int 0, .int 0, .int 0, .long 0])), (h1, .inl (cy 2, 1600, .inl f_3))] := hD
  refine lv_iinc (v := 16) (lv' := [(2, .int 16), (0, .ref h0), (1, .int p0)]) hx hb dX9_append_49 hl (k := 0) rfl (by decide +kernel) (by decide) rfl (fun ls hl => ?_)
  refine lv_goto (tgt := 3) hx hb dX9_append_52 (by decide) ?_
  refine lv_iload_n hx hb dX9_append_3 rfl (lv_at hl 0 rfl) ?_
  refine lv_if_lt (tgt := 55) hx hb dX9_append_4 (by decide) (fun c_ => absurd c_ (by decide +kernel)) (fun _ => ?_)
  refine lv_aload_n hx hb dX9_append_7 rfl (lv_at hl 1 rfl) ?_
  refine va_get (D := (dC, dI)) (ci := 9) (v := .int 9) (C := RX9) (T := TX9) (N := 8) hx hb hts inlX9 hown hK hP 0 rfl rfl 2 (by decide) (hts _ m_290) (fun _ h9 => h9) rfl dX9_append_8 ?_
  refine lv_if_lt (tgt := 49) hx hb dX9_append_11 (by decide) (fun c_ => absurd c_ (by decide +kernel)) (fun _ => ?_)
  refine lv_aload_n hx hb dX9_append_14 rfl (lv_at hl 1 rfl) ?_
  refine va_get (D := (dC, dI)) (ci := 9) (v := .int 9) (C := RX9) (T := TX9) (N := 8) hx hb hts inlX9 hown hK hP 0 rfl rfl 2 (by decide) (hts _ m_290) (fun _ h9 => h9) rfl dX9_append_15 ?_
  refine lv_aload_n hx hb dX9_append_18 rfl (lv_at hl 1 rfl) ?_
  refine va_get (D := (dC, dI)) (ci := 9) (v := .ref h1) (C := RX9) (T := TX9) (N := 8) hx hb hts inlX9 hown hK hP 0 rfl rfl 0 (by decide) (hts _ m_62) (fun _ h9 => h9) rfl dX9_append_19 ?_
  refine va_alen (v := 1600) hx hb hK hP 1 2 rfl rfl rfl dX9_append_22 ?_
  refine lv_icmp_ge (tgt := 49) hx hb dX9_append_23 (by decide) (fun c_ => absurd c_ (by decide +kernel)) (fun _ => ?_)
  refine lv_aload_n hx hb dX9_append_26 rfl (lv_at hl 1 rfl) ?_
  refine va_get (D := (dC, dI)) (ci := 9) (v := .ref h1) (C := RX9) (T := TX9) (N := 8) hx hb hts inlX9 hown hK hP 0 rfl rfl 0 (by decide) (hts _ m_62) (fun _ h9 => h9) rfl dX9_append_27 ?_
  refine lv_aload_n hx hb dX9_append_30 rfl (lv_at hl 1 rfl) ?_
  refine va_get (D := (dC, dI)) (ci := 9) (v := .int 9) (C := RX9) (T := TX9) (N := 8) hx hb hts inlX9 hown hK hP 0 rfl rfl 2 (by decide) (hts _ m_290) (fun _ h9 => h9) rfl dX9_append_31 ?_
  refine lv_iload_n hx hb dX9_append_34 rfl (lv_at hl 2 rfl) ?_
  refine lv_iload_n hx hb dX9_append_35 rfl (lv_at hl 0 rfl) ?_
  refine lv_iushr hx hb dX9_append_36 rfl ?_
  refine lv_topi (fun z_5 ez_5 => ?_)
  refine lv_i2b hx hb dX9_append_37 rfl ?_
  refine lv_topi (fun z_6 ez_6 => ?_)
  refine va_bast hx hb hK hP hD hS 1 2 rfl rfl vi_9_1600 dX9_append_38 (fun H locs hP hD hS => ?_)
  generalize upd (f_3) (Int32.toNatClampNeg 9) (vp_nar .byte z_6) = f_7 at hP hD
  have hP : va_P (dC, dI) classes [(h0, .inr (9, [.ref h1, .ref h2, .int 9, .int 0, .int 0, .int 0, .int 0, .long 0])), (h1, .inl (cy 2, 1600, .inl f_7))] H := hP
  have hD : va_D A [(h0, .inr (9, [.ref h1, .ref h2, .int 9, .int 0, .int 0, .int 0, .int 0, .long 0])), (h1, .inl (cy 2, 1600, .inl f_7))] := hD
  refine lv_aload_n hx hb dX9_append_39 rfl (lv_at hl 1 rfl) ?_
  refine lv_dup hx hb dX9_append_40 rfl ?_
  refine va_get (D := (dC, dI)) (ci := 9) (v := .int 9) (C := RX9) (T := TX9) (N := 8) hx hb hts inlX9 hown hK hP 0 rfl rfl 2 (by decide) (hts _ m_290) (fun _ h9 => h9) rfl dX9_append_41 ?_
  refine lv_iconst (v := 1) hx hb dX9_append_44 (by decide +kernel) ?_
  refine lv_iadd hx hb dX9_append_45 ?_
  refine lv_topi (fun z_8 ez_8 => ?_)
  obtain rfl : z_8 = 10 := ez_8.trans (by decide +kernel)
  refine va_put (D := (dC, dI)) (ci := 9) (v := .int 10) (ty := .int) (C := RX9) (T := TX9) (N := 8) hx hb hts inlX9 tyX9 tyX9_ok nmX9 hown hK hP hD hS 0 rfl rfl 2 (by decide) (hts _ m_290) (fun _ h9 => h9) rfl (by decide +kernel) rfl rfl (Nat.le_of_ble_eq_true rfl) dX9_append_46 (fun H locs hP hD hS => ?_)
  have hP : va_P (dC, dI) classes [(h0, .inr (9, [.ref h1, .ref h2, .int 10, .int 0, .int 0, .int 0, .int 0, .long 0])), (h1, .inl (cy 2, 1600, .inl f_7))] H := hP
  have hD : va_D A [(h0, .inr (9, [.ref h1, .ref h2, .int 10, .int 0, .int 0, .int 0, .int 0, .long 0])), (h1, .inl (cy 2, 1600, .inl f_7))] := hD
  refine lv_iinc (v := 8) (lv' := [(2, .int 8), (0, .ref h0), (1, .int p0)]) hx hb dX9_append_49 hl (k := 0) rfl (by decide +kernel) (by decide) rfl (fun ls hl => ?_)
  refine lv_goto (tgt := 3) hx hb dX9_append_52 (by decide) ?_
  refine lv_iload_n hx hb dX9_append_3 rfl (lv_at hl 0 rfl) ?_
  refine lv_if_lt (tgt := 55) hx hb dX9_append_4 (by decide) (fun c_ => absurd c_ (by decide +kernel)) (fun _ => ?_)
  refine lv_aload_n hx hb dX9_append_7 rfl (lv_at hl 1 rfl) ?_
  refine va_get (D := (dC, dI)) (ci := 9) (v := .int 10) (C := RX9) (T := TX9) (N := 8) hx hb hts inlX9 hown hK hP 0 rfl rfl 2 (by decide) (hts _ m_290) (fun _ h9 => h9) rfl dX9_append_8 ?_
  refine lv_if_lt (tgt := 49) hx hb dX9_append_11 (by decide) (fun c_ => absurd c_ (by decide +kernel)) (fun _ => ?_)
  refine lv_aload_n hx hb dX9_append_14 rfl (lv_at hl 1 rfl) ?_
  refine va_get (D := (dC, dI)) (ci := 9) (v := .int 10) (C := RX9) (T := TX9) (N := 8) hx hb hts inlX9 hown hK hP 0 rfl rfl 2 (by decide) (hts _ m_290) (fun _ h9 => h9) rfl dX9_append_15 ?_
  refine lv_aload_n hx hb dX9_append_18 rfl (lv_at hl 1 rfl) ?_
  refine va_get (D := (dC, dI)) (ci := 9) (v := .ref h1) (C := RX9) (T := TX9) (N := 8) hx hb hts inlX9 hown hK hP 0 rfl rfl 0 (by decide) (hts _ m_62) (fun _ h9 => h9) rfl dX9_append_19 ?_
  refine va_alen (v := 1600) hx hb hK hP 1 2 rfl rfl rfl dX9_append_22 ?_
  refine lv_icmp_ge (tgt := 49) hx hb dX9_append_23 (by decide) (fun c_ => absurd c_ (by decide +kernel)) (fun _ => ?_)
  refine lv_aload_n hx hb dX9_append_26 rfl (lv_at hl 1 rfl) ?_
  refine va_get (D := (dC, dI)) (ci := 9) (v := .ref h1) (C := RX9) (T := TX9) (N := 8) hx hb hts inlX9 hown hK hP 0 rfl rfl 0 (by decide) (hts _ m_62) (fun _ h9 => h9) rfl dX9_append_27 ?_
  refine lv_aload_n hx hb dX9_append_30 rfl (lv_at hl 1 rfl) ?_
  refine va_get (D := (dC, dI)) (ci := 9) (v := .int 10) (C := RX9) (T := TX9) (N := 8) hx hb hts inlX9 hown hK hP 0 rfl rfl 2 (by decide) (hts _ m_290) (fun _ h9 => h9) rfl dX9_append_31 ?_
  refine lv_iload_n hx hb dX9_append_34 rfl (lv_at hl 2 rfl) ?_
  refine lv_iload_n hx hb dX9_append_35 rfl (lv_at hl 0 rfl) ?_
  refine lv_iushr hx hb dX9_append_36 rfl ?_
  refine lv_topi (fun z_9 ez_9 => ?_)
  refine lv_i2b hx hb dX9_append_37 rfl ?_
  refine lv_topi (fun z_10 ez_10 => ?_)
  refine va_bast hx hb hK hP hD hS 1 2 rfl rfl vi_10_1600 dX9_append_38 (fun H locs hP hD hS => ?_)
  generalize upd (f_7) (Int32.toNatClampNeg 10) (vp_nar .byte z_10) = f_11 at hP hD
  have hP : va_P (dC, dI) classes [(h0, .inr (9, [.ref h1, .ref h2, .int 10, .int 0, .int 0, .int 0, .int 0, .long 0])), (h1, .inl (cy 2, 1600, .inl f_11))] H := hP
  have hD : va_D A [(h0, .inr (9, [.ref h1, .ref h2, .int 10, .int 0, .int 0, .int 0, .int 0, .long 0])), (h1, .inl (cy 2, 1600, .inl f_11))] := hD
  refine lv_aload_n hx hb dX9_append_39 rfl (lv_at hl 1 rfl) ?_
  refine lv_dup hx hb dX9_append_40 rfl ?_
  refine va_get (D := (dC, dI)) (ci := 9) (v := .int 10) (C := RX9) (T := TX9) (N := 8) hx hb hts inlX9 hown hK hP 0 rfl rfl 2 (by decide) (hts _ m_290) (fun _ h9 => h9) rfl dX9_append_41 ?_
  refine lv_iconst (v := 1) hx hb dX9_append_44 (by decide +kernel) ?_
  refine lv_iadd hx hb dX9_append_45 ?_
  refine lv_topi (fun z_12 ez_12 => ?_)
  obtain rfl : z_12 = 11 := ez_12.trans (by decide +kernel)
  refine va_put (D := (dC, dI)) (ci := 9) (v := .int 11) (ty := .int) (C := RX9) (T := TX9) (N := 8) hx hb hts inlX9 tyX9 tyX9_ok nmX9 hown hK hP hD hS 0 rfl rfl 2 (by decide) (hts _ m_290) (fun _ h9 => h9) rfl (by decide +kernel) rfl rfl (Nat.le_of_ble_eq_true rfl) dX9_append_46 (fun H locs hP hD hS => ?_)
  have hP : va_P (dC, dI) classes [(h0, .inr (9, [.ref h1, .ref h2, .int 11, .int 0, .int 0, .int 0, .int 0, .long 0])), (h1, .inl (cy 2, 1600, .inl f_11))] H := hP
  have hD : va_D A [(h0, .inr (9, [.ref h1, .ref h2, .int 11, .int 0, .int 0, .int 0, .int 0, .long 0])), (h1, .inl (cy 2, 1600, .inl f_11))] := hD
  refine lv_iinc (v := 0) (lv' := [(2, .int 0), (0, .ref h0), (1, .int p0)]) hx hb dX9_append_49 hl (k := 0) rfl (by decide +kernel) (by decide) rfl (fun ls hl => ?_)
  refine lv_goto (tgt := 3) hx hb dX9_append_52 (by decide) ?_
  refine lv_iload_n hx hb dX9_append_3 rfl (lv_at hl 0 rfl) ?_
  refine lv_if_lt (tgt := 55) hx hb dX9_append_4 (by decide) (fun c_ => absurd c_ (by decide +kernel)) (fun _ => ?_)
  refine lv_aload_n hx hb dX9_append_7 rfl (lv_at hl 1 rfl) ?_
  refine va_get (D := (dC, dI)) (ci := 9) (v := .int 11) (C := RX9) (T := TX9) (N := 8) hx hb hts inlX9 hown hK hP 0 rfl rfl 2 (by decide) (hts _ m_290) (fun _ h9 => h9) rfl dX9_append_8 ?_
  refine lv_if_lt (tgt := 49) hx hb dX9_append_11 (by decide) (fun c_ => absurd c_ (by decide +kernel)) (fun _ => ?_)
  refine lv_aload_n hx hb dX9_append_14 rfl (lv_at hl 1 rfl) ?_
  refine va_get (D := (dC, dI)) (ci := 9) (v := .int 11) (C := RX9) (T := TX9) (N := 8) hx hb hts inlX9 hown hK hP 0 rfl rfl 2 (by decide) (hts _ m_290) (fun _ h9 => h9) rfl dX9_append_15 ?_
  refine lv_aload_n hx hb dX9_append_18 rfl (lv_at hl 1 rfl) ?_
  refine va_get (D := (dC, dI)) (ci := 9) (v := .ref h1) (C := RX9) (T := TX9) (N := 8) hx hb hts inlX9 hown hK hP 0 rfl rfl 0 (by decide) (hts _ m_62) (fun _ h9 => h9) rfl dX9_append_19 ?_
  refine va_alen (v := 1600) hx hb hK hP 1 2 rfl rfl rfl dX9_append_22 ?_
  refine lv_icmp_ge (tgt := 49) hx hb dX9_append_23 (by decide) (fun c_ => absurd c_ (by decide +kernel)) (fun _ => ?_)
  refine lv_aload_n hx hb dX9_append_26 rfl (lv_at hl 1 rfl) ?_
  refine va_get (D := (dC, dI)) (ci := 9) (v := .ref h1) (C := RX9) (T := TX9) (N := 8) hx hb hts inlX9 hown hK hP 0 rfl rfl 0 (by decide) (hts _ m_62) (fun _ h9 => h9) rfl dX9_append_27 ?_
  refine lv_aload_n hx hb dX9_append_30 rfl (lv_at hl 1 rfl) ?_
  refine va_get (D := (dC, dI)) (ci := 9) (v := .int 11) (C := RX9) (T := TX9) (N := 8) hx hb hts inlX9 hown hK hP 0 rfl rfl 2 (by decide) (hts _ m_290) (fun _ h9 => h9) rfl dX9_append_31 ?_
  refine lv_iload_n hx hb dX9_append_34 rfl (lv_at hl 2 rfl) ?_
  refine lv_iload_n hx hb dX9_append_35 rfl (lv_at hl 0 rfl) ?_
  refine lv_iushr hx hb dX9_append_36 rfl ?_
  refine lv_topi (fun z_13 ez_13 => ?_)
  refine lv_i2b hx hb dX9_append_37 rfl ?_
  refine lv_topi (fun z_14 ez_14 => ?_)
  refine va_bast hx hb hK hP hD hS 1 2 rfl rfl vi_11_1600 dX9_append_38 (fun H locs hP hD hS => ?_)
  generalize upd (f_11) (Int32.toNatClampNeg 11) (vp_nar .byte z_14) = f_15 at hP hD
  have hP : va_P (dC, dI) classes [(h0, .inr (9, [.ref h1, .ref h2, .int 11, .int 0, .int 0, .int 0, .int 0, .long 0])), (h1, .inl (cy 2, 1600, .inl f_15))] H := hP
  have hD : va_D A [(h0, .inr (9, [.ref h1, .ref h2, .int 11, .int 0, .int 0, .int 0, .int 0, .long 0])), (h1, .inl (cy 2, 1600, .inl f_15))] := hD
  refine lv_aload_n hx hb dX9_append_39 rfl (lv_at hl 1 rfl) ?_
  refine lv_dup hx hb dX9_append_40 rfl ?_
  refine va_get (D := (dC, dI)) (ci := 9) (v := .int 11) (C := RX9) (T := TX9) (N := 8) hx hb hts inlX9 hown hK hP 0 rfl rfl 2 (by decide) (hts _ m_290) (fun _ h9 => h9) rfl dX9_append_41 ?_
  refine lv_iconst (v := 1) hx hb dX9_append_44 (by decide +kernel) ?_
  refine lv_iadd hx hb dX9_append_45 ?_
  refine lv_topi (fun z_16 ez_16 => ?_)
  obtain rfl : z_16 = 12 := ez_16.trans (by decide +kernel)
  refine va_put (D := (dC, dI)) (ci := 9) (v := .int 12) (ty := .int) (C := RX9) (T := TX9) (N := 8) hx hb hts inlX9 tyX9 tyX9_ok nmX9 hown hK hP hD hS 0 rfl rfl 2 (by decide) (hts _ m_290) (fun _ h9 => h9) rfl (by decide +kernel) rfl rfl (Nat.le_of_ble_eq_true rfl) dX9_append_46 (fun H locs hP hD hS => ?_)
  have hP : va_P (dC, dI) classes [(h0, .inr (9, [.ref h1, .ref h2, .int 12, .int 0, .int 0, .int 0, .int 0, .long 0])), (h1, .inl (cy 2, 1600, .inl f_15))] H := hP
  have hD : va_D A [(h0, .inr (9, [.ref h1, .ref h2, .int 12, .int 0, .int 0, .int 0, .int 0, .long 0])), (h1, .inl (cy 2, 1600, .inl f_15))] := hD
  refine lv_iinc (v := (-8)) (lv' := [(2, .int (-8)), (0, .ref h0), (1, .int p0)]) hx hb dX9_append_49 hl (k := 0) rfl (by decide +kernel) (by decide) rfl (fun ls hl => ?_)
  refine lv_goto (tgt := 3) hx hb dX9_append_52 (by decide) ?_
  refine lv_iload_n hx hb dX9_append_3 rfl (lv_at hl 0 rfl) ?_
  refine lv_if_lt (tgt := 55) hx hb dX9_append_4 (by decide) (fun _ => ?_) (fun c_ => absurd (by decide +kernel) c_)
  have hP9 := hP.sub (ws' := [(h0, .inr (9, [.ref h1, .ref h2, .int 12, .int 0, .int 0, .int 0, .int 0, .long 0])), (h1, .inl (cy 2, 1600, .inl f_15))]) [0, 1] rfl
  have hD9 := hD.sub (ws' := [(h0, .inr (9, [.ref h1, .ref h2, .int 12, .int 0, .int 0, .int 0, .int 0, .long 0])), (h1, .inl (cy 2, 1600, .inl f_15))]) [0, 1] (by decide) rfl
  exact W.vret hx hb hr (fun t ht hW => ⟨⟨(), rfl, trivial, f_15, by rw [ht]; exact hP9, hD9⟩, hS.F ht⟩) hS.2.2 dX9_append_55
set_option maxHeartbeats 4000000 in
set_option maxRecDepth 100000 in
theorem kX9_append_4 (l : Launch) (dC : Nat → ClassId) (dI : Nat → Nat → Nat) (cy : Nat → ClassId) (h0 h1 h2 : Nat) (f0 : Nat → Int32) (p0 : Int32) (sz : Nat) : Met l yX9_append wmX9_append ({ frames := 0, cells := 0, slots := 0, locals := 0 }) (va_Pc [.ref h0, .int p0] (fun U => U.heap.size = sz ∧ va_P (dC, dI) classes [(h0, .inr (9, [.ref h1, .ref h2, .int 12, .int 0, .int 0, .int 0, .int 0, .long 0])), (h1, .inl (cy 2, 1600, .inl f0))] U.heap ∧ EV dC dI cy U ∧ va_D (fun _ => True) [(h0, .inr (9, [.ref h1, .ref h2, .int 12, .int 0, .int 0, .int 0, .int 0, .long 0])), (h1, .inl (cy 2, 1600, .inl f0))])) (va_Qv (S := Unit) (fun _ => True) (fun _ t => ∃ (f_15 : Nat → Int32), va_P (dC, dI) classes [(h0, .inr (9, [.ref h1, .ref h2, .int 16, .int 0, .int 0, .int 0, .int 0, .long 0])), (h1, .inl (cy 2, 1600, .inl f_15))] t.heap ∧ va_D (va_A [(h0, .inr (9, [.ref h1, .ref h2, .int 12, .int 0, .int 0, .int 0, .int 0, .long 0])), (h1, .inl (cy 2, 1600, .inl f0))] sz) [(h0, .inr (9, [.ref h1, .ref h2, .int 16, .int 0, .int 0, .int 0, .int 0, .long 0])), (h1, .inl (cy 2, 1600, .inl f_15))]) (va_A [(h0, .inr (9, [.ref h1, .ref h2, .int 12, .int 0, .int 0, .int 0, .int 0, .long 0])), (h1, .inl (cy 2, 1600, .inl f0))] sz)) 0 0 (va_A [(h0, .inr (9, [.ref h1, .ref h2, .int 12, .int 0, .int 0, .int 0, .int 0, .long 0])), (h1, .inl (cy 2, 1600, .inl f0))] sz) := by
  refine Met.ofW (cc := cX9_append) (maxL := 3) (ret := none) (by decide +kernel) rfl ?_
  intro p e s m args below meth c s₁ B hml hv
  obtain ⟨rfl, hsz, hP, hE, hD0⟩ := hv
  have hK := hE.1
  have hN := hE.2.1
  have hx := B.exec
  have hb := B.bytes
  have hr := B.returns
  have hts0 := atoms_spec (ws := wmX9_append) B.pre
  have hts : ∀ w ∈ wsL_law, w.before _ s = true := fun w h => hts0 w (List.mem_cons_of_mem _ h)
  have hown : s.vm.findClass RX9 = some m.cls := findClass_of_methodNamed B.named
  have hlocks := B.notSynchronized
  subst hsz
  have hD := hD0.self (sz := s.heap.size)
  generalize hAe : va_A [(h0, .inr (9, [.ref h1, .ref h2, .int 12, .int 0, .int 0, .int 0, .int 0, .long 0])), (h1, .inl (cy 2, 1600, .inl f0))] s.heap.size = A at hD ⊢
  have hA : ∀ q : Nat, s.heap.size ≤ q → A q := fun q h => by rw [← hAe]; exact Or.inr h
  have hS : va_S A s.heap s.heap [] := va_S.rf
  have hP : va_P (dC, dI) classes [(h0, .inr (9, [.ref h1, .ref h2, .int 12, .int 0, .int 0, .int 0, .int 0, .long 0])), (h1, .inl (cy 2, 1600, .inl f0))] s.heap := hP
  have hl := lv_entry ([.ref h0, .int p0]) (n := 3) (Nat.le_of_ble_eq_true rfl)
  rw [lg_entry_eq]
  generalize (lg_sl ([.ref h0, .int p0]) ++ List.replicate (3 - (lg_sl ([.ref h0, .int p0])).length) Slot.unset).toArray = ls at hl ⊢
  have hl : lv_has ls 3 [(0, .ref h0), (1, .int p0)] := hl
  refine lv_bipush (v := 24) hx hb dX9_append_0 (by decide +kernel) ?_
  refine lv_istore_n (lv' := [(2, .int 24), (0, .ref h0), (1, .int p0)]) hx hb dX9_append_2 rfl hl (by decide) rfl (fun ls hl => ?_)
  refine lv_iload_n hx hb dX9_append_3 rfl (lv_at hl 0 rfl) ?_
  refine lv_if_lt (tgt := 55) hx hb dX9_append_4 (by decide) (fun c_ => absurd c_ (by decide +kernel)) (fun _ => ?_)
  refine lv_aload_n hx hb dX9_append_7 rfl (lv_at hl 1 rfl) ?_
  refine va_get (D := (dC, dI)) (ci := 9) (v := .int 12) (C := RX9) (T := TX9) (N := 8) hx hb hts inlX9 hown hK hP 0 rfl rfl 2 (by decide) (hts _ m_290) (fun _ h9 => h9) rfl dX9_append_8 ?_
  refine lv_if_lt (tgt := 49) hx hb dX9_append_11 (by decide) (fun c_ => absurd c_ (by decide +kernel)) (fun _ => ?_)
  refine lv_aload_n hx hb dX9_append_14 rfl (lv_at hl 1 rfl) ?_
  refine va_get (D := (dC, dI)) (ci := 9) (v := .int 12) (C := RX9) (T := TX9) (N := 8) hx hb hts inlX9 hown hK hP 0 rfl rfl 2 (by decide) (hts _ m_290) (fun _ h9 => h9) rfl dX9_append_15 ?_
  refine lv_aload_n hx hb dX9_append_18 rfl (lv_at hl 1 rfl) ?_
  refine va_get (D := (dC, dI)) (ci := 9) (v := .ref h1) (C := RX9) (T := TX9) (N := 8) hx hb hts inlX9 hown hK hP 0 rfl rfl 0 (by decide) (hts _ m_62) (fun _ h9 => h9) rfl dX9_append_19 ?_
  refine va_alen (v := 1600) hx hb hK hP 1 2 rfl rfl rfl dX9_append_22 ?_
  refine lv_icmp_ge (tgt := 49) hx hb dX9_append_23 (by decide) (fun c_ => absurd c_ (by decide +kernel)) (fun _ => ?_)
  refine lv_aload_n hx hb dX9_append_26 rfl (lv_at hl 1 rfl) ?_
  refine va_get (D := (dC, dI)) (ci := 9) (v := .ref h1) (C := RX9) (T := TX9) (N := 8) hx hb hts inlX9 hown hK hP 0 rfl rfl 0 (by decide) (hts _ m_62) (fun _ h9 => h9) rfl dX9_append_27 ?_
  refine lv_aload_n hx hb dX9_append_30 rfl (lv_at hl 1 rfl) ?_
  refine va_get (D := (dC, dI)) (ci := 9) (v := .int 12) (C := RX9) (T := TX9) (N := 8) hx hb hts inlX9 hown hK hP 0 rfl rfl 2 (by decide) (hts _ m_290) (fun _ h9 => h9) rfl dX9_append_31 ?_
  refine lv_iload_n hx hb dX9_append_34 rfl (lv_at hl 2 rfl) ?_
  refine lv_iload_n hx hb dX9_append_35 rfl (lv_at hl 0 rfl) ?_
  refine lv_iushr hx hb dX9_append_36 rfl ?_
  refine lv_topi (fun z_1 ez_1 => ?_)
  refine lv_i2b hx hb dX9_append_37 rfl ?_
  refine lv_topi (fun z_2 ez_2 => ?_)
  refine va_bast hx hb hK hP hD hS 1 2 rfl rfl vi_12_1600 dX9_append_38 (fun H locs hP hD hS => ?_)
  generalize upd (f0) (Int32.toNatClampNeg 12) (vp_nar .byte z_2) = f_3 at hP hD
  have hP : va_P (dC, dI) classes [(h0, .inr (9, [.ref h1, .ref h2, .int 12, .int 0, .int 0, .int 0, .int 0, .long 0])), (h1, .inl (cy 2, 1600, .inl f_3))] H := hP
  have hD : va_D A [(h0, .inr (9, [.ref h1, .ref h2, .int 12, .int 0, .int 0, .int 0, .int 0, .long 0])), (h1, .inl (cy 2, 1600, .inl f_3))] := hD
  refine lv_aload_n hx hb dX9_append_39 rfl (lv_at hl 1 rfl) ?_
  refine lv_dup hx hb dX9_append_40 rfl ?_
  refine va_get (D := (dC, dI)) (ci := 9) (v := .int 12) (C := RX9) (T := TX9) (N := 8) hx hb hts inlX9 hown hK hP 0 rfl rfl 2 (by decide) (hts _ m_290) (fun _ h9 => h9) rfl dX9_append_41 ?_
  refine lv_iconst (v := 1) hx hb dX9_append_44 (by decide +kernel) ?_
  refine lv_iadd hx hb dX9_append_45 ?_
  refine lv_topi (fun z_4 ez_4 => ?_)
  obtain rfl : z_4 = 13 := ez_4.trans (by decide +kernel)
  refine va_put (D := (dC, dI)) (ci := 9) (v := .int 13) (ty := .int) (C := RX9) (T := TX9) (N := 8) hx hb hts inlX9 tyX9 tyX9_ok nmX9 hown hK hP hD hS 0 rfl rfl 2 (by decide) (hts _ m_290) (fun _ h9 => h9) rfl (by decide +kernel) rfl rfl (Nat.le_of_ble_eq_true rfl) dX9_append_46 (fun H locs hP hD hS => ?_)
  have hP : va_P (dC, dI) classes [(h0, .inr (9, [.ref h1, .ref h2, .int 13, .int 0, .int 0, .int 0, .int 0, .long 0])), (h1, .inl (cy 2, 1600, .inl f_3))] H := hP
  have hD : va_D A [(h0, .inr (9, [.ref h1, .ref h2, .int 13, .int 0, .int 0, .int 0, .int 0, .long 0])), (h1, .inl (cy 2, 1600, .inl f_3))] := hD
  refine lv_iinc (v := 16) (lv' := [(2, .int 16), (0, .ref h0), (1, .int p0)]) hx hb dX9_append_49 hl (k := 0) rfl (by decide +kernel) (by decide) rfl (fun ls hl => ?_)
  refine lv_goto (tgt := 3) hx hb dX9_append_52 (by decide) ?_
  refine lv_iload_n hx hb dX9_append_3 rfl (lv_at hl 0 rfl) ?_
  refine lv_if_lt (tgt := 55) hx hb dX9_append_4 (by decide) (fun c_ => absurd c_ (by decide +kernel)) (fun _ => ?_)
  refine lv_aload_n hx hb dX9_append_7 rfl (lv_at hl 1 rfl) ?_
  refine va_get (D := (dC, dI)) (ci := 9) (v := .int 13) (C := RX9) (T := TX9) (N := 8) hx hb hts inlX9 hown hK hP 0 rfl rfl 2 (by decide) (hts _ m_290) (fun _ h9 => h9) rfl dX9_append_8 ?_
  refine lv_if_lt (tgt := 49) hx hb dX9_append_11 (by decide) (fun c_ => absurd c_ (by decide +kernel)) (fun _ => ?_)
  refine lv_aload_n hx hb dX9_append_14 rfl (lv_at hl 1 rfl) ?_
  refine va_get (D := (dC, dI)) (ci := 9) (v := .int 13) (C := RX9) (T := TX9) (N := 8) hx hb hts inlX9 hown hK hP 0 rfl rfl 2 (by decide) (hts _ m_290) (fun _ h9 => h9) rfl dX9_append_15 ?_
  refine lv_aload_n hx hb dX9_append_18 rfl (lv_at hl 1 rfl) ?_
  refine va_get (D := (dC, dI)) (ci := 9) (v := .ref h1) (C := RX9) (T := TX9) (N := 8) hx hb hts inlX9 hown hK hP 0 rfl rfl 0 (by decide) (hts _ m_62) (fun _ h9 => h9) rfl dX9_append_19 ?_
  refine va_alen (v := 1600) hx hb hK hP 1 2 rfl rfl rfl dX9_append_22 ?_
  refine lv_icmp_ge (tgt := 49) hx hb dX9_append_23 (by decide) (fun c_ => absurd c_ (by decide +kernel)) (fun _ => ?_)
  refine lv_aload_n hx hb dX9_append_26 rfl (lv_at hl 1 rfl) ?_
  refine va_get (D := (dC, dI)) (ci := 9) (v := .ref h1) (C := RX9) (T := TX9) (N := 8) hx hb hts inlX9 hown hK hP 0 rfl rfl 0 (by decide) (hts _ m_62) (fun _ h9 => h9) rfl dX9_append_27 ?_
  refine lv_aload_n hx hb dX9_append_30 rfl (lv_at hl 1 rfl) ?_
  refine va_get (D := (dC, dI)) (ci := 9) (v := .int 13) (C := RX9) (T := TX9) (N := 8) hx hb hts inlX9 hown hK hP 0 rfl rfl 2 (by decide) (hts _ m_290) (fun _ h9 => h9) rfl dX9_append_31 ?_
  refine lv_iload_n hx hb dX9_append_34 rfl (lv_at hl 2 rfl) ?_
  refine lv_iload_n hx hb dX9_append_35 rfl (lv_at hl 0 rfl) ?_
  refine lv_iushr hx hb dX9_append_36 rfl ?_
  refine lv_topi (fun z_5 ez_5 => ?_)
  refine lv_i2b hx hb dX9_append_37 rfl ?_
  refine lv_topi (fun z_6 ez_6 => ?_)
  refine va_bast hx hb hK hP hD hS 1 2 rfl rfl vi_13_1600 dX9_append_38 (fun H locs hP hD hS => ?_)
  generalize upd (f_3) (Int32.toNatClampNeg 13) (vp_nar .byte z_6) = f_7 at hP hD
  have hP : va_P (dC, dI) classes [(h0, .inr (9, [.ref h1, .ref h2, .int 13, .int 0, .int 0, .int 0, .int 0, .long 0])), (h1, .inl (cy 2, 1600, .inl f_7))] H := hP
  have hD : va_D A [(h0, .inr (9, [.ref h1, .ref h2, .int 13, .int 0, .int 0, .int 0, .int 0, .long 0])), (h1, .inl (cy 2, 1600, .inl f_7))] := hD
  refine lv_aload_n hx hb dX9_append_39 rfl (lv_at hl 1 rfl) ?_
  refine lv_dup hx hb dX9_append_40 rfl ?_
  refine va_get (D := (dC, dI)) (ci := 9) (v := .int 13) (C := RX9) (T := TX9) (N := 8) hx hb hts inlX9 hown hK hP 0 rfl rfl 2 (by decide) (hts _ m_290) (fun _ h9 => h9) rfl dX9_append_41 ?_
  refine lv_iconst (v := 1) hx hb dX9_append_44 (by decide +kernel) ?_
  refine lv_iadd hx hb dX9_append_45 ?_
  refine lv_topi (fun z_8 ez_8 => ?_)
  obtain rfl : z_8 = 14 := ez_8.trans (by decide +kernel)
  refine va_put (D := (dC, dI)) (ci := 9) (v := .int 14) (ty := .int) (C := RX9) (T := TX9) (N := 8) hx hb hts inlX9 tyX9 tyX9_ok nmX9 hown hK hP hD hS 0 rfl rfl 2 (by decide) (hts _ m_290) (fun _ h9 => h9) rfl (by decide +kernel) rfl rfl (Nat.le_of_ble_eq_true rfl) dX9_append_46 (fun H locs hP hD hS => ?_)
  have hP : va_P (dC, dI) classes [(h0, .inr (9, [.ref h1, .ref h2, .int 14, .int 0, .int 0, .int 0, .int 0, .long 0])), (h1, .inl (cy 2, 1600, .inl f_7))] H := hP
  have hD : va_D A [(h0, .inr (9, [.ref h1, .ref h2, .int 14, .int 0, .int 0, .int 0, .int 0, .long 0])), (h1, .inl (cy 2, 1600, .inl f_7))] := hD
  refine lv_iinc (v := 8) (lv' := [(2, .int 8), (0, .ref h0), (1, .int p0)]) hx hb dX9_append_49 hl (k := 0) rfl (by decide +kernel) (by decide) rfl (fun ls hl => ?_)
  refine lv_goto (tgt := 3) hx hb dX9_append_52 (by decide) ?_
  refine lv_iload_n hx hb dX9_append_3 rfl (lv_at hl 0 rfl) ?_
  refine lv_if_lt (tgt := 55) hx hb dX9_append_4 (by decide) (fun c_ => absurd c_ (by decide +kernel)) (fun _ => ?_)
  refine lv_aload_n hx hb dX9_append_7 rfl (lv_at hl 1 rfl) ?_
  refine va_get (D := (dC, dI)) (ci := 9) (v := .int 14) (C := RX9) (T := TX9) (N := 8) hx hb hts inlX9 hown hK hP 0 rfl rfl 2 (by decide) (hts _ m_290) (fun _ h9 => h9) rfl dX9_append_8 ?_
  refine lv_if_lt (tgt := 49) hx hb dX9_append_11 (by decide) (fun c_ => absurd c_ (by decide +kernel)) (fun _ => ?_)
  refine lv_aload_n hx hb dX9_append_14 rfl (lv_at hl 1 rfl) ?_
  refine va_get (D := (dC, dI)) (ci := 9) (v := .int 14) (C := RX9) (T := TX9) (N := 8) hx hb hts inlX9 hown hK hP 0 rfl rfl 2 (by decide) (hts _ m_290) (fun _ h9 => h9) rfl dX9_append_15 ?_
  refine lv_aload_n hx hb dX9_append_18 rfl (lv_at hl 1 rfl) ?_
  refine va_get (D := (dC, dI)) (ci := 9) (v := .ref h1) (C := RX9) (T := TX9) (N := 8) hx hb hts inlX9 hown hK hP 0 rfl rfl 0 (by decide) (hts _ m_62) (fun _ h9 => h9) rfl dX9_append_19 ?_
  refine va_alen (v := 1600) hx hb hK hP 1 2 rfl rfl rfl dX9_append_22 ?_
  refine lv_icmp_ge (tgt := 49) hx hb dX9_append_23 (by decide) (fun c_ => absurd c_ (by decide +kernel)) (fun _ => ?_)
  refine lv_aload_n hx hb dX9_append_26 rfl (lv_at hl 1 rfl) ?_
  refine va_get (D := (dC, dI)) (ci := 9) (v := .ref h1) (C := RX9) (T := TX9) (N := 8) hx hb hts inlX9 hown hK hP 0 rfl rfl 0 (by decide) (hts _ m_62) (fun _ h9 => h9) rfl dX9_append_27 ?_
  refine lv_aload_n hx hb dX9_append_30 rfl (lv_at hl 1 rfl) ?_
  refine va_get (D := (dC, dI)) (ci := 9) (v := .int 14) (C := RX9) (T := TX9) (N := 8) hx hb hts inlX9 hown hK hP 0 rfl rfl 2 (by decide) (hts _ m_290) (fun _ h9 => h9) rfl dX9_append_31 ?_
  refine lv_iload_n hx hb dX9_append_34 rfl (lv_at hl 2 rfl) ?_
  refine lv_iload_n hx hb dX9_append_35 rfl (lv_at hl 0 rfl) ?_
  refine lv_iushr hx hb dX9_append_36 rfl ?_
  refine lv_topi (fun z_9 ez_9 => ?_)
  refine lv_i2b hx hb dX9_append_37 rfl ?_
  refine lv_topi (fun z_10 ez_10 => ?_)
  refine va_bast hx hb hK hP hD hS 1 2 rfl rfl vi_14_1600 dX9_append_38 (fun H locs hP hD hS => ?_)
  generalize upd (f_7) (Int32.toNatClampNeg 14) (vp_nar .byte z_10) = f_11 at hP hD
  have hP : va_P (dC, dI) classes [(h0, .inr (9, [.ref h1, .ref h2, .int 14, .int 0, .int 0, .int 0, .int 0, .long 0])), (h1, .inl (cy 2, 1600, .inl f_11))] H := hP
  have hD : va_D A [(h0, .inr (9, [.ref h1, .ref h2, .int 14, .int 0, .int 0, .int 0, .int 0, .long 0])), (h1, .inl (cy 2, 1600, .inl f_11))] := hD
  refine lv_aload_n hx hb dX9_append_39 rfl (lv_at hl 1 rfl) ?_
  refine lv_dup hx hb dX9_append_40 rfl ?_
  refine va_get (D := (dC, dI)) (ci := 9) (v := .int 14) (C := RX9) (T := TX9) (N := 8) hx hb hts inlX9 hown hK hP 0 rfl rfl 2 (by decide) (hts _ m_290) (fun _ h9 => h9) rfl dX9_append_41 ?_
  refine lv_iconst (v := 1) hx hb dX9_append_44 (by decide +kernel) ?_
  refine lv_iadd hx hb dX9_append_45 ?_
  refine lv_topi (fun z_12 ez_12 => ?_)
  obtain rfl : z_12 = 15 := ez_12.trans (by decide +kernel)
  refine va_put (D := (dC, dI)) (ci := 9) (v := .int 15) (ty := .int) (C := RX9) (T := TX9) (N := 8) hx hb hts inlX9 tyX9 tyX9_ok nmX9 hown hK hP hD hS 0 rfl rfl 2 (by decide) (hts _ m_290) (fun _ h9 => h9) rfl (by decide +kernel) rfl rfl (Nat.le_of_ble_eq_true rfl) dX9_append_46 (fun H locs hP hD hS => ?_)
  have hP : va_P (dC, dI) classes [(h0, .inr (9, [.ref h1, .ref h2, .int 15, .int 0, .int 0, .int 0, .int 0, .long 0])), (h1, .inl (cy 2, 1600, .inl f_11))] H := hP
  have hD : va_D A [(h0, .inr (9, [.ref h1, .ref h2, .int 15, .int 0, .int 0, .int 0, .int 0, .long 0])), (h1, .inl (cy 2, 1600, .inl f_11))] := hD
  refine lv_iinc (v := 0) (lv' := [(2, .int 0), (0, .ref h0), (1, .int p0)]) hx hb dX9_append_49 hl (k := 0) rfl (by decide +kernel) (by decide) rfl (fun ls hl => ?_)
  refine lv_goto (tgt := 3) hx hb dX9_append_52 (by decide) ?_
  refine lv_iload_n hx hb dX9_append_3 rfl (lv_at hl 0 rfl) ?_
  refine lv_if_lt (tgt := 55) hx hb dX9_append_4 (by decide) (fun c_ => absurd c_ (by decide +kernel)) (fun _ => ?_)
  refine lv_aload_n hx hb dX9_append_7 rfl (lv_at hl 1 rfl) ?_
  refine va_get (D := (dC, dI)) (ci := 9) (v := .int 15) (C := RX9) (T := TX9) (N := 8) hx hb hts inlX9 hown hK hP 0 rfl rfl 2 (by decide) (hts _ m_290) (fun _ h9 => h9) rfl dX9_append_8 ?_
  refine lv_if_lt (tgt := 49) hx hb dX9_append_11 (by decide) (fun c_ => absurd c_ (by decide +kernel)) (fun _ => ?_)
  refine lv_aload_n hx hb dX9_append_14 rfl (lv_at hl 1 rfl) ?_
  refine va_get (D := (dC, dI)) (ci := 9) (v := .int 15) (C := RX9) (T := TX9) (N := 8) hx hb hts inlX9 hown hK hP 0 rfl rfl 2 (by decide) (hts _ m_290) (fun _ h9 => h9) rfl dX9_append_15 ?_
  refine lv_aload_n hx hb dX9_append_18 rfl (lv_at hl 1 rfl) ?_
  refine va_get (D := (dC, dI)) (ci := 9) (v := .ref h1) (C := RX9) (T := TX9) (N := 8) hx hb hts inlX9 hown hK hP 0 rfl rfl 0 (by decide) (hts _ m_62) (fun _ h9 => h9) rfl dX9_append_19 ?_
  refine va_alen (v := 1600) hx hb hK hP 1 2 rfl rfl rfl dX9_append_22 ?_
  refine lv_icmp_ge (tgt := 49) hx hb dX9_append_23 (by decide) (fun c_ => absurd c_ (by decide +kernel)) (fun _ => ?_)
  refine lv_aload_n hx hb dX9_append_26 rfl (lv_at hl 1 rfl) ?_
  refine va_get (D := (dC, dI)) (ci := 9) (v := .ref h1) (C := RX9) (T := TX9) (N := 8) hx hb hts inlX9 hown hK hP 0 rfl rfl 0 (by decide) (hts _ m_62) (fun _ h9 => h9) rfl dX9_append_27 ?_
  refine lv_aload_n hx hb dX9_append_30 rfl (lv_at hl 1 rfl) ?_
  refine va_get (D := (dC, dI)) (ci := 9) (v := .int 15) (C := RX9) (T := TX9) (N := 8) hx hb hts inlX9 hown hK hP 0 rfl rfl 2 (by decide) (hts _ m_290) (fun _ h9 => h9) rfl dX9_append_31 ?_
  refine lv_iload_n hx hb dX9_append_34 rfl (lv_at hl 2 rfl) ?_
  refine lv_iload_n hx hb dX9_append_35 rfl (lv_at hl 0 rfl) ?_
  refine lv_iushr hx hb dX9_append_36 rfl ?_
  refine lv_topi (fun z_13 ez_13 => ?_)
  refine lv_i2b hx hb dX9_append_37 rfl ?_
  refine lv_topi (fun z_14 ez_14 => ?_)
  refine va_bast hx hb hK hP hD hS 1 2 rfl rfl vi_15_1600 dX9_append_38 (fun H locs hP hD hS => ?_)
  generalize upd (f_11) (Int32.toNatClampNeg 15) (vp_nar .byte z_14) = f_15 at hP hD
  have hP : va_P (dC, dI) classes [(h0, .inr (9, [.ref h1, .ref h2, .int 15, .int 0, .int 0, .int 0, .int 0, .long 0])), (h1, .inl (cy 2, 1600, .inl f_15))] H := hP
  have hD : va_D A [(h0, .inr (9, [.ref h1, .ref h2, .int 15, .int 0, .int 0, .int 0, .int 0, .long 0])), (h1, .inl (cy 2, 1600, .inl f_15))] := hD
  refine lv_aload_n hx hb dX9_append_39 rfl (lv_at hl 1 rfl) ?_
  refine lv_dup hx hb dX9_append_40 rfl ?_
  refine va_get (D := (dC, dI)) (ci := 9) (v := .int 15) (C := RX9) (T := TX9) (N := 8) hx hb hts inlX9 hown hK hP 0 rfl rfl 2 (by decide) (hts _ m_290) (fun _ h9 => h9) rfl dX9_append_41 ?_
  refine lv_iconst (v := 1) hx hb dX9_append_44 (by decide +kernel) ?_
  refine lv_iadd hx hb dX9_append_45 ?_
  refine lv_topi (fun z_16 ez_16 => ?_)
  obtain rfl : z_16 = 16 := ez_16.trans (by decide +kernel)
  refine va_put (D := (dC, dI)) (ci := 9) (v := .int 16) (ty := .int) (C := RX9) (T := TX9) (N := 8) hx hb hts inlX9 tyX9 tyX9_ok nmX9 hown hK hP hD hS 0 rfl rfl 2 (by decide) (hts _ m_290) (fun _ h9 => h9) rfl (by decide +kernel) rfl rfl (Nat.le_of_ble_eq_true rfl) dX9_append_46 (fun H locs hP hD hS => ?_)
  have hP : va_P (dC, dI) classes [(h0, .inr (9, [.ref h1, .ref h2, .int 16, .int 0, .int 0, .int 0, .int 0, .long 0])), (h1, .inl (cy 2, 1600, .inl f_15))] H := hP
  have hD : va_D A [(h0, .inr (9, [.ref h1, .ref h2, .int 16, .int 0, .int 0, .int 0, .int 0, .long 0])), (h1, .inl (cy 2, 1600, .inl f_15))] := hD
  refine lv_iinc (v := (-8)) (lv' := [(2, .int (-8)), (0, .ref h0), (1, .int p0)]) hx hb dX9_append_49 hl (k := 0) rfl (by decide +kernel) (by decide) rfl (fun ls hl => ?_)
  refine lv_goto (tgt := 3) hx hb dX9_append_52 (by decide) ?_
  refine lv_iload_n hx hb dX9_append_3 rfl (lv_at hl 0 rfl) ?_
  refine lv_if_lt (tgt := 55) hx hb dX9_append_4 (by decide) (fun _ => ?_) (fun c_ => absurd (by decide +kernel) c_)
  have hP9 := hP.sub (ws' := [(h0, .inr (9, [.ref h1, .ref h2, .int 16, .int 0, .int 0, .int 0, .int 0, .long 0])), (h1, .inl (cy 2, 1600, .inl f_15))]) [0, 1] rfl
  have hD9 := hD.sub (ws' := [(h0, .inr (9, [.ref h1, .ref h2, .int 16, .int 0, .int 0, .int 0, .int 0, .long 0])), (h1, .inl (cy 2, 1600, .inl f_15))]) [0, 1] (by decide) rfl
  exact W.vret hx hb hr (fun t ht hW => ⟨⟨(), rfl, trivial, f_15, by rw [ht]; exact hP9, hD9⟩, hS.F ht⟩) hS.2.2 dX9_append_55
set_option maxHeartbeats 4000000 in
set_option maxRecDepth 100000 in
theorem kX9_append_5 (l : Launch) (dC : Nat → ClassId) (dI : Nat → Nat → Nat) (cy : Nat → ClassId) (h0 h1 h2 : Nat) (f0 : Nat → Int32) (p0 : Int32) (sz : Nat) : Met l yX9_append wmX9_append ({ frames := 0, cells := 0, slots := 0, locals := 0 }) (va_Pc [.ref h0, .int p0] (fun U => U.heap.size = sz ∧ va_P (dC, dI) classes [(h0, .inr (9, [.ref h1, .ref h2, .int 16, .int 0, .int 0, .int 0, .int 0, .long 0])), (h1, .inl (cy 2, 1600, .inl f0))] U.heap ∧ EV dC dI cy U ∧ va_D (fun _ => True) [(h0, .inr (9, [.ref h1, .ref h2, .int 16, .int 0, .int 0, .int 0, .int 0, .long 0])), (h1, .inl (cy 2, 1600, .inl f0))])) (va_Qv (S := Unit) (fun _ => True) (fun _ t => ∃ (f_15 : Nat → Int32), va_P (dC, dI) classes [(h0, .inr (9, [.ref h1, .ref h2, .int 20, .int 0, .int 0, .int 0, .int 0, .long 0])), (h1, .inl (cy 2, 1600, .inl f_15))] t.heap ∧ va_D (va_A [(h0, .inr (9, [.ref h1, .ref h2, .int 16, .int 0, .int 0, .int 0, .int 0, .long 0])), (h1, .inl (cy 2, 1600, .inl f0))] sz) [(h0, .inr (9, [.ref h1, .ref h2, .int 20, .int 0, .int 0, .int 0, .int 0, .long 0])), (h1, .inl (cy 2, 1600, .inl f_15))]) (va_A [(h0, .inr (9, [.ref h1, .ref h2, .int 16, .int 0, .int 0, .int 0, .int 0, .long 0])), (h1, .inl (cy 2, 1600, .inl f0))] sz)) 0 0 (va_A [(h0, .inr (9, [.ref h1, .ref h2, .int 16, .int 0, .int 0, .int 0, .int 0, .long 0])), (h1, .inl (cy 2, 1600, .inl f0))] sz) := by
  refine Met.ofW (cc := cX9_append) (maxL := 3) (ret := none) (by decide +kernel) rfl ?_
  intro p e s m args below meth c s₁ B hml hv
  obtain ⟨rfl, hsz, hP, hE, hD0⟩ := hv
  have hK := hE.1
  have hN := hE.2.1
  have hx := B.exec
  have hb := B.bytes
  have hr := B.returns
  have hts0 := atoms_spec (ws := wmX9_append) B.pre
  have hts : ∀ w ∈ wsL_law, w.before _ s = true := fun w h => hts0 w (List.mem_cons_of_mem _ h)
  have hown : s.vm.findClass RX9 = some m.cls := findClass_of_methodNamed B.named
  have hlocks := B.notSynchronized
  subst hsz
  have hD := hD0.self (sz := s.heap.size)
  generalize hAe : va_A [(h0, .inr (9, [.ref h1, .ref h2, .int 16, .int 0, .int 0, .int 0, .int 0, .long 0])), (h1, .inl (cy 2, 1600, .inl f0))] s.heap.size = A at hD ⊢
  have hA : ∀ q : Nat, s.heap.size ≤ q → A q := fun q h => by rw [← hAe]; exact Or.inr h
  have hS : va_S A s.heap s.heap [] := va_S.rf
  have hP : va_P (dC, dI) classes [(h0, .inr (9, [.ref h1, .ref h2, .int 16, .int 0, .int 0, .int 0, .int 0, .long 0])), (h1, .inl (cy 2, 1600, .inl f0))] s.heap := hP
  have hl := lv_entry ([.ref h0, .int p0]) (n := 3) (Nat.le_of_ble_eq_true rfl)
  rw [lg_entry_eq]
  generalize (lg_sl ([.ref h0, .int p0]) ++ List.replicate (3 - (lg_sl ([.ref h0, .int p0])).length) Slot.unset).toArray = ls at hl ⊢
  have hl : lv_has ls 3 [(0, .ref h0), (1, .int p0)] := hl
  refine lv_bipush (v := 24) hx hb dX9_append_0 (by decide +kernel) ?_
  refine lv_istore_n (lv' := [(2, .int 24), (0, .ref h0), (1, .int p0)]) hx hb dX9_append_2 rfl hl (by decide) rfl (fun ls hl => ?_)
  refine lv_iload_n hx hb dX9_append_3 rfl (lv_at hl 0 rfl) ?_
  refine lv_if_lt (tgt := 55) hx hb dX9_append_4 (by decide) (fun c_ => absurd c_ (by decide +kernel)) (fun _ => ?_)
  refine lv_aload_n hx hb dX9_append_7 rfl (lv_at hl 1 rfl) ?_
  refine va_get (D := (dC, dI)) (ci := 9) (v := .int 16) (C := RX9) (T := TX9) (N := 8) hx hb hts inlX9 hown hK hP 0 rfl rfl 2 (by decide) (hts _ m_290) (fun _ h9 => h9) rfl dX9_append_8 ?_
  refine lv_if_lt (tgt := 49) hx hb dX9_append_11 (by decide) (fun c_ => absurd c_ (by decide +kernel)) (fun _ => ?_)
  refine lv_aload_n hx hb dX9_append_14 rfl (lv_at hl 1 rfl) ?_
  refine va_get (D := (dC, dI)) (ci := 9) (v := .int 16) (C := RX9) (T := TX9) (N := 8) hx hb hts inlX9 hown hK hP 0 rfl rfl 2 (by decide) (hts _ m_290) (fun _ h9 => h9) rfl dX9_append_15 ?_
  refine lv_aload_n hx hb dX9_append_18 rfl (lv_at hl 1 rfl) ?_
  refine va_get (D := (dC, dI)) (ci := 9) (v := .ref h1) (C := RX9) (T := TX9) (N := 8) hx hb hts inlX9 hown hK hP 0 rfl rfl 0 (by decide) (hts _ m_62) (fun _ h9 => h9) rfl dX9_append_19 ?_
  refine va_alen (v := 1600) hx hb hK hP 1 2 rfl rfl rfl dX9_append_22 ?_
  refine lv_icmp_ge (tgt := 49) hx hb dX9_append_23 (by decide) (fun c_ => absurd c_ (by decide +kernel)) (fun _ => ?_)
  refine lv_aload_n hx hb dX9_append_26 rfl (lv_at hl 1 rfl) ?_
  refine va_get (D := (dC, dI)) (ci := 9) (v := .ref h1) (C := RX9) (T := TX9) (N := 8) hx hb hts inlX9 hown hK hP 0 rfl rfl 0 (by decide) (hts _ m_62) (fun _ h9 => h9) rfl dX9_append_27 ?_
  refine lv_aload_n hx hb dX9_append_30 rfl (lv_at hl 1 rfl) ?_
  refine va_get (D := (dC, dI)) (ci := 9) (v := .int 16) (C := RX9) (T := TX9) (N := 8) hx hb hts inlX9 hown hK hP 0 rfl rfl 2 (by decide) (hts _ m_290) (fun _ h9 => h9) rfl dX9_append_31 ?_
  refine lv_iload_n hx hb dX9_append_34 rfl (lv_at hl 2 rfl) ?_
  refine lv_iload_n hx hb dX9_append_35 rfl (lv_at hl 0 rfl) ?_
  refine lv_iushr hx hb dX9_append_36 rfl ?_
  refine lv_topi (fun z_1 ez_1 => ?_)
  refine lv_i2b hx hb dX9_append_37 rfl ?_
  refine lv_topi (fun z_2 ez_2 => ?_)
  refine va_bast hx hb hK hP hD hS 1 2 rfl rfl vi_16_1600 dX9_append_38 (fun H locs hP hD hS => ?_)
  generalize upd (f0) (Int32.toNatClampNeg 16) (vp_nar .byte z_2) = f_3 at hP hD
  have hP : va_P (dC, dI) classes [(h0, .inr (9, [.ref h1, .ref h2, .int 16, .int 0, .int 0, .int 0, .int 0, .long 0])), (h1, .inl (cy 2, 1600, .inl f_3))] H := hP
  have hD : va_D A [(h0, .inr (9, [.ref h1, .ref h2, .int 16, .int 0, .int 0, .int 0, .int 0, .long 0])), (h1, .inl (cy 2, 1600, .inl f_3))] := hD
  refine lv_aload_n hx hb dX9_append_39 rfl (lv_at hl 1 rfl) ?_
  refine lv_dup hx hb dX9_append_40 rfl ?_
  refine va_get (D := (dC, dI)) (ci := 9) (v := .int 16) (C := RX9) (T := TX9) (N := 8) hx hb hts inlX9 hown hK hP 0 rfl rfl 2 (by decide) (hts _ m_290) (fun _ h9 => h9) rfl dX9_append_41 ?_
  refine lv_iconst (v := 1) hx hb dX9_append_44 (by decide +kernel) ?_
  refine lv_iadd hx hb dX9_append_45 ?_
  refine lv_topi (fun z_4 ez_4 => ?_)
  obtain rfl : z_4 = 17 := ez_4.trans (by decide +kernel)
  refine va_put (D := (dC, dI)) (ci := 9) (v := .int 17) (ty := .int) (C := RX9) (T := TX9) (N := 8) hx hb hts inlX9 tyX9 tyX9_ok nmX9 hown hK hP hD hS 0 rfl rfl 2 (by decide) (hts _ m_290) (fun _ h9 => h9) rfl (by decide +kernel) rfl rfl (Nat.le_of_ble_eq_true rfl) dX9_append_46 (fun H locs hP hD hS => ?_)
  have hP : va_P (dC, dI) classes [(h0, .inr (9, [.ref h1, .ref h2, .int 17, .int 0, .int 0, .int 0, .int 0, .long 0])), (h1, .inl (cy 2, 1600, .inl f_3))] H := hP
  have hD : va_D A [(h0, .inr (9, [.ref h1, .ref h2, .int 17, .int 0, .int 0, .int 0, .int 0, .long 0])), (h1, .inl (cy 2, 1600, .inl f_3))] := hD
  refine lv_iinc (v := 16) (lv' := [(2, .int 16), (0, .ref h0), (1, .int p0)]) hx hb dX9_append_49 hl (k := 0) rfl (by decide +kernel) (by decide) rfl (fun ls hl => ?_)
  refine lv_goto (tgt := 3) hx hb dX9_append_52 (by decide) ?_
  refine lv_iload_n hx hb dX9_append_3 rfl (lv_at hl 0 rfl) ?_
  refine lv_if_lt (tgt := 55) hx hb dX9_append_4 (by decide) (fun c_ => absurd c_ (by decide +kernel)) (fun _ => ?_)
  refine lv_aload_n hx hb dX9_append_7 rfl (lv_at hl 1 rfl) ?_
  refine va_get (D := (dC, dI)) (ci := 9) (v := .int 17) (C := RX9) (T := TX9) (N := 8) hx hb hts inlX9 hown hK hP 0 rfl rfl 2 (by decide) (hts _ m_290) (fun _ h9 => h9) rfl dX9_append_8 ?_
  refine lv_if_lt (tgt := 49) hx hb dX9_append_11 (by decide) (fun c_ => absurd c_ (by decide +kernel)) (fun _ => ?_)
  refine lv_aload_n hx hb dX9_append_14 rfl (lv_at hl 1 rfl) ?_
  refine va_get (D := (dC, dI)) (ci := 9) (v := .int 17) (C := RX9) (T := TX9) (N := 8) hx hb hts inlX9 hown hK hP 0 rfl rfl 2 (by decide) (hts _ m_290) (fun _ h9 => h9) rfl dX9_append_15 ?_
  refine lv_aload_n hx hb dX9_append_18 rfl (lv_at hl 1 rfl) ?_
  refine va_get (D := (dC, dI)) (ci := 9) (v := .ref h1) (C := RX9) (T := TX9) (N := 8) hx hb hts inlX9 hown hK hP 0 rfl rfl 0 (by decide) (hts _ m_62) (fun _ h9 => h9) rfl dX9_append_19 ?_
  refine va_alen (v := 1600) hx hb hK hP 1 2 rfl rfl rfl dX9_append_22 ?_
  refine lv_icmp_ge (tgt := 49) hx hb dX9_append_23 (by decide) (fun c_ => absurd c_ (by decide +kernel)) (fun _ => ?_)
  refine lv_aload_n hx hb dX9_append_26 rfl (lv_at hl 1 rfl) ?_
  refine va_get (D := (dC, dI)) (ci := 9) (v := .ref h1) (C := RX9) (T := TX9) (N := 8) hx hb hts inlX9 hown hK hP 0 rfl rfl 0 (by decide) (hts _ m_62) (fun _ h9 => h9) rfl dX9_append_27 ?_
  refine lv_aload_n hx hb dX9_append_30 rfl (lv_at hl 1 rfl) ?_
  refine va_get (D := (dC, dI)) (ci := 9) (v := .int 17) (C := RX9) (T := TX9) (N := 8) hx hb hts inlX9 hown hK hP 0 rfl rfl 2 (by decide) (hts _ m_290) (fun _ h9 => h9) rfl dX9_append_31 ?_
  refine lv_iload_n hx hb dX9_append_34 rfl (lv_at hl 2 rfl) ?_
  refine lv_iload_n hx hb dX9_append_35 rfl (lv_at hl 0 rfl) ?_
  refine lv_iushr hx hb dX9_append_36 rfl ?_
  refine lv_topi (fun z_5 ez_5 => ?_)
  refine lv_i2b hx hb dX9_append_37 rfl ?_
  refine lv_topi (fun z_6 ez_6 => ?_)
  refine va_bast hx hb hK hP hD hS 1 2 rfl rfl vi_17_1600 dX9_append_38 (fun H locs hP hD hS => ?_)
  generalize upd (f_3) (Int32.toNatClampNeg 17) (vp_nar .byte z_6) = f_7 at hP hD
  have hP : va_P (dC, dI) classes [(h0, .inr (9, [.ref h1, .ref h2, .int 17, .int 0, .int 0, .int 0, .int 0, .long 0])), (h1, .inl (cy 2, 1600, .inl f_7))] H := hP
  have hD : va_D A [(h0, .inr (9, [.ref h1, .ref h2, .int 17, .int 0, .int 0, .int 0, .int 0, .long 0])), (h1, .inl (cy 2, 1600, .inl f_7))] := hD
  refine lv_aload_n hx hb dX9_append_39 rfl (lv_at hl 1 rfl) ?_
  refine lv_dup hx hb dX9_append_40 rfl ?_
  refine va_get (D := (dC, dI)) (ci := 9) (v := .int 17) (C := RX9) (T := TX9) (N := 8) hx hb hts inlX9 hown hK hP 0 rfl rfl 2 (by decide) (hts _ m_290) (fun _ h9 => h9) rfl dX9_append_41 ?_
  refine lv_iconst (v := 1) hx hb dX9_append_44 (by decide +kernel) ?_
  refine lv_iadd hx hb dX9_append_45 ?_
  refine lv_topi (fun z_8 ez_8 => ?_)
  obtain rfl : z_8 = 18 := ez_8.trans (by decide +kernel)
  refine va_put (D := (dC, dI)) (ci := 9) (v := .int 18) (ty := .int) (C := RX9) (T := TX9) (N := 8) hx hb hts inlX9 tyX9 tyX9_ok nmX9 hown hK hP hD hS 0 rfl rfl 2 (by decide) (hts _ m_290) (fun _ h9 => h9) rfl (by decide +kernel) rfl rfl (Nat.le_of_ble_eq_true rfl) dX9_append_46 (fun H locs hP hD hS => ?_)
  have hP : va_P (dC, dI) classes [(h0, .inr (9, [.ref h1, .ref h2, .int 18, .int 0, .int 0, .int 0, .int 0, .long 0])), (h1, .inl (cy 2, 1600, .inl f_7))] H := hP
  have hD : va_D A [(h0, .inr (9, [.ref h1, .ref h2, .int 18, .int 0, .int 0, .int 0, .int 0, .long 0])), (h1, .inl (cy 2, 1600, .inl f_7))] := hD
  refine lv_iinc (v := 8) (lv' := [(2, .int 8), (0, .ref h0), (1, .int p0)]) hx hb dX9_append_49 hl (k := 0) rfl (by decide +kernel) (by decide) rfl (fun ls hl => ?_)
  refine lv_goto (tgt := 3) hx hb dX9_append_52 (by decide) ?_
  refine lv_iload_n hx hb dX9_append_3 rfl (lv_at hl 0 rfl) ?_
  refine lv_if_lt (tgt := 55) hx hb dX9_append_4 (by decide) (fun c_ => absurd c_ (by decide +kernel)) (fun _ => ?_)
  refine lv_aload_n hx hb dX9_append_7 rfl (lv_at hl 1 rfl) ?_
  refine va_get (D := (dC, dI)) (ci := 9) (v := .int 18) (C := RX9) (T := TX9) (N := 8) hx hb hts inlX9 hown hK hP 0 rfl rfl 2 (by decide) (hts _ m_290) (fun _ h9 => h9) rfl dX9_append_8 ?_
  refine lv_if_lt (tgt := 49) hx hb dX9_append_11 (by decide) (fun c_ => absurd c_ (by decide +kernel)) (fun _ => ?_)
  refine lv_aload_n hx hb dX9_append_14 rfl (lv_at hl 1 rfl) ?_
  refine va_get (D := (dC, dI)) (ci := 9) (v := .int 18) (C := RX9) (T := TX9) (N := 8) hx hb hts inlX9 hown hK hP 0 rfl rfl 2 (by decide) (hts _ m_290) (fun _ h9 => h9) rfl dX9_append_15 ?_
  refine lv_aload_n hx hb dX9_append_18 rfl (lv_at hl 1 rfl) ?_
  refine va_get (D := (dC, dI)) (ci := 9) (v := .ref h1) (C := RX9) (T := TX9) (N := 8) hx hb hts inlX9 hown hK hP 0 rfl rfl 0 (by decide) (hts _ m_62) (fun _ h9 => h9) rfl dX9_append_19 ?_
  refine va_alen (v := 1600) hx hb hK hP 1 2 rfl rfl rfl dX9_append_22 ?_
  refine lv_icmp_ge (tgt := 49) hx hb dX9_append_23 (by decide) (fun c_ => absurd c_ (by decide +kernel)) (fun _ => ?_)
  refine lv_aload_n hx hb dX9_append_26 rfl (lv_at hl 1 rfl) ?_
  refine va_get (D := (dC, dI)) (ci := 9) (v := .ref h1) (C := RX9) (T := TX9) (N := 8) hx hb hts inlX9 hown hK hP 0 rfl rfl 0 (by decide) (hts _ m_62) (fun _ h9 => h9) rfl dX9_append_27 ?_
  refine lv_aload_n hx hb dX9_append_30 rfl (lv_at hl 1 rfl) ?_
  refine va_get (D := (dC, dI)) (ci := 9) (v := .int 18) (C := RX9) (T := TX9) (N := 8) hx hb hts inlX9 hown hK hP 0 rfl rfl 2 (by decide) (hts _ m_290) (fun _ h9 => h9) rfl dX9_append_31 ?_
  refine lv_iload_n hx hb dX9_append_34 rfl (lv_at hl 2 rfl) ?_
  refine lv_iload_n hx hb dX9_append_35 rfl (lv_at hl 0 rfl) ?_
  refine lv_iushr hx hb dX9_append_36 rfl ?_
  refine lv_topi (fun z_9 ez_9 => ?_)
  refine lv_i2b hx hb dX9_append_37 rfl ?_
  refine lv_topi (fun z_10 ez_10 => ?_)
  refine va_bast hx hb hK hP hD hS 1 2 rfl rfl vi_18_1600 dX9_append_38 (fun H locs hP hD hS => ?_)
  generalize upd (f_7) (Int32.toNatClampNeg 18) (vp_nar .byte z_10) = f_11 at hP hD
  have hP : va_P (dC, dI) classes [(h0, .inr (9, [.ref h1, .ref h2, .int 18, .int 0, .int 0, .int 0, .int 0, .long 0])), (h1, .inl (cy 2, 1600, .inl f_11))] H := hP
  have hD : va_D A [(h0, .inr (9, [.ref h1, .ref h2, .int 18, .int 0, .int 0, .int 0, .int 0, .long 0])), (h1, .inl (cy 2, 1600, .inl f_11))] := hD
  refine lv_aload_n hx hb dX9_append_39 rfl (lv_at hl 1 rfl) ?_
  refine lv_dup hx hb dX9_append_40 rfl ?_
  refine va_get (D := (dC, dI)) (ci := 9) (v := .int 18) (C := RX9) (T := TX9) (N := 8) hx hb hts inlX9 hown hK hP 0 rfl rfl 2 (by decide) (hts _ m_290) (fun _ h9 => h9) rfl dX9_append_41 ?_
  refine lv_iconst (v := 1) hx hb dX9_append_44 (by decide +kernel) ?_
  refine lv_iadd hx hb dX9_append_45 ?_
  refine lv_topi (fun z_12 ez_12 => ?_)
  obtain rfl : z_12 = 19 := ez_12.trans (by decide +kernel)
  refine va_put (D := (dC, dI)) (ci := 9) (v := .int 19) (ty := .int) (C := RX9) (T := TX9) (N := 8) hx hb hts inlX9 tyX9 tyX9_ok nmX9 hown hK hP hD hS 0 rfl rfl 2 (by decide) (hts _ m_290) (fun _ h9 => h9) rfl (by decide +kernel) rfl rfl (Nat.le_of_ble_eq_true rfl) dX9_append_46 (fun H locs hP hD hS => ?_)
  have hP : va_P (dC, dI) classes [(h0, .inr (9, [.ref h1, .ref h2, .int 19, .int 0, .int 0, .int 0, .int 0, .long 0])), (h1, .inl (cy 2, 1600, .inl f_11))] H := hP
  have hD : va_D A [(h0, .inr (9, [.ref h1, .ref h2, .int 19, .int 0, .int 0, .int 0, .int 0, .long 0])), (h1, .inl (cy 2, 1600, .inl f_11))] := hD
  refine lv_iinc (v := 0) (lv' := [(2, .int 0), (0, .ref h0), (1, .int p0)]) hx hb dX9_append_49 hl (k := 0) rfl (by decide +kernel) (by decide) rfl (fun ls hl => ?_)
  refine lv_goto (tgt := 3) hx hb dX9_append_52 (by decide) ?_
  refine lv_iload_n hx hb dX9_append_3 rfl (lv_at hl 0 rfl) ?_
  refine lv_if_lt (tgt := 55) hx hb dX9_append_4 (by decide) (fun c_ => absurd c_ (by decide +kernel)) (fun _ => ?_)
  refine lv_aload_n hx hb dX9_append_7 rfl (lv_at hl 1 rfl) ?_
  refine va_get (D := (dC, dI)) (ci := 9) (v := .int 19) (C := RX9) (T := TX9) (N := 8) hx hb hts inlX9 hown hK hP 0 rfl rfl 2 (by decide) (hts _ m_290) (fun _ h9 => h9) rfl dX9_append_8 ?_
  refine lv_if_lt (tgt := 49) hx hb dX9_append_11 (by decide) (fun c_ => absurd c_ (by decide +kernel)) (fun _ => ?_)
  refine lv_aload_n hx hb dX9_append_14 rfl (lv_at hl 1 rfl) ?_
  refine va_get (D := (dC, dI)) (ci := 9) (v := .int 19) (C := RX9) (T := TX9) (N := 8) hx hb hts inlX9 hown hK hP 0 rfl rfl 2 (by decide) (hts _ m_290) (fun _ h9 => h9) rfl dX9_append_15 ?_
  refine lv_aload_n hx hb dX9_append_18 rfl (lv_at hl 1 rfl) ?_
  refine va_get (D := (dC, dI)) (ci := 9) (v := .ref h1) (C := RX9) (T := TX9) (N := 8) hx hb hts inlX9 hown hK hP 0 rfl rfl 0 (by decide) (hts _ m_62) (fun _ h9 => h9) rfl dX9_append_19 ?_
  refine va_alen (v := 1600) hx hb hK hP 1 2 rfl rfl rfl dX9_append_22 ?_
  refine lv_icmp_ge (tgt := 49) hx hb dX9_append_23 (by decide) (fun c_ => absurd c_ (by decide +kernel)) (fun _ => ?_)
  refine lv_aload_n hx hb dX9_append_26 rfl (lv_at hl 1 rfl) ?_
  refine va_get (D := (dC, dI)) (ci := 9) (v := .ref h1) (C := RX9) (T := TX9) (N := 8) hx hb hts inlX9 hown hK hP 0 rfl rfl 0 (by decide) (hts _ m_62) (fun _ h9 => h9) rfl dX9_append_27 ?_
  refine lv_aload_n hx hb dX9_append_30 rfl (lv_at hl 1 rfl) ?_
  refine va_get (D := (dC, dI)) (ci := 9) (v := .int 19) (C := RX9) (T := TX9) (N := 8) hx hb hts inlX9 hown hK hP 0 rfl rfl 2 (by decide) (hts _ m_290) (fun _ h9 => h9) rfl dX9_append_31 ?_
  refine lv_iload_n hx hb dX9_append_34 rfl (lv_at hl 2 rfl) ?_
  refine lv_iload_n hx hb dX9_append_35 rfl (lv_at hl 0 rfl) ?_
  refine lv_iushr hx hb dX9_append_36 rfl ?_
  refine lv_topi (fun z_13 ez_13 => ?_)
  refine lv_i2b hx hb dX9_append_37 rfl ?_
  refine lv_topi (fun z_14 ez_14 => ?_)
  refine va_bast hx hb hK hP hD hS 1 2 rfl rfl vi_19_1600 dX9_append_38 (fun H locs hP hD hS => ?_)
  generalize upd (f_11) (Int32.toNatClampNeg 19) (vp_nar .byte z_14) = f_15 at hP hD
  have hP : va_P (dC, dI) classes [(h0, .inr (9, [.ref h1, .ref h2, .int 19, .int 0, .int 0, .int 0, .int 0, .long 0])), (h1, .inl (cy 2, 1600, .inl f_15))] H := hP
  have hD : va_D A [(h0, .inr (9, [.ref h1, .ref h2, .int 19, .int 0, .int 0, .int 0, .int 0, .long 0])), (h1, .inl (cy 2, 1600, .inl f_15))] := hD
  refine lv_aload_n hx hb dX9_append_39 rfl (lv_at hl 1 rfl) ?_
  refine lv_dup hx hb dX9_append_40 rfl ?_
  refine va_get (D := (dC, dI)) (ci := 9) (v := .int 19) (C := RX9) (T := TX9) (N := 8) hx hb hts inlX9 hown hK hP 0 rfl rfl 2 (by decide) (hts _ m_290) (fun _ h9 => h9) rfl dX9_append_41 ?_
  refine lv_iconst (v := 1) hx hb dX9_append_44 (by decide +kernel) ?_
  refine lv_iadd hx hb dX9_append_45 ?_
  refine lv_topi (fun z_16 ez_16 => ?_)
  obtain rfl : z_16 = 20 := ez_16.trans (by decide +kernel)
  refine va_put (D := (dC, dI)) (ci := 9) (v := .int 20) (ty := .int) (C := RX9) (T := TX9) (N := 8) hx hb hts inlX9 tyX9 tyX9_ok nmX9 hown hK hP hD hS 0 rfl rfl 2 (by decide) (hts _ m_290) (fun _ h9 => h9) rfl (by decide +kernel) rfl rfl (Nat.le_of_ble_eq_true rfl) dX9_append_46 (fun H locs hP hD hS => ?_)
  have hP : va_P (dC, dI) classes [(h0, .inr (9, [.ref h1, .ref h2, .int 20, .int 0, .int 0, .int 0, .int 0, .long 0])), (h1, .inl (cy 2, 1600, .inl f_15))] H := hP
  have hD : va_D A [(h0, .inr (9, [.ref h1, .ref h2, .int 20, .int 0, .int 0, .int 0, .int 0, .long 0])), (h1, .inl (cy 2, 1600, .inl f_15))] := hD
  refine lv_iinc (v := (-8)) (lv' := [(2, .int (-8)), (0, .ref h0), (1, .int p0)]) hx hb dX9_append_49 hl (k := 0) rfl (by decide +kernel) (by decide) rfl (fun ls hl => ?_)
  refine lv_goto (tgt := 3) hx hb dX9_append_52 (by decide) ?_
  refine lv_iload_n hx hb dX9_append_3 rfl (lv_at hl 0 rfl) ?_
  refine lv_if_lt (tgt := 55) hx hb dX9_append_4 (by decide) (fun _ => ?_) (fun c_ => absurd (by decide +kernel) c_)
  have hP9 := hP.sub (ws' := [(h0, .inr (9, [.ref h1, .ref h2, .int 20, .int 0, .int 0, .int 0, .int 0, .long 0])), (h1, .inl (cy 2, 1600, .inl f_15))]) [0, 1] rfl
  have hD9 := hD.sub (ws' := [(h0, .inr (9, [.ref h1, .ref h2, .int 20, .int 0, .int 0, .int 0, .int 0, .long 0])), (h1, .inl (cy 2, 1600, .inl f_15))]) [0, 1] (by decide) rfl
  exact W.vret hx hb hr (fun t ht hW => ⟨⟨(), rfl, trivial, f_15, by rw [ht]; exact hP9, hD9⟩, hS.F ht⟩) hS.2.2 dX9_append_55
set_option maxHeartbeats 4000000 in
set_option maxRecDepth 100000 in
theorem kX11_feed_1 (l : Launch) (dC : Nat → ClassId) (dI : Nat → Nat → Nat) (cy : Nat → ClassId) (h0 h1 h2 h3 h4 h5 h6 h7 h8 h9 h10 h11 h12 h13 : Nat) (p0 p1 p2 p3 p4 : Int32) (sz : Nat) : Met l yX11_feed wmX11_feed ({ frames := 1, cells := 0, slots := 0, locals := 22 }) (va_Pc [.ref h0, .int p0, .int p1, .int p2, .int p3, .int p4] (fun U => U.heap.size = sz ∧ va_P (dC, dI) classes [(h0, .inr (11, [.ref h1, .ref h2, .ref h3, .ref h4, .ref h5, .ref h6, .ref h7, .ref h8, .ref h9])), (h1, .inr (6, [.ref h10, .ref h11, .int 0, .int (-1)])), (h10, .inr (9, [.ref h12, .ref h13, .int 0, .int 0, .int 0, .int 0, .int 0, .long 0])), (h12, .inl (cy 2, 1600, .inl (fun _ => 0)))] U.heap ∧ EV dC dI cy U ∧ va_D (fun _ => True) [(h0, .inr (11, [.ref h1, .ref h2, .ref h3, .ref h4, .ref h5, .ref h6, .ref h7, .ref h8, .ref h9])), (h1, .inr (6, [.ref h10, .ref h11, .int 0, .int (-1)])), (h10, .inr (9, [.ref h12, .ref h13, .int 0, .int 0, .int 0, .int 0, .int 0, .long 0])), (h12, .inl (cy 2, 1600, .inl (fun _ => 0)))])) (va_Qi (S := Unit) (fun r_ _ => r_ = 20) (fun _ _ => True) (va_A [(h0, .inr (11, [.ref h1, .ref h2, .ref h3, .ref h4, .ref h5, .ref h6, .ref h7, .ref h8, .ref h9])), (h1, .inr (6, [.ref h10, .ref h11, .int 0, .int (-1)])), (h10, .inr (9, [.ref h12, .ref h13, .int 0, .int 0, .int 0, .int 0, .int 0, .long 0])), (h12, .inl (cy 2, 1600, .inl (fun _ => 0)))] sz)) 0 0 (va_A [(h0, .inr (11, [.ref h1, .ref h2, .ref h3, .ref h4, .ref h5, .ref h6, .ref h7, .ref h8, .ref h9])), (h1, .inr (6, [.ref h10, .ref h11, .int 0, .int (-1)])), (h10, .inr (9, [.ref h12, .ref h13, .int 0, .int 0, .int 0, .int 0, .int 0, .long 0])), (h12, .inl (cy 2, 1600, .inl (fun _ => 0)))] sz) := by
  refine Met.ofW (cc := cX11_feed) (maxL := 7) (ret := (some .int)) (by decide +kernel) rfl ?_
  intro p e s m args below meth c s₁ B hml hv
  obtain ⟨rfl, hsz, hP, hE, hD0⟩ := hv
  have hK := hE.1
  have hN := hE.2.1
  have hx := B.exec
  have hb := B.bytes
  have hr := B.returns
  have hts0 := atoms_spec (ws := wmX11_feed) B.pre
  have hts : ∀ w ∈ wsL_law, w.before _ s = true := fun w h => hts0 w (List.mem_cons_of_mem _ h)
  have hown : s.vm.findClass RX11 = some m.cls := findClass_of_methodNamed B.named
  have hlocks := B.notSynchronized
  subst hsz
  have hD := hD0.self (sz := s.heap.size)
  generalize hAe : va_A [(h0, .inr (11, [.ref h1, .ref h2, .ref h3, .ref h4, .ref h5, .ref h6, .ref h7, .ref h8, .ref h9])), (h1, .inr (6, [.ref h10, .ref h11, .int 0, .int (-1)])), (h10, .inr (9, [.ref h12, .ref h13, .int 0, .int 0, .int 0, .int 0, .int 0, .long 0])), (h12, .inl (cy 2, 1600, .inl (fun _ => 0)))] s.heap.size = A at hD ⊢
  have hA : ∀ q : Nat, s.heap.size ≤ q → A q := fun q h => by rw [← hAe]; exact Or.inr h
  have hS : va_S A s.heap s.heap [] := va_S.rf
  have hP : va_P (dC, dI) classes [(h0, .inr (11, [.ref h1, .ref h2, .ref h3, .ref h4, .ref h5, .ref h6, .ref h7, .ref h8, .ref h9])), (h1, .inr (6, [.ref h10, .ref h11, .int 0, .int (-1)])), (h10, .inr (9, [.ref h12, .ref h13, .int 0, .int 0, .int 0, .int 0, .int 0, .long 0])), (h12, .inl (cy 2, 1600, .inl (fun _ => 0)))] s.heap := hP
  have hl := lv_entry ([.ref h0, .int p0, .int p1, .int p2, .int p3, .int p4]) (n := 7) (Nat.le_of_ble_eq_true rfl)
  rw [lg_entry_eq]
  generalize (lg_sl ([.ref h0, .int p0, .int p1, .int p2, .int p3, .int p4]) ++ List.replicate (7 - (lg_sl ([.ref h0, .int p0, .int p1, .int p2, .int p3, .int p4])).length) Slot.unset).toArray = ls at hl ⊢
  have hl : lv_has ls 7 [(0, .ref h0), (1, .int p0), (2, .int p1), (3, .int p2), (4, .int p3), (5, .int p4)] := hl
  refine lv_aload_n hx hb dX11_feed_0 rfl (lv_at hl 0 rfl) ?_
  refine va_get (D := (dC, dI)) (ci := 11) (v := .ref h1) (C := RX11) (T := TX11) (N := 9) hx hb hts inlX11 hown hK hP 0 rfl rfl 0 (by decide) (hts _ m_15) (fun _ h9 => h9) rfl dX11_feed_1 ?_
  refine va_getN (D := (dC, dI)) (ci := 6) (v := .ref h10) (C := RX6) (T := TX6) (N := 4) hx hb hts inlX6 hown hK hP 1 rfl rfl 0 (by decide) (va_Nw.use rfl (hN _ nw_29)) (fun _ h9 => h9) rfl dX11_feed_4 ?_
  refine lv_astore (lv' := [(6, .ref h10), (0, .ref h0), (1, .int p0), (2, .int p1), (3, .int p2), (4, .int p3), (5, .int p4)]) hx hb dX11_feed_7 hl (by decide) rfl (fun ls hl => ?_)
  refine lv_aload hx hb dX11_feed_9 (lv_at hl 0 rfl) ?_
  refine lv_bipush (v := 20) hx hb dX11_feed_11 (by decide +kernel) ?_
  have hPc := hP.sub (ws' := [(h10, .inr (9, [.ref h12, .ref h13, .int 0, .int 0, .int 0, .int 0, .int 0, .long 0])), (h12, .inl (cy 2, 1600, .inl (fun _ => 0)))]) [2, 3] rfl
  refine vp_callSi (W.runV (As := [.int 20]) (rest := []) ⟨hx, hb, hml, hown, hts⟩ (kX9_hasRoom_1 l dC dI cy h10 h12 h13) (cwV 1 hts (gdV m_286 m_287 m_288 m_51 m_289) rfl rfl rfl (by decide +kernel) ⟨Nat.le_of_ble_eq_true rfl, Nat.le_of_ble_eq_true rfl⟩) ⟨fun a U g mk q => by obtain ⟨q0, qP, qE⟩ := q; exact ⟨q0, qP, qE.call⟩, va_recv hK hP (ci := 9) (q0 := 2) rfl rfl, fun U hU hW => ⟨rfl, by rw [hU]; exact hPc, hE.moved hW⟩⟩ rfl rfl hl.1 rfl (lv_room (Nat.le_of_ble_eq_true rfl)) dX11_feed_13 ⟨(show 0 + 0 ≤ 0 from by decide +kernel), (show 0 + 0 ≤ 0 from by decide +kernel)⟩) (fun r_1 hw => ?_)
  subst r_1
  refine lv_if_ne (tgt := 21) hx hb dX11_feed_16 (by decide) (fun _ => ?_) (fun c_ => absurd c_ (by decide +kernel))
  refine lv_aload hx hb dX11_feed_21 (lv_at hl 0 rfl) ?_
  refine lv_iload_n hx hb dX11_feed_23 rfl (lv_at hl 2 rfl) ?_
  have hPc := hP.sub (ws' := [(h10, .inr (9, [.ref h12, .ref h13, .int 0, .int 0, .int 0, .int 0, .int 0, .long 0])), (h12, .inl (cy 2, 1600, .inl (fun _ => 0)))]) [2, 3] rfl
  have hDc := hD.sub (ws' := [(h10, .inr (9, [.ref h12, .ref h13, .int 0, .int 0, .int 0, .int 0, .int 0, .long 0])), (h12, .inl (cy 2, 1600, .inl (fun _ => 0)))]) [2, 3] (by decide) rfl
  have hFc := va_free (wc := [(h10, .inr (9, [.ref h12, .ref h13, .int 0, .int 0, .int 0, .int 0, .int 0, .long 0])), (h12, .inl (cy 2, 1600, .inl (fun _ => 0)))]) hD hS hA [2, 3] rfl
  refine va_callv (va_runV (As := [.int p0]) (rest := []) ⟨hx, hb, hml, hown, hts⟩ (kX9_append_1 l dC dI cy h10 h12 h13 p0 s.heap.size) (cwV 1 hts (gdV m_291 m_292 m_293 m_51 m_294) rfl rfl rfl (by decide +kernel) ⟨Nat.le_of_ble_eq_true rfl, Nat.le_of_ble_eq_true rfl⟩) ⟨fun a U g mk q => by obtain ⟨q0, q1, qP, qE, qD⟩ := q; exact ⟨q0, q1, qP, qE.call, qD⟩, va_recv hK hP (ci := 9) (q0 := 2) rfl rfl, fun U hU hW => ⟨rfl, by rw [hU], by rw [hU]; exact hPc, hE.moved hW, hDc.weaken (fun _ _ _ _ => trivial)⟩⟩ rfl rfl hl.1 rfl (lv_room (Nat.le_of_ble_eq_true rfl)) dX11_feed_24 ⟨(show 0 + 0 ≤ 0 from by decide +kernel), (show 0 + 0 ≤ 0 from by decide +kernel)⟩) hS (fun q _ h => hFc q h) hFc (fun u t H1 locs ht hvm hw hB hz1 hk1 hS => ?_)
  obtain ⟨f_3, hP1, hD1⟩ := hB
  rw [ht] at hP1
  obtain ⟨hP, hD⟩ := va_join (wr := [(h0, .inr (11, [.ref h1, .ref h2, .ref h3, .ref h4, .ref h5, .ref h6, .ref h7, .ref h8, .ref h9])), (h1, .inr (6, [.ref h10, .ref h11, .int 0, .int (-1)]))]) (w1 := [(h10, .inr (9, [.ref h12, .ref h13, .int 4, .int 0, .int 0, .int 0, .int 0, .long 0])), (h12, .inl (cy 2, 1600, .inl f_3))]) hP hD [2, 3] [0, 1] rfl rfl (by decide) (by decide) hk1 hFc hP1 hD1
  generalize H1 = H at hP hS ⊢
  have hP : va_P (dC, dI) classes [(h0, .inr (11, [.ref h1, .ref h2, .ref h3, .ref h4, .ref h5, .ref h6, .ref h7, .ref h8, .ref h9])), (h1, .inr (6, [.ref h10, .ref h11, .int 0, .int (-1)])), (h10, .inr (9, [.ref h12, .ref h13, .int 4, .int 0, .int 0, .int 0, .int 0, .long 0])), (h12, .inl (cy 2, 1600, .inl f_3))] H := hP
  have hD : va_D A [(h0, .inr (11, [.ref h1, .ref h2, .ref h3, .ref h4, .ref h5, .ref h6, .ref h7, .ref h8, .ref h9])), (h1, .inr (6, [.ref h10, .ref h11, .int 0, .int (-1)])), (h10, .inr (9, [.ref h12, .ref h13, .int 4, .int 0, .int 0, .int 0, .int 0, .long 0])), (h12, .inl (cy 2, 1600, .inl f_3))] := hD
  refine W.widen (k := 0) (n := 0) (by decide +kernel) (by decide +kernel) ?_
  refine lv_aload hx hb dX11_feed_27 (lv_at hl 0 rfl) ?_
  refine lv_iload_n hx hb dX11_feed_29 rfl (lv_at hl 3 rfl) ?_
  have hPc := hP.sub (ws' := [(h10, .inr (9, [.ref h12, .ref h13, .int 4, .int 0, .int 0, .int 0, .int 0, .long 0])), (h12, .inl (cy 2, 1600, .inl f_3))]) [2, 3] rfl
  have hDc := hD.sub (ws' := [(h10, .inr (9, [.ref h12, .ref h13, .int 4, .int 0, .int 0, .int 0, .int 0, .long 0])), (h12, .inl (cy 2, 1600, .inl f_3))]) [2, 3] (by decide) rfl
  have hFc := va_free (wc := [(h10, .inr (9, [.ref h12, .ref h13, .int 4, .int 0, .int 0, .int 0, .int 0, .long 0])), (h12, .inl (cy 2, 1600, .inl f_3))]) hD hS hA [2, 3] rfl
  refine va_callv (va_runV (As := [.int p1]) (rest := []) ⟨hx, hb, hml, hown, hts⟩ (kX9_append_2 l dC dI cy h10 h12 h13 f_3 p1 H.size) (cwV 1 hts (gdV m_291 m_292 m_293 m_51 m_294) rfl rfl rfl (by decide +kernel) ⟨Nat.le_of_ble_eq_true rfl, Nat.le_of_ble_eq_true rfl⟩) ⟨fun a U g mk q => by obtain ⟨q0, q1, qP, qE, qD⟩ := q; exact ⟨q0, q1, qP, qE.call, qD⟩, va_recv hK hP (ci := 9) (q0 := 2) rfl rfl, fun U hU hW => ⟨rfl, by rw [hU], by rw [hU]; exact hPc, hE.moved hW, hDc.weaken (fun _ _ _ _ => trivial)⟩⟩ rfl rfl hl.1 rfl (lv_room (Nat.le_of_ble_eq_true rfl)) dX11_feed_30 ⟨(show 0 + 0 ≤ 0 from by decide +kernel), (show 0 + 0 ≤ 0 from by decide +kernel)⟩) hS (fun q _ h => hFc q h) hFc (fun u t H1 locs ht hvm hw hB hz1 hk1 hS => ?_)
  obtain ⟨f_5, hP1, hD1⟩ := hB
  rw [ht] at hP1
  obtain ⟨hP, hD⟩ := va_join (wr := [(h0, .inr (11, [.ref h1, .ref h2, .ref h3, .ref h4, .ref h5, .ref h6, .ref h7, .ref h8, .ref h9])), (h1, .inr (6, [.ref h10, .ref h11, .int 0, .int (-1)]))]) (w1 := [(h10, .inr (9, [.ref h12, .ref h13, .int 8, .int 0, .int 0, .int 0, .int 0, .long 0])), (h12, .inl (cy 2, 1600, .inl f_5))]) hP hD [2, 3] [0, 1] rfl rfl (by decide) (by decide) hk1 hFc hP1 hD1
  generalize H1 = H at hP hS ⊢
  have hP : va_P (dC, dI) classes [(h0, .inr (11, [.ref h1, .ref h2, .ref h3, .ref h4, .ref h5, .ref h6, .ref h7, .ref h8, .ref h9])), (h1, .inr (6, [.ref h10, .ref h11, .int 0, .int (-1)])), (h10, .inr (9, [.ref h12, .ref h13, .int 8, .int 0, .int 0, .int 0, .int 0, .long 0])), (h12, .inl (cy 2, 1600, .inl f_5))] H := hP
  have hD : va_D A [(h0, .inr (11, [.ref h1, .ref h2, .ref h3, .ref h4, .ref h5, .ref h6, .ref h7, .ref h8, .ref h9])), (h1, .inr (6, [.ref h10, .ref h11, .int 0, .int (-1)])), (h10, .inr (9, [.ref h12, .ref h13, .int 8, .int 0, .int 0, .int 0, .int 0, .long 0])), (h12, .inl (cy 2, 1600, .inl f_5))] := hD
  refine W.widen (k := 0) (n := 0) (by decide +kernel) (by decide +kernel) ?_
  refine lv_aload hx hb dX11_feed_33 (lv_at hl 0 rfl) ?_
  refine lv_iload_n hx hb dX11_feed_35 rfl (lv_at hl 4 rfl) ?_
  have hPc := hP.sub (ws' := [(h10, .inr (9, [.ref h12, .ref h13, .int 8, .int 0, .int 0, .int 0, .int 0, .long 0])), (h12, .inl (cy 2, 1600, .inl f_5))]) [2, 3] rfl
  have hDc := hD.sub (ws' := [(h10, .inr (9, [.ref h12, .ref h13, .int 8, .int 0, .int 0, .int 0, .int 0, .long 0])), (h12, .inl (cy 2, 1600, .inl f_5))]) [2, 3] (by decide) rfl
  have hFc := va_free (wc := [(h10, .inr (9, [.ref h12, .ref h13, .int 8, .int 0, .int 0, .int 0, .int 0, .long 0])), (h12, .inl (cy 2, 1600, .inl f_5))]) hD hS hA [2, 3] rfl
  refine va_callv (va_runV (As := [.int p2]) (rest := []) ⟨hx, hb, hml, hown, hts⟩ (kX9_append_3 l dC dI cy h10 h12 h13 f_5 p2 H.size) (cwV 1 hts (gdV m_291 m_292 m_293 m_51 m_294) rfl rfl rfl (by decide +kernel) ⟨Nat.le_of_ble_eq_true rfl, Nat.le_of_ble_eq_true rfl⟩) ⟨fun a U g mk q => by obtain ⟨q0, q1, qP, qE, qD⟩ := q; exact ⟨q0, q1, qP, qE.call, qD⟩, va_recv hK hP (ci := 9) (q0 := 2) rfl rfl, fun U hU hW => ⟨rfl, by rw [hU], by rw [hU]; exact hPc, hE.moved hW, hDc.weaken (fun _ _ _ _ => trivial)⟩⟩ rfl rfl hl.1 rfl (lv_room (Nat.le_of_ble_eq_true rfl)) dX11_feed_36 ⟨(show 0 + 0 ≤ 0 from by decide +kernel), (show 0 + 0 ≤ 0 from by decide +kernel)⟩) hS (fun q _ h => hFc q h) hFc (fun u t H1 locs ht hvm hw hB hz1 hk1 hS => ?_)
  obtain ⟨f_7, hP1, hD1⟩ := hB
  rw [ht] at hP1
  obtain ⟨hP, hD⟩ := va_join (wr := [(h0, .inr (11, [.ref h1, .ref h2, .ref h3, .ref h4, .ref h5, .ref h6, .ref h7, .ref h8, .ref h9])), (h1, .inr (6, [.ref h10, .ref h11, .int 0, .int (-1)]))]) (w1 := [(h10, .inr (9, [.ref h12, .ref h13, .int 12, .int 0, .int 0, .int 0, .int 0, .long 0])), (h12, .inl (cy 2, 1600, .inl f_7))]) hP hD [2, 3] [0, 1] rfl rfl (by decide) (by decide) hk1 hFc hP1 hD1
  generalize H1 = H at hP hS ⊢
  have hP : va_P (dC, dI) classes [(h0, .inr (11, [.ref h1, .ref h2, .ref h3, .ref h4, .ref h5, .ref h6, .ref h7, .ref h8, .ref h9])), (h1, .inr (6, [.ref h10, .ref h11, .int 0, .int (-1)])), (h10, .inr (9, [.ref h12, .ref h13, .int 12, .int 0, .int 0, .int 0, .int 0, .long 0])), (h12, .inl (cy 2, 1600, .inl f_7))] H := hP
  have hD : va_D A [(h0, .inr (11, [.ref h1, .ref h2, .ref h3, .ref h4, .ref h5, .ref h6, .ref h7, .ref h8, .ref h9])), (h1, .inr (6, [.ref h10, .ref h11, .int 0, .int (-1)])), (h10, .inr (9, [.ref h12, .ref h13, .int 12, .int 0, .int 0, .int 0, .int 0, .long 0])), (h12, .inl (cy 2, 1600, .inl f_7))] := hD
  refine W.widen (k := 0) (n := 0) (by decide +kernel) (by decide +kernel) ?_
  refine lv_aload hx hb dX11_feed_39 (lv_at hl 0 rfl) ?_
  refine lv_iload hx hb dX11_feed_41 (lv_at hl 5 rfl) ?_
  have hPc := hP.sub (ws' := [(h10, .inr (9, [.ref h12, .ref h13, .int 12, .int 0, .int 0, .int 0, .int 0, .long 0])), (h12, .inl (cy 2, 1600, .inl f_7))]) [2, 3] rfl
  have hDc := hD.sub (ws' := [(h10, .inr (9, [.ref h12, .ref h13, .int 12, .int 0, .int 0, .int 0, .int 0, .long 0])), (h12, .inl (cy 2, 1600, .inl f_7))]) [2, 3] (by decide) rfl
  have hFc := va_free (wc := [(h10, .inr (9, [.ref h12, .ref h13, .int 12, .int 0, .int 0, .int 0, .int 0, .long 0])), (h12, .inl (cy 2, 1600, .inl f_7))]) hD hS hA [2, 3] rfl
  refine va_callv (va_runV (As := [.int p3]) (rest := []) ⟨hx, hb, hml, hown, hts⟩ (kX9_append_4 l dC dI cy h10 h12 h13 f_7 p3 H.size) (cwV 1 hts (gdV m_291 m_292 m_293 m_51 m_294) rfl rfl rfl (by decide +kernel) ⟨Nat.le_of_ble_eq_true rfl, Nat.le_of_ble_eq_true rfl⟩) ⟨fun a U g mk q => by obtain ⟨q0, q1, qP, qE, qD⟩ := q; exact ⟨q0, q1, qP, qE.call, qD⟩, va_recv hK hP (ci := 9) (q0 := 2) rfl rfl, fun U hU hW => ⟨rfl, by rw [hU], by rw [hU]; exact hPc, hE.moved hW, hDc.weaken (fun _ _ _ _ => trivial)⟩⟩ rfl rfl hl.1 rfl (lv_room (Nat.le_of_ble_eq_true rfl)) dX11_feed_43 ⟨(show 0 + 0 ≤ 0 from by decide +kernel), (show 0 + 0 ≤ 0 from by decide +kernel)⟩) hS (fun q _ h => hFc q h) hFc (fun u t H1 locs ht hvm hw hB hz1 hk1 hS => ?_)
  obtain ⟨f_9, hP1, hD1⟩ := hB
  rw [ht] at hP1
  obtain ⟨hP, hD⟩ := va_join (wr := [(h0, .inr (11, [.ref h1, .ref h2, .ref h3, .ref h4, .ref h5, .ref h6, .ref h7, .ref h8, .ref h9])), (h1, .inr (6, [.ref h10, .ref h11, .int 0, .int (-1)]))]) (w1 := [(h10, .inr (9, [.ref h12, .ref h13, .int 16, .int 0, .int 0, .int 0, .int 0, .long 0])), (h12, .inl (cy 2, 1600, .inl f_9))]) hP hD [2, 3] [0, 1] rfl rfl (by decide) (by decide) hk1 hFc hP1 hD1
  generalize H1 = H at hP hS ⊢
  have hP : va_P (dC, dI) classes [(h0, .inr (11, [.ref h1, .ref h2, .ref h3, .ref h4, .ref h5, .ref h6, .ref h7, .ref h8, .ref h9])), (h1, .inr (6, [.ref h10, .ref h11, .int 0, .int (-1)])), (h10, .inr (9, [.ref h12, .ref h13, .int 16, .int 0, .int 0, .int 0, .int 0, .long 0])), (h12, .inl (cy 2, 1600, .inl f_9))] H := hP
  have hD : va_D A [(h0, .inr (11, [.ref h1, .ref h2, .ref h3, .ref h4, .ref h5, .ref h6, .ref h7, .ref h8, .ref h9])), (h1, .inr (6, [.ref h10, .ref h11, .int 0, .int (-1)])), (h10, .inr (9, [.ref h12, .ref h13, .int 16, .int 0, .int 0, .int 0, .int 0, .long 0])), (h12, .inl (cy 2, 1600, .inl f_9))] := hD
  refine W.widen (k := 0) (n := 0) (by decide +kernel) (by decide +kernel) ?_
  refine lv_aload hx hb dX11_feed_46 (lv_at hl 0 rfl) ?_
  refine lv_iload hx hb dX11_feed_48 (lv_at hl 6 rfl) ?_
  have hPc := hP.sub (ws' := [(h10, .inr (9, [.ref h12, .ref h13, .int 16, .int 0, .int 0, .int 0, .int 0, .long 0])), (h12, .inl (cy 2, 1600, .inl f_9))]) [2, 3] rfl
  have hDc := hD.sub (ws' := [(h10, .inr (9, [.ref h12, .ref h13, .int 16, .int 0, .int 0, .int 0, .int 0, .long 0])), (h12, .inl (cy 2, 1600, .inl f_9))]) [2, 3] (by decide) rfl
  have hFc := va_free (wc := [(h10, .inr (9, [.ref h12, .ref h13, .int 16, .int 0, .int 0, .int 0, .int 0, .long 0])), (h12, .inl (cy 2, 1600, .inl f_9))]) hD hS hA [2, 3] rfl
  refine va_callv (va_runV (As := [.int p4]) (rest := []) ⟨hx, hb, hml, hown, hts⟩ (kX9_append_5 l dC dI cy h10 h12 h13 f_9 p4 H.size) (cwV 1 hts (gdV m_291 m_292 m_293 m_51 m_294) rfl rfl rfl (by decide +kernel) ⟨Nat.le_of_ble_eq_true rfl, Nat.le_of_ble_eq_true rfl⟩) ⟨fun a U g mk q => by obtain ⟨q0, q1, qP, qE, qD⟩ := q; exact ⟨q0, q1, qP, qE.call, qD⟩, va_recv hK hP (ci := 9) (q0 := 2) rfl rfl, fun U hU hW => ⟨rfl, by rw [hU], by rw [hU]; exact hPc, hE.moved hW, hDc.weaken (fun _ _ _ _ => trivial)⟩⟩ rfl rfl hl.1 rfl (lv_room (Nat.le_of_ble_eq_true rfl)) dX11_feed_50 ⟨(show 0 + 0 ≤ 0 from by decide +kernel), (show 0 + 0 ≤ 0 from by decide +kernel)⟩) hS (fun q _ h => hFc q h) hFc (fun u t H1 locs ht hvm hw hB hz1 hk1 hS => ?_)
  obtain ⟨f_11, hP1, hD1⟩ := hB
  rw [ht] at hP1
  obtain ⟨hP, hD⟩ := va_join (wr := [(h0, .inr (11, [.ref h1, .ref h2, .ref h3, .ref h4, .ref h5, .ref h6, .ref h7, .ref h8, .ref h9])), (h1, .inr (6, [.ref h10, .ref h11, .int 0, .int (-1)]))]) (w1 := [(h10, .inr (9, [.ref h12, .ref h13, .int 20, .int 0, .int 0, .int 0, .int 0, .long 0])), (h12, .inl (cy 2, 1600, .inl f_11))]) hP hD [2, 3] [0, 1] rfl rfl (by decide) (by decide) hk1 hFc hP1 hD1
  generalize H1 = H at hP hS ⊢
  have hP : va_P (dC, dI) classes [(h0, .inr (11, [.ref h1, .ref h2, .ref h3, .ref h4, .ref h5, .ref h6, .ref h7, .ref h8, .ref h9])), (h1, .inr (6, [.ref h10, .ref h11, .int 0, .int (-1)])), (h10, .inr (9, [.ref h12, .ref h13, .int 20, .int 0, .int 0, .int 0, .int 0, .long 0])), (h12, .inl (cy 2, 1600, .inl f_11))] H := hP
  have hD : va_D A [(h0, .inr (11, [.ref h1, .ref h2, .ref h3, .ref h4, .ref h5, .ref h6, .ref h7, .ref h8, .ref h9])), (h1, .inr (6, [.ref h10, .ref h11, .int 0, .int (-1)])), (h10, .inr (9, [.ref h12, .ref h13, .int 20, .int 0, .int 0, .int 0, .int 0, .long 0])), (h12, .inl (cy 2, 1600, .inl f_11))] := hD
  refine W.widen (k := 0) (n := 0) (by decide +kernel) (by decide +kernel) ?_
  refine lv_aload hx hb dX11_feed_53 (lv_at hl 0 rfl) ?_
  refine va_getN (D := (dC, dI)) (ci := 9) (v := .int 20) (C := RX9) (T := TX9) (N := 8) hx hb hts inlX9 hown hK hP 2 rfl rfl 2 (by decide) (va_Nw.use rfl (hN _ nw_0)) (fun _ h9 => h9) rfl dX11_feed_55 ?_
  exact W.iret (v := 20) hx hb hr (fun t ht hW => ⟨⟨20, (), rfl, rfl, trivial⟩, hS.F ht⟩) hS.2.2 dX11_feed_58
set_option maxHeartbeats 4000000 in
set_option maxRecDepth 100000 in
theorem lpX12_feed_18_1 {p : Program} {l : Launch} {e : Env} {R : Room} {s : State} {m : MethodId} {args : Array Value} {below : List Frame} {meth : Method} {c : Code} {Q : State → Prop} {A : Nat → Prop} (dC : Nat → ClassId) (dI : Nat → Nat → Nat) (cy : Nat → ClassId) (h0 : Nat) (r : Nat → Nat) (p0 p1 p2 p3 p4 : Int32) (hx : p.tables.exec = Jvm.exec) (hb : c.code = cX12_feed) (hml : c.maxLocals = 8) (hown : s.vm.findClass RX12 = some m.cls) (hts : ∀ w ∈ wsL_law, w.before args s = true) (hE : EV dC dI cy s) (hRf : 0 ≤ R.frames) (hRl : 0 ≤ R.locals) (hRc : 0 ≤ R.cells) (hRs : 0 ≤ R.slots) (kk : ∀ (x : Int32) (fl0 : Nat → Int32) (ls : Array Slot) (H : Heap) (locs : List Loc), va_P (dC, dI) classes [(h0, .inr (12, [.ref (r 0), .ref (r 1), .int 0, .int 0, .int 0, .int (-1), .int 0, .int 0, .int 0, .int 0, .long 0, .ref (r 11), .ref (r 12), .ref (r 13), .ref (r 14), .ref (r 15), .ref (r 16), .ref (r 17), .ref (r 18), .ref (r 19), .ref (r 20), .ref (r 21), .ref (r 22), .ref (r 23), .ref (r 24), .ref (r 25), .ref (r 26), .ref (r 27), .ref (r 28), .ref (r 29), .ref (r 30), .ref (r 31), .ref (r 32), .ref (r 33), .int 0, .int 0, .int 0, .int 0, .int 0, .int 0, .int 0, .ref (r 41), .ref (r 42), .ref (r 43), .ref (r 44), .int 0, .int 0, .int 0, .ref (r 48), .int 0, .int 0, .ref (r 51), .ref (r 52), .ref (r 53), .ref (r 54), .int 0, .ref (r 56), .ref (r 57), .ref (r 58), .int 0, .ref (r 60), .ref (r 61), .ref (r 62), .ref (r 63), .ref (r 64), .ref (r 65), .ref (r 66), .ref (r 67), .ref (r 68), .int 0, .int 0, .int 0, .ref (r 72), .ref (r 73)])), (r 0, .inl (cy 2, 1620, .inl fl0))] H → va_D A [(h0, .inr (12, [.ref (r 0), .ref (r 1), .int 0, .int 0, .int 0, .int (-1), .int 0, .int 0, .int 0, .int 0, .long 0, .ref (r 11), .ref (r 12), .ref (r 13), .ref (r 14), .ref (r 15), .ref (r 16), .ref (r 17), .ref (r 18), .ref (r 19), .ref (r 20), .ref (r 21), .ref (r 22), .ref (r 23), .ref (r 24), .ref (r 25), .ref (r 26), .ref (r 27), .ref (r 28), .ref (r 29), .ref (r 30), .ref (r 31), .ref (r 32), .ref (r 33), .int 0, .int 0, .int 0, .int 0, .int 0, .int 0, .int 0, .ref (r 41), .ref (r 42), .ref (r 43), .ref (r 44), .int 0, .int 0, .int 0, .ref (r 48), .int 0, .int 0, .ref (r 51), .ref (r 52), .ref (r 53), .ref (r 54), .int 0, .ref (r 56), .ref (r 57), .ref (r 58), .int 0, .ref (r 60), .ref (r 61), .ref (r 62), .ref (r 63), .ref (r 64), .ref (r 65), .ref (r 66), .ref (r 67), .ref (r 68), .int 0, .int 0, .int 0, .ref (r 72), .ref (r 73)])), (r 0, .inl (cy 2, 1620, .inl fl0))] → va_S A s.heap H locs → lv_has ls 8 [(6, .int x), (0, .ref h0), (1, .int p0), (2, .int p1), (3, .int p2), (4, .int p3), (5, .int p4)] → W p l e R s m args below meth c H locs 0 0 Q (F0 m 105 ls [])) : ∀ (n : Nat) (x : Int32) (fl0 : Nat → Int32) (ls : Array Slot) (H : Heap) (locs : List Loc), 0 ≤ x → ((20 : Int32).toInt - x.toInt).toNat < n → va_P (dC, dI) classes [(h0, .inr (12, [.ref (r 0), .ref (r 1), .int 0, .int 0, .int 0, .int (-1), .int 0, .int 0, .int 0, .int 0, .long 0, .ref (r 11), .ref (r 12), .ref (r 13), .ref (r 14), .ref (r 15), .ref (r 16), .ref (r 17), .ref (r 18), .ref (r 19), .ref (r 20), .ref (r 21), .ref (r 22), .ref (r 23), .ref (r 24), .ref (r 25), .ref (r 26), .ref (r 27), .ref (r 28), .ref (r 29), .ref (r 30), .ref (r 31), .ref (r 32), .ref (r 33), .int 0, .int 0, .int 0, .int 0, .int 0, .int 0, .int 0, .ref (r 41), .ref (r 42), .ref (r 43), .ref (r 44), .int 0, .int 0, .int 0, .ref (r 48), .int 0, .int 0, .ref (r 51), .ref (r 52), .ref (r 53), .ref (r 54), .int 0, .ref (r 56), .ref (r 57), .ref (r 58), .int 0, .ref (r 60), .ref (r 61), .ref (r 62), .ref (r 63), .ref (r 64), .ref (r 65), .ref (r 66), .ref (r 67), .ref (r 68), .int 0, .int 0, .int 0, .ref (r 72), .ref (r 73)])), (r 0, .inl (cy 2, 1620, .inl fl0))] H → va_D A [(h0, .inr (12, [.ref (r 0), .ref (r 1), .int 0, .int 0, .int 0, .int (-1), .int 0, .int 0, .int 0, .int 0, .long 0, .ref (r 11), .ref (r 12), .ref (r 13), .ref (r 14), .ref (r 15), .ref (r 16), .ref (r 17), .ref (r 18), .ref (r 19), .ref (r 20), .ref (r 21), .ref (r 22), .ref (r 23), .ref (r 24), .ref (r 25), .ref (r 26), .ref (r 27), .ref (r 28), .ref (r 29), .ref (r 30), .ref (r 31), .ref (r 32), .ref (r 33), .int 0, .int 0, .int 0, .int 0, .int 0, .int 0, .int 0, .ref (r 41), .ref (r 42), .ref (r 43), .ref (r 44), .int 0, .int 0, .int 0, .ref (r 48), .int 0, .int 0, .ref (r 51), .ref (r 52), .ref (r 53), .ref (r 54), .int 0, .ref (r 56), .ref (r 57), .ref (r 58), .int 0, .ref (r 60), .ref (r 61), .ref (r 62), .ref (r 63), .ref (r 64), .ref (r 65), .ref (r 66), .ref (r 67), .ref (r 68), .int 0, .int 0, .int 0, .ref (r 72), .ref (r 73)])), (r 0, .inl (cy 2, 1620, .inl fl0))] → va_S A s.heap H locs → lv_has ls 8 [(6, .int x), (0, .ref h0), (1, .int p0), (2, .int p1), (3, .int p2), (4, .int p3), (5, .int p4)] → W p l e R s m args below meth c H locs 0 0 Q (F0 m 18 ls []) := by
  have hK := hE.1
  have hN := hE.2.1
  intro n
  induction n with
  | zero => intro x fl0 ls H locs hlo hm; exact absurd hm (Nat.not_lt_zero _)
  | succ n ih =>
    intro x fl0 ls H locs hlo hm hP hD hS hl
    refine lv_iload hx hb dX12_feed_18 (lv_at hl 0 rfl) ?_
    refine lv_bipush (v := 20) hx hb dX12_feed_20 (by decide +kernel) ?_
    refine lv_icmp_ge (tgt := 105) hx hb dX12_feed_22 (by decide) (fun c_104 => ?_) (fun c_104 => ?_)
    · exact kk x fl0 ls _ _ hP hD hS hl
    · refine lv_iload hx hb dX12_feed_25 (lv_at hl 0 rfl) ?_
      refine lv_iconst (v := 4) hx hb dX12_feed_27 (by decide +kernel) ?_
      refine lv_icmp_ge (tgt := 35) hx hb dX12_feed_28 (by decide) (fun c_105 => ?_) (fun c_105 => ?_)
      · refine lv_iload hx hb dX12_feed_35 (lv_at hl 0 rfl) ?_
        refine lv_bipush (v := 8) hx hb dX12_feed_37 (by decide +kernel) ?_
        refine lv_icmp_ge (tgt := 46) hx hb dX12_feed_39 (by decide) (fun c_106 => ?_) (fun c_106 => ?_)
        · refine lv_iload hx hb dX12_feed_46 (lv_at hl 0 rfl) ?_
          refine lv_bipush (v := 12) hx hb dX12_feed_48 (by decide +kernel) ?_
          refine lv_icmp_ge (tgt := 57) hx hb dX12_feed_50 (by decide) (fun c_107 => ?_) (fun c_107 => ?_)
          · refine lv_iload hx hb dX12_feed_57 (lv_at hl 0 rfl) ?_
            refine lv_bipush (v := 16) hx hb dX12_feed_59 (by decide +kernel) ?_
            refine lv_icmp_ge (tgt := 69) hx hb dX12_feed_61 (by decide) (fun c_108 => ?_) (fun c_108 => ?_)
            · refine lv_iload hx hb dX12_feed_69 (lv_at hl 6 rfl) ?_
              refine lv_istore (lv' := [(7, .int p4), (6, .int x), (0, .ref h0), (1, .int p0), (2, .int p1), (3, .int p2), (4, .int p3), (5, .int p4)]) hx hb dX12_feed_71 hl (by decide) rfl (fun ls hl => ?_)
              refine lv_aload_n hx hb dX12_feed_73 rfl (lv_at hl 2 rfl) ?_
              refine va_get (D := (dC, dI)) (ci := 12) (v := .ref (r 0)) (C := RX12) (T := TX12) (N := 74) hx hb hts inlX12 hown hK hP 0 rfl rfl 0 (by decide) (hts _ m_218) (fun _ h9 => h9) rfl dX12_feed_74 ?_
              refine lv_aload_n hx hb dX12_feed_77 rfl (lv_at hl 2 rfl) ?_
              refine va_get (D := (dC, dI)) (ci := 12) (v := .int 0) (C := RX12) (T := TX12) (N := 74) hx hb hts inlX12 hown hK hP 0 rfl rfl 2 (by decide) (hts _ m_299) (fun _ h9 => h9) rfl dX12_feed_78 ?_
              refine lv_iload hx hb dX12_feed_81 (lv_at hl 1 rfl) ?_
              refine lv_iadd hx hb dX12_feed_83 ?_
              refine lv_topi (fun z_109 ez_109 => ?_)
              rw [Int32.zero_add] at ez_109
              subst z_109
              refine lv_iload hx hb dX12_feed_84 (lv_at hl 0 rfl) ?_
              refine lv_bipush (v := 24) hx hb dX12_feed_86 (by decide +kernel) ?_
              refine lv_bipush (v := 8) hx hb dX12_feed_88 (by decide +kernel) ?_
              refine lv_iload hx hb dX12_feed_90 (lv_at hl 1 rfl) ?_
              refine lv_iconst (v := 3) hx hb dX12_feed_92 (by decide +kernel) ?_
              refine lv_iand hx hb dX12_feed_93 ?_
              refine lv_topi (fun z_110 ez_110 => ?_)
              refine lv_imul hx hb dX12_feed_94 ?_
              refine lv_topi (fun z_111 ez_111 => ?_)
              refine lv_isub hx hb dX12_feed_95 ?_
              refine lv_topi (fun z_112 ez_112 => ?_)
              refine lv_ishr hx hb dX12_feed_96 ?_
              refine lv_topi (fun z_113 ez_113 => ?_)
              refine lv_i2b hx hb dX12_feed_97 rfl ?_
              refine lv_topi (fun z_114 ez_114 => ?_)
              refine va_bast hx hb hK hP hD hS 1 2 rfl rfl (nn_1 hlo c_104 c_105 c_106 c_107 c_108) dX12_feed_98 (fun H locs hP hD hS => ?_)
              generalize upd (fl0) (Int32.toNatClampNeg x) (vp_nar .byte z_114) = f_115 at hP hD
              have hP : va_P (dC, dI) classes [(h0, .inr (12, [.ref (r 0), .ref (r 1), .int 0, .int 0, .int 0, .int (-1), .int 0, .int 0, .int 0, .int 0, .long 0, .ref (r 11), .ref (r 12), .ref (r 13), .ref (r 14), .ref (r 15), .ref (r 16), .ref (r 17), .ref (r 18), .ref (r 19), .ref (r 20), .ref (r 21), .ref (r 22), .ref (r 23), .ref (r 24), .ref (r 25), .ref (r 26), .ref (r 27), .ref (r 28), .ref (r 29), .ref (r 30), .ref (r 31), .ref (r 32), .ref (r 33), .int 0, .int 0, .int 0, .int 0, .int 0, .int 0, .int 0, .ref (r 41), .ref (r 42), .ref (r 43), .ref (r 44), .int 0, .int 0, .int 0, .ref (r 48), .int 0, .int 0, .ref (r 51), .ref (r 52), .ref (r 53), .ref (r 54), .int 0, .ref (r 56), .ref (r 57), .ref (r 58), .int 0, .ref (r 60), .ref (r 61), .ref (r 62), .ref (r 63), .ref (r 64), .ref (r 65), .ref (r 66), .ref (r 67), .ref (r 68), .int 0, .int 0, .int 0, .ref (r 72), .ref (r 73)])), (r 0, .inl (cy 2, 1620, .inl f_115))] H := hP
              have hD : va_D A [(h0, .inr (12, [.ref (r 0), .ref (r 1), .int 0, .int 0, .int 0, .int (-1), .int 0, .int 0, .int 0, .int 0, .long 0, .ref (r 11), .ref (r 12), .ref (r 13), .ref (r 14), .ref (r 15), .ref (r 16), .ref (r 17), .ref (r 18), .ref (r 19), .ref (r 20), .ref (r 21), .ref (r 22), .ref (r 23), .ref (r 24), .ref (r 25), .ref (r 26), .ref (r 27), .ref (r 28), .ref (r 29), .ref (r 30), .ref (r 31), .ref (r 32), .ref (r 33), .int 0, .int 0, .int 0, .int 0, .int 0, .int 0, .int 0, .ref (r 41), .ref (r 42), .ref (r 43), .ref (r 44), .int 0, .int 0, .int 0, .ref (r 48), .int 0, .int 0, .ref (r 51), .ref (r 52), .ref (r 53), .ref (r 54), .int 0, .ref (r 56), .ref (r 57), .ref (r 58), .int 0, .ref (r 60), .ref (r 61), .ref (r 62), .ref (r 63), .ref (r 64), .ref (r 65), .ref (r 66), .ref (r 67), .ref (r 68), .int 0, .int 0, .int 0, .ref (r 72), .ref (r 73)])), (r 0, .inl (cy 2, 1620, .inl f_115))] := hD
              obtain ⟨z_116, ez_116⟩ : ∃ y : Int32, y = x + Int32.ofInt 1 := ⟨_, rfl⟩
              refine lv_iinc (v := z_116) (lv' := [(6, .int z_116), (7, .int p4), (0, .ref h0), (1, .int p0), (2, .int p1), (3, .int p2), (4, .int p3), (5, .int p4)]) hx hb dX12_feed_99 hl (k := 1) rfl (by rw [ez_116]) (by decide) rfl (fun ls hl => ?_)
              refine lv_goto (tgt := 18) hx hb dX12_feed_102 (by decide) ?_
              obtain ⟨hs1, hs2⟩ := xl_step hlo (Int32.not_le.mp c_104) ez_116 hm
              exact ih z_116 f_115 ls _ _ hs1 hs2 (hP.sub [0, 1] rfl) (hD.sub [0, 1] (by decide) rfl) hS (lv_sub hl [0, 2, 3, 4, 5, 6, 7] rfl)
            · refine lv_iload hx hb dX12_feed_64 (lv_at hl 5 rfl) ?_
              refine lv_goto (tgt := 71) hx hb dX12_feed_66 (by decide) ?_
              refine lv_istore (lv' := [(7, .int p3), (6, .int x), (0, .ref h0), (1, .int p0), (2, .int p1), (3, .int p2), (4, .int p3), (5, .int p4)]) hx hb dX12_feed_71 hl (by decide) rfl (fun ls hl => ?_)
              refine lv_aload_n hx hb dX12_feed_73 rfl (lv_at hl 2 rfl) ?_
              refine va_get (D := (dC, dI)) (ci := 12) (v := .ref (r 0)) (C := RX12) (T := TX12) (N := 74) hx hb hts inlX12 hown hK hP 0 rfl rfl 0 (by decide) (hts _ m_218) (fun _ h9 => h9) rfl dX12_feed_74 ?_
              refine lv_aload_n hx hb dX12_feed_77 rfl (lv_at hl 2 rfl) ?_
              refine va_get (D := (dC, dI)) (ci := 12) (v := .int 0) (C := RX12) (T := TX12) (N := 74) hx hb hts inlX12 hown hK hP 0 rfl rfl 2 (by decide) (hts _ m_299) (fun _ h9 => h9) rfl dX12_feed_78 ?_
              refine lv_iload hx hb dX12_feed_81 (lv_at hl 1 rfl) ?_
              refine lv_iadd hx hb dX12_feed_83 ?_
              refine lv_topi (fun z_117 ez_117 => ?_)
              rw [Int32.zero_add] at ez_117
              subst z_117
              refine lv_iload hx hb dX12_feed_84 (lv_at hl 0 rfl) ?_
              refine lv_bipush (v := 24) hx hb dX12_feed_86 (by decide +kernel) ?_
              refine lv_bipush (v := 8) hx hb dX12_feed_88 (by decide +kernel) ?_
              refine lv_iload hx hb dX12_feed_90 (lv_at hl 1 rfl) ?_
              refine lv_iconst (v := 3) hx hb dX12_feed_92 (by decide +kernel) ?_
              refine lv_iand hx hb dX12_feed_93 ?_
              refine lv_topi (fun z_118 ez_118 => ?_)
              refine lv_imul hx hb dX12_feed_94 ?_
              refine lv_topi (fun z_119 ez_119 => ?_)
              refine lv_isub hx hb dX12_feed_95 ?_
              refine lv_topi (fun z_120 ez_120 => ?_)
              refine lv_ishr hx hb dX12_feed_96 ?_
              refine lv_topi (fun z_121 ez_121 => ?_)
              refine lv_i2b hx hb dX12_feed_97 rfl ?_
              refine lv_topi (fun z_122 ez_122 => ?_)
              refine va_bast hx hb hK hP hD hS 1 2 rfl rfl (nn_2 hlo c_104 c_105 c_106 c_107 c_108) dX12_feed_98 (fun H locs hP hD hS => ?_)
              generalize upd (fl0) (Int32.toNatClampNeg x) (vp_nar .byte z_122) = f_123 at hP hD
              have hP : va_P (dC, dI) classes [(h0, .inr (12, [.ref (r 0), .ref (r 1), .int 0, .int 0, .int 0, .int (-1), .int 0, .int 0, .int 0, .int 0, .long 0, .ref (r 11), .ref (r 12), .ref (r 13), .ref (r 14), .ref (r 15), .ref (r 16), .ref (r 17), .ref (r 18), .ref (r 19), .ref (r 20), .ref (r 21), .ref (r 22), .ref (r 23), .ref (r 24), .ref (r 25), .ref (r 26), .ref (r 27), .ref (r 28), .ref (r 29), .ref (r 30), .ref (r 31), .ref (r 32), .ref (r 33), .int 0, .int 0, .int 0, .int 0, .int 0, .int 0, .int 0, .ref (r 41), .ref (r 42), .ref (r 43), .ref (r 44), .int 0, .int 0, .int 0, .ref (r 48), .int 0, .int 0, .ref (r 51), .ref (r 52), .ref (r 53), .ref (r 54), .int 0, .ref (r 56), .ref (r 57), .ref (r 58), .int 0, .ref (r 60), .ref (r 61), .ref (r 62), .ref (r 63), .ref (r 64), .ref (r 65), .ref (r 66), .ref (r 67), .ref (r 68), .int 0, .int 0, .int 0, .ref (r 72), .ref (r 73)])), (r 0, .inl (cy 2, 1620, .inl f_123))] H := hP
              have hD : va_D A [(h0, .inr (12, [.ref (r 0), .ref (r 1), .int 0, .int 0, .int 0, .int (-1), .int 0, .int 0, .int 0, .int 0, .long 0, .ref (r 11), .ref (r 12), .ref (r 13), .ref (r 14), .ref (r 15), .ref (r 16), .ref (r 17), .ref (r 18), .ref (r 19), .ref (r 20), .ref (r 21), .ref (r 22), .ref (r 23), .ref (r 24), .ref (r 25), .ref (r 26), .ref (r 27), .ref (r 28), .ref (r 29), .ref (r 30), .ref (r 31), .ref (r 32), .ref (r 33), .int 0, .int 0, .int 0, .int 0, .int 0, .int 0, .int 0, .ref (r 41), .ref (r 42), .ref (r 43), .ref (r 44), .int 0, .int 0, .int 0, .ref (r 48), .int 0, .int 0, .ref (r 51), .ref (r 52), .ref (r 53), .ref (r 54), .int 0, .ref (r 56), .ref (r 57), .ref (r 58), .int 0, .ref (r 60), .ref (r 61), .ref (r 62), .ref (r 63), .ref (r 64), .ref (r 65), .ref (r 66), .ref (r 67), .ref (r 68), .int 0, .int 0, .int 0, .ref (r 72), .ref (r 73)])), (r 0, .inl (cy 2, 1620, .inl f_123))] := hD
              obtain ⟨z_124, ez_124⟩ : ∃ y : Int32, y = x + Int32.ofInt 1 := ⟨_, rfl⟩
              refine lv_iinc (v := z_124) (lv' := [(6, .int z_124), (7, .int p3), (0, .ref h0), (1, .int p0), (2, .int p1), (3, .int p2), (4, .int p3), (5, .int p4)]) hx hb dX12_feed_99 hl (k := 1) rfl (by rw [ez_124]) (by decide) rfl (fun ls hl => ?_)
              refine lv_goto (tgt := 18) hx hb dX12_feed_102 (by decide) ?_
              obtain ⟨hs1, hs2⟩ := xl_step hlo (Int32.not_le.mp c_104) ez_124 hm
              exact ih z_124 f_123 ls _ _ hs1 hs2 (hP.sub [0, 1] rfl) (hD.sub [0, 1] (by decide) rfl) hS (lv_sub hl [0, 2, 3, 4, 5, 6, 7] rfl)
          · refine lv_iload_n hx hb dX12_feed_53 rfl (lv_at hl 4 rfl) ?_
            refine lv_goto (tgt := 71) hx hb dX12_feed_54 (by decide) ?_
            refine lv_istore (lv' := [(7, .int p2), (6, .int x), (0, .ref h0), (1, .int p0), (2, .int p1), (3, .int p2), (4, .int p3), (5, .int p4)]) hx hb dX12_feed_71 hl (by decide) rfl (fun ls hl => ?_)
            refine lv_aload_n hx hb dX12_feed_73 rfl (lv_at hl 2 rfl) ?_
            refine va_get (D := (dC, dI)) (ci := 12) (v := .ref (r 0)) (C := RX12) (T := TX12) (N := 74) hx hb hts inlX12 hown hK hP 0 rfl rfl 0 (by decide) (hts _ m_218) (fun _ h9 => h9) rfl dX12_feed_74 ?_
            refine lv_aload_n hx hb dX12_feed_77 rfl (lv_at hl 2 rfl) ?_
            refine va_get (D := (dC, dI)) (ci := 12) (v := .int 0) (C := RX12) (T := TX12) (N := 74) hx hb hts inlX12 hown hK hP 0 rfl rfl 2 (by decide) (hts _ m_299) (fun _ h9 => h9) rfl dX12_feed_78 ?_
            refine lv_iload hx hb dX12_feed_81 (lv_at hl 1 rfl) ?_
            refine lv_iadd hx hb dX12_feed_83 ?_
            refine lv_topi (fun z_125 ez_125 => ?_)
            rw [Int32.zero_add] at ez_125
            subst z_125
            refine lv_iload hx hb dX12_feed_84 (lv_at hl 0 rfl) ?_
            refine lv_bipush (v := 24) hx hb dX12_feed_86 (by decide +kernel) ?_
            refine lv_bipush (v := 8) hx hb dX12_feed_88 (by decide +kernel) ?_
            refine lv_iload hx hb dX12_feed_90 (lv_at hl 1 rfl) ?_
            refine lv_iconst (v := 3) hx hb dX12_feed_92 (by decide +kernel) ?_
            refine lv_iand hx hb dX12_feed_93 ?_
            refine lv_topi (fun z_126 ez_126 => ?_)
            refine lv_imul hx hb dX12_feed_94 ?_
            refine lv_topi (fun z_127 ez_127 => ?_)
            refine lv_isub hx hb dX12_feed_95 ?_
            refine lv_topi (fun z_128 ez_128 => ?_)
            refine lv_ishr hx hb dX12_feed_96 ?_
            refine lv_topi (fun z_129 ez_129 => ?_)
            refine lv_i2b hx hb dX12_feed_97 rfl ?_
            refine lv_topi (fun z_130 ez_130 => ?_)
            refine va_bast hx hb hK hP hD hS 1 2 rfl rfl (nn_3 hlo c_104 c_105 c_106 c_107) dX12_feed_98 (fun H locs hP hD hS => ?_)
            generalize upd (fl0) (Int32.toNatClampNeg x) (vp_nar .byte z_130) = f_131 at hP hD
            have hP : va_P (dC, dI) classes [(h0, .inr (12, [.ref (r 0), .ref (r 1), .int 0, .int 0, .int 0, .int (-1), .int 0, .int 0, .int 0, .int 0, .long 0, .ref (r 11), .ref (r 12), .ref (r 13), .ref (r 14), .ref (r 15), .ref (r 16), .ref (r 17), .ref (r 18), .ref (r 19), .ref (r 20), .ref (r 21), .ref (r 22), .ref (r 23), .ref (r 24), .ref (r 25), .ref (r 26), .ref (r 27), .ref (r 28), .ref (r 29), .ref (r 30), .ref (r 31), .ref (r 32), .ref (r 33), .int 0, .int 0, .int 0, .int 0, .int 0, .int 0, .int 0, .ref (r 41), .ref (r 42), .ref (r 43), .ref (r 44), .int 0, .int 0, .int 0, .ref (r 48), .int 0, .int 0, .ref (r 51), .ref (r 52), .ref (r 53), .ref (r 54), .int 0, .ref (r 56), .ref (r 57), .ref (r 58), .int 0, .ref (r 60), .ref (r 61), .ref (r 62), .ref (r 63), .ref (r 64), .ref (r 65), .ref (r 66), .ref (r 67), .ref (r 68), .int 0, .int 0, .int 0, .ref (r 72), .ref (r 73)])), (r 0, .inl (cy 2, 1620, .inl f_131))] H := hP
            have hD : va_D A [(h0, .inr (12, [.ref (r 0), .ref (r 1), .int 0, .int 0, .int 0, .int (-1), .int 0, .int 0, .int 0, .int 0, .long 0, .ref (r 11), .ref (r 12), .ref (r 13), .ref (r 14), .ref (r 15), .ref (r 16), .ref (r 17), .ref (r 18), .ref (r 19), .ref (r 20), .ref (r 21), .ref (r 22), .ref (r 23), .ref (r 24), .ref (r 25), .ref (r 26), .ref (r 27), .ref (r 28), .ref (r 29), .ref (r 30), .ref (r 31), .ref (r 32), .ref (r 33), .int 0, .int 0, .int 0, .int 0, .int 0, .int 0, .int 0, .ref (r 41), .ref (r 42), .ref (r 43), .ref (r 44), .int 0, .int 0, .int 0, .ref (r 48), .int 0, .int 0, .ref (r 51), .ref (r 52), .ref (r 53), .ref (r 54), .int 0, .ref (r 56), .ref (r 57), .ref (r 58), .int 0, .ref (r 60), .ref (r 61), .ref (r 62), .ref (r 63), .ref (r 64), .ref (r 65), .ref (r 66), .ref (r 67), .ref (r 68), .int 0, .int 0, .int 0, .ref (r 72), .ref (r 73)])), (r 0, .inl (cy 2, 1620, .inl f_131))] := hD
            obtain ⟨z_132, ez_132⟩ : ∃ y : Int32, y = x + Int32.ofInt 1 := ⟨_, rfl⟩
            refine lv_iinc (v := z_132) (lv' := [(6, .int z_132), (7, .int p2), (0, .ref h0), (1, .int p0), (2, .int p1), (3, .int p2), (4, .int p3), (5, .int p4)]) hx hb dX12_feed_99 hl (k := 1) rfl (by rw [ez_132]) (by decide) rfl (fun ls hl => ?_)
            refine lv_goto (tgt := 18) hx hb dX12_feed_102 (by decide) ?_
            obtain ⟨hs1, hs2⟩ := xl_step hlo (Int32.not_le.mp c_104) ez_132 hm
            exact ih z_132 f_131 ls _ _ hs1 hs2 (hP.sub [0, 1] rfl) (hD.sub [0, 1] (by decide) rfl) hS (lv_sub hl [0, 2, 3, 4, 5, 6, 7] rfl)
        · refine lv_iload_n hx hb dX12_feed_42 rfl (lv_at hl 3 rfl) ?_
          refine lv_goto (tgt := 71) hx hb dX12_feed_43 (by decide) ?_
          refine lv_istore (lv' := [(7, .int p1), (6, .int x), (0, .ref h0), (1, .int p0), (2, .int p1), (3, .int p2), (4, .int p3), (5, .int p4)]) hx hb dX12_feed_71 hl (by decide) rfl (fun ls hl => ?_)
          refine lv_aload_n hx hb dX12_feed_73 rfl (lv_at hl 2 rfl) ?_
          refine va_get (D := (dC, dI)) (ci := 12) (v := .ref (r 0)) (C := RX12) (T := TX12) (N := 74) hx hb hts inlX12 hown hK hP 0 rfl rfl 0 (by decide) (hts _ m_218) (fun _ h9 => h9) rfl dX12_feed_74 ?_
          refine lv_aload_n hx hb dX12_feed_77 rfl (lv_at hl 2 rfl) ?_
          refine va_get (D := (dC, dI)) (ci := 12) (v := .int 0) (C := RX12) (T := TX12) (N := 74) hx hb hts inlX12 hown hK hP 0 rfl rfl 2 (by decide) (hts _ m_299) (fun _ h9 => h9) rfl dX12_feed_78 ?_
          refine lv_iload hx hb dX12_feed_81 (lv_at hl 1 rfl) ?_
          refine lv_iadd hx hb dX12_feed_83 ?_
          refine lv_topi (fun z_133 ez_133 => ?_)
          rw [Int32.zero_add] at ez_133
          subst z_133
          refine lv_iload hx hb dX12_feed_84 (lv_at hl 0 rfl) ?_
          refine lv_bipush (v := 24) hx hb dX12_feed_86 (by decide +kernel) ?_
          refine lv_bipush (v := 8) hx hb dX12_feed_88 (by decide +kernel) ?_
          refine lv_iload hx hb dX12_feed_90 (lv_at hl 1 rfl) ?_
          refine lv_iconst (v := 3) hx hb dX12_feed_92 (by decide +kernel) ?_
          refine lv_iand hx hb dX12_feed_93 ?_
          refine lv_topi (fun z_134 ez_134 => ?_)
          refine lv_imul hx hb dX12_feed_94 ?_
          refine lv_topi (fun z_135 ez_135 => ?_)
          refine lv_isub hx hb dX12_feed_95 ?_
          refine lv_topi (fun z_136 ez_136 => ?_)
          refine lv_ishr hx hb dX12_feed_96 ?_
          refine lv_topi (fun z_137 ez_137 => ?_)
          refine lv_i2b hx hb dX12_feed_97 rfl ?_
          refine lv_topi (fun z_138 ez_138 => ?_)
          refine va_bast hx hb hK hP hD hS 1 2 rfl rfl (nn_4 hlo c_104 c_105 c_106) dX12_feed_98 (fun H locs hP hD hS => ?_)
          generalize upd (fl0) (Int32.toNatClampNeg x) (vp_nar .byte z_138) = f_139 at hP hD
          have hP : va_P (dC, dI) classes [(h0, .inr (12, [.ref (r 0), .ref (r 1), .int 0, .int 0, .int 0, .int (-1), .int 0, .int 0, .int 0, .int 0, .long 0, .ref (r 11), .ref (r 12), .ref (r 13), .ref (r 14), .ref (r 15), .ref (r 16), .ref (r 17), .ref (r 18), .ref (r 19), .ref (r 20), .ref (r 21), .ref (r 22), .ref (r 23), .ref (r 24), .ref (r 25), .ref (r 26), .ref (r 27), .ref (r 28), .ref (r 29), .ref (r 30), .ref (r 31), .ref (r 32), .ref (r 33), .int 0, .int 0, .int 0, .int 0, .int 0, .int 0, .int 0, .ref (r 41), .ref (r 42), .ref (r 43), .ref (r 44), .int 0, .int 0, .int 0, .ref (r 48), .int 0, .int 0, .ref (r 51), .ref (r 52), .ref (r 53), .ref (r 54), .int 0, .ref (r 56), .ref (r 57), .ref (r 58), .int 0, .ref (r 60), .ref (r 61), .ref (r 62), .ref (r 63), .ref (r 64), .ref (r 65), .ref (r 66), .ref (r 67), .ref (r 68), .int 0, .int 0, .int 0, .ref (r 72), .ref (r 73)])), (r 0, .inl (cy 2, 1620, .inl f_139))] H := hP
          have hD : va_D A [(h0, .inr (12, [.ref (r 0), .ref (r 1), .int 0, .int 0, .int 0, .int (-1), .int 0, .int 0, .int 0, .int 0, .long 0, .ref (r 11), .ref (r 12), .ref (r 13), .ref (r 14), .ref (r 15), .ref (r 16), .ref (r 17), .ref (r 18), .ref (r 19), .ref (r 20), .ref (r 21), .ref (r 22), .ref (r 23), .ref (r 24), .ref (r 25), .ref (r 26), .ref (r 27), .ref (r 28), .ref (r 29), .ref (r 30), .ref (r 31), .ref (r 32), .ref (r 33), .int 0, .int 0, .int 0, .int 0, .int 0, .int 0, .int 0, .ref (r 41), .ref (r 42), .ref (r 43), .ref (r 44), .int 0, .int 0, .int 0, .ref (r 48), .int 0, .int 0, .ref (r 51), .ref (r 52), .ref (r 53), .ref (r 54), .int 0, .ref (r 56), .ref (r 57), .ref (r 58), .int 0, .ref (r 60), .ref (r 61), .ref (r 62), .ref (r 63), .ref (r 64), .ref (r 65), .ref (r 66), .ref (r 67), .ref (r 68), .int 0, .int 0, .int 0, .ref (r 72), .ref (r 73)])), (r 0, .inl (cy 2, 1620, .inl f_139))] := hD
          obtain ⟨z_140, ez_140⟩ : ∃ y : Int32, y = x + Int32.ofInt 1 := ⟨_, rfl⟩
          refine lv_iinc (v := z_140) (lv' := [(6, .int z_140), (7, .int p1), (0, .ref h0), (1, .int p0), (2, .int p1), (3, .int p2), (4, .int p3), (5, .int p4)]) hx hb dX12_feed_99 hl (k := 1) rfl (by rw [ez_140]) (by decide) rfl (fun ls hl => ?_)
          refine lv_goto (tgt := 18) hx hb dX12_feed_102 (by decide) ?_
          obtain ⟨hs1, hs2⟩ := xl_step hlo (Int32.not_le.mp c_104) ez_140 hm
          exact ih z_140 f_139 ls _ _ hs1 hs2 (hP.sub [0, 1] rfl) (hD.sub [0, 1] (by decide) rfl) hS (lv_sub hl [0, 2, 3, 4, 5, 6, 7] rfl)
      · refine lv_iload_n hx hb dX12_feed_31 rfl (lv_at hl 2 rfl) ?_
        refine lv_goto (tgt := 71) hx hb dX12_feed_32 (by decide) ?_
        refine lv_istore (lv' := [(7, .int p0), (6, .int x), (0, .ref h0), (1, .int p0), (2, .int p1), (3, .int p2), (4, .int p3), (5, .int p4)]) hx hb dX12_feed_71 hl (by decide) rfl (fun ls hl => ?_)
        refine lv_aload_n hx hb dX12_feed_73 rfl (lv_at hl 2 rfl) ?_
        refine va_get (D := (dC, dI)) (ci := 12) (v := .ref (r 0)) (C := RX12) (T := TX12) (N := 74) hx hb hts inlX12 hown hK hP 0 rfl rfl 0 (by decide) (hts _ m_218) (fun _ h9 => h9) rfl dX12_feed_74 ?_
        refine lv_aload_n hx hb dX12_feed_77 rfl (lv_at hl 2 rfl) ?_
        refine va_get (D := (dC, dI)) (ci := 12) (v := .int 0) (C := RX12) (T := TX12) (N := 74) hx hb hts inlX12 hown hK hP 0 rfl rfl 2 (by decide) (hts _ m_299) (fun _ h9 => h9) rfl dX12_feed_78 ?_
        refine lv_iload hx hb dX12_feed_81 (lv_at hl 1 rfl) ?_
        refine lv_iadd hx hb dX12_feed_83 ?_
        refine lv_topi (fun z_141 ez_141 => ?_)
        rw [Int32.zero_add] at ez_141
        subst z_141
        refine lv_iload hx hb dX12_feed_84 (lv_at hl 0 rfl) ?_
        refine lv_bipush (v := 24) hx hb dX12_feed_86 (by decide +kernel) ?_
        refine lv_bipush (v := 8) hx hb dX12_feed_88 (by decide +kernel) ?_
        refine lv_iload hx hb dX12_feed_90 (lv_at hl 1 rfl) ?_
        refine lv_iconst (v := 3) hx hb dX12_feed_92 (by decide +kernel) ?_
        refine lv_iand hx hb dX12_feed_93 ?_
        refine lv_topi (fun z_142 ez_142 => ?_)
        refine lv_imul hx hb dX12_feed_94 ?_
        refine lv_topi (fun z_143 ez_143 => ?_)
        refine lv_isub hx hb dX12_feed_95 ?_
        refine lv_topi (fun z_144 ez_144 => ?_)
        refine lv_ishr hx hb dX12_feed_96 ?_
        refine lv_topi (fun z_145 ez_145 => ?_)
        refine lv_i2b hx hb dX12_feed_97 rfl ?_
        refine lv_topi (fun z_146 ez_146 => ?_)
        refine va_bast hx hb hK hP hD hS 1 2 rfl rfl (nn_5 hlo c_104 c_105) dX12_feed_98 (fun H locs hP hD hS => ?_)
        generalize upd (fl0) (Int32.toNatClampNeg x) (vp_nar .byte z_146) = f_147 at hP hD
        have hP : va_P (dC, dI) classes [(h0, .inr (12, [.ref (r 0), .ref (r 1), .int 0, .int 0, .int 0, .int (-1), .int 0, .int 0, .int 0, .int 0, .long 0, .ref (r 11), .ref (r 12), .ref (r 13), .ref (r 14), .ref (r 15), .ref (r 16), .ref (r 17), .ref (r 18), .ref (r 19), .ref (r 20), .ref (r 21), .ref (r 22), .ref (r 23), .ref (r 24), .ref (r 25), .ref (r 26), .ref (r 27), .ref (r 28), .ref (r 29), .ref (r 30), .ref (r 31), .ref (r 32), .ref (r 33), .int 0, .int 0, .int 0, .int 0, .int 0, .int 0, .int 0, .ref (r 41), .ref (r 42), .ref (r 43), .ref (r 44), .int 0, .int 0, .int 0, .ref (r 48), .int 0, .int 0, .ref (r 51), .ref (r 52), .ref (r 53), .ref (r 54), .int 0, .ref (r 56), .ref (r 57), .ref (r 58), .int 0, .ref (r 60), .ref (r 61), .ref (r 62), .ref (r 63), .ref (r 64), .ref (r 65), .ref (r 66), .ref (r 67), .ref (r 68), .int 0, .int 0, .int 0, .ref (r 72), .ref (r 73)])), (r 0, .inl (cy 2, 1620, .inl f_147))] H := hP
        have hD : va_D A [(h0, .inr (12, [.ref (r 0), .ref (r 1), .int 0, .int 0, .int 0, .int (-1), .int 0, .int 0, .int 0, .int 0, .long 0, .ref (r 11), .ref (r 12), .ref (r 13), .ref (r 14), .ref (r 15), .ref (r 16), .ref (r 17), .ref (r 18), .ref (r 19), .ref (r 20), .ref (r 21), .ref (r 22), .ref (r 23), .ref (r 24), .ref (r 25), .ref (r 26), .ref (r 27), .ref (r 28), .ref (r 29), .ref (r 30), .ref (r 31), .ref (r 32), .ref (r 33), .int 0, .int 0, .int 0, .int 0, .int 0, .int 0, .int 0, .ref (r 41), .ref (r 42), .ref (r 43), .ref (r 44), .int 0, .int 0, .int 0, .ref (r 48), .int 0, .int 0, .ref (r 51), .ref (r 52), .ref (r 53), .ref (r 54), .int 0, .ref (r 56), .ref (r 57), .ref (r 58), .int 0, .ref (r 60), .ref (r 61), .ref (r 62), .ref (r 63), .ref (r 64), .ref (r 65), .ref (r 66), .ref (r 67), .ref (r 68), .int 0, .int 0, .int 0, .ref (r 72), .ref (r 73)])), (r 0, .inl (cy 2, 1620, .inl f_147))] := hD
        obtain ⟨z_148, ez_148⟩ : ∃ y : Int32, y = x + Int32.ofInt 1 := ⟨_, rfl⟩
        refine lv_iinc (v := z_148) (lv' := [(6, .int z_148), (7, .int p0), (0, .ref h0), (1, .int p0), (2, .int p1), (3, .int p2), (4, .int p3), (5, .int p4)]) hx hb dX12_feed_99 hl (k := 1) rfl (by rw [ez_148]) (by decide) rfl (fun ls hl => ?_)
        refine lv_goto (tgt := 18) hx hb dX12_feed_102 (by decide) ?_
        obtain ⟨hs1, hs2⟩ := xl_step hlo (Int32.not_le.mp c_104) ez_148 hm
        exact ih z_148 f_147 ls _ _ hs1 hs2 (hP.sub [0, 1] rfl) (hD.sub [0, 1] (by decide) rfl) hS (lv_sub hl [0, 2, 3, 4, 5, 6, 7] rfl)
set_option maxHeartbeats 4000000 in
set_option maxRecDepth 100000 in
theorem kX12_feed_1 (l : Launch) (dC : Nat → ClassId) (dI : Nat → Nat → Nat) (cy : Nat → ClassId) (h0 : Nat) (r : Nat → Nat) (p0 p1 p2 p3 p4 : Int32) (sz : Nat) : Met l yX12_feed wmX12_feed ({ frames := 0, cells := 0, slots := 0, locals := 0 }) (va_Pc [.ref h0, .int p0, .int p1, .int p2, .int p3, .int p4] (fun U => U.heap.size = sz ∧ va_P (dC, dI) classes [(h0, .inr (12, [.ref (r 0), .ref (r 1), .int 0, .int 0, .int 0, .int (-1), .int 0, .int 0, .int 0, .int 0, .long 0, .ref (r 11), .ref (r 12), .ref (r 13), .ref (r 14), .ref (r 15), .ref (r 16), .ref (r 17), .ref (r 18), .ref (r 19), .ref (r 20), .ref (r 21), .ref (r 22), .ref (r 23), .ref (r 24), .ref (r 25), .ref (r 26), .ref (r 27), .ref (r 28), .ref (r 29), .ref (r 30), .ref (r 31), .ref (r 32), .ref (r 33), .int 0, .int 0, .int 0, .int 0, .int 0, .int 0, .int 0, .ref (r 41), .ref (r 42), .ref (r 43), .ref (r 44), .int 0, .int 0, .int 0, .ref (r 48), .int 0, .int 0, .ref (r 51), .ref (r 52), .ref (r 53), .ref (r 54), .int 0, .ref (r 56), .ref (r 57), .ref (r 58), .int 0, .ref (r 60), .ref (r 61), .ref (r 62), .ref (r 63), .ref (r 64), .ref (r 65), .ref (r 66), .ref (r 67), .ref (r 68), .int 0, .int 0, .int 0, .ref (r 72), .ref (r 73)])), (r 0, .inl (cy 2, 1620, .inl (fun _ => 0)))] U.heap ∧ EV dC dI cy U ∧ va_D (fun _ => True) [(h0, .inr (12, [.ref (r 0), .ref (r 1), .int 0, .int 0, .int 0, .int (-1), .int 0, .int 0, .int 0, .int 0, .long 0, .ref (r 11), .ref (r 12), .ref (r 13), .ref (r 14), .ref (r 15), .ref (r 16), .ref (r 17), .ref (r 18), .ref (r 19), .ref (r 20), .ref (r 21), .ref (r 22), .ref (r 23), .ref (r 24), .ref (r 25), .ref (r 26), .ref (r 27), .ref (r 28), .ref (r 29), .ref (r 30), .ref (r 31), .ref (r 32), .ref (r 33), .int 0, .int 0, .int 0, .int 0, .int 0, .int 0, .int 0, .ref (r 41), .ref (r 42), .ref (r 43), .ref (r 44), .int 0, .int 0, .int 0, .ref (r 48), .int 0, .int 0, .ref (r 51), .ref (r 52), .ref (r 53), .ref (r 54), .int 0, .ref (r 56), .ref (r 57), .ref (r 58), .int 0, .ref (r 60), .ref (r 61), .ref (r 62), .ref (r 63), .ref (r 64), .ref (r 65), .ref (r 66), .ref (r 67), .ref (r 68), .int 0, .int 0, .int 0, .ref (r 72), .ref (r 73)])), (r 0, .inl (cy 2, 1620, .inl (fun _ => 0)))])) (va_Qi (S := Unit) (fun r_ _ => r_ = 20) (fun _ _ => True) (va_A [(h0, .inr (12, [.ref (r 0), .ref (r 1), .int 0, .int 0, .int 0, .int (-1), .int 0, .int 0, .int 0, .int 0, .long 0, .ref (r 11), .ref (r 12), .ref (r 13), .ref (r 14), .ref (r 15), .ref (r 16), .ref (r 17), .ref (r 18), .ref (r 19), .ref (r 20), .ref (r 21), .ref (r 22), .ref (r 23), .ref (r 24), .ref (r 25), .ref (r 26), .ref (r 27), .ref (r 28), .ref (r 29), .ref (r 30), .ref (r 31), .ref (r 32), .ref (r 33), .int 0, .int 0, .int 0, .int 0, .int 0, .int 0, .int 0, .ref (r 41), .ref (r 42), .ref (r 43), .ref (r 44), .int 0, .int 0, .int 0, .ref (r 48), .int 0, .int 0, .ref (r 51), .ref (r 52), .ref (r 53), .ref (r 54), .int 0, .ref (r 56), .ref (r 57), .ref (r 58), .int 0, .ref (r 60), .ref (r 61), .ref (r 62), .ref (r 63), .ref (r 64), .ref (r 65), .ref (r 66), .ref (r 67), .ref (r 68), .int 0, .int 0, .int 0, .ref (r 72), .ref (r 73)])), (r 0, .inl (cy 2, 1620, .inl (fun _ => 0)))] sz)) 0 0 (va_A [(h0, .inr (12, [.ref (r 0), .ref (r 1), .int 0, .int 0, .int 0, .int (-1), .int 0, .int 0, .int 0, .int 0, .long 0, .ref (r 11), .ref (r 12), .ref (r 13), .ref (r 14), .ref (r 15), .ref (r 16), .ref (r 17), .ref (r 18), .ref (r 19), .ref (r 20), .ref (r 21), .ref (r 22), .ref (r 23), .ref (r 24), .ref (r 25), .ref (r 26), .ref (r 27), .ref (r 28), .ref (r 29), .ref (r 30), .ref (r 31), .ref (r 32), .ref (r 33), .int 0, .int 0, .int 0, .int 0, .int 0, .int 0, .int 0, .ref (r 41), .ref (r 42), .ref (r 43), .ref (r 44), .int 0, .int 0, .int 0, .ref (r 48), .int 0, .int 0, .ref (r 51), .ref (r 52), .ref (r 53), .ref (r 54), .int 0, .ref (r 56), .ref (r 57), .ref (r 58), .int 0, .ref (r 60), .ref (r 61), .ref (r 62), .ref (r 63), .ref (r 64), .ref (r 65), .ref (r 66), .ref (r 67), .ref (r 68), .int 0, .int 0, .int 0, .ref (r 72), .ref (r 73)])), (r 0, .inl (cy 2, 1620, .inl (fun _ => 0)))] sz) := by
  refine Met.ofW (cc := cX12_feed) (maxL := 8) (ret := (some .int)) (by decide +kernel) rfl ?_
  intro p e s m args below meth c s₁ B hml hv
  obtain ⟨rfl, hsz, hP, hE, hD0⟩ := hv
  have hK := hE.1
  have hN := hE.2.1
  have hx := B.exec
  have hb := B.bytes
  have hr := B.returns
  have hts0 := atoms_spec (ws := wmX12_feed) B.pre
  have hts : ∀ w ∈ wsL_law, w.before _ s = true := fun w h => hts0 w (List.mem_cons_of_mem _ h)
  have hown : s.vm.findClass RX12 = some m.cls := findClass_of_methodNamed B.named
  have hlocks := B.notSynchronized
  subst hsz
  have hD := hD0.self (sz := s.heap.size)
  generalize hAe : va_A [(h0, .inr (12, [.ref (r 0), .ref (r 1), .int 0, .int 0, .int 0, .int (-1), .int 0, .int 0, .int 0, .int 0, .long 0, .ref (r 11), .ref (r 12), .ref (r 13), .ref (r 14), .ref (r 15), .ref (r 16), .ref (r 17), .ref (r 18), .ref (r 19), .ref (r 20), .ref (r 21), .ref (r 22), .ref (r 23), .ref (r 24), .ref (r 25), .ref (r 26), .ref (r 27), .ref (r 28), .ref (r 29), .ref (r 30), .ref (r 31), .ref (r 32), .ref (r 33), .int 0, .int 0, .int 0, .int 0, .int 0, .int 0, .int 0, .ref (r 41), .ref (r 42), .ref (r 43), .ref (r 44), .int 0, .int 0, .int 0, .ref (r 48), .int 0, .int 0, .ref (r 51), .ref (r 52), .ref (r 53), .ref (r 54), .int 0, .ref (r 56), .ref (r 57), .ref (r 58), .int 0, .ref (r 60), .ref (r 61), .ref (r 62), .ref (r 63), .ref (r 64), .ref (r 65), .ref (r 66), .ref (r 67), .ref (r 68), .int 0, .int 0, .int 0, .ref (r 72), .ref (r 73)])), (r 0, .inl (cy 2, 1620, .inl (fun _ => 0)))] s.heap.size = A at hD ⊢
  have hA : ∀ q : Nat, s.heap.size ≤ q → A q := fun q h => by rw [← hAe]; exact Or.inr h
  have hS : va_S A s.heap s.heap [] := va_S.rf
  have hP : va_P (dC, dI) classes [(h0, .inr (12, [.ref (r 0), .ref (r 1), .int 0, .int 0, .int 0, .int (-1), .int 0, .int 0, .int 0, .int 0, .long 0, .ref (r 11), .ref (r 12), .ref (r 13), .ref (r 14), .ref (r 15), .ref (r 16), .ref (r 17), .ref (r 18), .ref (r 19), .ref (r 20), .ref (r 21), .ref (r 22), .ref (r 23), .ref (r 24), .ref (r 25), .ref (r 26), .ref (r 27), .ref (r 28), .ref (r 29), .ref (r 30), .ref (r 31), .ref (r 32), .ref (r 33), .int 0, .int 0, .int 0, .int 0, .int 0, .int 0, .int 0, .ref (r 41), .ref (r 42), .ref (r 43), .ref (r 44), .int 0, .int 0, .int 0, .ref (r 48), .int 0, .int 0, .ref (r 51), .ref (r 52), .ref (r 53), .ref (r 54), .int 0, .ref (r 56), .ref (r 57), .ref (r 58), .int 0, .ref (r 60), .ref (r 61), .ref (r 62), .ref (r 63), .ref (r 64), .ref (r 65), .ref (r 66), .ref (r 67), .ref (r 68), .int 0, .int 0, .int 0, .ref (r 72), .ref (r 73)])), (r 0, .inl (cy 2, 1620, .inl (fun _ => 0)))] s.heap := hP
  have hl := lv_entry ([.ref h0, .int p0, .int p1, .int p2, .int p3, .int p4]) (n := 8) (Nat.le_of_ble_eq_true rfl)
  rw [lg_entry_eq]
  generalize (lg_sl ([.ref h0, .int p0, .int p1, .int p2, .int p3, .int p4]) ++ List.replicate (8 - (lg_sl ([.ref h0, .int p0, .int p1, .int p2, .int p3, .int p4])).length) Slot.unset).toArray = ls at hl ⊢
  have hl : lv_has ls 8 [(0, .ref h0), (1, .int p0), (2, .int p1), (3, .int p2), (4, .int p3), (5, .int p4)] := hl
  refine lv_aload_n hx hb dX12_feed_0 rfl (lv_at hl 0 rfl) ?_
  refine va_get (D := (dC, dI)) (ci := 12) (v := .int 0) (C := RX12) (T := TX12) (N := 74) hx hb hts inlX12 hown hK hP 0 rfl rfl 2 (by decide) (hts _ m_299) (fun _ h9 => h9) rfl dX12_feed_1 ?_
  refine lv_bipush (v := 20) hx hb dX12_feed_4 (by decide +kernel) ?_
  refine lv_iadd hx hb dX12_feed_6 ?_
  refine lv_topi (fun z_1 ez_1 => ?_)
  obtain rfl : z_1 = 20 := ez_1.trans (by decide +kernel)
  refine lv_sipush (v := 1600) hx hb dX12_feed_7 (by decide +kernel) ?_
  refine lv_icmp_le (tgt := 15) hx hb dX12_feed_10 (by decide) (fun _ => ?_) (fun c_ => absurd (by decide +kernel) c_)
  refine lv_iconst (v := 0) hx hb dX12_feed_15 (by decide +kernel) ?_
  refine lv_istore (lv' := [(6, .int 0), (0, .ref h0), (1, .int p0), (2, .int p1), (3, .int p2), (4, .int p3), (5, .int p4)]) hx hb dX12_feed_16 hl (by decide) rfl (fun ls hl => ?_)
  refine lpX12_feed_18_1 dC dI cy h0 r p0 p1 p2 p3 p4 hx hb hml hown hts hE (Nat.le_of_ble_eq_true rfl) (Nat.le_of_ble_eq_true rfl) (show 0 ≤ 0 from by decide +kernel) (show 0 ≤ 0 from by decide +kernel) (fun z_3 f_2 ls H locs hP hD hS hl => ?_) ((20 : Int32).toInt - (0 : Int32).toInt).toNat.succ 0 (fun _ => 0) ls _ _ (by decide +kernel) (Nat.lt_succ_self _) hP hD hS hl
  have hP : va_P (dC, dI) classes [(h0, .inr (12, [.ref (r 0), .ref (r 1), .int 0, .int 0, .int 0, .int (-1), .int 0, .int 0, .int 0, .int 0, .long 0, .ref (r 11), .ref (r 12), .ref (r 13), .ref (r 14), .ref (r 15), .ref (r 16), .ref (r 17), .ref (r 18), .ref (r 19), .ref (r 20), .ref (r 21), .ref (r 22), .ref (r 23), .ref (r 24), .ref (r 25), .ref (r 26), .ref (r 27), .ref (r 28), .ref (r 29), .ref (r 30), .ref (r 31), .ref (r 32), .ref (r 33), .int 0, .int 0, .int 0, .int 0, .int 0, .int 0, .int 0, .ref (r 41), .ref (r 42), .ref (r 43), .ref (r 44), .int 0, .int 0, .int 0, .ref (r 48), .int 0, .int 0, .ref (r 51), .ref (r 52), .ref (r 53), .ref (r 54), .int 0, .ref (r 56), .ref (r 57), .ref (r 58), .int 0, .ref (r 60), .ref (r 61), .ref (r 62), .ref (r 63), .ref (r 64), .ref (r 65), .ref (r 66), .ref (r 67), .ref (r 68), .int 0, .int 0, .int 0, .ref (r 72), .ref (r 73)])), (r 0, .inl (cy 2, 1620, .inl f_2))] H := hP
  have hD : va_D A [(h0, .inr (12, [.ref (r 0), .ref (r 1), .int 0, .int 0, .int 0, .int (-1), .int 0, .int 0, .int 0, .int 0, .long 0, .ref (r 11), .ref (r 12), .ref (r 13), .ref (r 14), .ref (r 15), .ref (r 16), .ref (r 17), .ref (r 18), .ref (r 19), .ref (r 20), .ref (r 21), .ref (r 22), .ref (r 23), .ref (r 24), .ref (r 25), .ref (r 26), .ref (r 27), .ref (r 28), .ref (r 29), .ref (r 30), .ref (r 31), .ref (r 32), .ref (r 33), .int 0, .int 0, .int 0, .int 0, .int 0, .int 0, .int 0, .ref (r 41), .ref (r 42), .ref (r 43), .ref (r 44), .int 0, .int 0, .int 0, .ref (r 48), .int 0, .int 0, .ref (r 51), .ref (r 52), .ref (r 53), .ref (r 54), .int 0, .ref (r 56), .ref (r 57), .ref (r 58), .int 0, .ref (r 60), .ref (r 61), .ref (r 62), .ref (r 63), .ref (r 64), .ref (r 65), .ref (r 66), .ref (r 67), .ref (r 68), .int 0, .int 0, .int 0, .ref (r 72), .ref (r 73)])), (r 0, .inl (cy 2, 1620, .inl f_2))] := hD
  refine lv_aload_n hx hb dX12_feed_105 rfl (lv_at hl 1 rfl) ?_
  refine lv_dup hx hb dX12_feed_106 rfl ?_
  refine va_get (D := (dC, dI)) (ci := 12) (v := .int 0) (C := RX12) (T := TX12) (N := 74) hx hb hts inlX12 hown hK hP 0 rfl rfl 2 (by decide) (hts _ m_299) (fun _ h9 => h9) rfl dX12_feed_107 ?_
  refine lv_bipush (v := 20) hx hb dX12_feed_110 (by decide +kernel) ?_
  refine lv_iadd hx hb dX12_feed_112 ?_
  refine lv_topi (fun z_4 ez_4 => ?_)
  obtain rfl : z_4 = 20 := ez_4.trans (by decide +kernel)
  refine va_put (D := (dC, dI)) (ci := 12) (v := .int 20) (ty := .int) (C := RX12) (T := TX12) (N := 74) hx hb hts inlX12 tyX12 tyX12_ok nmX12 hown hK hP hD hS 0 rfl rfl 2 (by decide) (hts _ m_299) (fun _ h9 => h9) rfl (by decide +kernel) rfl rfl (Nat.le_of_ble_eq_true rfl) dX12_feed_113 (fun H locs hP hD hS => ?_)
  have hP : va_P (dC, dI) classes [(h0, .inr (12, [.ref (r 0), .ref (r 1), .int 20, .int 0, .int 0, .int (-1), .int 0, .int 0, .int 0, .int 0, .long 0, .ref (r 11), .ref (r 12), .ref (r 13), .ref (r 14), .ref (r 15), .ref (r 16), .ref (r 17), .ref (r 18), .ref (r 19), .ref (r 20), .ref (r 21), .ref (r 22), .ref (r 23), .ref (r 24), .ref (r 25), .ref (r 26), .ref (r 27), .ref (r 28), .ref (r 29), .ref (r 30), .ref (r 31), .ref (r 32), .ref (r 33), .int 0, .int 0, .int 0, .int 0, .int 0, .int 0, .int 0, .ref (r 41), .ref (r 42), .ref (r 43), .ref (r 44), .int 0, .int 0, .int 0, .ref (r 48), .int 0, .int 0, .ref (r 51), .ref (r 52), .ref (r 53), .ref (r 54), .int 0, .ref (r 56), .ref (r 57), .ref (r 58), .int 0, .ref (r 60), .ref (r 61), .ref (r 62), .ref (r 63), .ref (r 64), .ref (r 65), .ref (r 66), .ref (r 67), .ref (r 68), .int 0, .int 0, .int 0, .ref (r 72), .ref (r 73)])), (r 0, .inl (cy 2, 1620, .inl f_2))] H := hP
  have hD : va_D A [(h0, .inr (12, [.ref (r 0), .ref (r 1), .int 20, .int 0, .int 0, .int (-1), .int 0, .int 0, .int 0, .int 0, .long 0, .ref (r 11), .ref (r 12), .ref (r 13), .ref (r 14), .ref (r 15), .ref (r 16), .ref (r 17), .ref (r 18), .ref (r 19), .ref (r 20), .ref (r 21), .ref (r 22), .ref (r 23), .ref (r 24), .ref (r 25), .ref (r 26), .ref (r 27), .ref (r 28), .ref (r 29), .ref (r 30), .ref (r 31), .ref (r 32), .ref (r 33), .int 0, .int 0, .int 0, .int 0, .int 0, .int 0, .int 0, .ref (r 41), .ref (r 42), .ref (r 43), .ref (r 44), .int 0, .int 0, .int 0, .ref (r 48), .int 0, .int 0, .ref (r 51), .ref (r 52), .ref (r 53), .ref (r 54), .int 0, .ref (r 56), .ref (r 57), .ref (r 58), .int 0, .ref (r 60), .ref (r 61), .ref (r 62), .ref (r 63), .ref (r 64), .ref (r 65), .ref (r 66), .ref (r 67), .ref (r 68), .int 0, .int 0, .int 0, .ref (r 72), .ref (r 73)])), (r 0, .inl (cy 2, 1620, .inl f_2))] := hD
  refine lv_aload_n hx hb dX12_feed_116 rfl (lv_at hl 1 rfl) ?_
  refine va_get (D := (dC, dI)) (ci := 12) (v := .int 20) (C := RX12) (T := TX12) (N := 74) hx hb hts inlX12 hown hK hP 0 rfl rfl 2 (by decide) (hts _ m_299) (fun _ h9 => h9) rfl dX12_feed_117 ?_
  exact W.iret (v := 20) hx hb hr (fun t ht hW => ⟨⟨20, (), rfl, rfl, trivial⟩, hS.F ht⟩) hS.2.2 dX12_feed_120
set_option maxHeartbeats 4000000 in
set_option maxRecDepth 100000 in
theorem kX11_end_1 (l : Launch) (dC : Nat → ClassId) (dI : Nat → Nat → Nat) (cy : Nat → ClassId) (h0 h1 h2 h3 h4 h5 h6 h7 h8 h9 h10 h11 h12 h13 : Nat) (p0 : Int32) (sz : Nat) : Met l yX11_end wmX11_end ({ frames := 0, cells := 0, slots := 0, locals := 0 }) (va_Pc [.ref h0, .int p0] (fun U => U.heap.size = sz ∧ va_P (dC, dI) classes [(h0, .inr (11, [.ref h1, .ref h2, .ref h3, .ref h4, .ref h5, .ref h6, .ref h7, .ref h8, .ref h9])), (h1, .inr (6, [.ref h10, .ref h11, .int 0, .int (-1)])), (h10, .inr (9, [.ref h12, .ref h13, .int 0, .int 0, .int 0, .int 0, .int 0, .long 0]))] U.heap ∧ EV dC dI cy U ∧ va_D (fun _ => True) [(h0, .inr (11, [.ref h1, .ref h2, .ref h3, .ref h4, .ref h5, .ref h6, .ref h7, .ref h8, .ref h9])), (h1, .inr (6, [.ref h10, .ref h11, .int 0, .int (-1)])), (h10, .inr (9, [.ref h12, .ref h13, .int 0, .int 0, .int 0, .int 0, .int 0, .long 0]))])) (va_Qi (S := Unit) (fun r_ _ => (r_ = (-1) ∧ p0 < 0) ∨ (r_ = p0 ∧ ¬ p0 < 0 ∧ p0 ≤ 0) ∨ (r_ = (-1) ∧ ¬ p0 < 0 ∧ ¬ p0 ≤ 0)) (fun _ _ => True) (va_A [(h0, .inr (11, [.ref h1, .ref h2, .ref h3, .ref h4, .ref h5, .ref h6, .ref h7, .ref h8, .ref h9])), (h1, .inr (6, [.ref h10, .ref h11, .int 0, .int (-1)])), (h10, .inr (9, [.ref h12, .ref h13, .int 0, .int 0, .int 0, .int 0, .int 0, .long 0]))] sz)) 0 0 (va_A [(h0, .inr (11, [.ref h1, .ref h2, .ref h3, .ref h4, .ref h5, .ref h6, .ref h7, .ref h8, .ref h9])), (h1, .inr (6, [.ref h10, .ref h11, .int 0, .int (-1)])), (h10, .inr (9, [.ref h12, .ref h13, .int 0, .int 0, .int 0, .int 0, .int 0, .long 0]))] sz) := by
  refine Met.ofW (cc := cX11_end) (maxL := 2) (ret := (some .int)) (by decide +kernel) rfl ?_
  intro p e s m args below meth c s₁ B hml hv
  obtain ⟨rfl, hsz, hP, hE, hD0⟩ := hv
  have hK := hE.1
  have hN := hE.2.1
  have hx := B.exec
  have hb := B.bytes
  have hr := B.returns
  have hts0 := atoms_spec (ws := wmX11_end) B.pre
  have hts : ∀ w ∈ wsL_law, w.before _ s = true := fun w h => hts0 w (List.mem_cons_of_mem _ h)
  have hown : s.vm.findClass RX11 = some m.cls := findClass_of_methodNamed B.named
  have hlocks := B.notSynchronized
  subst hsz
  have hD := hD0.self (sz := s.heap.size)
  generalize hAe : va_A [(h0, .inr (11, [.ref h1, .ref h2, .ref h3, .ref h4, .ref h5, .ref h6, .ref h7, .ref h8, .ref h9])), (h1, .inr (6, [.ref h10, .ref h11, .int 0, .int (-1)])), (h10, .inr (9, [.ref h12, .ref h13, .int 0, .int 0, .int 0, .int 0, .int 0, .long 0]))] s.heap.size = A at hD ⊢
  have hA : ∀ q : Nat, s.heap.size ≤ q → A q := fun q h => by rw [← hAe]; exact Or.inr h
  have hS : va_S A s.heap s.heap [] := va_S.rf
  have hP : va_P (dC, dI) classes [(h0, .inr (11, [.ref h1, .ref h2, .ref h3, .ref h4, .ref h5, .ref h6, .ref h7, .ref h8, .ref h9])), (h1, .inr (6, [.ref h10, .ref h11, .int 0, .int (-1)])), (h10, .inr (9, [.ref h12, .ref h13, .int 0, .int 0, .int 0, .int 0, .int 0, .long 0]))] s.heap := hP
  have hl := lv_entry ([.ref h0, .int p0]) (n := 2) (Nat.le_of_ble_eq_true rfl)
  rw [lg_entry_eq]
  generalize (lg_sl ([.ref h0, .int p0]) ++ List.replicate (2 - (lg_sl ([.ref h0, .int p0])).length) Slot.unset).toArray = ls at hl ⊢
  have hl : lv_has ls 2 [(0, .ref h0), (1, .int p0)] := hl
  refine lv_iload_n hx hb dX11_end_0 rfl (lv_at hl 1 rfl) ?_
  refine lv_if_lt (tgt := 18) hx hb dX11_end_1 (by decide) (fun c_1 => ?_) (fun c_1 => ?_)
  · refine lv_iconst (v := (-1)) hx hb dX11_end_18 (by decide +kernel) ?_
    exact W.iret (v := (-1)) hx hb hr (fun t ht hW => ⟨⟨(-1), (), rfl, Or.inl ⟨rfl, c_1⟩, trivial⟩, hS.F ht⟩) hS.2.2 dX11_end_19
  · refine lv_iload_n hx hb dX11_end_4 rfl (lv_at hl 1 rfl) ?_
    refine lv_aload_n hx hb dX11_end_5 rfl (lv_at hl 0 rfl) ?_
    refine va_get (D := (dC, dI)) (ci := 11) (v := .ref h1) (C := RX11) (T := TX11) (N := 9) hx hb hts inlX11 hown hK hP 0 rfl rfl 0 (by decide) (hts _ m_15) (fun _ h9 => h9) rfl dX11_end_6 ?_
    refine va_getN (D := (dC, dI)) (ci := 6) (v := .ref h10) (C := RX6) (T := TX6) (N := 4) hx hb hts inlX6 hown hK hP 1 rfl rfl 0 (by decide) (va_Nw.use rfl (hN _ nw_29)) (fun _ h9 => h9) rfl dX11_end_9 ?_
    refine va_getN (D := (dC, dI)) (ci := 9) (v := .int 0) (C := RX9) (T := TX9) (N := 8) hx hb hts inlX9 hown hK hP 2 rfl rfl 2 (by decide) (va_Nw.use rfl (hN _ nw_0)) (fun _ h9 => h9) rfl dX11_end_12 ?_
    refine lv_icmp_le (tgt := 20) hx hb dX11_end_15 (by decide) (fun c_2 => ?_) (fun c_2 => ?_)
    · refine lv_aload_n hx hb dX11_end_20 rfl (lv_at hl 0 rfl) ?_
      refine va_get (D := (dC, dI)) (ci := 11) (v := .ref h1) (C := RX11) (T := TX11) (N := 9) hx hb hts inlX11 hown hK hP 0 rfl rfl 0 (by decide) (hts _ m_15) (fun _ h9 => h9) rfl dX11_end_21 ?_
      refine va_getN (D := (dC, dI)) (ci := 6) (v := .ref h10) (C := RX6) (T := TX6) (N := 4) hx hb hts inlX6 hown hK hP 1 rfl rfl 0 (by decide) (va_Nw.use rfl (hN _ nw_29)) (fun _ h9 => h9) rfl dX11_end_24 ?_
      refine lv_iload_n hx hb dX11_end_27 rfl (lv_at hl 1 rfl) ?_
      refine va_putN (D := (dC, dI)) (ci := 9) (v := .int p0) (ty := .int) (C := RX9) (T := TX9) (N := 8) hx hb hts inlX9 tyX9 tyX9_ok nmX9 hown hK hP hD hS 2 rfl rfl 2 (by decide) (va_Nw.use rfl (hN _ nw_0)) (fun _ h9 => h9) rfl (by decide +kernel) rfl rfl (Nat.le_of_ble_eq_true rfl) dX11_end_28 (fun H locs hP hD hS => ?_)
      have hP : va_P (dC, dI) classes [(h0, .inr (11, [.ref h1, .ref h2, .ref h3, .ref h4, .ref h5, .ref h6, .ref h7, .ref h8, .ref h9])), (h1, .inr (6, [.ref h10, .ref h11, .int 0, .int (-1)])), (h10, .inr (9, [.ref h12, .ref h13, .int p0, .int 0, .int 0, .int 0, .int 0, .long 0]))] H := hP
      have hD : va_D A [(h0, .inr (11, [.ref h1, .ref h2, .ref h3, .ref h4, .ref h5, .ref h6, .ref h7, .ref h8, .ref h9])), (h1, .inr (6, [.ref h10, .ref h11, .int 0, .int (-1)])), (h10, .inr (9, [.ref h12, .ref h13, .int p0, .int 0, .int 0, .int 0, .int 0, .long 0]))] := hD
      refine lv_iload_n hx hb dX11_end_31 rfl (lv_at hl 1 rfl) ?_
      exact W.iret (v := p0) hx hb hr (fun t ht hW => ⟨⟨p0, (), rfl, Or.inr (Or.inl ⟨rfl, c_1, c_2⟩), trivial⟩, hS.F ht⟩) hS.2.2 dX11_end_32
    · refine lv_iconst (v := (-1)) hx hb dX11_end_18 (by decide +kernel) ?_
      exact W.iret (v := (-1)) hx hb hr (fun t ht hW => ⟨⟨(-1), (), rfl, Or.inr (Or.inr (⟨rfl, c_1, c_2⟩)), trivial⟩, hS.F ht⟩) hS.2.2 dX11_end_19
set_option maxHeartbeats 4000000 in
set_option maxRecDepth 100000 in
theorem kX12_end_1 (l : Launch) (dC : Nat → ClassId) (dI : Nat → Nat → Nat) (cy : Nat → ClassId) (h0 : Nat) (r : Nat → Nat) (p0 : Int32) (sz : Nat) : Met l yX12_end wmX12_end ({ frames := 0, cells := 0, slots := 0, locals := 0 }) (va_Pc [.ref h0, .int p0] (fun U => U.heap.size = sz ∧ va_P (dC, dI) classes [(h0, .inr (12, [.ref (r 0), .ref (r 1), .int 0, .int 0, .int 0, .int (-1), .int 0, .int 0, .int 0, .int 0, .long 0, .ref (r 11), .ref (r 12), .ref (r 13), .ref (r 14), .ref (r 15), .ref (r 16), .ref (r 17), .ref (r 18), .ref (r 19), .ref (r 20), .ref (r 21), .ref (r 22), .ref (r 23), .ref (r 24), .ref (r 25), .ref (r 26), .ref (r 27), .ref (r 28), .ref (r 29), .ref (r 30), .ref (r 31), .ref (r 32), .ref (r 33), .int 0, .int 0, .int 0, .int 0, .int 0, .int 0, .int 0, .ref (r 41), .ref (r 42), .ref (r 43), .ref (r 44), .int 0, .int 0, .int 0, .ref (r 48), .int 0, .int 0, .ref (r 51), .ref (r 52), .ref (r 53), .ref (r 54), .int 0, .ref (r 56), .ref (r 57), .ref (r 58), .int 0, .ref (r 60), .ref (r 61), .ref (r 62), .ref (r 63), .ref (r 64), .ref (r 65), .ref (r 66), .ref (r 67), .ref (r 68), .int 0, .int 0, .int 0, .ref (r 72), .ref (r 73)]))] U.heap ∧ EV dC dI cy U ∧ va_D (fun _ => True) [(h0, .inr (12, [.ref (r 0), .ref (r 1), .int 0, .int 0, .int 0, .int (-1), .int 0, .int 0, .int 0, .int 0, .long 0, .ref (r 11), .ref (r 12), .ref (r 13), .ref (r 14), .ref (r 15), .ref (r 16), .ref (r 17), .ref (r 18), .ref (r 19), .ref (r 20), .ref (r 21), .ref (r 22), .ref (r 23), .ref (r 24), .ref (r 25), .ref (r 26), .ref (r 27), .ref (r 28), .ref (r 29), .ref (r 30), .ref (r 31), .ref (r 32), .ref (r 33), .int 0, .int 0, .int 0, .int 0, .int 0, .int 0, .int 0, .ref (r 41), .ref (r 42), .ref (r 43), .ref (r 44), .int 0, .int 0, .int 0, .ref (r 48), .int 0, .int 0, .ref (r 51), .ref (r 52), .ref (r 53), .ref (r 54), .int 0, .ref (r 56), .ref (r 57), .ref (r 58), .int 0, .ref (r 60), .ref (r 61), .ref (r 62), .ref (r 63), .ref (r 64), .ref (r 65), .ref (r 66), .ref (r 67), .ref (r 68), .int 0, .int 0, .int 0, .ref (r 72), .ref (r 73)]))])) (va_Qi (S := Unit) (fun r_ _ => (r_ = (-1) ∧ p0 < 0) ∨ (r_ = p0 ∧ ¬ p0 < 0 ∧ p0 ≤ 0) ∨ (r_ = (-1) ∧ ¬ p0 < 0 ∧ ¬ p0 ≤ 0)) (fun _ _ => True) (va_A [(h0, .inr (12, [.ref (r 0), .ref (r 1), .int 0, .int 0, .int 0, .int (-1), .int 0, .int 0, .int 0, .int 0, .long 0, .ref (r 11), .ref (r 12), .ref (r 13), .ref (r 14), .ref (r 15), .ref (r 16), .ref (r 17), .ref (r 18), .ref (r 19), .ref (r 20), .ref (r 21), .ref (r 22), .ref (r 23), .ref (r 24), .ref (r 25), .ref (r 26), .ref (r 27), .ref (r 28), .ref (r 29), .ref (r 30), .ref (r 31), .ref (r 32), .ref (r 33), .int 0, .int 0, .int 0, .int 0, .int 0, .int 0, .int 0, .ref (r 41), .ref (r 42), .ref (r 43), .ref (r 44), .int 0, .int 0, .int 0, .ref (r 48), .int 0, .int 0, .ref (r 51), .ref (r 52), .ref (r 53), .ref (r 54), .int 0, .ref (r 56), .ref (r 57), .ref (r 58), .int 0, .ref (r 60), .ref (r 61), .ref (r 62), .ref (r 63), .ref (r 64), .ref (r 65), .ref (r 66), .ref (r 67), .ref (r 68), .int 0, .int 0, .int 0, .ref (r 72), .ref (r 73)]))] sz)) 0 0 (va_A [(h0, .inr (12, [.ref (r 0), .ref (r 1), .int 0, .int 0, .int 0, .int (-1), .int 0, .int 0, .int 0, .int 0, .long 0, .ref (r 11), .ref (r 12), .ref (r 13), .ref (r 14), .ref (r 15), .ref (r 16), .ref (r 17), .ref (r 18), .ref (r 19), .ref (r 20), .ref (r 21), .ref (r 22), .ref (r 23), .ref (r 24), .ref (r 25), .ref (r 26), .ref (r 27), .ref (r 28), .ref (r 29), .ref (r 30), .ref (r 31), .ref (r 32), .ref (r 33), .int 0, .int 0, .int 0, .int 0, .int 0, .int 0, .int 0, .ref (r 41), .ref (r 42), .ref (r 43), .ref (r 44), .int 0, .int 0, .int 0, .ref (r 48), .int 0, .int 0, .ref (r 51), .ref (r 52), .ref (r 53), .ref (r 54), .int 0, .ref (r 56), .ref (r 57), .ref (r 58), .int 0, .ref (r 60), .ref (r 61), .ref (r 62), .ref (r 63), .ref (r 64), .ref (r 65), .ref (r 66), .ref (r 67), .ref (r 68), .int 0, .int 0, .int 0, .ref (r 72), .ref (r 73)]))] sz) := by
  refine Met.ofW (cc := cX12_end) (maxL := 2) (ret := (some .int)) (by decide +kernel) rfl ?_
  intro p e s m args below meth c s₁ B hml hv
  obtain ⟨rfl, hsz, hP, hE, hD0⟩ := hv
  have hK := hE.1
  have hN := hE.2.1
  have hx := B.exec
  have hb := B.bytes
  have hr := B.returns
  have hts0 := atoms_spec (ws := wmX12_end) B.pre
  have hts : ∀ w ∈ wsL_law, w.before _ s = true := fun w h => hts0 w (List.mem_cons_of_mem _ h)
  have hown : s.vm.findClass RX12 = some m.cls := findClass_of_methodNamed B.named
  have hlocks := B.notSynchronized
  subst hsz
  have hD := hD0.self (sz := s.heap.size)
  generalize hAe : va_A [(h0, .inr (12, [.ref (r 0), .ref (r 1), .int 0, .int 0, .int 0, .int (-1), .int 0, .int 0, .int 0, .int 0, .long 0, .ref (r 11), .ref (r 12), .ref (r 13), .ref (r 14), .ref (r 15), .ref (r 16), .ref (r 17), .ref (r 18), .ref (r 19), .ref (r 20), .ref (r 21), .ref (r 22), .ref (r 23), .ref (r 24), .ref (r 25), .ref (r 26), .ref (r 27), .ref (r 28), .ref (r 29), .ref (r 30), .ref (r 31), .ref (r 32), .ref (r 33), .int 0, .int 0, .int 0, .int 0, .int 0, .int 0, .int 0, .ref (r 41), .ref (r 42), .ref (r 43), .ref (r 44), .int 0, .int 0, .int 0, .ref (r 48), .int 0, .int 0, .ref (r 51), .ref (r 52), .ref (r 53), .ref (r 54), .int 0, .ref (r 56), .ref (r 57), .ref (r 58), .int 0, .ref (r 60), .ref (r 61), .ref (r 62), .ref (r 63), .ref (r 64), .ref (r 65), .ref (r 66), .ref (r 67), .ref (r 68), .int 0, .int 0, .int 0, .ref (r 72), .ref (r 73)]))] s.heap.size = A at hD ⊢
  have hA : ∀ q : Nat, s.heap.size ≤ q → A q := fun q h => by rw [← hAe]; exact Or.inr h
  have hS : va_S A s.heap s.heap [] := va_S.rf
  have hP : va_P (dC, dI) classes [(h0, .inr (12, [.ref (r 0), .ref (r 1), .int 0, .int 0, .int 0, .int (-1), .int 0, .int 0, .int 0, .int 0, .long 0, .ref (r 11), .ref (r 12), .ref (r 13), .ref (r 14), .ref (r 15), .ref (r 16), .ref (r 17), .ref (r 18), .ref (r 19), .ref (r 20), .ref (r 21), .ref (r 22), .ref (r 23), .ref (r 24), .ref (r 25), .ref (r 26), .ref (r 27), .ref (r 28), .ref (r 29), .ref (r 30), .ref (r 31), .ref (r 32), .ref (r 33), .int 0, .int 0, .int 0, .int 0, .int 0, .int 0, .int 0, .ref (r 41), .ref (r 42), .ref (r 43), .ref (r 44), .int 0, .int 0, .int 0, .ref (r 48), .int 0, .int 0, .ref (r 51), .ref (r 52), .ref (r 53), .ref (r 54), .int 0, .ref (r 56), .ref (r 57), .ref (r 58), .int 0, .ref (r 60), .ref (r 61), .ref (r 62), .ref (r 63), .ref (r 64), .ref (r 65), .ref (r 66), .ref (r 67), .ref (r 68), .int 0, .int 0, .int 0, .ref (r 72), .ref (r 73)]))] s.heap := hP
  have hl := lv_entry ([.ref h0, .int p0]) (n := 2) (Nat.le_of_ble_eq_true rfl)
  rw [lg_entry_eq]
  generalize (lg_sl ([.ref h0, .int p0]) ++ List.replicate (2 - (lg_sl ([.ref h0, .int p0])).length) Slot.unset).toArray = ls at hl ⊢
  have hl : lv_has ls 2 [(0, .ref h0), (1, .int p0)] := hl
  refine lv_iload_n hx hb dX12_end_0 rfl (lv_at hl 1 rfl) ?_
  refine lv_if_lt (tgt := 12) hx hb dX12_end_1 (by decide) (fun c_1 => ?_) (fun c_1 => ?_)
  · refine lv_iconst (v := (-1)) hx hb dX12_end_12 (by decide +kernel) ?_
    exact W.iret (v := (-1)) hx hb hr (fun t ht hW => ⟨⟨(-1), (), rfl, Or.inl ⟨rfl, c_1⟩, trivial⟩, hS.F ht⟩) hS.2.2 dX12_end_13
  · refine lv_iload_n hx hb dX12_end_4 rfl (lv_at hl 1 rfl) ?_
    refine lv_aload_n hx hb dX12_end_5 rfl (lv_at hl 0 rfl) ?_
    refine va_get (D := (dC, dI)) (ci := 12) (v := .int 0) (C := RX12) (T := TX12) (N := 74) hx hb hts inlX12 hown hK hP 0 rfl rfl 2 (by decide) (hts _ m_299) (fun _ h9 => h9) rfl dX12_end_6 ?_
    refine lv_icmp_le (tgt := 14) hx hb dX12_end_9 (by decide) (fun c_2 => ?_) (fun c_2 => ?_)
    · refine lv_aload_n hx hb dX12_end_14 rfl (lv_at hl 0 rfl) ?_
      refine lv_iload_n hx hb dX12_end_15 rfl (lv_at hl 1 rfl) ?_
      refine va_put (D := (dC, dI)) (ci := 12) (v := .int p0) (ty := .int) (C := RX12) (T := TX12) (N := 74) hx hb hts inlX12 tyX12 tyX12_ok nmX12 hown hK hP hD hS 0 rfl rfl 2 (by decide) (hts _ m_299) (fun _ h9 => h9) rfl (by decide +kernel) rfl rfl (Nat.le_of_ble_eq_true rfl) dX12_end_16 (fun H locs hP hD hS => ?_)
      have hP : va_P (dC, dI) classes [(h0, .inr (12, [.ref (r 0), .ref (r 1), .int p0, .int 0, .int 0, .int (-1), .int 0, .int 0, .int 0, .int 0, .long 0, .ref (r 11), .ref (r 12), .ref (r 13), .ref (r 14), .ref (r 15), .ref (r 16), .ref (r 17), .ref (r 18), .ref (r 19), .ref (r 20), .ref (r 21), .ref (r 22), .ref (r 23), .ref (r 24), .ref (r 25), .ref (r 26), .ref (r 27), .ref (r 28), .ref (r 29), .ref (r 30), .ref (r 31), .ref (r 32), .ref (r 33), .int 0, .int 0, .int 0, .int 0, .int 0, .int 0, .int 0, .ref (r 41), .ref (r 42), .ref (r 43), .ref (r 44), .int 0, .int 0, .int 0, .ref (r 48), .int 0, .int 0, .ref (r 51), .ref (r 52), .ref (r 53), .ref (r 54), .int 0, .ref (r 56), .ref (r 57), .ref (r 58), .int 0, .ref (r 60), .ref (r 61), .ref (r 62), .ref (r 63), .ref (r 64), .ref (r 65), .ref (r 66), .ref (r 67), .ref (r 68), .int 0, .int 0, .int 0, .ref (r 72), .ref (r 73)]))] H := hP
      have hD : va_D A [(h0, .inr (12, [.ref (r 0), .ref (r 1), .int p0, .int 0, .int 0, .int (-1), .int 0, .int 0, .int 0, .int 0, .long 0, .ref (r 11), .ref (r 12), .ref (r 13), .ref (r 14), .ref (r 15), .ref (r 16), .ref (r 17), .ref (r 18), .ref (r 19), .ref (r 20), .ref (r 21), .ref (r 22), .ref (r 23), .ref (r 24), .ref (r 25), .ref (r 26), .ref (r 27), .ref (r 28), .ref (r 29), .ref (r 30), .ref (r 31), .ref (r 32), .ref (r 33), .int 0, .int 0, .int 0, .int 0, .int 0, .int 0, .int 0, .ref (r 41), .ref (r 42), .ref (r 43), .ref (r 44), .int 0, .int 0, .int 0, .ref (r 48), .int 0, .int 0, .ref (r 51), .ref (r 52), .ref (r 53), .ref (r 54), .int 0, .ref (r 56), .ref (r 57), .ref (r 58), .int 0, .ref (r 60), .ref (r 61), .ref (r 62), .ref (r 63), .ref (r 64), .ref (r 65), .ref (r 66), .ref (r 67), .ref (r 68), .int 0, .int 0, .int 0, .ref (r 72), .ref (r 73)]))] := hD
      refine lv_iload_n hx hb dX12_end_19 rfl (lv_at hl 1 rfl) ?_
      exact W.iret (v := p0) hx hb hr (fun t ht hW => ⟨⟨p0, (), rfl, Or.inr (Or.inl ⟨rfl, c_1, c_2⟩), trivial⟩, hS.F ht⟩) hS.2.2 dX12_end_20
    · refine lv_iconst (v := (-1)) hx hb dX12_end_12 (by decide +kernel) ?_
      exact W.iret (v := (-1)) hx hb hr (fun t ht hW => ⟨⟨(-1), (), rfl, Or.inr (Or.inr (⟨rfl, c_1, c_2⟩)), trivial⟩, hS.F ht⟩) hS.2.2 dX12_end_13
set_option maxHeartbeats 4000000 in
set_option maxRecDepth 100000 in
theorem kX1_clear_1 (l : Launch) (dC : Nat → ClassId) (dI : Nat → Nat → Nat) (cy : Nat → ClassId) (h0 h1 : Nat) (sz : Nat) : Met l yX1_clear wmX1_clear ({ frames := 0, cells := 0, slots := 0, locals := 0 }) (va_Pc [.ref h0] (fun U => U.heap.size = sz ∧ va_P (dC, dI) classes [(h0, .inr (1, [.ref h1, .int 0]))] U.heap ∧ EV dC dI cy U ∧ va_D (fun _ => True) [(h0, .inr (1, [.ref h1, .int 0]))])) (va_Qv (S := Unit) (fun _ => True) (fun _ t => va_P (dC, dI) classes [(h0, .inr (1, [.ref h1, .int 0]))] t.heap ∧ va_D (va_A [(h0, .inr (1, [.ref h1, .int 0]))] sz) [(h0, .inr (1, [.ref h1, .int 0]))]) (va_A [(h0, .inr (1, [.ref h1, .int 0]))] sz)) 0 0 (va_A [(h0, .inr (1, [.ref h1, .int 0]))] sz) := by
  refine Met.ofW (cc := cX1_clear) (maxL := 1) (ret := none) (by decide +kernel) rfl ?_
  intro p e s m args below meth c s₁ B hml hv
  obtain ⟨rfl, hsz, hP, hE, hD0⟩ := hv
  have hK := hE.1
  have hN := hE.2.1
  have hx := B.exec
  have hb := B.bytes
  have hr := B.returns
  have hts0 := atoms_spec (ws := wmX1_clear) B.pre
  have hts : ∀ w ∈ wsL_law, w.before _ s = true := fun w h => hts0 w (List.mem_cons_of_mem _ h)
  have hown : s.vm.findClass RX1 = some m.cls := findClass_of_methodNamed B.named
  have hlocks := B.notSynchronized
  subst hsz
  have hD := hD0.self (sz := s.heap.size)
  generalize hAe : va_A [(h0, .inr (1, [.ref h1, .int 0]))] s.heap.size = A at hD ⊢
  have hA : ∀ q : Nat, s.heap.size ≤ q → A q := fun q h => by rw [← hAe]; exact Or.inr h
  have hS : va_S A s.heap s.heap [] := va_S.rf
  have hP : va_P (dC, dI) classes [(h0, .inr (1, [.ref h1, .int 0]))] s.heap := hP
  have hl := lv_entry ([.ref h0]) (n := 1) (Nat.le_of_ble_eq_true rfl)
  rw [lg_entry_eq]
  generalize (lg_sl ([.ref h0]) ++ List.replicate (1 - (lg_sl ([.ref h0])).length) Slot.unset).toArray = ls at hl ⊢
  have hl : lv_has ls 1 [(0, .ref h0)] := hl
  refine lv_aload_n hx hb dX1_clear_0 rfl (lv_at hl 0 rfl) ?_
  refine lv_iconst (v := 0) hx hb dX1_clear_1 (by decide +kernel) ?_
  refine va_put (D := (dC, dI)) (ci := 1) (v := .int 0) (ty := .int) (C := RX1) (T := TX1) (N := 2) hx hb hts inlX1 tyX1 tyX1_ok nmX1 hown hK hP hD hS 0 rfl rfl 1 (by decide) (hts _ m_140) (fun _ h9 => h9) rfl (by decide +kernel) rfl rfl (Nat.le_of_ble_eq_true rfl) dX1_clear_2 (fun H locs hP hD hS => ?_)
  have hP : va_P (dC, dI) classes [(h0, .inr (1, [.ref h1, .int 0]))] H := hP
  have hD : va_D A [(h0, .inr (1, [.ref h1, .int 0]))] := hD
  have hP9 := hP.sub (ws' := [(h0, .inr (1, [.ref h1, .int 0]))]) [0] rfl
  have hD9 := hD.sub (ws' := [(h0, .inr (1, [.ref h1, .int 0]))]) [0] (by decide) rfl
  exact W.vret hx hb hr (fun t ht hW => ⟨⟨(), rfl, trivial, by rw [ht]; exact hP9, hD9⟩, hS.F ht⟩) hS.2.2 dX1_clear_5
set_option maxHeartbeats 4000000 in
set_option maxRecDepth 100000 in
theorem kX0_clear_1 (l : Launch) (dC : Nat → ClassId) (dI : Nat → Nat → Nat) (cy : Nat → ClassId) (h0 h1 h2 h3 h4 : Nat) (sz : Nat) : Met l yX0_clear wmX0_clear ({ frames := 0, cells := 0, slots := 0, locals := 0 }) (va_Pc [.ref h0] (fun U => U.heap.size = sz ∧ va_P (dC, dI) classes [(h0, .inr (0, [.ref h1, .ref h2, .ref h3, .ref h4, .int 0, .int 0, .int 0, .int 0]))] U.heap ∧ EV dC dI cy U ∧ va_D (fun _ => True) [(h0, .inr (0, [.ref h1, .ref h2, .ref h3, .ref h4, .int 0, .int 0, .int 0, .int 0]))])) (va_Qv (S := Unit) (fun _ => True) (fun _ t => va_P (dC, dI) classes [(h0, .inr (0, [.ref h1, .ref h2, .ref h3, .ref h4, .int 0, .int 0, .int 0, .int 0]))] t.heap ∧ va_D (va_A [(h0, .inr (0, [.ref h1, .ref h2, .ref h3, .ref h4, .int 0, .int 0, .int 0, .int 0]))] sz) [(h0, .inr (0, [.ref h1, .ref h2, .ref h3, .ref h4, .int 0, .int 0, .int 0, .int 0]))]) (va_A [(h0, .inr (0, [.ref h1, .ref h2, .ref h3, .ref h4, .int 0, .int 0, .int 0, .int 0]))] sz)) 0 0 (va_A [(h0, .inr (0, [.ref h1, .ref h2, .ref h3, .ref h4, .int 0, .int 0, .int 0, .int 0]))] sz) := by
  refine Met.ofW (cc := cX0_clear) (maxL := 1) (ret := none) (by decide +kernel) rfl ?_
  intro p e s m args below meth c s₁ B hml hv
  obtain ⟨rfl, hsz, hP, hE, hD0⟩ := hv
  have hK := hE.1
  have hN := hE.2.1
  have hx := B.exec
  have hb := B.bytes
  have hr := B.returns
  have hts0 := atoms_spec (ws := wmX0_clear) B.pre
  have hts : ∀ w ∈ wsL_law, w.before _ s = true := fun w h => hts0 w (List.mem_cons_of_mem _ h)
  have hown : s.vm.findClass RX0 = some m.cls := findClass_of_methodNamed B.named
  have hlocks := B.notSynchronized
  subst hsz
  have hD := hD0.self (sz := s.heap.size)
  generalize hAe : va_A [(h0, .inr (0, [.ref h1, .ref h2, .ref h3, .ref h4, .int 0, .int 0, .int 0, .int 0]))] s.heap.size = A at hD ⊢
  have hA : ∀ q : Nat, s.heap.size ≤ q → A q := fun q h => by rw [← hAe]; exact Or.inr h
  have hS : va_S A s.heap s.heap [] := va_S.rf
  have hP : va_P (dC, dI) classes [(h0, .inr (0, [.ref h1, .ref h2, .ref h3, .ref h4, .int 0, .int 0, .int 0, .int 0]))] s.heap := hP
  have hl := lv_entry ([.ref h0]) (n := 1) (Nat.le_of_ble_eq_true rfl)
  rw [lg_entry_eq]
  generalize (lg_sl ([.ref h0]) ++ List.replicate (1 - (lg_sl ([.ref h0])).length) Slot.unset).toArray = ls at hl ⊢
  have hl : lv_has ls 1 [(0, .ref h0)] := hl
  refine lv_aload_n hx hb dX0_clear_0 rfl (lv_at hl 0 rfl) ?_
  refine lv_iconst (v := 0) hx hb dX0_clear_1 (by decide +kernel) ?_
  refine va_put (D := (dC, dI)) (ci := 0) (v := .int 0) (ty := .int) (C := RX0) (T := TX0) (N := 8) hx hb hts inlX0 tyX0 tyX0_ok nmX0 hown hK hP hD hS 0 rfl rfl 4 (by decide) (hts _ m_333) (fun _ h9 => h9) rfl (by decide +kernel) rfl rfl (Nat.le_of_ble_eq_true rfl) dX0_clear_2 (fun H locs hP hD hS => ?_)
  have hP : va_P (dC, dI) classes [(h0, .inr (0, [.ref h1, .ref h2, .ref h3, .ref h4, .int 0, .int 0, .int 0, .int 0]))] H := hP
  have hD : va_D A [(h0, .inr (0, [.ref h1, .ref h2, .ref h3, .ref h4, .int 0, .int 0, .int 0, .int 0]))] := hD
  refine lv_aload_n hx hb dX0_clear_5 rfl (lv_at hl 0 rfl) ?_
  refine lv_iconst (v := 0) hx hb dX0_clear_6 (by decide +kernel) ?_
  refine va_put (D := (dC, dI)) (ci := 0) (v := .int 0) (ty := .int) (C := RX0) (T := TX0) (N := 8) hx hb hts inlX0 tyX0 tyX0_ok nmX0 hown hK hP hD hS 0 rfl rfl 6 (by decide) (hts _ m_334) (fun _ h9 => h9) rfl (by decide +kernel) rfl rfl (Nat.le_of_ble_eq_true rfl) dX0_clear_7 (fun H locs hP hD hS => ?_)
  have hP : va_P (dC, dI) classes [(h0, .inr (0, [.ref h1, .ref h2, .ref h3, .ref h4, .int 0, .int 0, .int 0, .int 0]))] H := hP
  have hD : va_D A [(h0, .inr (0, [.ref h1, .ref h2, .ref h3, .ref h4, .int 0, .int 0, .int 0, .int 0]))] := hD
  refine lv_aload_n hx hb dX0_clear_10 rfl (lv_at hl 0 rfl) ?_
  refine lv_iconst (v := 0) hx hb dX0_clear_11 (by decide +kernel) ?_
  refine va_put (D := (dC, dI)) (ci := 0) (v := .int 0) (ty := .boolean) (C := RX0) (T := TX0) (N := 8) hx hb hts inlX0 tyX0 tyX0_ok nmX0 hown hK hP hD hS 0 rfl rfl 7 (by decide) (hts _ m_335) (fun _ h9 => h9) rfl (by decide +kernel) rfl rfl (Nat.le_of_ble_eq_true rfl) dX0_clear_12 (fun H locs hP hD hS => ?_)
  have hP : va_P (dC, dI) classes [(h0, .inr (0, [.ref h1, .ref h2, .ref h3, .ref h4, .int 0, .int 0, .int 0, .int 0]))] H := hP
  have hD : va_D A [(h0, .inr (0, [.ref h1, .ref h2, .ref h3, .ref h4, .int 0, .int 0, .int 0, .int 0]))] := hD
  have hP9 := hP.sub (ws' := [(h0, .inr (0, [.ref h1, .ref h2, .ref h3, .ref h4, .int 0, .int 0, .int 0, .int 0]))]) [0] rfl
  have hD9 := hD.sub (ws' := [(h0, .inr (0, [.ref h1, .ref h2, .ref h3, .ref h4, .int 0, .int 0, .int 0, .int 0]))]) [0] (by decide) rfl
  exact W.vret hx hb hr (fun t ht hW => ⟨⟨(), rfl, trivial, by rw [ht]; exact hP9, hD9⟩, hS.F ht⟩) hS.2.2 dX0_clear_15
set_option maxHeartbeats 4000000 in
set_option maxRecDepth 100000 in
theorem lpJ7_fill_53178_5_1 {p : Program} {l : Launch} {e : Env} {R : Room} {s : State} {m : MethodId} {args : Array Value} {below : List Frame} {meth : Method} {c : Code} {Q : State → Prop} {A : Nat → Prop} (dC : Nat → ClassId) (dI : Nat → Nat → Nat) (cy : Nat → ClassId) (h0 : Nat) (hx : p.tables.exec = Jvm.exec) (hb : c.code = cJ7_fill_53178) (hml : c.maxLocals = 4) (hown : s.vm.findClass RJ7 = some m.cls) (hts : ∀ w ∈ wsL_law, w.before args s = true) (hE : EV dC dI cy s) (hRf : 0 ≤ R.frames) (hRl : 0 ≤ R.locals) (hRc : 0 ≤ R.cells) (hRs : 0 ≤ R.slots) (kk : ∀ (x : Int32) (ls : Array Slot) (H : Heap) (locs : List Loc), va_P (dC, dI) classes [(h0, .inl (cy 0, 81, .inl (fun _ => 0)))] H → va_D A [(h0, .inl (cy 0, 81, .inl (fun _ => 0)))] → va_S A s.heap H locs → lv_has ls 4 [(3, .int 81), (2, .int x), (0, .ref h0), (1, .int 0)] → W p l e R s m args below meth c H locs 0 0 Q (F0 m 20 ls [])) : ∀ (n : Nat) (x : Int32) (ls : Array Slot) (H : Heap) (locs : List Loc), 0 ≤ x → ((81 : Int32).toInt - x.toInt).toNat < n → va_P (dC, dI) classes [(h0, .inl (cy 0, 81, .inl (fun _ => 0)))] H → va_D A [(h0, .inl (cy 0, 81, .inl (fun _ => 0)))] → va_S A s.heap H locs → lv_has ls 4 [(3, .int 81), (2, .int x), (0, .ref h0), (1, .int 0)] → W p l e R s m args below meth c H locs 0 0 Q (F0 m 5 ls []) := by
  have hK := hE.1
  have hN := hE.2.1
  intro n
  induction n with
  | zero => intro x ls H locs hlo hm; exact absurd hm (Nat.not_lt_zero _)
  | succ n ih =>
    intro x ls H locs hlo hm hP hD hS hl
    refine lv_iload_n hx hb dJ7_fill_53178_5 rfl (lv_at hl 1 rfl) ?_
    refine lv_iload_n hx hb dJ7_fill_53178_6 rfl (lv_at hl 0 rfl) ?_
    refine lv_icmp_ge (tgt := 20) hx hb dJ7_fill_53178_7 (by decide) (fun c_102 => ?_) (fun c_102 => ?_)
    · exact kk x ls _ _ hP hD hS hl
    · refine lv_aload_n hx hb dJ7_fill_53178_10 rfl (lv_at hl 2 rfl) ?_
      refine lv_iload_n hx hb dJ7_fill_53178_11 rfl (lv_at hl 1 rfl) ?_
      refine lv_iload_n hx hb dJ7_fill_53178_12 rfl (lv_at hl 3 rfl) ?_
      refine va_iast hx hb hK hP hD hS 0 0 rfl rfl (nn_6 hlo c_102) dJ7_fill_53178_13 (fun H locs hP hD hS => ?_)
      rw [show upd (fun _ => 0) (Int32.toNatClampNeg x) 0 = (fun _ => 0) from xa_upd0 rfl] at hP hD
      have hP : va_P (dC, dI) classes [(h0, .inl (cy 0, 81, .inl (fun _ => 0)))] H := hP
      have hD : va_D A [(h0, .inl (cy 0, 81, .inl (fun _ => 0)))] := hD
      obtain ⟨z_103, ez_103⟩ : ∃ y : Int32, y = x + Int32.ofInt 1 := ⟨_, rfl⟩
      refine lv_iinc (v := z_103) (lv' := [(2, .int z_103), (3, .int 81), (0, .ref h0), (1, .int 0)]) hx hb dJ7_fill_53178_14 hl (k := 1) rfl (by rw [ez_103]) (by decide) rfl (fun ls hl => ?_)
      refine lv_goto (tgt := 5) hx hb dJ7_fill_53178_17 (by decide) ?_
      obtain ⟨hs1, hs2⟩ := xl_step hlo (Int32.not_le.mp c_102) ez_103 hm
      exact ih z_103 ls _ _ hs1 hs2 (hP.sub [0] rfl) (hD.sub [0] (by decide) rfl) hS (lv_sub hl [1, 0, 2, 3] rfl)
set_option maxHeartbeats 4000000 in
set_option maxRecDepth 100000 in
theorem kJ7_fill_53178_1 (l : Launch) (dC : Nat → ClassId) (dI : Nat → Nat → Nat) (cy : Nat → ClassId) (h0 : Nat) (sz : Nat) : Met l yJ7_fill_53178 wmJ7_fill_53178 ({ frames := 0, cells := 0, slots := 0, locals := 0 }) (va_Pc [.ref h0, .int 0] (fun U => U.heap.size = sz ∧ va_P (dC, dI) classes [(h0, .inl (cy 0, 81, .inl (fun _ => 0)))] U.heap ∧ EV dC dI cy U ∧ va_D (fun _ => True) [(h0, .inl (cy 0, 81, .inl (fun _ => 0)))])) (va_Qv (S := Unit) (fun _ => True) (fun _ t => va_P (dC, dI) classes [(h0, .inl (cy 0, 81, .inl (fun _ => 0)))] t.heap ∧ va_D (va_A [(h0, .inl (cy 0, 81, .inl (fun _ => 0)))] sz) [(h0, .inl (cy 0, 81, .inl (fun _ => 0)))]) (va_A [(h0, .inl (cy 0, 81, .inl (fun _ => 0)))] sz)) 0 0 (va_A [(h0, .inl (cy 0, 81, .inl (fun _ => 0)))] sz) := by
  refine Met.ofW (cc := cJ7_fill_53178) (maxL := 4) (ret := none) (by decide +kernel) rfl ?_
  intro p e s m args below meth c s₁ B hml hv
  obtain ⟨rfl, hsz, hP, hE, hD0⟩ := hv
  have hK := hE.1
  have hN := hE.2.1
  have hx := B.exec
  have hb := B.bytes
  have hr := B.returns
  have hts0 := atoms_spec (ws := wmJ7_fill_53178) B.pre
  have hts : ∀ w ∈ wsL_law, w.before _ s = true := fun w h => hts0 w (List.mem_cons_of_mem _ h)
  have hown : s.vm.findClass RJ7 = some m.cls := findClass_of_methodNamed B.named
  have hlocks := B.notSynchronized
  subst hsz
  have hD := hD0.self (sz := s.heap.size)
  generalize hAe : va_A [(h0, .inl (cy 0, 81, .inl (fun _ => 0)))] s.heap.size = A at hD ⊢
  have hA : ∀ q : Nat, s.heap.size ≤ q → A q := fun q h => by rw [← hAe]; exact Or.inr h
  have hS : va_S A s.heap s.heap [] := va_S.rf
  have hP : va_P (dC, dI) classes [(h0, .inl (cy 0, 81, .inl (fun _ => 0)))] s.heap := hP
  have hl := lv_entry ([.ref h0, .int 0]) (n := 4) (Nat.le_of_ble_eq_true rfl)
  rw [lg_entry_eq]
  generalize (lg_sl ([.ref h0, .int 0]) ++ List.replicate (4 - (lg_sl ([.ref h0, .int 0])).length) Slot.unset).toArray = ls at hl ⊢
  have hl : lv_has ls 4 [(0, .ref h0), (1, .int 0)] := hl
  refine lv_iconst (v := 0) hx hb dJ7_fill_53178_0 (by decide +kernel) ?_
  refine lv_istore_n (lv' := [(2, .int 0), (0, .ref h0), (1, .int 0)]) hx hb dJ7_fill_53178_1 rfl hl (by decide) rfl (fun ls hl => ?_)
  refine lv_aload_n hx hb dJ7_fill_53178_2 rfl (lv_at hl 1 rfl) ?_
  refine va_alen (v := 81) hx hb hK hP 0 0 rfl rfl rfl dJ7_fill_53178_3 ?_
  refine lv_istore_n (lv' := [(3, .int 81), (2, .int 0), (0, .ref h0), (1, .int 0)]) hx hb dJ7_fill_53178_4 rfl hl (by decide) rfl (fun ls hl => ?_)
  refine lpJ7_fill_53178_5_1 dC dI cy h0 hx hb hml hown hts hE (Nat.le_of_ble_eq_true rfl) (Nat.le_of_ble_eq_true rfl) (show 0 ≤ 0 from by decide +kernel) (show 0 ≤ 0 from by decide +kernel) (fun z_1 ls H locs hP hD hS hl => ?_) ((81 : Int32).toInt - (0 : Int32).toInt).toNat.succ 0 ls _ _ (by decide +kernel) (Nat.lt_succ_self _) hP hD hS hl
  have hP : va_P (dC, dI) classes [(h0, .inl (cy 0, 81, .inl (fun _ => 0)))] H := hP
  have hD : va_D A [(h0, .inl (cy 0, 81, .inl (fun _ => 0)))] := hD
  have hP9 := hP.sub (ws' := [(h0, .inl (cy 0, 81, .inl (fun _ => 0)))]) [0] rfl
  have hD9 := hD.sub (ws' := [(h0, .inl (cy 0, 81, .inl (fun _ => 0)))]) [0] (by decide) rfl
  exact W.vret hx hb hr (fun t ht hW => ⟨⟨(), rfl, trivial, by rw [ht]; exact hP9, hD9⟩, hS.F ht⟩) hS.2.2 dJ7_fill_53178_20
set_option maxHeartbeats 4000000 in
set_option maxRecDepth 100000 in
theorem lpX10_clear_49_1 {p : Program} {l : Launch} {e : Env} {R : Room} {s : State} {m : MethodId} {args : Array Value} {below : List Frame} {meth : Method} {c : Code} {Q : State → Prop} {A : Nat → Prop} (dC : Nat → ClassId) (dI : Nat → Nat → Nat) (cy : Nat → ClassId) (h0 h1 h2 h3 h4 h5 h6 h7 h8 h9 h10 h11 h12 : Nat) (hx : p.tables.exec = Jvm.exec) (hb : c.code = cX10_clear) (hml : c.maxLocals = 2) (hown : s.vm.findClass RX10 = some m.cls) (hts : ∀ w ∈ wsL_law, w.before args s = true) (hE : EV dC dI cy s) (hRf : 1 ≤ R.frames) (hRl : 23 ≤ R.locals) (hRc : 0 ≤ R.cells) (hRs : 0 ≤ R.slots) (kk : ∀ (x : Int32) (ls : Array Slot) (H : Heap) (locs : List Loc), va_P (dC, dI) classes [(h0, .inr (10, [.ref h1, .ref h2, .ref h3, .ref h4, .ref h5, .ref h6, .ref h7, .int 0, .int 0, .int 0, .int 0, .int 0])), (h4, .inl (cy 3, 81, .inl (fun _ => 0))), (h5, .inr (1, [.ref h8, .int 0])), (h7, .inr (0, [.ref h9, .ref h10, .ref h11, .ref h12, .int 0, .int 0, .int 0, .int 0])), (h3, .inl (cy 0, 81, .inl (fun _ => 0)))] H → va_D A [(h0, .inr (10, [.ref h1, .ref h2, .ref h3, .ref h4, .ref h5, .ref h6, .ref h7, .int 0, .int 0, .int 0, .int 0, .int 0])), (h4, .inl (cy 3, 81, .inl (fun _ => 0))), (h5, .inr (1, [.ref h8, .int 0])), (h7, .inr (0, [.ref h9, .ref h10, .ref h11, .ref h12, .int 0, .int 0, .int 0, .int 0])), (h3, .inl (cy 0, 81, .inl (fun _ => 0)))] → va_S A s.heap H locs → lv_has ls 2 [(1, .int x), (0, .ref h0)] → W p l e R s m args below meth c H locs 0 0 Q (F0 m 71 ls [])) : ∀ (n : Nat) (x : Int32) (ls : Array Slot) (H : Heap) (locs : List Loc), 0 ≤ x → ((81 : Int32).toInt - x.toInt).toNat < n → va_P (dC, dI) classes [(h0, .inr (10, [.ref h1, .ref h2, .ref h3, .ref h4, .ref h5, .ref h6, .ref h7, .int 0, .int 0, .int 0, .int 0, .int 0])), (h4, .inl (cy 3, 81, .inl (fun _ => 0))), (h5, .inr (1, [.ref h8, .int 0])), (h7, .inr (0, [.ref h9, .ref h10, .ref h11, .ref h12, .int 0, .int 0, .int 0, .int 0])), (h3, .inl (cy 0, 81, .inl (fun _ => 0)))] H → va_D A [(h0, .inr (10, [.ref h1, .ref h2, .ref h3, .ref h4, .ref h5, .ref h6, .ref h7, .int 0, .int 0, .int 0, .int 0, .int 0])), (h4, .inl (cy 3, 81, .inl (fun _ => 0))), (h5, .inr (1, [.ref h8, .int 0])), (h7, .inr (0, [.ref h9, .ref h10, .ref h11, .ref h12, .int 0, .int 0, .int 0, .int 0])), (h3, .inl (cy 0, 81, .inl (fun _ => 0)))] → va_S A s.heap H locs → lv_has ls 2 [(1, .int x), (0, .ref h0)] → W p l e R s m args below meth c H locs 0 0 Q (F0 m 49 ls []) := by
  have hK := hE.1
  have hN := hE.2.1
  intro n
  induction n with
  | zero => intro x ls H locs hlo hm; exact absurd hm (Nat.not_lt_zero _)
  | succ n ih =>
    intro x ls H locs hlo hm hP hD hS hl
    refine lv_iload_n hx hb dX10_clear_49 rfl (lv_at hl 0 rfl) ?_
    refine lv_aload_n hx hb dX10_clear_50 rfl (lv_at hl 1 rfl) ?_
    refine va_get (D := (dC, dI)) (ci := 10) (v := .ref h4) (C := RX10) (T := TX10) (N := 12) hx hb hts inlX10 hown hK hP 0 rfl rfl 3 (by decide) (hts _ m_123) (fun _ h9 => h9) rfl dX10_clear_51 ?_
    refine va_alen (v := 81) hx hb hK hP 1 3 rfl rfl rfl dX10_clear_54 ?_
    refine lv_icmp_ge (tgt := 71) hx hb dX10_clear_55 (by decide) (fun c_105 => ?_) (fun c_105 => ?_)
    · exact kk x ls _ _ hP hD hS hl
    · refine lv_aload_n hx hb dX10_clear_58 rfl (lv_at hl 1 rfl) ?_
      refine va_get (D := (dC, dI)) (ci := 10) (v := .ref h4) (C := RX10) (T := TX10) (N := 12) hx hb hts inlX10 hown hK hP 0 rfl rfl 3 (by decide) (hts _ m_123) (fun _ h9 => h9) rfl dX10_clear_59 ?_
      refine lv_iload_n hx hb dX10_clear_62 rfl (lv_at hl 0 rfl) ?_
      refine lv_iconst (v := 0) hx hb dX10_clear_63 (by decide +kernel) ?_
      refine va_zast hx hb hK hP hD hS 1 3 rfl rfl (nn_6 hlo c_105) dX10_clear_64 (fun H locs hP hD hS => ?_)
      rw [show upd (fun _ => 0) (Int32.toNatClampNeg x) (vp_nar .boolean 0) = (fun _ => 0) from xa_upd0 rfl] at hP hD
      have hP : va_P (dC, dI) classes [(h0, .inr (10, [.ref h1, .ref h2, .ref h3, .ref h4, .ref h5, .ref h6, .ref h7, .int 0, .int 0, .int 0, .int 0, .int 0])), (h4, .inl (cy 3, 81, .inl (fun _ => 0))), (h5, .inr (1, [.ref h8, .int 0])), (h7, .inr (0, [.ref h9, .ref h10, .ref h11, .ref h12, .int 0, .int 0, .int 0, .int 0])), (h3, .inl (cy 0, 81, .inl (fun _ => 0)))] H := hP
      have hD : va_D A [(h0, .inr (10, [.ref h1, .ref h2, .ref h3, .ref h4, .ref h5, .ref h6, .ref h7, .int 0, .int 0, .int 0, .int 0, .int 0])), (h4, .inl (cy 3, 81, .inl (fun _ => 0))), (h5, .inr (1, [.ref h8, .int 0])), (h7, .inr (0, [.ref h9, .ref h10, .ref h11, .ref h12, .int 0, .int 0, .int 0, .int 0])), (h3, .inl (cy 0, 81, .inl (fun _ => 0)))] := hD
      obtain ⟨z_106, ez_106⟩ : ∃ y : Int32, y = x + Int32.ofInt 1 := ⟨_, rfl⟩
      refine lv_iinc (v := z_106) (lv' := [(1, .int z_106), (0, .ref h0)]) hx hb dX10_clear_65 hl (k := 0) rfl (by rw [ez_106]) (by decide) rfl (fun ls hl => ?_)
      refine lv_goto (tgt := 49) hx hb dX10_clear_68 (by decide) ?_
      obtain ⟨hs1, hs2⟩ := xl_step hlo (Int32.not_le.mp c_105) ez_106 hm
      exact ih z_106 ls _ _ hs1 hs2 (hP.sub [0, 1, 2, 3, 4] rfl) (hD.sub [0, 1, 2, 3, 4] (by decide) rfl) hS (lv_sub hl [0, 1] rfl)
set_option maxHeartbeats 4000000 in
set_option maxRecDepth 100000 in
theorem kX10_clear_1 (l : Launch) (dC : Nat → ClassId) (dI : Nat → Nat → Nat) (cy : Nat → ClassId) (h0 h1 h2 h3 h4 h5 h6 h7 h8 h9 h10 h11 h12 : Nat) (sz : Nat) : Met l yX10_clear wmX10_clear ({ frames := 1, cells := 0, slots := 0, locals := 23 }) (va_Pc [.ref h0] (fun U => U.heap.size = sz ∧ va_P (dC, dI) classes [(h0, .inr (10, [.ref h1, .ref h2, .ref h3, .ref h4, .ref h5, .ref h6, .ref h7, .int 0, .int 0, .int 0, .int 0, .int 0])), (h5, .inr (1, [.ref h8, .int 0])), (h7, .inr (0, [.ref h9, .ref h10, .ref h11, .ref h12, .int 0, .int 0, .int 0, .int 0])), (h3, .inl (cy 0, 81, .inl (fun _ => 0))), (h4, .inl (cy 3, 81, .inl (fun _ => 0)))] U.heap ∧ EV dC dI cy U ∧ va_D (fun _ => True) [(h0, .inr (10, [.ref h1, .ref h2, .ref h3, .ref h4, .ref h5, .ref h6, .ref h7, .int 0, .int 0, .int 0, .int 0, .int 0])), (h5, .inr (1, [.ref h8, .int 0])), (h7, .inr (0, [.ref h9, .ref h10, .ref h11, .ref h12, .int 0, .int 0, .int 0, .int 0])), (h3, .inl (cy 0, 81, .inl (fun _ => 0))), (h4, .inl (cy 3, 81, .inl (fun _ => 0)))])) (va_Qv (S := Unit) (fun _ => True) (fun _ t => va_P (dC, dI) classes [(h0, .inr (10, [.ref h1, .ref h2, .ref h3, .ref h4, .ref h5, .ref h6, .ref h7, .int 0, .int 0, .int 0, .int 0, .int 0])), (h4, .inl (cy 3, 81, .inl (fun _ => 0))), (h5, .inr (1, [.ref h8, .int 0])), (h7, .inr (0, [.ref h9, .ref h10, .ref h11, .ref h12, .int 0, .int 0, .int 0, .int 0])), (h3, .inl (cy 0, 81, .inl (fun _ => 0)))] t.heap ∧ va_D (va_A [(h0, .inr (10, [.ref h1, .ref h2, .ref h3, .ref h4, .ref h5, .ref h6, .ref h7, .int 0, .int 0, .int 0, .int 0, .int 0])), (h5, .inr (1, [.ref h8, .int 0])), (h7, .inr (0, [.ref h9, .ref h10, .ref h11, .ref h12, .int 0, .int 0, .int 0, .int 0])), (h3, .inl (cy 0, 81, .inl (fun _ => 0))), (h4, .inl (cy 3, 81, .inl (fun _ => 0)))] sz) [(h0, .inr (10, [.ref h1, .ref h2, .ref h3, .ref h4, .ref h5, .ref h6, .ref h7, .int 0, .int 0, .int 0, .int 0, .int 0])), (h4, .inl (cy 3, 81, .inl (fun _ => 0))), (h5, .inr (1, [.ref h8, .int 0])), (h7, .inr (0, [.ref h9, .ref h10, .ref h11, .ref h12, .int 0, .int 0, .int 0, .int 0])), (h3, .inl (cy 0, 81, .inl (fun _ => 0)))]) (va_A [(h0, .inr (10, [.ref h1, .ref h2, .ref h3, .ref h4, .ref h5, .ref h6, .ref h7, .int 0, .int 0, .int 0, .int 0, .int 0])), (h5, .inr (1, [.ref h8, .int 0])), (h7, .inr (0, [.ref h9, .ref h10, .ref h11, .ref h12, .int 0, .int 0, .int 0, .int 0])), (h3, .inl (cy 0, 81, .inl (fun _ => 0))), (h4, .inl (cy 3, 81, .inl (fun _ => 0)))] sz)) 0 0 (va_A [(h0, .inr (10, [.ref h1, .ref h2, .ref h3, .ref h4, .ref h5, .ref h6, .ref h7, .int 0, .int 0, .int 0, .int 0, .int 0])), (h5, .inr (1, [.ref h8, .int 0])), (h7, .inr (0, [.ref h9, .ref h10, .ref h11, .ref h12, .int 0, .int 0, .int 0, .int 0])), (h3, .inl (cy 0, 81, .inl (fun _ => 0))), (h4, .inl (cy 3, 81, .inl (fun _ => 0)))] sz) := by
  refine Met.ofW (cc := cX10_clear) (maxL := 2) (ret := none) (by decide +kernel) rfl ?_
  intro p e s m args below meth c s₁ B hml hv
  obtain ⟨rfl, hsz, hP, hE, hD0⟩ := hv
  have hK := hE.1
  have hN := hE.2.1
  have hx := B.exec
  have hb := B.bytes
  have hr := B.returns
  have hts0 := atoms_spec (ws := wmX10_clear) B.pre
  have hts : ∀ w ∈ wsL_law, w.before _ s = true := fun w h => hts0 w (List.mem_cons_of_mem _ h)
  have hown : s.vm.findClass RX10 = some m.cls := findClass_of_methodNamed B.named
  have hlocks := B.notSynchronized
  subst hsz
  have hD := hD0.self (sz := s.heap.size)
  generalize hAe : va_A [(h0, .inr (10, [.ref h1, .ref h2, .ref h3, .ref h4, .ref h5, .ref h6, .ref h7, .int 0, .int 0, .int 0, .int 0, .int 0])), (h5, .inr (1, [.ref h8, .int 0])), (h7, .inr (0, [.ref h9, .ref h10, .ref h11, .ref h12, .int 0, .int 0, .int 0, .int 0])), (h3, .inl (cy 0, 81, .inl (fun _ => 0))), (h4, .inl (cy 3, 81, .inl (fun _ => 0)))] s.heap.size = A at hD ⊢
  have hA : ∀ q : Nat, s.heap.size ≤ q → A q := fun q h => by rw [← hAe]; exact Or.inr h
  have hS : va_S A s.heap s.heap [] := va_S.rf
  have hP : va_P (dC, dI) classes [(h0, .inr (10, [.ref h1, .ref h2, .ref h3, .ref h4, .ref h5, .ref h6, .ref h7, .int 0, .int 0, .int 0, .int 0, .int 0])), (h5, .inr (1, [.ref h8, .int 0])), (h7, .inr (0, [.ref h9, .ref h10, .ref h11, .ref h12, .int 0, .int 0, .int 0, .int 0])), (h3, .inl (cy 0, 81, .inl (fun _ => 0))), (h4, .inl (cy 3, 81, .inl (fun _ => 0)))] s.heap := hP
  have hl := lv_entry ([.ref h0]) (n := 2) (Nat.le_of_ble_eq_true rfl)
  rw [lg_entry_eq]
  generalize (lg_sl ([.ref h0]) ++ List.replicate (2 - (lg_sl ([.ref h0])).length) Slot.unset).toArray = ls at hl ⊢
  have hl : lv_has ls 2 [(0, .ref h0)] := hl
  refine lv_aload_n hx hb dX10_clear_0 rfl (lv_at hl 0 rfl) ?_
  refine lv_iconst (v := 0) hx hb dX10_clear_1 (by decide +kernel) ?_
  refine va_put (D := (dC, dI)) (ci := 10) (v := .int 0) (ty := .int) (C := RX10) (T := TX10) (N := 12) hx hb hts inlX10 tyX10 tyX10_ok nmX10 hown hK hP hD hS 0 rfl rfl 7 (by decide) (hts _ m_320) (fun _ h9 => h9) rfl (by decide +kernel) rfl rfl (Nat.le_of_ble_eq_true rfl) dX10_clear_2 (fun H locs hP hD hS => ?_)
  have hP : va_P (dC, dI) classes [(h0, .inr (10, [.ref h1, .ref h2, .ref h3, .ref h4, .ref h5, .ref h6, .ref h7, .int 0, .int 0, .int 0, .int 0, .int 0])), (h5, .inr (1, [.ref h8, .int 0])), (h7, .inr (0, [.ref h9, .ref h10, .ref h11, .ref h12, .int 0, .int 0, .int 0, .int 0])), (h3, .inl (cy 0, 81, .inl (fun _ => 0))), (h4, .inl (cy 3, 81, .inl (fun _ => 0)))] H := hP
  have hD : va_D A [(h0, .inr (10, [.ref h1, .ref h2, .ref h3, .ref h4, .ref h5, .ref h6, .ref h7, .int 0, .int 0, .int 0, .int 0, .int 0])), (h5, .inr (1, [.ref h8, .int 0])), (h7, .inr (0, [.ref h9, .ref h10, .ref h11, .ref h12, .int 0, .int 0, .int 0, .int 0])), (h3, .inl (cy 0, 81, .inl (fun _ => 0))), (h4, .inl (cy 3, 81, .inl (fun _ => 0)))] := hD
  refine lv_aload_n hx hb dX10_clear_5 rfl (lv_at hl 0 rfl) ?_
  refine lv_iconst (v := 0) hx hb dX10_clear_6 (by decide +kernel) ?_
  refine va_put (D := (dC, dI)) (ci := 10) (v := .int 0) (ty := .int) (C := RX10) (T := TX10) (N := 12) hx hb hts inlX10 tyX10 tyX10_ok nmX10 hown hK hP hD hS 0 rfl rfl 8 (by decide) (hts _ m_321) (fun _ h9 => h9) rfl (by decide +kernel) rfl rfl (Nat.le_of_ble_eq_true rfl) dX10_clear_7 (fun H locs hP hD hS => ?_)
  have hP : va_P (dC, dI) classes [(h0, .inr (10, [.ref h1, .ref h2, .ref h3, .ref h4, .ref h5, .ref h6, .ref h7, .int 0, .int 0, .int 0, .int 0, .int 0])), (h5, .inr (1, [.ref h8, .int 0])), (h7, .inr (0, [.ref h9, .ref h10, .ref h11, .ref h12, .int 0, .int 0, .int 0, .int 0])), (h3, .inl (cy 0, 81, .inl (fun _ => 0))), (h4, .inl (cy 3, 81, .inl (fun _ => 0)))] H := hP
  have hD : va_D A [(h0, .inr (10, [.ref h1, .ref h2, .ref h3, .ref h4, .ref h5, .ref h6, .ref h7, .int 0, .int 0, .int 0, .int 0, .int 0])), (h5, .inr (1, [.ref h8, .int 0])), (h7, .inr (0, [.ref h9, .ref h10, .ref h11, .ref h12, .int 0, .int 0, .int 0, .int 0])), (h3, .inl (cy 0, 81, .inl (fun _ => 0))), (h4, .inl (cy 3, 81, .inl (fun _ => 0)))] := hD
  refine lv_aload_n hx hb dX10_clear_10 rfl (lv_at hl 0 rfl) ?_
  refine lv_iconst (v := 0) hx hb dX10_clear_11 (by decide +kernel) ?_
  refine va_put (D := (dC, dI)) (ci := 10) (v := .int 0) (ty := .int) (C := RX10) (T := TX10) (N := 12) hx hb hts inlX10 tyX10 tyX10_ok nmX10 hown hK hP hD hS 0 rfl rfl 9 (by decide) (hts _ m_322) (fun _ h9 => h9) rfl (by decide +kernel) rfl rfl (Nat.le_of_ble_eq_true rfl) dX10_clear_12 (fun H locs hP hD hS => ?_)
  have hP : va_P (dC, dI) classes [(h0, .inr (10, [.ref h1, .ref h2, .ref h3, .ref h4, .ref h5, .ref h6, .ref h7, .int 0, .int 0, .int 0, .int 0, .int 0])), (h5, .inr (1, [.ref h8, .int 0])), (h7, .inr (0, [.ref h9, .ref h10, .ref h11, .ref h12, .int 0, .int 0, .int 0, .int 0])), (h3, .inl (cy 0, 81, .inl (fun _ => 0))), (h4, .inl (cy 3, 81, .inl (fun _ => 0)))] H := hP
  have hD : va_D A [(h0, .inr (10, [.ref h1, .ref h2, .ref h3, .ref h4, .ref h5, .ref h6, .ref h7, .int 0, .int 0, .int 0, .int 0, .int 0])), (h5, .inr (1, [.ref h8, .int 0])), (h7, .inr (0, [.ref h9, .ref h10, .ref h11, .ref h12, .int 0, .int 0, .int 0, .int 0])), (h3, .inl (cy 0, 81, .inl (fun _ => 0))), (h4, .inl (cy 3, 81, .inl (fun _ => 0)))] := hD
  refine lv_aload_n hx hb dX10_clear_15 rfl (lv_at hl 0 rfl) ?_
  refine lv_iconst (v := 0) hx hb dX10_clear_16 (by decide +kernel) ?_
  refine va_put (D := (dC, dI)) (ci := 10) (v := .int 0) (ty := .int) (C := RX10) (T := TX10) (N := 12) hx hb hts inlX10 tyX10 tyX10_ok nmX10 hown hK hP hD hS 0 rfl rfl 10 (by decide) (hts _ m_323) (fun _ h9 => h9) rfl (by decide +kernel) rfl rfl (Nat.le_of_ble_eq_true rfl) dX10_clear_17 (fun H locs hP hD hS => ?_)
  have hP : va_P (dC, dI) classes [(h0, .inr (10, [.ref h1, .ref h2, .ref h3, .ref h4, .ref h5, .ref h6, .ref h7, .int 0, .int 0, .int 0, .int 0, .int 0])), (h5, .inr (1, [.ref h8, .int 0])), (h7, .inr (0, [.ref h9, .ref h10, .ref h11, .ref h12, .int 0, .int 0, .int 0, .int 0])), (h3, .inl (cy 0, 81, .inl (fun _ => 0))), (h4, .inl (cy 3, 81, .inl (fun _ => 0)))] H := hP
  have hD : va_D A [(h0, .inr (10, [.ref h1, .ref h2, .ref h3, .ref h4, .ref h5, .ref h6, .ref h7, .int 0, .int 0, .int 0, .int 0, .int 0])), (h5, .inr (1, [.ref h8, .int 0])), (h7, .inr (0, [.ref h9, .ref h10, .ref h11, .ref h12, .int 0, .int 0, .int 0, .int 0])), (h3, .inl (cy 0, 81, .inl (fun _ => 0))), (h4, .inl (cy 3, 81, .inl (fun _ => 0)))] := hD
  refine lv_aload_n hx hb dX10_clear_20 rfl (lv_at hl 0 rfl) ?_
  refine lv_iconst (v := 0) hx hb dX10_clear_21 (by decide +kernel) ?_
  refine va_put (D := (dC, dI)) (ci := 10) (v := .int 0) (ty := .boolean) (C := RX10) (T := TX10) (N := 12) hx hb hts inlX10 tyX10 tyX10_ok nmX10 hown hK hP hD hS 0 rfl rfl 11 (by decide) (hts _ m_324) (fun _ h9 => h9) rfl (by decide +kernel) rfl rfl (Nat.le_of_ble_eq_true rfl) dX10_clear_22 (fun H locs hP hD hS => ?_)
  have hP : va_P (dC, dI) classes [(h0, .inr (10, [.ref h1, .ref h2, .ref h3, .ref h4, .ref h5, .ref h6, .ref h7, .int 0, .int 0, .int 0, .int 0, .int 0])), (h5, .inr (1, [.ref h8, .int 0])), (h7, .inr (0, [.ref h9, .ref h10, .ref h11, .ref h12, .int 0, .int 0, .int 0, .int 0])), (h3, .inl (cy 0, 81, .inl (fun _ => 0))), (h4, .inl (cy 3, 81, .inl (fun _ => 0)))] H := hP
  have hD : va_D A [(h0, .inr (10, [.ref h1, .ref h2, .ref h3, .ref h4, .ref h5, .ref h6, .ref h7, .int 0, .int 0, .int 0, .int 0, .int 0])), (h5, .inr (1, [.ref h8, .int 0])), (h7, .inr (0, [.ref h9, .ref h10, .ref h11, .ref h12, .int 0, .int 0, .int 0, .int 0])), (h3, .inl (cy 0, 81, .inl (fun _ => 0))), (h4, .inl (cy 3, 81, .inl (fun _ => 0)))] := hD
  refine lv_aload_n hx hb dX10_clear_25 rfl (lv_at hl 0 rfl) ?_
  refine va_get (D := (dC, dI)) (ci := 10) (v := .ref h5) (C := RX10) (T := TX10) (N := 12) hx hb hts inlX10 hown hK hP 0 rfl rfl 4 (by decide) (hts _ m_125) (fun _ h9 => h9) rfl dX10_clear_26 ?_
  have hPc := hP.sub (ws' := [(h5, .inr (1, [.ref h8, .int 0]))]) [1] rfl
  have hDc := hD.sub (ws' := [(h5, .inr (1, [.ref h8, .int 0]))]) [1] (by decide) rfl
  have hFc := va_free (wc := [(h5, .inr (1, [.ref h8, .int 0]))]) hD hS hA [1] rfl
  refine va_callv (va_runV (As := []) (rest := []) ⟨hx, hb, hml, hown, hts⟩ (kX1_clear_1 l dC dI cy h5 h8 H.size) (cwV 0 hts (gdV m_325 m_326 m_327 m_38 m_328) rfl rfl rfl (by decide +kernel) ⟨Nat.le_of_ble_eq_true rfl, Nat.le_of_ble_eq_true rfl⟩) ⟨fun a U g mk q => by obtain ⟨q0, q1, qP, qE, qD⟩ := q; exact ⟨q0, q1, qP, qE.call, qD⟩, va_recv hK hP (ci := 1) (q0 := 1) rfl rfl, fun U hU hW => ⟨rfl, by rw [hU], by rw [hU]; exact hPc, hE.moved hW, hDc.weaken (fun _ _ _ _ => trivial)⟩⟩ rfl rfl hl.1 rfl (lv_room (Nat.le_of_ble_eq_true rfl)) dX10_clear_29 ⟨(show 0 + 0 ≤ 0 from by decide +kernel), (show 0 + 0 ≤ 0 from by decide +kernel)⟩) hS (fun q _ h => hFc q h) hFc (fun u t H1 locs ht hvm hw hB hz1 hk1 hS => ?_)
  obtain ⟨hP1, hD1⟩ := hB
  rw [ht] at hP1
  obtain ⟨hP, hD⟩ := va_join (wr := [(h0, .inr (10, [.ref h1, .ref h2, .ref h3, .ref h4, .ref h5, .ref h6, .ref h7, .int 0, .int 0, .int 0, .int 0, .int 0])), (h7, .inr (0, [.ref h9, .ref h10, .ref h11, .ref h12, .int 0, .int 0, .int 0, .int 0])), (h3, .inl (cy 0, 81, .inl (fun _ => 0))), (h4, .inl (cy 3, 81, .inl (fun _ => 0)))]) (w1 := [(h5, .inr (1, [.ref h8, .int 0]))]) hP hD [1] [0, 2, 3, 4] rfl rfl (by decide) (by decide) hk1 hFc hP1 hD1
  generalize H1 = H at hP hS ⊢
  have hP : va_P (dC, dI) classes [(h0, .inr (10, [.ref h1, .ref h2, .ref h3, .ref h4, .ref h5, .ref h6, .ref h7, .int 0, .int 0, .int 0, .int 0, .int 0])), (h7, .inr (0, [.ref h9, .ref h10, .ref h11, .ref h12, .int 0, .int 0, .int 0, .int 0])), (h3, .inl (cy 0, 81, .inl (fun _ => 0))), (h4, .inl (cy 3, 81, .inl (fun _ => 0))), (h5, .inr (1, [.ref h8, .int 0]))] H := hP
  have hD : va_D A [(h0, .inr (10, [.ref h1, .ref h2, .ref h3, .ref h4, .ref h5, .ref h6, .ref h7, .int 0, .int 0, .int 0, .int 0, .int 0])), (h7, .inr (0, [.ref h9, .ref h10, .ref h11, .ref h12, .int 0, .int 0, .int 0, .int 0])), (h3, .inl (cy 0, 81, .inl (fun _ => 0))), (h4, .inl (cy 3, 81, .inl (fun _ => 0))), (h5, .inr (1, [.ref h8, .int 0]))] := hD
  refine W.widen (k := 0) (n := 0) (by decide +kernel) (by decide +kernel) ?_
  refine lv_aload_n hx hb dX10_clear_32 rfl (lv_at hl 0 rfl) ?_
  refine va_get (D := (dC, dI)) (ci := 10) (v := .ref h7) (C := RX10) (T := TX10) (N := 12) hx hb hts inlX10 hown hK hP 0 rfl rfl 6 (by decide) (hts _ m_130) (fun _ h9 => h9) rfl dX10_clear_33 ?_
  have hPc := hP.sub (ws' := [(h7, .inr (0, [.ref h9, .ref h10, .ref h11, .ref h12, .int 0, .int 0, .int 0, .int 0]))]) [1] rfl
  have hDc := hD.sub (ws' := [(h7, .inr (0, [.ref h9, .ref h10, .ref h11, .ref h12, .int 0, .int 0, .int 0, .int 0]))]) [1] (by decide) rfl
  have hFc := va_free (wc := [(h7, .inr (0, [.ref h9, .ref h10, .ref h11, .ref h12, .int 0, .int 0, .int 0, .int 0]))]) hD hS hA [1] rfl
  refine va_callv (va_runV (As := []) (rest := []) ⟨hx, hb, hml, hown, hts⟩ (kX0_clear_1 l dC dI cy h7 h9 h10 h11 h12 H.size) (cwV 0 hts (gdV m_329 m_330 m_331 m_129 m_332) rfl rfl rfl (by decide +kernel) ⟨Nat.le_of_ble_eq_true rfl, Nat.le_of_ble_eq_true rfl⟩) ⟨fun a U g mk q => by obtain ⟨q0, q1, qP, qE, qD⟩ := q; exact ⟨q0, q1, qP, qE.call, qD⟩, va_recv hK hP (ci := 0) (q0 := 1) rfl rfl, fun U hU hW => ⟨rfl, by rw [hU], by rw [hU]; exact hPc, hE.moved hW, hDc.weaken (fun _ _ _ _ => trivial)⟩⟩ rfl rfl hl.1 rfl (lv_room (Nat.le_of_ble_eq_true rfl)) dX10_clear_36 ⟨(show 0 + 0 ≤ 0 from by decide +kernel), (show 0 + 0 ≤ 0 from by decide +kernel)⟩) hS (fun q _ h => hFc q h) hFc (fun u t H1 locs ht hvm hw hB hz1 hk1 hS => ?_)
  obtain ⟨hP1, hD1⟩ := hB
  rw [ht] at hP1
  obtain ⟨hP, hD⟩ := va_join (wr := [(h0, .inr (10, [.ref h1, .ref h2, .ref h3, .ref h4, .ref h5, .ref h6, .ref h7, .int 0, .int 0, .int 0, .int 0, .int 0])), (h3, .inl (cy 0, 81, .inl (fun _ => 0))), (h4, .inl (cy 3, 81, .inl (fun _ => 0))), (h5, .inr (1, [.ref h8, .int 0]))]) (w1 := [(h7, .inr (0, [.ref h9, .ref h10, .ref h11, .ref h12, .int 0, .int 0, .int 0, .int 0]))]) hP hD [1] [0, 2, 3, 4] rfl rfl (by decide) (by decide) hk1 hFc hP1 hD1
  generalize H1 = H at hP hS ⊢
  have hP : va_P (dC, dI) classes [(h0, .inr (10, [.ref h1, .ref h2, .ref h3, .ref h4, .ref h5, .ref h6, .ref h7, .int 0, .int 0, .int 0, .int 0, .int 0])), (h3, .inl (cy 0, 81, .inl (fun _ => 0))), (h4, .inl (cy 3, 81, .inl (fun _ => 0))), (h5, .inr (1, [.ref h8, .int 0])), (h7, .inr (0, [.ref h9, .ref h10, .ref h11, .ref h12, .int 0, .int 0, .int 0, .int 0]))] H := hP
  have hD : va_D A [(h0, .inr (10, [.ref h1, .ref h2, .ref h3, .ref h4, .ref h5, .ref h6, .ref h7, .int 0, .int 0, .int 0, .int 0, .int 0])), (h3, .inl (cy 0, 81, .inl (fun _ => 0))), (h4, .inl (cy 3, 81, .inl (fun _ => 0))), (h5, .inr (1, [.ref h8, .int 0])), (h7, .inr (0, [.ref h9, .ref h10, .ref h11, .ref h12, .int 0, .int 0, .int 0, .int 0]))] := hD
  refine W.widen (k := 0) (n := 0) (by decide +kernel) (by decide +kernel) ?_
  refine lv_aload_n hx hb dX10_clear_39 rfl (lv_at hl 0 rfl) ?_
  refine va_get (D := (dC, dI)) (ci := 10) (v := .ref h3) (C := RX10) (T := TX10) (N := 12) hx hb hts inlX10 hown hK hP 0 rfl rfl 2 (by decide) (hts _ m_121) (fun _ h9 => h9) rfl dX10_clear_40 ?_
  refine lv_iconst (v := 0) hx hb dX10_clear_43 (by decide +kernel) ?_
  have hPc := hP.sub (ws' := [(h3, .inl (cy 0, 81, .inl (fun _ => 0)))]) [1] rfl
  have hDc := hD.sub (ws' := [(h3, .inl (cy 0, 81, .inl (fun _ => 0)))]) [1] (by decide) rfl
  have hFc := va_free (wc := [(h3, .inl (cy 0, 81, .inl (fun _ => 0)))]) hD hS hA [1] rfl
  refine va_callv (va_runS (As := [.ref h3, .int 0]) (rest := []) ⟨hx, hb, hml, hown, hts⟩ (kJ7_fill_53178_1 l dC dI cy h3 H.size) (va_cwS 2 hts (gdS m_336 m_337 m_338 m_339) rfl rfl rfl (by decide +kernel) ⟨Nat.le_of_ble_eq_true rfl, Nat.le_of_ble_eq_true rfl⟩) ⟨fun a U g mk q => by obtain ⟨q0, q1, qP, qE, qD⟩ := q; exact ⟨q0, q1, qP, qE.call, qD⟩, fun U hU hW => ⟨rfl, by rw [hU], by rw [hU]; exact hPc, hE.moved hW, hDc.weaken (fun _ _ _ _ => trivial)⟩⟩ rfl rfl hl.1 rfl (lv_room (Nat.le_of_ble_eq_true rfl)) dX10_clear_44 ⟨(show 0 + 0 ≤ 0 from by decide +kernel), (show 0 + 0 ≤ 0 from by decide +kernel)⟩) hS (fun q _ h => hFc q h) hFc (fun u t H1 locs ht hvm hw hB hz1 hk1 hS => ?_)
  obtain ⟨hP1, hD1⟩ := hB
  rw [ht] at hP1
  obtain ⟨hP, hD⟩ := va_join (wr := [(h0, .inr (10, [.ref h1, .ref h2, .ref h3, .ref h4, .ref h5, .ref h6, .ref h7, .int 0, .int 0, .int 0, .int 0, .int 0])), (h4, .inl (cy 3, 81, .inl (fun _ => 0))), (h5, .inr (1, [.ref h8, .int 0])), (h7, .inr (0, [.ref h9, .ref h10, .ref h11, .ref h12, .int 0, .int 0, .int 0, .int 0]))]) (w1 := [(h3, .inl (cy 0, 81, .inl (fun _ => 0)))]) hP hD [1] [0, 2, 3, 4] rfl rfl (by decide) (by decide) hk1 hFc hP1 hD1
  generalize H1 = H at hP hS ⊢
  have hP : va_P (dC, dI) classes [(h0, .inr (10, [.ref h1, .ref h2, .ref h3, .ref h4, .ref h5, .ref h6, .ref h7, .int 0, .int 0, .int 0, .int 0, .int 0])), (h4, .inl (cy 3, 81, .inl (fun _ => 0))), (h5, .inr (1, [.ref h8, .int 0])), (h7, .inr (0, [.ref h9, .ref h10, .ref h11, .ref h12, .int 0, .int 0, .int 0, .int 0])), (h3, .inl (cy 0, 81, .inl (fun _ => 0)))] H := hP
  have hD : va_D A [(h0, .inr (10, [.ref h1, .ref h2, .ref h3, .ref h4, .ref h5, .ref h6, .ref h7, .int 0, .int 0, .int 0, .int 0, .int 0])), (h4, .inl (cy 3, 81, .inl (fun _ => 0))), (h5, .inr (1, [.ref h8, .int 0])), (h7, .inr (0, [.ref h9, .ref h10, .ref h11, .ref h12, .int 0, .int 0, .int 0, .int 0])), (h3, .inl (cy 0, 81, .inl (fun _ => 0)))] := hD
  refine W.widen (k := 0) (n := 0) (by decide +kernel) (by decide +kernel) ?_
  refine lv_iconst (v := 0) hx hb dX10_clear_47 (by decide +kernel) ?_
  refine lv_istore_n (lv' := [(1, .int 0), (0, .ref h0)]) hx hb dX10_clear_48 rfl hl (by decide) rfl (fun ls hl => ?_)
  refine lpX10_clear_49_1 dC dI cy h0 h1 h2 h3 h4 h5 h6 h7 h8 h9 h10 h11 h12 hx hb hml hown hts hE (Nat.le_of_ble_eq_true rfl) (Nat.le_of_ble_eq_true rfl) (show 0 ≤ 0 from by decide +kernel) (show 0 ≤ 0 from by decide +kernel) (fun z_4 ls H locs hP hD hS hl => ?_) ((81 : Int32).toInt - (0 : Int32).toInt).toNat.succ 0 ls _ _ (by decide +kernel) (Nat.lt_succ_self _) hP hD hS hl
  have hP : va_P (dC, dI) classes [(h0, .inr (10, [.ref h1, .ref h2, .ref h3, .ref h4, .ref h5, .ref h6, .ref h7, .int 0, .int 0, .int 0, .int 0, .int 0])), (h4, .inl (cy 3, 81, .inl (fun _ => 0))), (h5, .inr (1, [.ref h8, .int 0])), (h7, .inr (0, [.ref h9, .ref h10, .ref h11, .ref h12, .int 0, .int 0, .int 0, .int 0])), (h3, .inl (cy 0, 81, .inl (fun _ => 0)))] H := hP
  have hD : va_D A [(h0, .inr (10, [.ref h1, .ref h2, .ref h3, .ref h4, .ref h5, .ref h6, .ref h7, .int 0, .int 0, .int 0, .int 0, .int 0])), (h4, .inl (cy 3, 81, .inl (fun _ => 0))), (h5, .inr (1, [.ref h8, .int 0])), (h7, .inr (0, [.ref h9, .ref h10, .ref h11, .ref h12, .int 0, .int 0, .int 0, .int 0])), (h3, .inl (cy 0, 81, .inl (fun _ => 0)))] := hD
  have hP9 := hP.sub (ws' := [(h0, .inr (10, [.ref h1, .ref h2, .ref h3, .ref h4, .ref h5, .ref h6, .ref h7, .int 0, .int 0, .int 0, .int 0, .int 0])), (h4, .inl (cy 3, 81, .inl (fun _ => 0))), (h5, .inr (1, [.ref h8, .int 0])), (h7, .inr (0, [.ref h9, .ref h10, .ref h11, .ref h12, .int 0, .int 0, .int 0, .int 0])), (h3, .inl (cy 0, 81, .inl (fun _ => 0)))]) [0, 1, 2, 3, 4] rfl
  have hD9 := hD.sub (ws' := [(h0, .inr (10, [.ref h1, .ref h2, .ref h3, .ref h4, .ref h5, .ref h6, .ref h7, .int 0, .int 0, .int 0, .int 0, .int 0])), (h4, .inl (cy 3, 81, .inl (fun _ => 0))), (h5, .inr (1, [.ref h8, .int 0])), (h7, .inr (0, [.ref h9, .ref h10, .ref h11, .ref h12, .int 0, .int 0, .int 0, .int 0])), (h3, .inl (cy 0, 81, .inl (fun _ => 0)))]) [0, 1, 2, 3, 4] (by decide) rfl
  exact W.vret hx hb hr (fun t ht hW => ⟨⟨(), rfl, trivial, by rw [ht]; exact hP9, hD9⟩, hS.F ht⟩) hS.2.2 dX10_clear_71
set_option maxHeartbeats 4000000 in
set_option maxRecDepth 100000 in
theorem kX9_skipBlanks_1 (l : Launch) (dC : Nat → ClassId) (dI : Nat → Nat → Nat) (cy : Nat → ClassId) (h0 h1 h2 : Nat) : Met l yX9_skipBlanks wmX9_skipBlanks ({ frames := 0, cells := 0, slots := 0, locals := 0 }) (va_Pc [.ref h0] (fun U => va_P (dC, dI) classes [(h0, .inr (9, [.ref h1, .ref h2, .int 0, .int 0, .int 0, .int 0, .int 0, .long 0]))] U.heap ∧ EV dC dI cy U)) (va_Sv (fun _ => True)) 0 0 (fun _ => False) := by
  refine Met.ofW (cc := cX9_skipBlanks) (maxL := 1) (ret := none) (by decide +kernel) rfl ?_
  intro p e s m args below meth c s₁ B hml hv
  obtain ⟨rfl, hP, hE⟩ := hv
  have hK := hE.1
  have hN := hE.2.1
  have hx := B.exec
  have hb := B.bytes
  have hr := B.returns
  have hts0 := atoms_spec (ws := wmX9_skipBlanks) B.pre
  have hts : ∀ w ∈ wsL_law, w.before _ s = true := fun w h => hts0 w (List.mem_cons_of_mem _ h)
  have hown : s.vm.findClass RX9 = some m.cls := findClass_of_methodNamed B.named
  have hlocks := B.notSynchronized
  have hl := lv_entry ([.ref h0]) (n := 1) (Nat.le_of_ble_eq_true rfl)
  rw [lg_entry_eq]
  generalize (lg_sl ([.ref h0]) ++ List.replicate (1 - (lg_sl ([.ref h0])).length) Slot.unset).toArray = ls at hl ⊢
  have hl : lv_has ls 1 [(0, .ref h0)] := hl
  refine lv_aload_n hx hb dX9_skipBlanks_0 rfl (lv_at hl 0 rfl) ?_
  refine va_get (D := (dC, dI)) (ci := 9) (v := .int 0) (C := RX9) (T := TX9) (N := 8) hx hb hts inlX9 hown hK hP 0 rfl rfl 3 (by decide) (hts _ m_344) (fun _ h9 => h9) rfl dX9_skipBlanks_1 ?_
  refine lv_aload_n hx hb dX9_skipBlanks_4 rfl (lv_at hl 0 rfl) ?_
  refine va_get (D := (dC, dI)) (ci := 9) (v := .int 0) (C := RX9) (T := TX9) (N := 8) hx hb hts inlX9 hown hK hP 0 rfl rfl 2 (by decide) (hts _ m_290) (fun _ h9 => h9) rfl dX9_skipBlanks_5 ?_
  refine lv_icmp_ge (tgt := 38) hx hb dX9_skipBlanks_8 (by decide) (fun _ => ?_) (fun c_ => absurd (by decide +kernel) c_)
  exact W.vret hx hb hr (fun t ht hW => ⟨rfl, trivial, ht⟩) (fun _ h_ => (List.not_mem_nil h_).elim) dX9_skipBlanks_38
set_option maxHeartbeats 4000000 in
set_option maxRecDepth 100000 in
theorem kX9_signAt_1 (l : Launch) (dC : Nat → ClassId) (dI : Nat → Nat → Nat) (cy : Nat → ClassId) (h0 h1 h2 : Nat) : Met l yX9_signAt wmX9_signAt ({ frames := 0, cells := 0, slots := 0, locals := 0 }) (va_Pc [.ref h0, .int 0] (fun U => va_P (dC, dI) classes [(h0, .inr (9, [.ref h1, .ref h2, .int 0, .int 0, .int 0, .int 0, .int 0, .long 0]))] U.heap ∧ EV dC dI cy U)) (vp_Si (fun r_ => r_ = (-1))) 0 0 (fun _ => False) := by
  refine Met.ofW (cc := cX9_signAt) (maxL := 2) (ret := (some .int)) (by decide +kernel) rfl ?_
  intro p e s m args below meth c s₁ B hml hv
  obtain ⟨rfl, hP, hE⟩ := hv
  have hK := hE.1
  have hN := hE.2.1
  have hx := B.exec
  have hb := B.bytes
  have hr := B.returns
  have hts0 := atoms_spec (ws := wmX9_signAt) B.pre
  have hts : ∀ w ∈ wsL_law, w.before _ s = true := fun w h => hts0 w (List.mem_cons_of_mem _ h)
  have hown : s.vm.findClass RX9 = some m.cls := findClass_of_methodNamed B.named
  have hlocks := B.notSynchronized
  have hl := lv_entry ([.ref h0, .int 0]) (n := 2) (Nat.le_of_ble_eq_true rfl)
  rw [lg_entry_eq]
  generalize (lg_sl ([.ref h0, .int 0]) ++ List.replicate (2 - (lg_sl ([.ref h0, .int 0])).length) Slot.unset).toArray = ls at hl ⊢
  have hl : lv_has ls 2 [(0, .ref h0), (1, .int 0)] := hl
  refine lv_iload_n hx hb dX9_signAt_0 rfl (lv_at hl 1 rfl) ?_
  refine lv_if_lt (tgt := 34) hx hb dX9_signAt_1 (by decide) (fun c_ => absurd c_ (by decide +kernel)) (fun _ => ?_)
  refine lv_iload_n hx hb dX9_signAt_4 rfl (lv_at hl 1 rfl) ?_
  refine lv_aload_n hx hb dX9_signAt_5 rfl (lv_at hl 0 rfl) ?_
  refine va_get (D := (dC, dI)) (ci := 9) (v := .int 0) (C := RX9) (T := TX9) (N := 8) hx hb hts inlX9 hown hK hP 0 rfl rfl 2 (by decide) (hts _ m_290) (fun _ h9 => h9) rfl dX9_signAt_6 ?_
  refine lv_icmp_ge (tgt := 34) hx hb dX9_signAt_9 (by decide) (fun _ => ?_) (fun c_ => absurd (by decide +kernel) c_)
  refine lv_iconst (v := (-1)) hx hb dX9_signAt_34 (by decide +kernel) ?_
  exact W.iret (v := (-1)) hx hb hr (fun t ht hW => ⟨(-1), rfl, rfl, ht⟩) (fun _ h_ => (List.not_mem_nil h_).elim) dX9_signAt_35
set_option maxHeartbeats 4000000 in
set_option maxRecDepth 100000 in
theorem kX9_isLetter_1 (l : Launch) (dC : Nat → ClassId) (dI : Nat → Nat → Nat) (cy : Nat → ClassId) : Met l yX9_isLetter wmX9_isLetter ({ frames := 0, cells := 0, slots := 0, locals := 0 }) (va_Pc [.int (-1)] (fun U => va_P (dC, dI) classes [] U.heap ∧ EV dC dI cy U)) (vp_Si (fun r_ => r_ = 0)) 0 0 (fun _ => False) := by
  refine Met.ofW (cc := cX9_isLetter) (maxL := 1) (ret := (some .boolean)) (by decide +kernel) rfl ?_
  intro p e s m args below meth c s₁ B hml hv
  obtain ⟨rfl, hP, hE⟩ := hv
  have hK := hE.1
  have hN := hE.2.1
  have hx := B.exec
  have hb := B.bytes
  have hr := B.returns
  have hts0 := atoms_spec (ws := wmX9_isLetter) B.pre
  have hts : ∀ w ∈ wsL_law, w.before _ s = true := fun w h => hts0 w (List.mem_cons_of_mem _ h)
  have hown : s.vm.findClass RX9 = some m.cls := findClass_of_methodNamed B.named
  have hlocks := B.notSynchronized
  have hl := lv_entry ([.int (-1)]) (n := 1) (Nat.le_of_ble_eq_true rfl)
  rw [lg_entry_eq]
  generalize (lg_sl ([.int (-1)]) ++ List.replicate (1 - (lg_sl ([.int (-1)])).length) Slot.unset).toArray = ls at hl ⊢
  have hl : lv_has ls 1 [(0, .int (-1))] := hl
  refine lv_iload_n hx hb dX9_isLetter_0 rfl (lv_at hl 0 rfl) ?_
  refine lv_bipush (v := 97) hx hb dX9_isLetter_1 (by decide +kernel) ?_
  refine lv_icmp_lt (tgt := 16) hx hb dX9_isLetter_3 (by decide) (fun _ => ?_) (fun c_ => absurd (by decide +kernel) c_)
  refine lv_iconst (v := 0) hx hb dX9_isLetter_16 (by decide +kernel) ?_
  exact W.zret (v := 0) hx hb hr (by decide +kernel) (fun t ht hW => ⟨0, rfl, rfl, ht⟩) (fun _ h_ => (List.not_mem_nil h_).elim) dX9_isLetter_17
set_option maxHeartbeats 4000000 in
set_option maxRecDepth 100000 in
theorem kX9_isDigit_1 (l : Launch) (dC : Nat → ClassId) (dI : Nat → Nat → Nat) (cy : Nat → ClassId) : Met l yX9_isDigit wmX9_isDigit ({ frames := 0, cells := 0, slots := 0, locals := 0 }) (va_Pc [.int (-1)] (fun U => va_P (dC, dI) classes [] U.heap ∧ EV dC dI cy U)) (vp_Si (fun r_ => r_ = 0)) 0 0 (fun _ => False) := by
  refine Met.ofW (cc := cX9_isDigit) (maxL := 1) (ret := (some .boolean)) (by decide +kernel) rfl ?_
  intro p e s m args below meth c s₁ B hml hv
  obtain ⟨rfl, hP, hE⟩ := hv
  have hK := hE.1
  have hN := hE.2.1
  have hx := B.exec
  have hb := B.bytes
  have hr := B.returns
  have hts0 := atoms_spec (ws := wmX9_isDigit) B.pre
  have hts : ∀ w ∈ wsL_law, w.before _ s = true := fun w h => hts0 w (List.mem_cons_of_mem _ h)
  have hown : s.vm.findClass RX9 = some m.cls := findClass_of_methodNamed B.named
  have hlocks := B.notSynchronized
  have hl := lv_entry ([.int (-1)]) (n := 1) (Nat.le_of_ble_eq_true rfl)
  rw [lg_entry_eq]
  generalize (lg_sl ([.int (-1)]) ++ List.replicate (1 - (lg_sl ([.int (-1)])).length) Slot.unset).toArray = ls at hl ⊢
  have hl : lv_has ls 1 [(0, .int (-1))] := hl
  refine lv_iload_n hx hb dX9_isDigit_0 rfl (lv_at hl 0 rfl) ?_
  refine lv_bipush (v := 48) hx hb dX9_isDigit_1 (by decide +kernel) ?_
  refine lv_icmp_lt (tgt := 16) hx hb dX9_isDigit_3 (by decide) (fun _ => ?_) (fun c_ => absurd (by decide +kernel) c_)
  refine lv_iconst (v := 0) hx hb dX9_isDigit_16 (by decide +kernel) ?_
  exact W.zret (v := 0) hx hb hr (by decide +kernel) (fun t ht hW => ⟨0, rfl, rfl, ht⟩) (fun _ h_ => (List.not_mem_nil h_).elim) dX9_isDigit_17
set_option maxHeartbeats 4000000 in
set_option maxRecDepth 100000 in
theorem kX9_advance_1 (l : Launch) (dC : Nat → ClassId) (dI : Nat → Nat → Nat) (cy : Nat → ClassId) (h0 h1 h2 : Nat) (sz : Nat) : Met l yX9_advance wmX9_advance ({ frames := 1, cells := 0, slots := 0, locals := 21 }) (va_Pc [.ref h0] (fun U => U.heap.size = sz ∧ va_P (dC, dI) classes [(h0, .inr (9, [.ref h1, .ref h2, .int 0, .int 0, .int 0, .int 0, .int 0, .long 0]))] U.heap ∧ EV dC dI cy U ∧ va_D (fun _ => True) [(h0, .inr (9, [.ref h1, .ref h2, .int 0, .int 0, .int 0, .int 0, .int 0, .long 0]))])) (va_Qv (S := Unit) (fun _ => True) (fun _ t => va_P (dC, dI) classes [(h0, .inr (9, [.ref h1, .ref h2, .int 0, .int 0, .int (-1), .int 0, .int 0, .long 0]))] t.heap ∧ va_D (va_A [(h0, .inr (9, [.ref h1, .ref h2, .int 0, .int 0, .int 0, .int 0, .int 0, .long 0]))] sz) [(h0, .inr (9, [.ref h1, .ref h2, .int 0, .int 0, .int (-1), .int 0, .int 0, .long 0]))]) (va_A [(h0, .inr (9, [.ref h1, .ref h2, .int 0, .int 0, .int 0, .int 0, .int 0, .long 0]))] sz)) 0 0 (va_A [(h0, .inr (9, [.ref h1, .ref h2, .int 0, .int 0, .int 0, .int 0, .int 0, .long 0]))] sz) := by
  refine Met.ofW (cc := cX9_advance) (maxL := 2) (ret := none) (by decide +kernel) rfl ?_
  intro p e s m args below meth c s₁ B hml hv
  obtain ⟨rfl, hsz, hP, hE, hD0⟩ := hv
  have hK := hE.1
  have hN := hE.2.1
  have hx := B.exec
  have hb := B.bytes
  have hr := B.returns
  have hts0 := atoms_spec (ws := wmX9_advance) B.pre
  have hts : ∀ w ∈ wsL_law, w.before _ s = true := fun w h => hts0 w (List.mem_cons_of_mem _ h)
  have hown : s.vm.findClass RX9 = some m.cls := findClass_of_methodNamed B.named
  have hlocks := B.notSynchronized
  subst hsz
  have hD := hD0.self (sz := s.heap.size)
  generalize hAe : va_A [(h0, .inr (9, [.ref h1, .ref h2, .int 0, .int 0, .int 0, .int 0, .int 0, .long 0]))] s.heap.size = A at hD ⊢
  have hA : ∀ q : Nat, s.heap.size ≤ q → A q := fun q h => by rw [← hAe]; exact Or.inr h
  have hS : va_S A s.heap s.heap [] := va_S.rf
  have hP : va_P (dC, dI) classes [(h0, .inr (9, [.ref h1, .ref h2, .int 0, .int 0, .int 0, .int 0, .int 0, .long 0]))] s.heap := hP
  have hl := lv_entry ([.ref h0]) (n := 2) (Nat.le_of_ble_eq_true rfl)
  rw [lg_entry_eq]
  generalize (lg_sl ([.ref h0]) ++ List.replicate (2 - (lg_sl ([.ref h0])).length) Slot.unset).toArray = ls at hl ⊢
  have hl : lv_has ls 2 [(0, .ref h0)] := hl
  refine lv_aload_n hx hb dX9_advance_0 rfl (lv_at hl 0 rfl) ?_
  have hPc := hP.sub (ws' := [(h0, .inr (9, [.ref h1, .ref h2, .int 0, .int 0, .int 0, .int 0, .int 0, .long 0]))]) [0] rfl
  refine va_csv (W.runV (As := []) (rest := []) ⟨hx, hb, hml, hown, hts⟩ (kX9_skipBlanks_1 l dC dI cy h0 h1 h2) (cwV 0 hts (gdV m_351 m_352 m_353 m_51 m_354) rfl rfl rfl (by decide +kernel) ⟨Nat.le_of_ble_eq_true rfl, Nat.le_of_ble_eq_true rfl⟩) ⟨fun a U g mk q => by obtain ⟨q0, qP, qE⟩ := q; exact ⟨q0, qP, qE.call⟩, va_recv hK hP (ci := 9) (q0 := 0) rfl rfl, fun U hU hW => ⟨rfl, by rw [hU]; exact hPc, hE.moved hW⟩⟩ rfl rfl hl.1 rfl (lv_room (Nat.le_of_ble_eq_true rfl)) dX9_advance_1 ⟨(show 0 + 0 ≤ 0 from by decide +kernel), (show 0 + 0 ≤ 0 from by decide +kernel)⟩) (fun _ => ?_)
  refine lv_aload_n hx hb dX9_advance_4 rfl (lv_at hl 0 rfl) ?_
  refine lv_aload_n hx hb dX9_advance_5 rfl (lv_at hl 0 rfl) ?_
  refine va_get (D := (dC, dI)) (ci := 9) (v := .int 0) (C := RX9) (T := TX9) (N := 8) hx hb hts inlX9 hown hK hP 0 rfl rfl 3 (by decide) (hts _ m_344) (fun _ h9 => h9) rfl dX9_advance_6 ?_
  refine va_put (D := (dC, dI)) (ci := 9) (v := .int 0) (ty := .int) (C := RX9) (T := TX9) (N := 8) hx hb hts inlX9 tyX9 tyX9_ok nmX9 hown hK hP hD hS 0 rfl rfl 5 (by decide) (hts _ m_349) (fun _ h9 => h9) rfl (by decide +kernel) rfl rfl (Nat.le_of_ble_eq_true rfl) dX9_advance_9 (fun H locs hP hD hS => ?_)
  have hP : va_P (dC, dI) classes [(h0, .inr (9, [.ref h1, .ref h2, .int 0, .int 0, .int 0, .int 0, .int 0, .long 0]))] H := hP
  have hD : va_D A [(h0, .inr (9, [.ref h1, .ref h2, .int 0, .int 0, .int 0, .int 0, .int 0, .long 0]))] := hD
  refine lv_aload_n hx hb dX9_advance_12 rfl (lv_at hl 0 rfl) ?_
  refine lv_aload_n hx hb dX9_advance_13 rfl (lv_at hl 0 rfl) ?_
  refine va_get (D := (dC, dI)) (ci := 9) (v := .int 0) (C := RX9) (T := TX9) (N := 8) hx hb hts inlX9 hown hK hP 0 rfl rfl 3 (by decide) (hts _ m_344) (fun _ h9 => h9) rfl dX9_advance_14 ?_
  have hPc := hP.sub (ws' := [(h0, .inr (9, [.ref h1, .ref h2, .int 0, .int 0, .int 0, .int 0, .int 0, .long 0]))]) [0] rfl
  refine vp_callSi (W.runV (As := [.int 0]) (rest := []) ⟨hx, hb, hml, hown, hts⟩ (kX9_signAt_1 l dC dI cy h0 h1 h2) (cwV 1 hts (gdV m_355 m_356 m_357 m_51 m_358) rfl rfl rfl (by decide +kernel) ⟨Nat.le_of_ble_eq_true rfl, Nat.le_of_ble_eq_true rfl⟩) ⟨fun a U g mk q => by obtain ⟨q0, qP, qE⟩ := q; exact ⟨q0, qP, qE.call⟩, va_recv hK hP (ci := 9) (q0 := 0) rfl rfl, fun U hU hW => ⟨rfl, by rw [hU]; exact hPc, hE.moved hW⟩⟩ rfl rfl hl.1 rfl (lv_room (Nat.le_of_ble_eq_true rfl)) dX9_advance_17 ⟨(show 0 + 0 ≤ 0 from by decide +kernel), (show 0 + 0 ≤ 0 from by decide +kernel)⟩) (fun r_2 hw => ?_)
  subst r_2
  refine lv_istore_n (lv' := [(1, .int (-1)), (0, .ref h0)]) hx hb dX9_advance_20 rfl hl (by decide) rfl (fun ls hl => ?_)
  refine lv_iload_n hx hb dX9_advance_21 rfl (lv_at hl 0 rfl) ?_
  have hPc := hP.sub (ws' := []) [] rfl
  refine vp_callSi (W.runS (As := [.int (-1)]) (rest := []) ⟨hx, hb, hml, hown, hts⟩ (kX9_isLetter_1 l dC dI cy) (va_cwS 1 hts (gdS m_362 m_363 m_51 m_364) rfl rfl rfl (by decide +kernel) ⟨Nat.le_of_ble_eq_true rfl, Nat.le_of_ble_eq_true rfl⟩) ⟨fun a U g mk q => by obtain ⟨q0, qP, qE⟩ := q; exact ⟨q0, qP, qE.call⟩, fun U hU hW => ⟨rfl, by rw [hU]; exact hPc, hE.moved hW⟩⟩ rfl rfl hl.1 rfl (lv_room (Nat.le_of_ble_eq_true rfl)) dX9_advance_22 ⟨(show 0 + 0 ≤ 0 from by decide +kernel), (show 0 + 0 ≤ 0 from by decide +kernel)⟩) (fun r_3 hw => ?_)
  subst r_3
  refine lv_if_eq (tgt := 35) hx hb dX9_advance_25 (by decide) (fun _ => ?_) (fun c_ => absurd (by decide +kernel) c_)
  refine lv_iload_n hx hb dX9_advance_35 rfl (lv_at hl 0 rfl) ?_
  have hPc := hP.sub (ws' := []) [] rfl
  refine vp_callSi (W.runS (As := [.int (-1)]) (rest := []) ⟨hx, hb, hml, hown, hts⟩ (kX9_isDigit_1 l dC dI cy) (va_cwS 1 hts (gdS m_374 m_375 m_51 m_376) rfl rfl rfl (by decide +kernel) ⟨Nat.le_of_ble_eq_true rfl, Nat.le_of_ble_eq_true rfl⟩) ⟨fun a U g mk q => by obtain ⟨q0, qP, qE⟩ := q; exact ⟨q0, qP, qE.call⟩, fun U hU hW => ⟨rfl, by rw [hU]; exact hPc, hE.moved hW⟩⟩ rfl rfl hl.1 rfl (lv_room (Nat.le_of_ble_eq_true rfl)) dX9_advance_36 ⟨(show 0 + 0 ≤ 0 from by decide +kernel), (show 0 + 0 ≤ 0 from by decide +kernel)⟩) (fun r_4 hw => ?_)
  subst r_4
  refine lv_if_eq (tgt := 49) hx hb dX9_advance_39 (by decide) (fun _ => ?_) (fun c_ => absurd (by decide +kernel) c_)
  refine lv_iload_n hx hb dX9_advance_49 rfl (lv_at hl 0 rfl) ?_
  refine lv_iconst (v := (-1)) hx hb dX9_advance_50 (by decide +kernel) ?_
  refine lv_icmp_ne (tgt := 62) hx hb dX9_advance_51 (by decide) (fun c_ => absurd (by decide +kernel) c_) (fun _ => ?_)
  refine lv_aload_n hx hb dX9_advance_54 rfl (lv_at hl 1 rfl) ?_
  refine lv_iconst (v := (-1)) hx hb dX9_advance_55 (by decide +kernel) ?_
  refine va_put (D := (dC, dI)) (ci := 9) (v := .int (-1)) (ty := .int) (C := RX9) (T := TX9) (N := 8) hx hb hts inlX9 tyX9 tyX9_ok nmX9 hown hK hP hD hS 0 rfl rfl 4 (by decide) (hts _ m_350) (fun _ h9 => h9) rfl (by decide +kernel) rfl rfl (Nat.le_of_ble_eq_true rfl) dX9_advance_56 (fun H locs hP hD hS => ?_)
  have hP : va_P (dC, dI) classes [(h0, .inr (9, [.ref h1, .ref h2, .int 0, .int 0, .int (-1), .int 0, .int 0, .long 0]))] H := hP
  have hD : va_D A [(h0, .inr (9, [.ref h1, .ref h2, .int 0, .int 0, .int (-1), .int 0, .int 0, .long 0]))] := hD
  refine lv_goto (tgt := 91) hx hb dX9_advance_59 (by decide) ?_
  have hP9 := hP.sub (ws' := [(h0, .inr (9, [.ref h1, .ref h2, .int 0, .int 0, .int (-1), .int 0, .int 0, .long 0]))]) [0] rfl
  have hD9 := hD.sub (ws' := [(h0, .inr (9, [.ref h1, .ref h2, .int 0, .int 0, .int (-1), .int 0, .int 0, .long 0]))]) [0] (by decide) rfl
  exact W.vret hx hb hr (fun t ht hW => ⟨⟨(), rfl, trivial, by rw [ht]; exact hP9, hD9⟩, hS.F ht⟩) hS.2.2 dX9_advance_91
set_option maxHeartbeats 4000000 in
set_option maxRecDepth 100000 in
theorem kX9_rewind_1 (l : Launch) (dC : Nat → ClassId) (dI : Nat → Nat → Nat) (cy : Nat → ClassId) (h0 h1 h2 : Nat) (sz : Nat) : Met l yX9_rewind wmX9_rewind ({ frames := 2, cells := 0, slots := 0, locals := 42 }) (va_Pc [.ref h0] (fun U => U.heap.size = sz ∧ va_P (dC, dI) classes [(h0, .inr (9, [.ref h1, .ref h2, .int 0, .int 0, .int 0, .int 0, .int 0, .long 0]))] U.heap ∧ EV dC dI cy U ∧ va_D (fun _ => True) [(h0, .inr (9, [.ref h1, .ref h2, .int 0, .int 0, .int 0, .int 0, .int 0, .long 0]))])) (va_Qv (S := Unit) (fun _ => True) (fun _ t => va_P (dC, dI) classes [(h0, .inr (9, [.ref h1, .ref h2, .int 0, .int 0, .int (-1), .int 0, .int 0, .long 0]))] t.heap ∧ va_D (va_A [(h0, .inr (9, [.ref h1, .ref h2, .int 0, .int 0, .int 0, .int 0, .int 0, .long 0]))] sz) [(h0, .inr (9, [.ref h1, .ref h2, .int 0, .int 0, .int (-1), .int 0, .int 0, .long 0]))]) (va_A [(h0, .inr (9, [.ref h1, .ref h2, .int 0, .int 0, .int 0, .int 0, .int 0, .long 0]))] sz)) 0 0 (va_A [(h0, .inr (9, [.ref h1, .ref h2, .int 0, .int 0, .int 0, .int 0, .int 0, .long 0]))] sz) := by
  refine Met.ofW (cc := cX9_rewind) (maxL := 1) (ret := none) (by decide +kernel) rfl ?_
  intro p e s m args below meth c s₁ B hml hv
  obtain ⟨rfl, hsz, hP, hE, hD0⟩ := hv
  have hK := hE.1
  have hN := hE.2.1
  have hx := B.exec
  have hb := B.bytes
  have hr := B.returns
  have hts0 := atoms_spec (ws := wmX9_rewind) B.pre
  have hts : ∀ w ∈ wsL_law, w.before _ s = true := fun w h => hts0 w (List.mem_cons_of_mem _ h)
  have hown : s.vm.findClass RX9 = some m.cls := findClass_of_methodNamed B.named
  have hlocks := B.notSynchronized
  subst hsz
  have hD := hD0.self (sz := s.heap.size)
  generalize hAe : va_A [(h0, .inr (9, [.ref h1, .ref h2, .int 0, .int 0, .int 0, .int 0, .int 0, .long 0]))] s.heap.size = A at hD ⊢
  have hA : ∀ q : Nat, s.heap.size ≤ q → A q := fun q h => by rw [← hAe]; exact Or.inr h
  have hS : va_S A s.heap s.heap [] := va_S.rf
  have hP : va_P (dC, dI) classes [(h0, .inr (9, [.ref h1, .ref h2, .int 0, .int 0, .int 0, .int 0, .int 0, .long 0]))] s.heap := hP
  have hl := lv_entry ([.ref h0]) (n := 1) (Nat.le_of_ble_eq_true rfl)
  rw [lg_entry_eq]
  generalize (lg_sl ([.ref h0]) ++ List.replicate (1 - (lg_sl ([.ref h0])).length) Slot.unset).toArray = ls at hl ⊢
  have hl : lv_has ls 1 [(0, .ref h0)] := hl
  refine lv_aload_n hx hb dX9_rewind_0 rfl (lv_at hl 0 rfl) ?_
  refine lv_iconst (v := 0) hx hb dX9_rewind_1 (by decide +kernel) ?_
  refine va_put (D := (dC, dI)) (ci := 9) (v := .int 0) (ty := .int) (C := RX9) (T := TX9) (N := 8) hx hb hts inlX9 tyX9 tyX9_ok nmX9 hown hK hP hD hS 0 rfl rfl 3 (by decide) (hts _ m_344) (fun _ h9 => h9) rfl (by decide +kernel) rfl rfl (Nat.le_of_ble_eq_true rfl) dX9_rewind_2 (fun H locs hP hD hS => ?_)
  have hP : va_P (dC, dI) classes [(h0, .inr (9, [.ref h1, .ref h2, .int 0, .int 0, .int 0, .int 0, .int 0, .long 0]))] H := hP
  have hD : va_D A [(h0, .inr (9, [.ref h1, .ref h2, .int 0, .int 0, .int 0, .int 0, .int 0, .long 0]))] := hD
  refine lv_aload_n hx hb dX9_rewind_5 rfl (lv_at hl 0 rfl) ?_
  have hPc := hP.sub (ws' := [(h0, .inr (9, [.ref h1, .ref h2, .int 0, .int 0, .int 0, .int 0, .int 0, .long 0]))]) [0] rfl
  have hDc := hD.sub (ws' := [(h0, .inr (9, [.ref h1, .ref h2, .int 0, .int 0, .int 0, .int 0, .int 0, .long 0]))]) [0] (by decide) rfl
  have hFc := va_free (wc := [(h0, .inr (9, [.ref h1, .ref h2, .int 0, .int 0, .int 0, .int 0, .int 0, .long 0]))]) hD hS hA [0] rfl
  refine va_callv (va_runV (As := []) (rest := []) ⟨hx, hb, hml, hown, hts⟩ (kX9_advance_1 l dC dI cy h0 h1 h2 H.size) (cwV 0 hts (gdV m_345 m_346 m_347 m_51 m_348) rfl rfl rfl (by decide +kernel) ⟨Nat.le_of_ble_eq_true rfl, Nat.le_of_ble_eq_true rfl⟩) ⟨fun a U g mk q => by obtain ⟨q0, q1, qP, qE, qD⟩ := q; exact ⟨q0, q1, qP, qE.call, qD⟩, va_recv hK hP (ci := 9) (q0 := 0) rfl rfl, fun U hU hW => ⟨rfl, by rw [hU], by rw [hU]; exact hPc, hE.moved hW, hDc.weaken (fun _ _ _ _ => trivial)⟩⟩ rfl rfl hl.1 rfl (lv_room (Nat.le_of_ble_eq_true rfl)) dX9_rewind_6 ⟨(show 0 + 0 ≤ 0 from by decide +kernel), (show 0 + 0 ≤ 0 from by decide +kernel)⟩) hS (fun q _ h => hFc q h) hFc (fun u t H1 locs ht hvm hw hB hz1 hk1 hS => ?_)
  obtain ⟨hP1, hD1⟩ := hB
  rw [ht] at hP1
  obtain ⟨hP, hD⟩ := va_join (wr := []) (w1 := [(h0, .inr (9, [.ref h1, .ref h2, .int 0, .int 0, .int (-1), .int 0, .int 0, .long 0]))]) hP hD [0] [] rfl rfl (by decide) (by decide) hk1 hFc hP1 hD1
  generalize H1 = H at hP hS ⊢
  have hP : va_P (dC, dI) classes [(h0, .inr (9, [.ref h1, .ref h2, .int 0, .int 0, .int (-1), .int 0, .int 0, .long 0]))] H := hP
  have hD : va_D A [(h0, .inr (9, [.ref h1, .ref h2, .int 0, .int 0, .int (-1), .int 0, .int 0, .long 0]))] := hD
  refine W.widen (k := 0) (n := 0) (by decide +kernel) (by decide +kernel) ?_
  have hP9 := hP.sub (ws' := [(h0, .inr (9, [.ref h1, .ref h2, .int 0, .int 0, .int (-1), .int 0, .int 0, .long 0]))]) [0] rfl
  have hD9 := hD.sub (ws' := [(h0, .inr (9, [.ref h1, .ref h2, .int 0, .int 0, .int (-1), .int 0, .int 0, .long 0]))]) [0] (by decide) rfl
  exact W.vret hx hb hr (fun t ht hW => ⟨⟨(), rfl, trivial, by rw [ht]; exact hP9, hD9⟩, hS.F ht⟩) hS.2.2 dX9_rewind_9
set_option maxHeartbeats 4000000 in
set_option maxRecDepth 100000 in
theorem kX6_readTable_1 (l : Launch) (dC : Nat → ClassId) (dI : Nat → Nat → Nat) (cy : Nat → ClassId) (h0 h1 h2 h3 h4 h5 h6 h7 h8 h9 h10 h11 h12 h13 h14 h15 h16 : Nat) (sz : Nat) : Met l yX6_readTable wmX6_readTable ({ frames := 3, cells := 0, slots := 0, locals := 62 }) (va_Pc [.ref h0] (fun U => U.heap.size = sz ∧ va_P (dC, dI) classes [(h0, .inr (6, [.ref h1, .ref h2, .int 0, .int (-1)])), (h2, .inr (10, [.ref h3, .ref h4, .ref h5, .ref h6, .ref h7, .ref h8, .ref h9, .int 0, .int 0, .int 0, .int 0, .int 0])), (h7, .inr (1, [.ref h10, .int 0])), (h9, .inr (0, [.ref h11, .ref h12, .ref h13, .ref h14, .int 0, .int 0, .int 0, .int 0])), (h5, .inl (cy 0, 81, .inl (fun _ => 0))), (h6, .inl (cy 3, 81, .inl (fun _ => 0))), (h1, .inr (9, [.ref h15, .ref h16, .int 0, .int 0, .int 0, .int 0, .int 0, .long 0]))] U.heap ∧ EV dC dI cy U ∧ va_D (fun _ => True) [(h0, .inr (6, [.ref h1, .ref h2, .int 0, .int (-1)])), (h2, .inr (10, [.ref h3, .ref h4, .ref h5, .ref h6, .ref h7, .ref h8, .ref h9, .int 0, .int 0, .int 0, .int 0, .int 0])), (h7, .inr (1, [.ref h10, .int 0])), (h9, .inr (0, [.ref h11, .ref h12, .ref h13, .ref h14, .int 0, .int 0, .int 0, .int 0])), (h5, .inl (cy 0, 81, .inl (fun _ => 0))), (h6, .inl (cy 3, 81, .inl (fun _ => 0))), (h1, .inr (9, [.ref h15, .ref h16, .int 0, .int 0, .int 0, .int 0, .int 0, .long 0]))])) (va_Qi (S := Unit) (fun r_ _ => r_ = 1) (fun _ t => va_P (dC, dI) classes [(h0, .inr (6, [.ref h1, .ref h2, .int 0, .int (-1)])), (h2, .inr (10, [.ref h3, .ref h4, .ref h5, .ref h6, .ref h7, .ref h8, .ref h9, .int 0, .int 0, .int 0, .int 0, .int 0])), (h6, .inl (cy 3, 81, .inl (fun _ => 0))), (h7, .inr (1, [.ref h10, .int 0])), (h9, .inr (0, [.ref h11, .ref h12, .ref h13, .ref h14, .int 0, .int 0, .int 0, .int 0])), (h5, .inl (cy 0, 81, .inl (fun _ => 0))), (h1, .inr (9, [.ref h15, .ref h16, .int 0, .int 0, .int (-1), .int 0, .int 0, .long 0]))] t.heap ∧ va_D (va_A [(h0, .inr (6, [.ref h1, .ref h2, .int 0, .int (-1)])), (h2, .inr (10, [.ref h3, .ref h4, .ref h5, .ref h6, .ref h7, .ref h8, .ref h9, .int 0, .int 0, .int 0, .int 0, .int 0])), (h7, .inr (1, [.ref h10, .int 0])), (h9, .inr (0, [.ref h11, .ref h12, .ref h13, .ref h14, .int 0, .int 0, .int 0, .int 0])), (h5, .inl (cy 0, 81, .inl (fun _ => 0))), (h6, .inl (cy 3, 81, .inl (fun _ => 0))), (h1, .inr (9, [.ref h15, .ref h16, .int 0, .int 0, .int 0, .int 0, .int 0, .long 0]))] sz) [(h0, .inr (6, [.ref h1, .ref h2, .int 0, .int (-1)])), (h2, .inr (10, [.ref h3, .ref h4, .ref h5, .ref h6, .ref h7, .ref h8, .ref h9, .int 0, .int 0, .int 0, .int 0, .int 0])), (h6, .inl (cy 3, 81, .inl (fun _ => 0))), (h7, .inr (1, [.ref h10, .int 0])), (h9, .inr (0, [.ref h11, .ref h12, .ref h13, .ref h14, .int 0, .int 0, .int 0, .int 0])), (h5, .inl (cy 0, 81, .inl (fun _ => 0))), (h1, .inr (9, [.ref h15, .ref h16, .int 0, .int 0, .int (-1), .int 0, .int 0, .long 0]))]) (va_A [(h0, .inr (6, [.ref h1, .ref h2, .int 0, .int (-1)])), (h2, .inr (10, [.ref h3, .ref h4, .ref h5, .ref h6, .ref h7, .ref h8, .ref h9, .int 0, .int 0, .int 0, .int 0, .int 0])), (h7, .inr (1, [.ref h10, .int 0])), (h9, .inr (0, [.ref h11, .ref h12, .ref h13, .ref h14, .int 0, .int 0, .int 0, .int 0])), (h5, .inl (cy 0, 81, .inl (fun _ => 0))), (h6, .inl (cy 3, 81, .inl (fun _ => 0))), (h1, .inr (9, [.ref h15, .ref h16, .int 0, .int 0, .int 0, .int 0, .int 0, .long 0]))] sz)) 0 0 (va_A [(h0, .inr (6, [.ref h1, .ref h2, .int 0, .int (-1)])), (h2, .inr (10, [.ref h3, .ref h4, .ref h5, .ref h6, .ref h7, .ref h8, .ref h9, .int 0, .int 0, .int 0, .int 0, .int 0])), (h7, .inr (1, [.ref h10, .int 0])), (h9, .inr (0, [.ref h11, .ref h12, .ref h13, .ref h14, .int 0, .int 0, .int 0, .int 0])), (h5, .inl (cy 0, 81, .inl (fun _ => 0))), (h6, .inl (cy 3, 81, .inl (fun _ => 0))), (h1, .inr (9, [.ref h15, .ref h16, .int 0, .int 0, .int 0, .int 0, .int 0, .long 0]))] sz) := by
  refine Met.ofW (cc := cX6_readTable) (maxL := 2) (ret := (some .boolean)) (by decide +kernel) rfl ?_
  intro p e s m args below meth c s₁ B hml hv
  obtain ⟨rfl, hsz, hP, hE, hD0⟩ := hv
  have hK := hE.1
  have hN := hE.2.1
  have hx := B.exec
  have hb := B.bytes
  have hr := B.returns
  have hts0 := atoms_spec (ws := wmX6_readTable) B.pre
  have hts : ∀ w ∈ wsL_law, w.before _ s = true := fun w h => hts0 w (List.mem_cons_of_mem _ h)
  have hown : s.vm.findClass RX6 = some m.cls := findClass_of_methodNamed B.named
  have hlocks := B.notSynchronized
  subst hsz
  have hD := hD0.self (sz := s.heap.size)
  generalize hAe : va_A [(h0, .inr (6, [.ref h1, .ref h2, .int 0, .int (-1)])), (h2, .inr (10, [.ref h3, .ref h4, .ref h5, .ref h6, .ref h7, .ref h8, .ref h9, .int 0, .int 0, .int 0, .int 0, .int 0])), (h7, .inr (1, [.ref h10, .int 0])), (h9, .inr (0, [.ref h11, .ref h12, .ref h13, .ref h14, .int 0, .int 0, .int 0, .int 0])), (h5, .inl (cy 0, 81, .inl (fun _ => 0))), (h6, .inl (cy 3, 81, .inl (fun _ => 0))), (h1, .inr (9, [.ref h15, .ref h16, .int 0, .int 0, .int 0, .int 0, .int 0, .long 0]))] s.heap.size = A at hD ⊢
  have hA : ∀ q : Nat, s.heap.size ≤ q → A q := fun q h => by rw [← hAe]; exact Or.inr h
  have hS : va_S A s.heap s.heap [] := va_S.rf
  have hP : va_P (dC, dI) classes [(h0, .inr (6, [.ref h1, .ref h2, .int 0, .int (-1)])), (h2, .inr (10, [.ref h3, .ref h4, .ref h5, .ref h6, .ref h7, .ref h8, .ref h9, .int 0, .int 0, .int 0, .int 0, .int 0])), (h7, .inr (1, [.ref h10, .int 0])), (h9, .inr (0, [.ref h11, .ref h12, .ref h13, .ref h14, .int 0, .int 0, .int 0, .int 0])), (h5, .inl (cy 0, 81, .inl (fun _ => 0))), (h6, .inl (cy 3, 81, .inl (fun _ => 0))), (h1, .inr (9, [.ref h15, .ref h16, .int 0, .int 0, .int 0, .int 0, .int 0, .long 0]))] s.heap := hP
  have hl := lv_entry ([.ref h0]) (n := 2) (Nat.le_of_ble_eq_true rfl)
  rw [lg_entry_eq]
  generalize (lg_sl ([.ref h0]) ++ List.replicate (2 - (lg_sl ([.ref h0])).length) Slot.unset).toArray = ls at hl ⊢
  have hl : lv_has ls 2 [(0, .ref h0)] := hl
  refine lv_aload_n hx hb dX6_readTable_0 rfl (lv_at hl 0 rfl) ?_
  refine lv_iconst (v := 0) hx hb dX6_readTable_1 (by decide +kernel) ?_
  refine va_put (D := (dC, dI)) (ci := 6) (v := .int 0) (ty := .int) (C := RX6) (T := TX6) (N := 4) hx hb hts inlX6 tyX6 tyX6_ok nmX6 hown hK hP hD hS 0 rfl rfl 2 (by decide) (hts _ m_55) (fun _ h9 => h9) rfl (by decide +kernel) rfl rfl (Nat.le_of_ble_eq_true rfl) dX6_readTable_2 (fun H locs hP hD hS => ?_)
  have hP : va_P (dC, dI) classes [(h0, .inr (6, [.ref h1, .ref h2, .int 0, .int (-1)])), (h2, .inr (10, [.ref h3, .ref h4, .ref h5, .ref h6, .ref h7, .ref h8, .ref h9, .int 0, .int 0, .int 0, .int 0, .int 0])), (h7, .inr (1, [.ref h10, .int 0])), (h9, .inr (0, [.ref h11, .ref h12, .ref h13, .ref h14, .int 0, .int 0, .int 0, .int 0])), (h5, .inl (cy 0, 81, .inl (fun _ => 0))), (h6, .inl (cy 3, 81, .inl (fun _ => 0))), (h1, .inr (9, [.ref h15, .ref h16, .int 0, .int 0, .int 0, .int 0, .int 0, .long 0]))] H := hP
  have hD : va_D A [(h0, .inr (6, [.ref h1, .ref h2, .int 0, .int (-1)])), (h2, .inr (10, [.ref h3, .ref h4, .ref h5, .ref h6, .ref h7, .ref h8, .ref h9, .int 0, .int 0, .int 0, .int 0, .int 0])), (h7, .inr (1, [.ref h10, .int 0])), (h9, .inr (0, [.ref h11, .ref h12, .ref h13, .ref h14, .int 0, .int 0, .int 0, .int 0])), (h5, .inl (cy 0, 81, .inl (fun _ => 0))), (h6, .inl (cy 3, 81, .inl (fun _ => 0))), (h1, .inr (9, [.ref h15, .ref h16, .int 0, .int 0, .int 0, .int 0, .int 0, .long 0]))] := hD
  refine lv_aload_n hx hb dX6_readTable_5 rfl (lv_at hl 0 rfl) ?_
  refine lv_iconst (v := (-1)) hx hb dX6_readTable_6 (by decide +kernel) ?_
  refine va_put (D := (dC, dI)) (ci := 6) (v := .int (-1)) (ty := .int) (C := RX6) (T := TX6) (N := 4) hx hb hts inlX6 tyX6 tyX6_ok nmX6 hown hK hP hD hS 0 rfl rfl 3 (by decide) (hts _ m_56) (fun _ h9 => h9) rfl (by decide +kernel) rfl rfl (Nat.le_of_ble_eq_true rfl) dX6_readTable_7 (fun H locs hP hD hS => ?_)
  have hP : va_P (dC, dI) classes [(h0, .inr (6, [.ref h1, .ref h2, .int 0, .int (-1)])), (h2, .inr (10, [.ref h3, .ref h4, .ref h5, .ref h6, .ref h7, .ref h8, .ref h9, .int 0, .int 0, .int 0, .int 0, .int 0])), (h7, .inr (1, [.ref h10, .int 0])), (h9, .inr (0, [.ref h11, .ref h12, .ref h13, .ref h14, .int 0, .int 0, .int 0, .int 0])), (h5, .inl (cy 0, 81, .inl (fun _ => 0))), (h6, .inl (cy 3, 81, .inl (fun _ => 0))), (h1, .inr (9, [.ref h15, .ref h16, .int 0, .int 0, .int 0, .int 0, .int 0, .long 0]))] H := hP
  have hD : va_D A [(h0, .inr (6, [.ref h1, .ref h2, .int 0, .int (-1)])), (h2, .inr (10, [.ref h3, .ref h4, .ref h5, .ref h6, .ref h7, .ref h8, .ref h9, .int 0, .int 0, .int 0, .int 0, .int 0])), (h7, .inr (1, [.ref h10, .int 0])), (h9, .inr (0, [.ref h11, .ref h12, .ref h13, .ref h14, .int 0, .int 0, .int 0, .int 0])), (h5, .inl (cy 0, 81, .inl (fun _ => 0))), (h6, .inl (cy 3, 81, .inl (fun _ => 0))), (h1, .inr (9, [.ref h15, .ref h16, .int 0, .int 0, .int 0, .int 0, .int 0, .long 0]))] := hD
  refine lv_aload_n hx hb dX6_readTable_10 rfl (lv_at hl 0 rfl) ?_
  refine va_get (D := (dC, dI)) (ci := 6) (v := .ref h2) (C := RX6) (T := TX6) (N := 4) hx hb hts inlX6 hown hK hP 0 rfl rfl 1 (by decide) (hts _ m_54) (fun _ h9 => h9) rfl dX6_readTable_11 ?_
  have hPc := hP.sub (ws' := [(h2, .inr (10, [.ref h3, .ref h4, .ref h5, .ref h6, .ref h7, .ref h8, .ref h9, .int 0, .int 0, .int 0, .int 0, .int 0])), (h7, .inr (1, [.ref h10, .int 0])), (h9, .inr (0, [.ref h11, .ref h12, .ref h13, .ref h14, .int 0, .int 0, .int 0, .int 0])), (h5, .inl (cy 0, 81, .inl (fun _ => 0))), (h6, .inl (cy 3, 81, .inl (fun _ => 0)))]) [1, 2, 3, 4, 5] rfl
  have hDc := hD.sub (ws' := [(h2, .inr (10, [.ref h3, .ref h4, .ref h5, .ref h6, .ref h7, .ref h8, .ref h9, .int 0, .int 0, .int 0, .int 0, .int 0])), (h7, .inr (1, [.ref h10, .int 0])), (h9, .inr (0, [.ref h11, .ref h12, .ref h13, .ref h14, .int 0, .int 0, .int 0, .int 0])), (h5, .inl (cy 0, 81, .inl (fun _ => 0))), (h6, .inl (cy 3, 81, .inl (fun _ => 0)))]) [1, 2, 3, 4, 5] (by decide) rfl
  have hFc := va_free (wc := [(h2, .inr (10, [.ref h3, .ref h4, .ref h5, .ref h6, .ref h7, .ref h8, .ref h9, .int 0, .int 0, .int 0, .int 0, .int 0])), (h7, .inr (1, [.ref h10, .int 0])), (h9, .inr (0, [.ref h11, .ref h12, .ref h13, .ref h14, .int 0, .int 0, .int 0, .int 0])), (h5, .inl (cy 0, 81, .inl (fun _ => 0))), (h6, .inl (cy 3, 81, .inl (fun _ => 0)))]) hD hS hA [1, 2, 3, 4, 5] rfl
  refine va_callv (va_runV (As := []) (rest := []) ⟨hx, hb, hml, hown, hts⟩ (kX10_clear_1 l dC dI cy h2 h3 h4 h5 h6 h7 h8 h9 h10 h11 h12 h13 h14 H.size) (cwV 0 hts (gdV m_316 m_317 m_318 m_43 m_319) rfl rfl rfl (by decide +kernel) ⟨Nat.le_of_ble_eq_true rfl, Nat.le_of_ble_eq_true rfl⟩) ⟨fun a U g mk q => by obtain ⟨q0, q1, qP, qE, qD⟩ := q; exact ⟨q0, q1, qP, qE.call, qD⟩, va_recv hK hP (ci := 10) (q0 := 1) rfl rfl, fun U hU hW => ⟨rfl, by rw [hU], by rw [hU]; exact hPc, hE.moved hW, hDc.weaken (fun _ _ _ _ => trivial)⟩⟩ rfl rfl hl.1 rfl (lv_room (Nat.le_of_ble_eq_true rfl)) dX6_readTable_14 ⟨(show 0 + 0 ≤ 0 from by decide +kernel), (show 0 + 0 ≤ 0 from by decide +kernel)⟩) hS (fun q _ h => hFc q h) hFc (fun u t H1 locs ht hvm hw hB hz1 hk1 hS => ?_)
  obtain ⟨hP1, hD1⟩ := hB
  rw [ht] at hP1
  obtain ⟨hP, hD⟩ := va_join (wr := [(h0, .inr (6, [.ref h1, .ref h2, .int 0, .int (-1)])), (h1, .inr (9, [.ref h15, .ref h16, .int 0, .int 0, .int 0, .int 0, .int 0, .long 0]))]) (w1 := [(h2, .inr (10, [.ref h3, .ref h4, .ref h5, .ref h6, .ref h7, .ref h8, .ref h9, .int 0, .int 0, .int 0, .int 0, .int 0])), (h6, .inl (cy 3, 81, .inl (fun _ => 0))), (h7, .inr (1, [.ref h10, .int 0])), (h9, .inr (0, [.ref h11, .ref h12, .ref h13, .ref h14, .int 0, .int 0, .int 0, .int 0])), (h5, .inl (cy 0, 81, .inl (fun _ => 0)))]) hP hD [1, 2, 3, 4, 5] [0, 6] rfl rfl (by decide) (by decide) hk1 hFc hP1 hD1
  generalize H1 = H at hP hS ⊢
  have hP : va_P (dC, dI) classes [(h0, .inr (6, [.ref h1, .ref h2, .int 0, .int (-1)])), (h1, .inr (9, [.ref h15, .ref h16, .int 0, .int 0, .int 0, .int 0, .int 0, .long 0])), (h2, .inr (10, [.ref h3, .ref h4, .ref h5, .ref h6, .ref h7, .ref h8, .ref h9, .int 0, .int 0, .int 0, .int 0, .int 0])), (h6, .inl (cy 3, 81, .inl (fun _ => 0))), (h7, .inr (1, [.ref h10, .int 0])), (h9, .inr (0, [.ref h11, .ref h12, .ref h13, .ref h14, .int 0, .int 0, .int 0, .int 0])), (h5, .inl (cy 0, 81, .inl (fun _ => 0)))] H := hP
  have hD : va_D A [(h0, .inr (6, [.ref h1, .ref h2, .int 0, .int (-1)])), (h1, .inr (9, [.ref h15, .ref h16, .int 0, .int 0, .int 0, .int 0, .int 0, .long 0])), (h2, .inr (10, [.ref h3, .ref h4, .ref h5, .ref h6, .ref h7, .ref h8, .ref h9, .int 0, .int 0, .int 0, .int 0, .int 0])), (h6, .inl (cy 3, 81, .inl (fun _ => 0))), (h7, .inr (1, [.ref h10, .int 0])), (h9, .inr (0, [.ref h11, .ref h12, .ref h13, .ref h14, .int 0, .int 0, .int 0, .int 0])), (h5, .inl (cy 0, 81, .inl (fun _ => 0)))] := hD
  refine W.widen (k := 0) (n := 0) (by decide +kernel) (by decide +kernel) ?_
  refine lv_aload_n hx hb dX6_readTable_17 rfl (lv_at hl 0 rfl) ?_
  refine va_get (D := (dC, dI)) (ci := 6) (v := .ref h1) (C := RX6) (T := TX6) (N := 4) hx hb hts inlX6 hown hK hP 0 rfl rfl 0 (by decide) (hts _ m_52) (fun _ h9 => h9) rfl dX6_readTable_18 ?_
  have hPc := hP.sub (ws' := [(h1, .inr (9, [.ref h15, .ref h16, .int 0, .int 0, .int 0, .int 0, .int 0, .long 0]))]) [1] rfl
  have hDc := hD.sub (ws' := [(h1, .inr (9, [.ref h15, .ref h16, .int 0, .int 0, .int 0, .int 0, .int 0, .long 0]))]) [1] (by decide) rfl
  have hFc := va_free (wc := [(h1, .inr (9, [.ref h15, .ref h16, .int 0, .int 0, .int 0, .int 0, .int 0, .long 0]))]) hD hS hA [1] rfl
  refine va_callv (va_runV (As := []) (rest := []) ⟨hx, hb, hml, hown, hts⟩ (kX9_rewind_1 l dC dI cy h1 h15 h16 H.size) (cwV 0 hts (gdV m_340 m_341 m_342 m_51 m_343) rfl rfl rfl (by decide +kernel) ⟨Nat.le_of_ble_eq_true rfl, Nat.le_of_ble_eq_true rfl⟩) ⟨fun a U g mk q => by obtain ⟨q0, q1, qP, qE, qD⟩ := q; exact ⟨q0, q1, qP, qE.call, qD⟩, va_recv hK hP (ci := 9) (q0 := 1) rfl rfl, fun U hU hW => ⟨rfl, by rw [hU], by rw [hU]; exact hPc, hE.moved hW, hDc.weaken (fun _ _ _ _ => trivial)⟩⟩ rfl rfl hl.1 rfl (lv_room (Nat.le_of_ble_eq_true rfl)) dX6_readTable_21 ⟨(show 0 + 0 ≤ 0 from by decide +kernel), (show 0 + 0 ≤ 0 from by decide +kernel)⟩) hS (fun q _ h => hFc q h) hFc (fun u t H1 locs ht hvm hw hB hz1 hk1 hS => ?_)
  obtain ⟨hP1, hD1⟩ := hB
  rw [ht] at hP1
  obtain ⟨hP, hD⟩ := va_join (wr := [(h0, .inr (6, [.ref h1, .ref h2, .int 0, .int (-1)])), (h2, .inr (10, [.ref h3, .ref h4, .ref h5, .ref h6, .ref h7, .ref h8, .ref h9, .int 0, .int 0, .int 0, .int 0, .int 0])), (h6, .inl (cy 3, 81, .inl (fun _ => 0))), (h7, .inr (1, [.ref h10, .int 0])), (h9, .inr (0, [.ref h11, .ref h12, .ref h13, .ref h14, .int 0, .int 0, .int 0, .int 0])), (h5, .inl (cy 0, 81, .inl (fun _ => 0)))]) (w1 := [(h1, .inr (9, [.ref h15, .ref h16, .int 0, .int 0, .int (-1), .int 0, .int 0, .long 0]))]) hP hD [1] [0, 2, 3, 4, 5, 6] rfl rfl (by decide) (by decide) hk1 hFc hP1 hD1
  generalize H1 = H at hP hS ⊢
  have hP : va_P (dC, dI) classes [(h0, .inr (6, [.ref h1, .ref h2, .int 0, .int (-1)])), (h2, .inr (10, [.ref h3, .ref h4, .ref h5, .ref h6, .ref h7, .ref h8, .ref h9, .int 0, .int 0, .int 0, .int 0, .int 0])), (h6, .inl (cy 3, 81, .inl (fun _ => 0))), (h7, .inr (1, [.ref h10, .int 0])), (h9, .inr (0, [.ref h11, .ref h12, .ref h13, .ref h14, .int 0, .int 0, .int 0, .int 0])), (h5, .inl (cy 0, 81, .inl (fun _ => 0))), (h1, .inr (9, [.ref h15, .ref h16, .int 0, .int 0, .int (-1), .int 0, .int 0, .long 0]))] H := hP
  have hD : va_D A [(h0, .inr (6, [.ref h1, .ref h2, .int 0, .int (-1)])), (h2, .inr (10, [.ref h3, .ref h4, .ref h5, .ref h6, .ref h7, .ref h8, .ref h9, .int 0, .int 0, .int 0, .int 0, .int 0])), (h6, .inl (cy 3, 81, .inl (fun _ => 0))), (h7, .inr (1, [.ref h10, .int 0])), (h9, .inr (0, [.ref h11, .ref h12, .ref h13, .ref h14, .int 0, .int 0, .int 0, .int 0])), (h5, .inl (cy 0, 81, .inl (fun _ => 0))), (h1, .inr (9, [.ref h15, .ref h16, .int 0, .int 0, .int (-1), .int 0, .int 0, .long 0]))] := hD
  refine W.widen (k := 0) (n := 0) (by decide +kernel) (by decide +kernel) ?_
  refine lv_iconst (v := 0) hx hb dX6_readTable_24 (by decide +kernel) ?_
  refine lv_istore_n (lv' := [(1, .int 0), (0, .ref h0)]) hx hb dX6_readTable_25 rfl hl (by decide) rfl (fun ls hl => ?_)
  refine lv_iload_n hx hb dX6_readTable_26 rfl (lv_at hl 0 rfl) ?_
  refine lv_sipush (v := 1600) hx hb dX6_readTable_27 (by decide +kernel) ?_
  refine lv_icmp_ge (tgt := 173) hx hb dX6_readTable_30 (by decide) (fun c_ => absurd c_ (by decide +kernel)) (fun _ => ?_)
  refine lv_aload_n hx hb dX6_readTable_33 rfl (lv_at hl 1 rfl) ?_
  refine va_get (D := (dC, dI)) (ci := 6) (v := .int 0) (C := RX6) (T := TX6) (N := 4) hx hb hts inlX6 hown hK hP 0 rfl rfl 2 (by decide) (hts _ m_55) (fun _ h9 => h9) rfl dX6_readTable_34 ?_
  refine lv_if_ne (tgt := 173) hx hb dX6_readTable_37 (by decide) (fun c_ => absurd (by decide +kernel) c_) (fun _ => ?_)
  refine lv_aload_n hx hb dX6_readTable_40 rfl (lv_at hl 1 rfl) ?_
  refine va_get (D := (dC, dI)) (ci := 6) (v := .ref h1) (C := RX6) (T := TX6) (N := 4) hx hb hts inlX6 hown hK hP 0 rfl rfl 0 (by decide) (hts _ m_52) (fun _ h9 => h9) rfl dX6_readTable_41 ?_
  refine va_getN (D := (dC, dI)) (ci := 9) (v := .int (-1)) (C := RX9) (T := TX9) (N := 8) hx hb hts inlX9 hown hK hP 6 rfl rfl 4 (by decide) (va_Nw.use rfl (hN _ nw_1)) (fun _ h9 => h9) rfl dX6_readTable_44 ?_
  refine lv_iconst (v := (-1)) hx hb dX6_readTable_47 (by decide +kernel) ?_
  refine lv_icmp_eq (tgt := 173) hx hb dX6_readTable_48 (by decide) (fun _ => ?_) (fun c_ => absurd (by decide +kernel) c_)
  refine lv_aload_n hx hb dX6_readTable_173 rfl (lv_at hl 1 rfl) ?_
  refine va_get (D := (dC, dI)) (ci := 6) (v := .int 0) (C := RX6) (T := TX6) (N := 4) hx hb hts inlX6 hown hK hP 0 rfl rfl 2 (by decide) (hts _ m_55) (fun _ h9 => h9) rfl dX6_readTable_174 ?_
  refine lv_if_ne (tgt := 184) hx hb dX6_readTable_177 (by decide) (fun c_ => absurd (by decide +kernel) c_) (fun _ => ?_)
  refine lv_iconst (v := 1) hx hb dX6_readTable_180 (by decide +kernel) ?_
  refine lv_goto (tgt := 185) hx hb dX6_readTable_181 (by decide) ?_
  have hP9 := hP.sub (ws' := [(h0, .inr (6, [.ref h1, .ref h2, .int 0, .int (-1)])), (h2, .inr (10, [.ref h3, .ref h4, .ref h5, .ref h6, .ref h7, .ref h8, .ref h9, .int 0, .int 0, .int 0, .int 0, .int 0])), (h6, .inl (cy 3, 81, .inl (fun _ => 0))), (h7, .inr (1, [.ref h10, .int 0])), (h9, .inr (0, [.ref h11, .ref h12, .ref h13, .ref h14, .int 0, .int 0, .int 0, .int 0])), (h5, .inl (cy 0, 81, .inl (fun _ => 0))), (h1, .inr (9, [.ref h15, .ref h16, .int 0, .int 0, .int (-1), .int 0, .int 0, .long 0]))]) [0, 1, 2, 3, 4, 5, 6] rfl
  have hD9 := hD.sub (ws' := [(h0, .inr (6, [.ref h1, .ref h2, .int 0, .int (-1)])), (h2, .inr (10, [.ref h3, .ref h4, .ref h5, .ref h6, .ref h7, .ref h8, .ref h9, .int 0, .int 0, .int 0, .int 0, .int 0])), (h6, .inl (cy 3, 81, .inl (fun _ => 0))), (h7, .inr (1, [.ref h10, .int 0])), (h9, .inr (0, [.ref h11, .ref h12, .ref h13, .ref h14, .int 0, .int 0, .int 0, .int 0])), (h5, .inl (cy 0, 81, .inl (fun _ => 0))), (h1, .inr (9, [.ref h15, .ref h16, .int 0, .int 0, .int (-1), .int 0, .int 0, .long 0]))]) [0, 1, 2, 3, 4, 5, 6] (by decide) rfl
  exact W.zret (v := 1) hx hb hr (by decide +kernel) (fun t ht hW => ⟨⟨1, (), rfl, rfl, by rw [ht]; exact hP9, hD9⟩, hS.F ht⟩) hS.2.2 dX6_readTable_185
