set_option maxHeartbeats 4000000 in
set_option maxRecDepth 100000 in
theorem kX12_image_2 (l : Launch) (dC : Nat → ClassId) (dI : Nat → Nat → Nat) (cy : Nat → ClassId) (h0 : Nat) (r : Nat → Nat) (sz : Nat) : Met l yX12_image wmX12_image ({ frames := 1, cells := 0, slots := 0, locals := 22 }) (va_Pc [.ref h0, .int 0] (fun U => U.heap.size = sz ∧ va_P (dC, dI) classes [(h0, .inr (12, [.ref (r 0), .ref (r 1), .int 0, .int 0, .int 0, .int (-1), .int 0, .int 0, .int 0, .int 0, .long 0, .ref (r 11), .ref (r 12), .ref (r 13), .ref (r 14), .ref (r 15), .ref (r 16), .ref (r 17), .ref (r 18), .ref (r 19), .ref (r 20), .ref (r 21), .ref (r 22), .ref (r 23), .ref (r 24), .ref (r 25), .ref (r 26), .ref (r 27), .ref (r 28), .ref (r 29), .ref (r 30), .ref (r 31), .ref (r 32), .ref (r 33), .int 0, .int 0, .int 0, .int 0, .int 0, .int 0, .int 0, .ref (r 41), .ref (r 42), .ref (r 43), .ref (r 44), .int 0, .int 0, .int 0, .ref (r 48), .int 0, .int 0, .ref (r 51), .ref (r 52), .ref (r 53), .ref (r 54), .int 0, .ref (r 56), .ref (r 57), .ref (r 58), .int 0, .ref (r 60), .ref (r 61), .ref (r 62), .ref (r 63), .ref (r 64), .ref (r 65), .ref (r 66), .ref (r 67), .ref (r 68), .int 0, .int 0, .int 0, .ref (r 72), .ref (r 73)])), (r 41, .inl (cy 0, 15, .inl (fun _ => 0))), (r 72, .inl (cy 0, 45, .inl (fun _ => 0))), (r 73, .inl (cy 3, 3, .inl (fun _ => 0)))] U.heap ∧ EV dC dI cy U ∧ va_D (fun _ => True) [(h0, .inr (12, [.ref (r 0), .ref (r 1), .int 0, .int 0, .int 0, .int (-1), .int 0, .int 0, .int 0, .int 0, .long 0, .ref (r 11), .ref (r 12), .ref (r 13), .ref (r 14), .ref (r 15), .ref (r 16), .ref (r 17), .ref (r 18), .ref (r 19), .ref (r 20), .ref (r 21), .ref (r 22), .ref (r 23), .ref (r 24), .ref (r 25), .ref (r 26), .ref (r 27), .ref (r 28), .ref (r 29), .ref (r 30), .ref (r 31), .ref (r 32), .ref (r 33), .int 0, .int 0, .int 0, .int 0, .int 0, .int 0, .int 0, .ref (r 41), .ref (r 42), .ref (r 43), .ref (r 44), .int 0, .int 0, .int 0, .ref (r 48), .int 0, .int 0, .ref (r 51), .ref (r 52), .ref (r 53), .ref (r 54), .int 0, .ref (r 56), .ref (r 57), .ref (r 58), .int 0, .ref (r 60), .ref (r 61), .ref (r 62), .ref (r 63), .ref (r 64), .ref (r 65), .ref (r 66), .ref (r 67), .ref (r 68), .int 0, .int 0, .int 0, .ref (r 72), .ref (r 73)])), (r 41, .inl (cy 0, 15, .inl (fun _ => 0))), (r 72, .inl (cy 0, 45, .inl (fun _ => 0))), (r 73, .inl (cy 3, 3, .inl (fun _ => 0)))])) (va_Qi (S := Unit) (fun r_ _ => r_ = 0) (fun _ _ => True) (va_A [(h0, .inr (12, [.ref (r 0), .ref (r 1), .int 0, .int 0, .int 0, .int (-1), .int 0, .int 0, .int 0, .int 0, .long 0, .ref (r 11), .ref (r 12), .ref (r 13), .ref (r 14), .ref (r 15), .ref (r 16), .ref (r 17), .ref (r 18), .ref (r 19), .ref (r 20), .ref (r 21), .ref (r 22), .ref (r 23), .ref (r 24), .ref (r 25), .ref (r 26), .ref (r 27), .ref (r 28), .ref (r 29), .ref (r 30), .ref (r 31), .ref (r 32), .ref (r 33), .int 0, .int 0, .int 0, .int 0, .int 0, .int 0, .int 0, .ref (r 41), .ref (r 42), .ref (r 43), .ref (r 44), .int 0, .int 0, .int 0, .ref (r 48), .int 0, .int 0, .ref (r 51), .ref (r 52), .ref (r 53), .ref (r 54), .int 0, .ref (r 56), .ref (r 57), .ref (r 58), .int 0, .ref (r 60), .ref (r 61), .ref (r 62), .ref (r 63), .ref (r 64), .ref (r 65), .ref (r 66), .ref (r 67), .ref (r 68), .int 0, .int 0, .int 0, .ref (r 72), .ref (r 73)])), (r 41, .inl (cy 0, 15, .inl (fun _ => 0))), (r 72, .inl (cy 0, 45, .inl (fun _ => 0))), (r 73, .inl (cy 3, 3, .inl (fun _ => 0)))] sz)) 0 0 (va_A [(h0, .inr (12, [.ref (r 0), .ref (r 1), .int 0, .int 0, .int 0, .int (-1), .int 0, .int 0, .int 0, .int 0, .long 0, .ref (r 11), .ref (r 12), .ref (r 13), .ref (r 14), .ref (r 15), .ref (r 16), .ref (r 17), .ref (r 18), .ref (r 19), .ref (r 20), .ref (r 21), .ref (r 22), .ref (r 23), .ref (r 24), .ref (r 25), .ref (r 26), .ref (r 27), .ref (r 28), .ref (r 29), .ref (r 30), .ref (r 31), .ref (r 32), .ref (r 33), .int 0, .int 0, .int 0, .int 0, .int 0, .int 0, .int 0, .ref (r 41), .ref (r 42), .ref (r 43), .ref (r 44), .int 0, .int 0, .int 0, .ref (r 48), .int 0, .int 0, .ref (r 51), .ref (r 52), .ref (r 53), .ref (r 54), .int 0, .ref (r 56), .ref (r 57), .ref (r 58), .int 0, .ref (r 60), .ref (r 61), .ref (r 62), .ref (r 63), .ref (r 64), .ref (r 65), .ref (r 66), .ref (r 67), .ref (r 68), .int 0, .int 0, .int 0, .ref (r 72), .ref (r 73)])), (r 41, .inl (cy 0, 15, .inl (fun _ => 0))), (r 72, .inl (cy 0, 45, .inl (fun _ => 0))), (r 73, .inl (cy 3, 3, .inl (fun _ => 0)))] sz) := by
  refine Met.ofW (cc := cX12_image) (maxL := 3) (ret := (some .int)) (by decide +kernel) rfl ?_
  intro p e s m args below meth c s₁ B hml hv
  obtain ⟨rfl, hsz, hP, hE, hD0⟩ := hv
  have hK := hE.1
  have hN := hE.2.1
  have hx := B.exec
  have hb := B.bytes
  have hr := B.returns
  have hts0 := atoms_spec (ws := wmX12_image) B.pre
  have hts : ∀ w ∈ wsL_law, w.before _ s = true := fun w h => hts0 w (List.mem_cons_of_mem _ h)
  have hown : s.vm.findClass RX12 = some m.cls := findClass_of_methodNamed B.named
  have hlocks := B.notSynchronized
  subst hsz
  have hD := hD0.self (sz := s.heap.size)
  generalize hAe : va_A [(h0, .inr (12, [.ref (r 0), .ref (r 1), .int 0, .int 0, .int 0, .int (-1), .int 0, .int 0, .int 0, .int 0, .long 0, .ref (r 11), .ref (r 12), .ref (r 13), .ref (r 14), .ref (r 15), .ref (r 16), .ref (r 17), .ref (r 18), .ref (r 19), .ref (r 20), .ref (r 21), .ref (r 22), .ref (r 23), .ref (r 24), .ref (r 25), .ref (r 26), .ref (r 27), .ref (r 28), .ref (r 29), .ref (r 30), .ref (r 31), .ref (r 32), .ref (r 33), .int 0, .int 0, .int 0, .int 0, .int 0, .int 0, .int 0, .ref (r 41), .ref (r 42), .ref (r 43), .ref (r 44), .int 0, .int 0, .int 0, .ref (r 48), .int 0, .int 0, .ref (r 51), .ref (r 52), .ref (r 53), .ref (r 54), .int 0, .ref (r 56), .ref (r 57), .ref (r 58), .int 0, .ref (r 60), .ref (r 61), .ref (r 62), .ref (r 63), .ref (r 64), .ref (r 65), .ref (r 66), .ref (r 67), .ref (r 68), .int 0, .int 0, .int 0, .ref (r 72), .ref (r 73)])), (r 41, .inl (cy 0, 15, .inl (fun _ => 0))), (r 72, .inl (cy 0, 45, .inl (fun _ => 0))), (r 73, .inl (cy 3, 3, .inl (fun _ => 0)))] s.heap.size = A at hD ⊢
  have hA : ∀ q : Nat, s.heap.size ≤ q → A q := fun q h => by rw [← hAe]; exact Or.inr h
  have hS : va_S A s.heap s.heap [] := va_S.rf
  have hP : va_P (dC, dI) classes [(h0, .inr (12, [.ref (r 0), .ref (r 1), .int 0, .int 0, .int 0, .int (-1), .int 0, .int 0, .int 0, .int 0, .long 0, .ref (r 11), .ref (r 12), .ref (r 13), .ref (r 14), .ref (r 15), .ref (r 16), .ref (r 17), .ref (r 18), .ref (r 19), .ref (r 20), .ref (r 21), .ref (r 22), .ref (r 23), .ref (r 24), .ref (r 25), .ref (r 26), .ref (r 27), .ref (r 28), .ref (r 29), .ref (r 30), .ref (r 31), .ref (r 32), .ref (r 33), .int 0, .int 0, .int 0, .int 0, .int 0, .int 0, .int 0, .ref (r 41), .ref (r 42), .ref (r 43), .ref (r 44), .int 0, .int 0, .int 0, .ref (r 48), .int 0, .int 0, .ref (r 51), .ref (r 52), .ref (r 53), .ref (r 54), .int 0, .ref (r 56), .ref (r 57), .ref (r 58), .int 0, .ref (r 60), .ref (r 61), .ref (r 62), .ref (r 63), .ref (r 64), .ref (r 65), .ref (r 66), .ref (r 67), .ref (r 68), .int 0, .int 0, .int 0, .ref (r 72), .ref (r 73)])), (r 41, .inl (cy 0, 15, .inl (fun _ => 0))), (r 72, .inl (cy 0, 45, .inl (fun _ => 0))), (r 73, .inl (cy 3, 3, .inl (fun _ => 0)))] s.heap := hP
  have hl := lv_entry ([.ref h0, .int 0]) (n := 3) (Nat.le_of_ble_eq_true rfl)
  rw [lg_entry_eq]
  generalize (lg_sl ([.ref h0, .int 0]) ++ List.replicate (3 - (lg_sl ([.ref h0, .int 0])).length) Slot.unset).toArray = ls at hl ⊢
  have hl : lv_has ls 3 [(0, .ref h0), (1, .int 0)] := hl
  refine lv_iload_n hx hb dX12_image_0 rfl (lv_at hl 1 rfl) ?_
  refine lv_iconst (v := 0) hx hb dX12_image_1 (by decide +kernel) ?_
  refine lv_iconst (v := 2) hx hb dX12_image_2 (by decide +kernel) ?_
  have hPc := hP.sub (ws' := []) [] rfl
  refine vp_callSi (W.runS (As := [.int 0, .int 0, .int 2]) (rest := []) ⟨hx, hb, hml, hown, hts⟩ (kX12_isIn_9 l dC dI cy) (va_cwS 3 hts (gdS m_775 m_776 m_5 m_777) rfl rfl rfl (by decide +kernel) ⟨Nat.le_of_ble_eq_true rfl, Nat.le_of_ble_eq_true rfl⟩) ⟨fun a U g mk q => by obtain ⟨q0, qP, qE⟩ := q; exact ⟨q0, qP, qE.call⟩, fun U hU hW => ⟨rfl, by rw [hU]; exact hPc, hE.moved hW⟩⟩ rfl rfl hl.1 rfl (lv_room (Nat.le_of_ble_eq_true rfl)) dX12_image_3 ⟨(show 0 + 0 ≤ 0 from by decide +kernel), (show 0 + 0 ≤ 0 from by decide +kernel)⟩) (fun r_1 hw => ?_)
  subst r_1
  refine lv_if_ne (tgt := 11) hx hb dX12_image_6 (by decide) (fun _ => ?_) (fun c_ => absurd c_ (by decide +kernel))
  refine lv_iconst (v := 0) hx hb dX12_image_11 (by decide +kernel) ?_
  refine lv_istore_n (lv' := [(2, .int 0), (0, .ref h0), (1, .int 0)]) hx hb dX12_image_12 rfl hl (by decide) rfl (fun ls hl => ?_)
  refine lv_iload_n hx hb dX12_image_13 rfl (lv_at hl 0 rfl) ?_
  refine lv_bipush (v := 15) hx hb dX12_image_14 (by decide +kernel) ?_
  refine lv_icmp_ge (tgt := 42) hx hb dX12_image_16 (by decide) (fun c_ => absurd c_ (by decide +kernel)) (fun _ => ?_)
  refine lv_aload_n hx hb dX12_image_19 rfl (lv_at hl 1 rfl) ?_
  refine va_get (D := (dC, dI)) (ci := 12) (v := .ref (r 72)) (C := RX12) (T := TX12) (N := 74) hx hb hts inlX12 hown hK hP 0 rfl rfl 72 (by decide) (hts _ m_265) (fun _ h9 => h9) rfl dX12_image_20 ?_
  refine lv_bipush (v := 15) hx hb dX12_image_23 (by decide +kernel) ?_
  refine lv_iload_n hx hb dX12_image_25 rfl (lv_at hl 2 rfl) ?_
  refine lv_imul hx hb dX12_image_26 ?_
  refine lv_topi (fun z_2 ez_2 => ?_)
  obtain rfl : z_2 = 0 := ez_2.trans (by decide +kernel)
  refine lv_iload_n hx hb dX12_image_27 rfl (lv_at hl 0 rfl) ?_
  refine lv_iadd hx hb dX12_image_28 ?_
  refine lv_topi (fun z_3 ez_3 => ?_)
  obtain rfl : z_3 = 0 := ez_3.trans (by decide +kernel)
  refine lv_aload_n hx hb dX12_image_29 rfl (lv_at hl 1 rfl) ?_
  refine va_get (D := (dC, dI)) (ci := 12) (v := .ref (r 41)) (C := RX12) (T := TX12) (N := 74) hx hb hts inlX12 hown hK hP 0 rfl rfl 41 (by decide) (hts _ m_244) (fun _ h9 => h9) rfl dX12_image_30 ?_
  refine lv_iload_n hx hb dX12_image_33 rfl (lv_at hl 0 rfl) ?_
  refine va_iald hx hb hK hP 1 0 rfl rfl vi_0_15 dX12_image_34 ?_
  refine W.eq (g2 := F0 m 35 ls [.int 0, .int 0, .ref (r 72)]) rfl ?_
  refine va_iast hx hb hK hP hD hS 2 0 rfl rfl vi_0_45 dX12_image_35 (fun H locs hP hD hS => ?_)
  rw [show upd (fun _ => 0) (Int32.toNatClampNeg 0) 0 = (fun _ => 0) from xa_upd0 rfl] at hP hD
  have hP : va_P (dC, dI) classes [(h0, .inr (12, [.ref (r 0), .ref (r 1), .int 0, .int 0, .int 0, .int (-1), .int 0, .int 0, .int 0, .int 0, .long 0, .ref (r 11), .ref (r 12), .ref (r 13), .ref (r 14), .ref (r 15), .ref (r 16), .ref (r 17), .ref (r 18), .ref (r 19), .ref (r 20), .ref (r 21), .ref (r 22), .ref (r 23), .ref (r 24), .ref (r 25), .ref (r 26), .ref (r 27), .ref (r 28), .ref (r 29), .ref (r 30), .ref (r 31), .ref (r 32), .ref (r 33), .int 0, .int 0, .int 0, .int 0, .int 0, .int 0, .int 0, .ref (r 41), .ref (r 42), .ref (r 43), .ref (r 44), .int 0, .int 0, .int 0, .ref (r 48), .int 0, .int 0, .ref (r 51), .ref (r 52), .ref (r 53), .ref (r 54), .int 0, .ref (r 56), .ref (r 57), .ref (r 58), .int 0, .ref (r 60), .ref (r 61), .ref (r 62), .ref (r 63), .ref (r 64), .ref (r 65), .ref (r 66), .ref (r 67), .ref (r 68), .int 0, .int 0, .int 0, .ref (r 72), .ref (r 73)])), (r 41, .inl (cy 0, 15, .inl (fun _ => 0))), (r 72, .inl (cy 0, 45, .inl (fun _ => 0))), (r 73, .inl (cy 3, 3, .inl (fun _ => 0)))] H := hP
  have hD : va_D A [(h0, .inr (12, [.ref (r 0), .ref (r 1), .int 0, .int 0, .int 0, .int (-1), .int 0, .int 0, .int 0, .int 0, .long 0, .ref (r 11), .ref (r 12), .ref (r 13), .ref (r 14), .ref (r 15), .ref (r 16), .ref (r 17), .ref (r 18), .ref (r 19), .ref (r 20), .ref (r 21), .ref (r 22), .ref (r 23), .ref (r 24), .ref (r 25), .ref (r 26), .ref (r 27), .ref (r 28), .ref (r 29), .ref (r 30), .ref (r 31), .ref (r 32), .ref (r 33), .int 0, .int 0, .int 0, .int 0, .int 0, .int 0, .int 0, .ref (r 41), .ref (r 42), .ref (r 43), .ref (r 44), .int 0, .int 0, .int 0, .ref (r 48), .int 0, .int 0, .ref (r 51), .ref (r 52), .ref (r 53), .ref (r 54), .int 0, .ref (r 56), .ref (r 57), .ref (r 58), .int 0, .ref (r 60), .ref (r 61), .ref (r 62), .ref (r 63), .ref (r 64), .ref (r 65), .ref (r 66), .ref (r 67), .ref (r 68), .int 0, .int 0, .int 0, .ref (r 72), .ref (r 73)])), (r 41, .inl (cy 0, 15, .inl (fun _ => 0))), (r 72, .inl (cy 0, 45, .inl (fun _ => 0))), (r 73, .inl (cy 3, 3, .inl (fun _ => 0)))] := hD
  refine lv_iinc (v := 1) (lv' := [(2, .int 1), (0, .ref h0), (1, .int 0)]) hx hb dX12_image_36 hl (k := 0) rfl (by decide +kernel) (by decide) rfl (fun ls hl => ?_)
  refine lv_goto (tgt := 13) hx hb dX12_image_39 (by decide) ?_
  refine lv_iload_n hx hb dX12_image_13 rfl (lv_at hl 0 rfl) ?_
  refine lv_bipush (v := 15) hx hb dX12_image_14 (by decide +kernel) ?_
  refine lv_icmp_ge (tgt := 42) hx hb dX12_image_16 (by decide) (fun c_ => absurd c_ (by decide +kernel)) (fun _ => ?_)
  refine lv_aload_n hx hb dX12_image_19 rfl (lv_at hl 1 rfl) ?_
  refine va_get (D := (dC, dI)) (ci := 12) (v := .ref (r 72)) (C := RX12) (T := TX12) (N := 74) hx hb hts inlX12 hown hK hP 0 rfl rfl 72 (by decide) (hts _ m_265) (fun _ h9 => h9) rfl dX12_image_20 ?_
  refine lv_bipush (v := 15) hx hb dX12_image_23 (by decide +kernel) ?_
  refine lv_iload_n hx hb dX12_image_25 rfl (lv_at hl 2 rfl) ?_
  refine lv_imul hx hb dX12_image_26 ?_
  refine lv_topi (fun z_4 ez_4 => ?_)
  obtain rfl : z_4 = 0 := ez_4.trans (by decide +kernel)
  refine lv_iload_n hx hb dX12_image_27 rfl (lv_at hl 0 rfl) ?_
  refine lv_iadd hx hb dX12_image_28 ?_
  refine lv_topi (fun z_5 ez_5 => ?_)
  obtain rfl : z_5 = 1 := ez_5.trans (by decide +kernel)
  refine lv_aload_n hx hb dX12_image_29 rfl (lv_at hl 1 rfl) ?_
  refine va_get (D := (dC, dI)) (ci := 12) (v := .ref (r 41)) (C := RX12) (T := TX12) (N := 74) hx hb hts inlX12 hown hK hP 0 rfl rfl 41 (by decide) (hts _ m_244) (fun _ h9 => h9) rfl dX12_image_30 ?_
  refine lv_iload_n hx hb dX12_image_33 rfl (lv_at hl 0 rfl) ?_
  refine va_iald hx hb hK hP 1 0 rfl rfl vi_1_15 dX12_image_34 ?_
  refine W.eq (g2 := F0 m 35 ls [.int 0, .int 1, .ref (r 72)]) rfl ?_
  refine va_iast hx hb hK hP hD hS 2 0 rfl rfl vi_1_45 dX12_image_35 (fun H locs hP hD hS => ?_)
  rw [show upd (fun _ => 0) (Int32.toNatClampNeg 1) 0 = (fun _ => 0) from xa_upd0 rfl] at hP hD
  have hP : va_P (dC, dI) classes [(h0, .inr (12, [.ref (r 0), .ref (r 1), .int 0, .int 0, .int 0, .int (-1), .int 0, .int 0, .int 0, .int 0, .long 0, .ref (r 11), .ref (r 12), .ref (r 13), .ref (r 14), .ref (r 15), .ref (r 16), .ref (r 17), .ref (r 18), .ref (r 19), .ref (r 20), .ref (r 21), .ref (r 22), .ref (r 23), .ref (r 24), .ref (r 25), .ref (r 26), .ref (r 27), .ref (r 28), .ref (r 29), .ref (r 30), .ref (r 31), .ref (r 32), .ref (r 33), .int 0, .int 0, .int 0, .int 0, .int 0, .int 0, .int 0, .ref (r 41), .ref (r 42), .ref (r 43), .ref (r 44), .int 0, .int 0, .int 0, .ref (r 48), .int 0, .int 0, .ref (r 51), .ref (r 52), .ref (r 53), .ref (r 54), .int 0, .ref (r 56), .ref (r 57), .ref (r 58), .int 0, .ref (r 60), .ref (r 61), .ref (r 62), .ref (r 63), .ref (r 64), .ref (r 65), .ref (r 66), .ref (r 67), .ref (r 68), .int 0, .int 0, .int 0, .ref (r 72), .ref (r 73)])), (r 41, .inl (cy 0, 15, .inl (fun _ => 0))), (r 72, .inl (cy 0, 45, .inl (fun _ => 0))), (r 73, .inl (cy 3, 3, .inl (fun _ => 0)))] H := hP
  have hD : va_D A [(h0, .inr (12, [.ref (r 0), .ref (r 1), .int 0, .int 0, .int 0, .int (-1), .int 0, .int 0, .int 0, .int 0, .long 0, .ref (r 11), .ref (r 12), .ref (r 13), .ref (r 14), .ref (r 15), .ref (r 16), .ref (r 17), .ref (r 18), .ref (r 19), .ref (r 20), .ref (r 21), .ref (r 22), .ref (r 23), .ref (r 24), .ref (r 25), .ref (r 26), .ref (r 27), .ref (r 28), .ref (r 29), .ref (r 30), .ref (r 31), .ref (r 32), .ref (r 33), .int 0, .int 0, .int 0, .int 0, .int 0, .int 0, .int 0, .ref (r 41), .ref (r 42), .ref (r 43), .ref (r 44), .int 0, .int 0, .int 0, .ref (r 48), .int 0, .int 0, .ref (r 51), .ref (r 52), .ref (r 53), .ref (r 54), .int 0, .ref (r 56), .ref (r 57), .ref (r 58), .int 0, .ref (r 60), .ref (r 61), .ref (r 62), .ref (r 63), .ref (r 64), .ref (r 65), .ref (r 66), .ref (r 67), .ref (r 68), .int 0, .int 0, .int 0, .ref (r 72), .ref (r 73)])), (r 41, .inl (cy 0, 15, .inl (fun _ => 0))), (r 72, .inl (cy 0, 45, .inl (fun _ => 0))), (r 73, .inl (cy 3, 3, .inl (fun _ => 0)))] := hD
  refine lv_iinc (v := 2) (lv' := [(2, .int 2), (0, .ref h0), (1, .int 0)]) hx hb dX12_image_36 hl (k := 0) rfl (by decide +kernel) (by decide) rfl (fun ls hl => ?_)
  refine lv_goto (tgt := 13) hx hb dX12_image_39 (by decide) ?_
  refine lv_iload_n hx hb dX12_image_13 rfl (lv_at hl 0 rfl) ?_
  refine lv_bipush (v := 15) hx hb dX12_image_14 (by decide +kernel) ?_
  refine lv_icmp_ge (tgt := 42) hx hb dX12_image_16 (by decide) (fun c_ => absurd c_ (by decide +kernel)) (fun _ => ?_)
  refine lv_aload_n hx hb dX12_image_19 rfl (lv_at hl 1 rfl) ?_
  refine va_get (D := (dC, dI)) (ci := 12) (v := .ref (r 72)) (C := RX12) (T := TX12) (N := 74) hx hb hts inlX12 hown hK hP 0 rfl rfl 72 (by decide) (hts _ m_265) (fun _ h9 => h9) rfl dX12_image_20 ?_
  refine lv_bipush (v := 15) hx hb dX12_image_23 (by decide +kernel) ?_
  refine lv_iload_n hx hb dX12_image_25 rfl (lv_at hl 2 rfl) ?_
  refine lv_imul hx hb dX12_image_26 ?_
  refine lv_topi (fun z_6 ez_6 => ?_)
  obtain rfl : z_6 = 0 := ez_6.trans (by decide +kernel)
  refine lv_iload_n hx hb dX12_image_27 rfl (lv_at hl 0 rfl) ?_
  refine lv_iadd hx hb dX12_image_28 ?_
  refine lv_topi (fun z_7 ez_7 => ?_)
  obtain rfl : z_7 = 2 := ez_7.trans (by decide +kernel)
  refine lv_aload_n hx hb dX12_image_29 rfl (lv_at hl 1 rfl) ?_
  refine va_get (D := (dC, dI)) (ci := 12) (v := .ref (r 41)) (C := RX12) (T := TX12) (N := 74) hx hb hts inlX12 hown hK hP 0 rfl rfl 41 (by decide) (hts _ m_244) (fun _ h9 => h9) rfl dX12_image_30 ?_
  refine lv_iload_n hx hb dX12_image_33 rfl (lv_at hl 0 rfl) ?_
  refine va_iald hx hb hK hP 1 0 rfl rfl vi_2_15 dX12_image_34 ?_
  refine W.eq (g2 := F0 m 35 ls [.int 0, .int 2, .ref (r 72)]) rfl ?_
  refine va_iast hx hb hK hP hD hS 2 0 rfl rfl vi_2_45 dX12_image_35 (fun H locs hP hD hS => ?_)
  rw [show upd (fun _ => 0) (Int32.toNatClampNeg 2) 0 = (fun _ => 0) from xa_upd0 rfl] at hP hD
  have hP : va_P (dC, dI) classes [(h0, .inr (12, [.ref (r 0), .ref (r 1), .int 0, .int 0, .int 0, .int (-1), .int 0, .int 0, .int 0, .int 0, .long 0, .ref (r 11), .ref (r 12), .ref (r 13), .ref (r 14), .ref (r 15), .ref (r 16), .ref (r 17), .ref (r 18), .ref (r 19), .ref (r 20), .ref (r 21), .ref (r 22), .ref (r 23), .ref (r 24), .ref (r 25), .ref (r 26), .ref (r 27), .ref (r 28), .ref (r 29), .ref (r 30), .ref (r 31), .ref (r 32), .ref (r 33), .int 0, .int 0, .int 0, .int 0, .int 0, .int 0, .int 0, .ref (r 41), .ref (r 42), .ref (r 43), .ref (r 44), .int 0, .int 0, .int 0, .ref (r 48), .int 0, .int 0, .ref (r 51), .ref (r 52), .ref (r 53), .ref (r 54), .int 0, .ref (r 56), .ref (r 57), .ref (r 58), .int 0, .ref (r 60), .ref (r 61), .ref (r 62), .ref (r 63), .ref (r 64), .ref (r 65), .ref (r 66), .ref (r 67), .ref (r 68), .int 0, .int 0, .int 0, .ref (r 72), .ref (r 73)])), (r 41, .inl (cy 0, 15, .inl (fun _ => 0))), (r 72, .inl (cy 0, 45, .inl (fun _ => 0))), (r 73, .inl (cy 3, 3, .inl (fun _ => 0)))] H := hP
  have hD : va_D A [(h0, .inr (12, [.ref (r 0), .ref (r 1), .int 0, .int 0, .int 0, .int (-1), .int 0, .int 0, .int 0, .int 0, .long 0, .ref (r 11), .ref (r 12), .ref (r 13), .ref (r 14), .ref (r 15), .ref (r 16), .ref (r 17), .ref (r 18), .ref (r 19), .ref (r 20), .ref (r 21), .ref (r 22), .ref (r 23), .ref (r 24), .ref (r 25), .ref (r 26), .ref (r 27), .ref (r 28), .ref (r 29), .ref (r 30), .ref (r 31), .ref (r 32), .ref (r 33), .int 0, .int 0, .int 0, .int 0, .int 0, .int 0, .int 0, .ref (r 41), .ref (r 42), .ref (r 43), .ref (r 44), .int 0, .int 0, .int 0, .ref (r 48), .int 0, .int 0, .ref (r 51), .ref (r 52), .ref (r 53), .ref (r 54), .int 0, .ref (r 56), .ref (r 57), .ref (r 58), .int 0, .ref (r 60), .ref (r 61), .ref (r 62), .ref (r 63), .ref (r 64), .ref (r 65), .ref (r 66), .ref (r 67), .ref (r 68), .int 0, .int 0, .int 0, .ref (r 72), .ref (r 73)])), (r 41, .inl (cy 0, 15, .inl (fun _ => 0))), (r 72, .inl (cy 0, 45, .inl (fun _ => 0))), (r 73, .inl (cy 3, 3, .inl (fun _ => 0)))] := hD
  refine lv_iinc (v := 3) (lv' := [(2, .int 3), (0, .ref h0), (1, .int 0)]) hx hb dX12_image_36 hl (k := 0) rfl (by decide +kernel) (by decide) rfl (fun ls hl => ?_)
  refine lv_goto (tgt := 13) hx hb dX12_image_39 (by decide) ?_
  refine lv_iload_n hx hb dX12_image_13 rfl (lv_at hl 0 rfl) ?_
  refine lv_bipush (v := 15) hx hb dX12_image_14 (by decide +kernel) ?_
  refine lv_icmp_ge (tgt := 42) hx hb dX12_image_16 (by decide) (fun c_ => absurd c_ (by decide +kernel)) (fun _ => ?_)
  refine lv_aload_n hx hb dX12_image_19 rfl (lv_at hl 1 rfl) ?_
  refine va_get (D := (dC, dI)) (ci := 12) (v := .ref (r 72)) (C := RX12) (T := TX12) (N := 74) hx hb hts inlX12 hown hK hP 0 rfl rfl 72 (by decide) (hts _ m_265) (fun _ h9 => h9) rfl dX12_image_20 ?_
  refine lv_bipush (v := 15) hx hb dX12_image_23 (by decide +kernel) ?_
  refine lv_iload_n hx hb dX12_image_25 rfl (lv_at hl 2 rfl) ?_
  refine lv_imul hx hb dX12_image_26 ?_
  refine lv_topi (fun z_8 ez_8 => ?_)
  obtain rfl : z_8 = 0 := ez_8.trans (by decide +kernel)
  refine lv_iload_n hx hb dX12_image_27 rfl (lv_at hl 0 rfl) ?_
  refine lv_iadd hx hb dX12_image_28 ?_
  refine lv_topi (fun z_9 ez_9 => ?_)
  obtain rfl : z_9 = 3 := ez_9.trans (by decide +kernel)
  refine lv_aload_n hx hb dX12_image_29 rfl (lv_at hl 1 rfl) ?_
  refine va_get (D := (dC, dI)) (ci := 12) (v := .ref (r 41)) (C := RX12) (T := TX12) (N := 74) hx hb hts inlX12 hown hK hP 0 rfl rfl 41 (by decide) (hts _ m_244) (fun _ h9 => h9) rfl dX12_image_30 ?_
  refine lv_iload_n hx hb dX12_image_33 rfl (lv_at hl 0 rfl) ?_
  refine va_iald hx hb hK hP 1 0 rfl rfl vi_3_15 dX12_image_34 ?_
  refine W.eq (g2 := F0 m 35 ls [.int 0, .int 3, .ref (r 72)]) rfl ?_
  refine va_iast hx hb hK hP hD hS 2 0 rfl rfl vi_3_45 dX12_image_35 (fun H locs hP hD hS => ?_)
  rw [show upd (fun _ => 0) (Int32.toNatClampNeg 3) 0 = (fun _ => 0) from xa_upd0 rfl] at hP hD
  have hP : va_P (dC, dI) classes [(h0, .inr (12, [.ref (r 0), .ref (r 1), .int 0, .int 0, .int 0, .int (-1), .int 0, .int 0, .int 0, .int 0, .long 0, .ref (r 11), .ref (r 12), .ref (r 13), .ref (r 14), .ref (r 15), .ref (r 16), .ref (r 17), .ref (r 18), .ref (r 19), .ref (r 20), .ref (r 21), .ref (r 22), .ref (r 23), .ref (r 24), .ref (r 25), .ref (r 26), .ref (r 27), .ref (r 28), .ref (r 29), .ref (r 30), .ref (r 31), .ref (r 32), .ref (r 33), .int 0, .int 0, .int 0, .int 0, .int 0, .int 0, .int 0, .ref (r 41), .ref (r 42), .ref (r 43), .ref (r 44), .int 0, .int 0, .int 0, .ref (r 48), .int 0, .int 0, .ref (r 51), .ref (r 52), .ref (r 53), .ref (r 54), .int 0, .ref (r 56), .ref (r 57), .ref (r 58), .int 0, .ref (r 60), .ref (r 61), .ref (r 62), .ref (r 63), .ref (r 64), .ref (r 65), .ref (r 66), .ref (r 67), .ref (r 68), .int 0, .int 0, .int 0, .ref (r 72), .ref (r 73)])), (r 41, .inl (cy 0, 15, .inl (fun _ => 0))), (r 72, .inl (cy 0, 45, .inl (fun _ => 0))), (r 73, .inl (cy 3, 3, .inl (fun _ => 0)))] H := hP
  have hD : va_D A [(h0, .inr (12, [.ref (r 0), .ref (r 1), .int 0, .int 0, .int 0, .int (-1), .int 0, .int 0, .int 0, .int 0, .long 0, .ref (r 11), .ref (r 12), .ref (r 13), .ref (r 14), .ref (r 15), .ref (r 16), .ref (r 17), .ref (r 18), .ref (r 19), .ref (r 20), .ref (r 21), .ref (r 22), .ref (r 23), .ref (r 24), .ref (r 25), .ref (r 26), .ref (r 27), .ref (r 28), .ref (r 29), .ref (r 30), .ref (r 31), .ref (r 32), .ref (r 33), .int 0, .int 0, .int 0, .int 0, .int 0, .int 0, .int 0, .ref (r 41), .ref (r 42), .ref (r 43), .ref (r 44), .int 0, .int 0, .int 0, .ref (r 48), .int 0, .int 0, .ref (r 51), .ref (r 52), .ref (r 53), .ref (r 54), .int 0, .ref (r 56), .ref (r 57), .ref (r 58), .int 0, .ref (r 60), .ref (r 61), .ref (r 62), .ref (r 63), .ref (r 64), .ref (r 65), .ref (r 66), .ref (r 67), .ref (r 68), .int 0, .int 0, .int 0, .ref (r 72), .ref (r 73)])), (r 41, .inl (cy 0, 15, .inl (fun _ => 0))), (r 72, .inl (cy 0, 45, .inl (fun _ => 0))), (r 73, .inl (cy 3, 3, .inl (fun _ => 0)))] := hD
  refine lv_iinc (v := 4) (lv' := [(2, .int 4), (0, .ref h0), (1, .int 0)]) hx hb dX12_image_36 hl (k := 0) rfl (by decide +kernel) (by decide) rfl (fun ls hl => ?_)
  refine lv_goto (tgt := 13) hx hb dX12_image_39 (by decide) ?_
  refine lv_iload_n hx hb dX12_image_13 rfl (lv_at hl 0 rfl) ?_
  refine lv_bipush (v := 15) hx hb dX12_image_14 (by decide +kernel) ?_
  refine lv_icmp_ge (tgt := 42) hx hb dX12_image_16 (by decide) (fun c_ => absurd c_ (by decide +kernel)) (fun _ => ?_)
  refine lv_aload_n hx hb dX12_image_19 rfl (lv_at hl 1 rfl) ?_
  refine va_get (D := (dC, dI)) (ci := 12) (v := .ref (r 72)) (C := RX12) (T := TX12) (N := 74) hx hb hts inlX12 hown hK hP 0 rfl rfl 72 (by decide) (hts _ m_265) (fun _ h9 => h9) rfl dX12_image_20 ?_
  refine lv_bipush (v := 15) hx hb dX12_image_23 (by decide +kernel) ?_
  refine lv_iload_n hx hb dX12_image_25 rfl (lv_at hl 2 rfl) ?_
  refine lv_imul hx hb dX12_image_26 ?_
  refine lv_topi (fun z_10 ez_10 => ?_)
  obtain rfl : z_10 = 0 := ez_10.trans (by decide +kernel)
  refine lv_iload_n hx hb dX12_image_27 rfl (lv_at hl 0 rfl) ?_
  refine lv_iadd hx hb dX12_image_28 ?_
  refine lv_topi (fun z_11 ez_11 => ?_)
  obtain rfl : z_11 = 4 := ez_11.trans (by decide +kernel)
  refine lv_aload_n hx hb dX12_image_29 rfl (lv_at hl 1 rfl) ?_
  refine va_get (D := (dC, dI)) (ci := 12) (v := .ref (r 41)) (C := RX12) (T := TX12) (N := 74) hx hb hts inlX12 hown hK hP 0 rfl rfl 41 (by decide) (hts _ m_244) (fun _ h9 => h9) rfl dX12_image_30 ?_
  refine lv_iload_n hx hb dX12_image_33 rfl (lv_at hl 0 rfl) ?_
  refine va_iald hx hb hK hP 1 0 rfl rfl vi_4_15 dX12_image_34 ?_
  refine W.eq (g2 := F0 m 35 ls [.int 0, .int 4, .ref (r 72)]) rfl ?_
  refine va_iast hx hb hK hP hD hS 2 0 rfl rfl vi_4_45 dX12_image_35 (fun H locs hP hD hS => ?_)
  rw [show upd (fun _ => 0) (Int32.toNatClampNeg 4) 0 = (fun _ => 0) from xa_upd0 rfl] at hP hD
  have hP : va_P (dC, dI) classes [(h0, .inr (12, [.ref (r 0), .ref (r 1), .int 0, .int 0, .int 0, .int (-1), .int 0, .int 0, .int 0, .int 0, .long 0, .ref (r 11), .ref (r 12), .ref (r 13), .ref (r 14), .ref (r 15), .ref (r 16), .ref (r 17), .ref (r 18), .ref (r 19), .ref (r 20), .ref (r 21), .ref (r 22), .ref (r 23), .ref (r 24), .ref (r 25), .ref (r 26), .ref (r 27), .ref (r 28), .ref (r 29), .ref (r 30), .ref (r 31), .ref (r 32), .ref (r 33), .int 0, .int 0, .int 0, .int 0, .int 0, .int 0, .int 0, .ref (r 41), .ref (r 42), .ref (r 43), .ref (r 44), .int 0, .int 0, .int 0, .ref (r 48), .int 0, .int 0, .ref (r 51), .ref (r 52), .ref (r 53), .ref (r 54), .int 0, .ref (r 56), .ref (r 57), .ref (r 58), .int 0, .ref (r 60), .ref (r 61), .ref (r 62), .ref (r 63), .ref (r 64), .ref (r 65), .ref (r 66), .ref (r 67), .ref (r 68), .int 0, .int 0, .int 0, .ref (r 72), .ref (r 73)])), (r 41, .inl (cy 0, 15, .inl (fun _ => 0))), (r 72, .inl (cy 0, 45, .inl (fun _ => 0))), (r 73, .inl (cy 3, 3, .inl (fun _ => 0)))] H := hP
  have hD : va_D A [(h0, .inr (12, [.ref (r 0), .ref (r 1), .int 0, .int 0, .int 0, .int (-1), .int 0, .int 0, .int 0, .int 0, .long 0, .ref (r 11), .ref (r 12), .ref (r 13), .ref (r 14), .ref (r 15), .ref (r 16), .ref (r 17), .ref (r 18), .ref (r 19), .ref (r 20), .ref (r 21), .ref (r 22), .ref (r 23), .ref (r 24), .ref (r 25), .ref (r 26), .ref (r 27), .ref (r 28), .ref (r 29), .ref (r 30), .ref (r 31), .ref (r 32), .ref (r 33), .int 0, .int 0, .int 0, .int 0, .int 0, .int 0, .int 0, .ref (r 41), .ref (r 42), .ref (r 43), .ref (r 44), .int 0, .int 0, .int 0, .ref (r 48), .int 0, .int 0, .ref (r 51), .ref (r 52), .ref (r 53), .ref (r 54), .int 0, .ref (r 56), .ref (r 57), .ref (r 58), .int 0, .ref (r 60), .ref (r 61), .ref (r 62), .ref (r 63), .ref (r 64), .ref (r 65), .ref (r 66), .ref (r 67), .ref (r 68), .int 0, .int 0, .int 0, .ref (r 72), .ref (r 73)])), (r 41, .inl (cy 0, 15, .inl (fun _ => 0))), (r 72, .inl (cy 0, 45, .inl (fun _ => 0))), (r 73, .inl (cy 3, 3, .inl (fun _ => 0)))] := hD
  refine lv_iinc (v := 5) (lv' := [(2, .int 5), (0, .ref h0), (1, .int 0)]) hx hb dX12_image_36 hl (k := 0) rfl (by decide +kernel) (by decide) rfl (fun ls hl => ?_)
  refine lv_goto (tgt := 13) hx hb dX12_image_39 (by decide) ?_
  refine lv_iload_n hx hb dX12_image_13 rfl (lv_at hl 0 rfl) ?_
  refine lv_bipush (v := 15) hx hb dX12_image_14 (by decide +kernel) ?_
  refine lv_icmp_ge (tgt := 42) hx hb dX12_image_16 (by decide) (fun c_ => absurd c_ (by decide +kernel)) (fun _ => ?_)
  refine lv_aload_n hx hb dX12_image_19 rfl (lv_at hl 1 rfl) ?_
  refine va_get (D := (dC, dI)) (ci := 12) (v := .ref (r 72)) (C := RX12) (T := TX12) (N := 74) hx hb hts inlX12 hown hK hP 0 rfl rfl 72 (by decide) (hts _ m_265) (fun _ h9 => h9) rfl dX12_image_20 ?_
  refine lv_bipush (v := 15) hx hb dX12_image_23 (by decide +kernel) ?_
  refine lv_iload_n hx hb dX12_image_25 rfl (lv_at hl 2 rfl) ?_
  refine lv_imul hx hb dX12_image_26 ?_
  refine lv_topi (fun z_12 ez_12 => ?_)
  obtain rfl : z_12 = 0 := ez_12.trans (by decide +kernel)
  refine lv_iload_n hx hb dX12_image_27 rfl (lv_at hl 0 rfl) ?_
  refine lv_iadd hx hb dX12_image_28 ?_
  refine lv_topi (fun z_13 ez_13 => ?_)
  obtain rfl : z_13 = 5 := ez_13.trans (by decide +kernel)
  refine lv_aload_n hx hb dX12_image_29 rfl (lv_at hl 1 rfl) ?_
  refine va_get (D := (dC, dI)) (ci := 12) (v := .ref (r 41)) (C := RX12) (T := TX12) (N := 74) hx hb hts inlX12 hown hK hP 0 rfl rfl 41 (by decide) (hts _ m_244) (fun _ h9 => h9) rfl dX12_image_30 ?_
  refine lv_iload_n hx hb dX12_image_33 rfl (lv_at hl 0 rfl) ?_
  refine va_iald hx hb hK hP 1 0 rfl rfl vi_5_15 dX12_image_34 ?_
  refine W.eq (g2 := F0 m 35 ls [.int 0, .int 5, .ref (r 72)]) rfl ?_
  refine va_iast hx hb hK hP hD hS 2 0 rfl rfl vi_5_45 dX12_image_35 (fun H locs hP hD hS => ?_)
  rw [show upd (fun _ => 0) (Int32.toNatClampNeg 5) 0 = (fun _ => 0) from xa_upd0 rfl] at hP hD
  have hP : va_P (dC, dI) classes [(h0, .inr (12, [.ref (r 0), .ref (r 1), .int 0, .int 0, .int 0, .int (-1), .int 0, .int 0, .int 0, .int 0, .long 0, .ref (r 11), .ref (r 12), .ref (r 13), .ref (r 14), .ref (r 15), .ref (r 16), .ref (r 17), .ref (r 18), .ref (r 19), .ref (r 20), .ref (r 21), .ref (r 22), .ref (r 23), .ref (r 24), .ref (r 25), .ref (r 26), .ref (r 27), .ref (r 28), .ref (r 29), .ref (r 30), .ref (r 31), .ref (r 32), .ref (r 33), .int 0, .int 0, .int 0, .int 0, .int 0, .int 0, .int 0, .ref (r 41), .ref (r 42), .ref (r 43), .ref (r 44), .int 0, .int 0, .int 0, .ref (r 48), .int 0, .int 0, .ref (r 51), .ref (r 52), .ref (r 53), .ref (r 54), .int 0, .ref (r 56), .ref (r 57), .ref (r 58), .int 0, .ref (r 60), .ref (r 61), .ref (r 62), .ref (r 63), .ref (r 64), .ref (r 65), .ref (r 66), .ref (r 67), .ref (r 68), .int 0, .int 0, .int 0, .ref (r 72), .ref (r 73)])), (r 41, .inl (cy 0, 15, .inl (fun _ => 0))), (r 72, .inl (cy 0, 45, .inl (fun _ => 0))), (r 73, .inl (cy 3, 3, .inl (fun _ => 0)))] H := hP
  have hD : va_D A [(h0, .inr (12, [.ref (r 0), .ref (r 1), .int 0, .int 0, .int 0, .int (-1), .int 0, .int 0, .int 0, .int 0, .long 0, .ref (r 11), .ref (r 12), .ref (r 13), .ref (r 14), .ref (r 15), .ref (r 16), .ref (r 17), .ref (r 18), .ref (r 19), .ref (r 20), .ref (r 21), .ref (r 22), .ref (r 23), .ref (r 24), .ref (r 25), .ref (r 26), .ref (r 27), .ref (r 28), .ref (r 29), .ref (r 30), .ref (r 31), .ref (r 32), .ref (r 33), .int 0, .int 0, .int 0, .int 0, .int 0, .int 0, .int 0, .ref (r 41), .ref (r 42), .ref (r 43), .ref (r 44), .int 0, .int 0, .int 0, .ref (r 48), .int 0, .int 0, .ref (r 51), .ref (r 52), .ref (r 53), .ref (r 54), .int 0, .ref (r 56), .ref (r 57), .ref (r 58), .int 0, .ref (r 60), .ref (r 61), .ref (r 62), .ref (r 63), .ref (r 64), .ref (r 65), .ref (r 66), .ref (r 67), .ref (r 68), .int 0, .int 0, .int 0, .ref (r 72), .ref (r 73)])), (r 41, .inl (cy 0, 15, .inl (fun _ => 0))), (r 72, .inl (cy 0, 45, .inl (fun _ => 0))), (r 73, .inl (cy 3, 3, .inl (fun _ => 0)))] := hD
  refine lv_iinc (v := 6) (lv' := [(2, .int 6), (0, .ref h0), (1, .int 0)]) hx hb dX12_image_36 hl (k := 0) rfl (by decide +kernel) (by decide) rfl (fun ls hl => ?_)
  refine lv_goto (tgt := 13) hx hb dX12_image_39 (by decide) ?_
  refine lv_iload_n hx hb dX12_image_13 rfl (lv_at hl 0 rfl) ?_
  refine lv_bipush (v := 15) hx hb dX12_image_14 (by decide +kernel) ?_
  refine lv_icmp_ge (tgt := 42) hx hb dX12_image_16 (by decide) (fun c_ => absurd c_ (by decide +kernel)) (fun _ => ?_)
  refine lv_aload_n hx hb dX12_image_19 rfl (lv_at hl 1 rfl) ?_
  refine va_get (D := (dC, dI)) (ci := 12) (v := .ref (r 72)) (C := RX12) (T := TX12) (N := 74) hx hb hts inlX12 hown hK hP 0 rfl rfl 72 (by decide) (hts _ m_265) (fun _ h9 => h9) rfl dX12_image_20 ?_
  refine lv_bipush (v := 15) hx hb dX12_image_23 (by decide +kernel) ?_
  refine lv_iload_n hx hb dX12_image_25 rfl (lv_at hl 2 rfl) ?_
  refine lv_imul hx hb dX12_image_26 ?_
  refine lv_topi (fun z_14 ez_14 => ?_)
  obtain rfl : z_14 = 0 := ez_14.trans (by decide +kernel)
  refine lv_iload_n hx hb dX12_image_27 rfl (lv_at hl 0 rfl) ?_
  refine lv_iadd hx hb dX12_image_28 ?_
  refine lv_topi (fun z_15 ez_15 => ?_)
  obtain rfl : z_15 = 6 := ez_15.trans (by decide +kernel)
  refine lv_aload_n hx hb dX12_image_29 rfl (lv_at hl 1 rfl) ?_
  refine va_get (D := (dC, dI)) (ci := 12) (v := .ref (r 41)) (C := RX12) (T := TX12) (N := 74) hx hb hts inlX12 hown hK hP 0 rfl rfl 41 (by decide) (hts _ m_244) (fun _ h9 => h9) rfl dX12_image_30 ?_
  refine lv_iload_n hx hb dX12_image_33 rfl (lv_at hl 0 rfl) ?_
  refine va_iald hx hb hK hP 1 0 rfl rfl vi_6_15 dX12_image_34 ?_
  refine W.eq (g2 := F0 m 35 ls [.int 0, .int 6, .ref (r 72)]) rfl ?_
  refine va_iast hx hb hK hP hD hS 2 0 rfl rfl vi_6_45 dX12_image_35 (fun H locs hP hD hS => ?_)
  rw [show upd (fun _ => 0) (Int32.toNatClampNeg 6) 0 = (fun _ => 0) from xa_upd0 rfl] at hP hD
  have hP : va_P (dC, dI) classes [(h0, .inr (12, [.ref (r 0), .ref (r 1), .int 0, .int 0, .int 0, .int (-1), .int 0, .int 0, .int 0, .int 0, .long 0, .ref (r 11), .ref (r 12), .ref (r 13), .ref (r 14), .ref (r 15), .ref (r 16), .ref (r 17), .ref (r 18), .ref (r 19), .ref (r 20), .ref (r 21), .ref (r 22), .ref (r 23), .ref (r 24), .ref (r 25), .ref (r 26), .ref (r 27), .ref (r 28), .ref (r 29), .ref (r 30), .ref (r 31), .ref (r 32), .ref (r 33), .int 0, .int 0, .int 0, .int 0, .int 0, .int 0, .int 0, .ref (r 41), .ref (r 42), .ref (r 43), .ref (r 44), .int 0, .int 0, .int 0, .ref (r 48), .int 0, .int 0, .ref (r 51), .ref (r 52), .ref (r 53), .ref (r 54), .int 0, .ref (r 56), .ref (r 57), .ref (r 58), .int 0, .ref (r 60), .ref (r 61), .ref (r 62), .ref (r 63), .ref (r 64), .ref (r 65), .ref (r 66), .ref (r 67), .ref (r 68), .int 0, .int 0, .int 0, .ref (r 72), .ref (r 73)])), (r 41, .inl (cy 0, 15, .inl (fun _ => 0))), (r 72, .inl (cy 0, 45, .inl (fun _ => 0))), (r 73, .inl (cy 3, 3, .inl (fun _ => 0)))] H := hP
  have hD : va_D A [(h0, .inr (12, [.ref (r 0), .ref (r 1), .int 0, .int 0, .int 0, .int (-1), .int 0, .int 0, .int 0, .int 0, .long 0, .ref (r 11), .ref (r 12), .ref (r 13), .ref (r 14), .ref (r 15), .ref (r 16), .ref (r 17), .ref (r 18), .ref (r 19), .ref (r 20), .ref (r 21), .ref (r 22), .ref (r 23), .ref (r 24), .ref (r 25), .ref (r 26), .ref (r 27), .ref (r 28), .ref (r 29), .ref (r 30), .ref (r 31), .ref (r 32), .ref (r 33), .int 0, .int 0, .int 0, .int 0, .int 0, .int 0, .int 0, .ref (r 41), .ref (r 42), .ref (r 43), .ref (r 44), .int 0, .int 0, .int 0, .ref (r 48), .int 0, .int 0, .ref (r 51), .ref (r 52), .ref (r 53), .ref (r 54), .int 0, .ref (r 56), .ref (r 57), .ref (r 58), .int 0, .ref (r 60), .ref (r 61), .ref (r 62), .ref (r 63), .ref (r 64), .ref (r 65), .ref (r 66), .ref (r 67), .ref (r 68), .int 0, .int 0, .int 0, .ref (r 72), .ref (r 73)])), (r 41, .inl (cy 0, 15, .inl (fun _ => 0))), (r 72, .inl (cy 0, 45, .inl (fun _ => 0))), (r 73, .inl (cy 3, 3, .inl (fun _ => 0)))] := hD
  refine lv_iinc (v := 7) (lv' := [(2, .int 7), (0, .ref h0), (1, .int 0)]) hx hb dX12_image_36 hl (k := 0) rfl (by decide +kernel) (by decide) rfl (fun ls hl => ?_)
  refine lv_goto (tgt := 13) hx hb dX12_image_39 (by decide) ?_
  refine lv_iload_n hx hb dX12_image_13 rfl (lv_at hl 0 rfl) ?_
  refine lv_bipush (v := 15) hx hb dX12_image_14 (by decide +kernel) ?_
  refine lv_icmp_ge (tgt := 42) hx hb dX12_image_16 (by decide) (fun c_ => absurd c_ (by decide +kernel)) (fun _ => ?_)
  refine lv_aload_n hx hb dX12_image_19 rfl (lv_at hl 1 rfl) ?_
  refine va_get (D := (dC, dI)) (ci := 12) (v := .ref (r 72)) (C := RX12) (T := TX12) (N := 74) hx hb hts inlX12 hown hK hP 0 rfl rfl 72 (by decide) (hts _ m_265) (fun _ h9 => h9) rfl dX12_image_20 ?_
  refine lv_bipush (v := 15) hx hb dX12_image_23 (by decide +kernel) ?_
  refine lv_iload_n hx hb dX12_image_25 rfl (lv_at hl 2 rfl) ?_
  refine lv_imul hx hb dX12_image_26 ?_
  refine lv_topi (fun z_16 ez_16 => ?_)
  obtain rfl : z_16 = 0 := ez_16.trans (by decide +kernel)
  refine lv_iload_n hx hb dX12_image_27 rfl (lv_at hl 0 rfl) ?_
  refine lv_iadd hx hb dX12_image_28 ?_
  refine lv_topi (fun z_17 ez_17 => ?_)
  obtain rfl : z_17 = 7 := ez_17.trans (by decide +kernel)
  refine lv_aload_n hx hb dX12_image_29 rfl (lv_at hl 1 rfl) ?_
  refine va_get (D := (dC, dI)) (ci := 12) (v := .ref (r 41)) (C := RX12) (T := TX12) (N := 74) hx hb hts inlX12 hown hK hP 0 rfl rfl 41 (by decide) (hts _ m_244) (fun _ h9 => h9) rfl dX12_image_30 ?_
  refine lv_iload_n hx hb dX12_image_33 rfl (lv_at hl 0 rfl) ?_
  refine va_iald hx hb hK hP 1 0 rfl rfl vi_7_15 dX12_image_34 ?_
  refine W.eq (g2 := F0 m 35 ls [.int 0, .int 7, .ref (r 72)]) rfl ?_
  refine va_iast hx hb hK hP hD hS 2 0 rfl rfl vi_7_45 dX12_image_35 (fun H locs hP hD hS => ?_)
  rw [show upd (fun _ => 0) (Int32.toNatClampNeg 7) 0 = (fun _ => 0) from xa_upd0 rfl] at hP hD
  have hP : va_P (dC, dI) classes [(h0, .inr (12, [.ref (r 0), .ref (r 1), .int 0, .int 0, .int 0, .int (-1), .int 0, .int 0, .int 0, .int 0, .long 0, .ref (r 11), .ref (r 12), .ref (r 13), .ref (r 14), .ref (r 15), .ref (r 16), .ref (r 17), .ref (r 18), .ref (r 19), .ref (r 20), .ref (r 21), .ref (r 22), .ref (r 23), .ref (r 24), .ref (r 25), .ref (r 26), .ref (r 27), .ref (r 28), .ref (r 29), .ref (r 30), .ref (r 31), .ref (r 32), .ref (r 33), .int 0, .int 0, .int 0, .int 0, .int 0, .int 0, .int 0, .ref (r 41), .ref (r 42), .ref (r 43), .ref (r 44), .int 0, .int 0, .int 0, .ref (r 48), .int 0, .int 0, .ref (r 51), .ref (r 52), .ref (r 53), .ref (r 54), .int 0, .ref (r 56), .ref (r 57), .ref (r 58), .int 0, .ref (r 60), .ref (r 61), .ref (r 62), .ref (r 63), .ref (r 64), .ref (r 65), .ref (r 66), .ref (r 67), .ref (r 68), .int 0, .int 0, .int 0, .ref (r 72), .ref (r 73)])), (r 41, .inl (cy 0, 15, .inl (fun _ => 0))), (r 72, .inl (cy 0, 45, .inl (fun _ => 0))), (r 73, .inl (cy 3, 3, .inl (fun _ => 0)))] H := hP
  have hD : va_D A [(h0, .inr (12, [.ref (r 0), .ref (r 1), .int 0, .int 0, .int 0, .int (-1), .int 0, .int 0, .int 0, .int 0, .long 0, .ref (r 11), .ref (r 12), .ref (r 13), .ref (r 14), .ref (r 15), .ref (r 16), .ref (r 17), .ref (r 18), .ref (r 19), .ref (r 20), .ref (r 21), .ref (r 22), .ref (r 23), .ref (r 24), .ref (r 25), .ref (r 26), .ref (r 27), .ref (r 28), .ref (r 29), .ref (r 30), .ref (r 31), .ref (r 32), .ref (r 33), .int 0, .int 0, .int 0, .int 0, .int 0, .int 0, .int 0, .ref (r 41), .ref (r 42), .ref (r 43), .ref (r 44), .int 0, .int 0, .int 0, .ref (r 48), .int 0, .int 0, .ref (r 51), .ref (r 52), .ref (r 53), .ref (r 54), .int 0, .ref (r 56), .ref (r 57), .ref (r 58), .int 0, .ref (r 60), .ref (r 61), .ref (r 62), .ref (r 63), .ref (r 64), .ref (r 65), .ref (r 66), .ref (r 67), .ref (r 68), .int 0, .int 0, .int 0, .ref (r 72), .ref (r 73)])), (r 41, .inl (cy 0, 15, .inl (fun _ => 0))), (r 72, .inl (cy 0, 45, .inl (fun _ => 0))), (r 73, .inl (cy 3, 3, .inl (fun _ => 0)))] := hD
  refine lv_iinc (v := 8) (lv' := [(2, .int 8), (0, .ref h0), (1, .int 0)]) hx hb dX12_image_36 hl (k := 0) rfl (by decide +kernel) (by decide) rfl (fun ls hl => ?_)
  refine lv_goto (tgt := 13) hx hb dX12_image_39 (by decide) ?_
  refine lv_iload_n hx hb dX12_image_13 rfl (lv_at hl 0 rfl) ?_
  refine lv_bipush (v := 15) hx hb dX12_image_14 (by decide +kernel) ?_
  refine lv_icmp_ge (tgt := 42) hx hb dX12_image_16 (by decide) (fun c_ => absurd c_ (by decide +kernel)) (fun _ => ?_)
  refine lv_aload_n hx hb dX12_image_19 rfl (lv_at hl 1 rfl) ?_
  refine va_get (D := (dC, dI)) (ci := 12) (v := .ref (r 72)) (C := RX12) (T := TX12) (N := 74) hx hb hts inlX12 hown hK hP 0 rfl rfl 72 (by decide) (hts _ m_265) (fun _ h9 => h9) rfl dX12_image_20 ?_
  refine lv_bipush (v := 15) hx hb dX12_image_23 (by decide +kernel) ?_
  refine lv_iload_n hx hb dX12_image_25 rfl (lv_at hl 2 rfl) ?_
  refine lv_imul hx hb dX12_image_26 ?_
  refine lv_topi (fun z_18 ez_18 => ?_)
  obtain rfl : z_18 = 0 := ez_18.trans (by decide +kernel)
  refine lv_iload_n hx hb dX12_image_27 rfl (lv_at hl 0 rfl) ?_
  refine lv_iadd hx hb dX12_image_28 ?_
  refine lv_topi (fun z_19 ez_19 => ?_)
  obtain rfl : z_19 = 8 := ez_19.trans (by decide +kernel)
  refine lv_aload_n hx hb dX12_image_29 rfl (lv_at hl 1 rfl) ?_
  refine va_get (D := (dC, dI)) (ci := 12) (v := .ref (r 41)) (C := RX12) (T := TX12) (N := 74) hx hb hts inlX12 hown hK hP 0 rfl rfl 41 (by decide) (hts _ m_244) (fun _ h9 => h9) rfl dX12_image_30 ?_
  refine lv_iload_n hx hb dX12_image_33 rfl (lv_at hl 0 rfl) ?_
  refine va_iald hx hb hK hP 1 0 rfl rfl vi_8_15 dX12_image_34 ?_
  refine W.eq (g2 := F0 m 35 ls [.int 0, .int 8, .ref (r 72)]) rfl ?_
  refine va_iast hx hb hK hP hD hS 2 0 rfl rfl vi_8_45 dX12_image_35 (fun H locs hP hD hS => ?_)
  rw [show upd (fun _ => 0) (Int32.toNatClampNeg 8) 0 = (fun _ => 0) from xa_upd0 rfl] at hP hD
  have hP : va_P (dC, dI) classes [(h0, .inr (12, [.ref (r 0), .ref (r 1), .int 0, .int 0, .int 0, .int (-1), .int 0, .int 0, .int 0, .int 0, .long 0, .ref (r 11), .ref (r 12), .ref (r 13), .ref (r 14), .ref (r 15), .ref (r 16), .ref (r 17), .ref (r 18), .ref (r 19), .ref (r 20), .ref (r 21), .ref (r 22), .ref (r 23), .ref (r 24), .ref (r 25), .ref (r 26), .ref (r 27), .ref (r 28), .ref (r 29), .ref (r 30), .ref (r 31), .ref (r 32), .ref (r 33), .int 0, .int 0, .int 0, .int 0, .int 0, .int 0, .int 0, .ref (r 41), .ref (r 42), .ref (r 43), .ref (r 44), .int 0, .int 0, .int 0, .ref (r 48), .int 0, .int 0, .ref (r 51), .ref (r 52), .ref (r 53), .ref (r 54), .int 0, .ref (r 56), .ref (r 57), .ref (r 58), .int 0, .ref (r 60), .ref (r 61), .ref (r 62), .ref (r 63), .ref (r 64), .ref (r 65), .ref (r 66), .ref (r 67), .ref (r 68), .int 0, .int 0, .int 0, .ref (r 72), .ref (r 73)])), (r 41, .inl (cy 0, 15, .inl (fun _ => 0))), (r 72, .inl (cy 0, 45, .inl (fun _ => 0))), (r 73, .inl (cy 3, 3, .inl (fun _ => 0)))] H := hP
  have hD : va_D A [(h0, .inr (12, [.ref (r 0), .ref (r 1), .int 0, .int 0, .int 0, .int (-1), .int 0, .int 0, .int 0, .int 0, .long 0, .ref (r 11), .ref (r 12), .ref (r 13), .ref (r 14), .ref (r 15), .ref (r 16), .ref (r 17), .ref (r 18), .ref (r 19), .ref (r 20), .ref (r 21), .ref (r 22), .ref (r 23), .ref (r 24), .ref (r 25), .ref (r 26), .ref (r 27), .ref (r 28), .ref (r 29), .ref (r 30), .ref (r 31), .ref (r 32), .ref (r 33), .int 0, .int 0, .int 0, .int 0, .int 0, .int 0, .int 0, .ref (r 41), .ref (r 42), .ref (r 43), .ref (r 44), .int 0, .int 0, .int 0, .ref (r 48), .int 0, .int 0, .ref (r 51), .ref (r 52), .ref (r 53), .ref (r 54), .int 0, .ref (r 56), .ref (r 57), .ref (r 58), .int 0, .ref (r 60), .ref (r 61), .ref (r 62), .ref (r 63), .ref (r 64), .ref (r 65), .ref (r 66), .ref (r 67), .ref (r 68), .int 0, .int 0, .int 0, .ref (r 72), .ref (r 73)])), (r 41, .inl (cy 0, 15, .inl (fun _ => 0))), (r 72, .inl (cy 0, 45, .inl (fun _ => 0))), (r 73, .inl (cy 3, 3, .inl (fun _ => 0)))] := hD
  refine lv_iinc (v := 9) (lv' := [(2, .int 9), (0, .ref h0), (1, .int 0)]) hx hb dX12_image_36 hl (k := 0) rfl (by decide +kernel) (by decide) rfl (fun ls hl => ?_)
  refine lv_goto (tgt := 13) hx hb dX12_image_39 (by decide) ?_
  refine lv_iload_n hx hb dX12_image_13 rfl (lv_at hl 0 rfl) ?_
  refine lv_bipush (v := 15) hx hb dX12_image_14 (by decide +kernel) ?_
  refine lv_icmp_ge (tgt := 42) hx hb dX12_image_16 (by decide) (fun c_ => absurd c_ (by decide +kernel)) (fun _ => ?_)
  refine lv_aload_n hx hb dX12_image_19 rfl (lv_at hl 1 rfl) ?_
  refine va_get (D := (dC, dI)) (ci := 12) (v := .ref (r 72)) (C := RX12) (T := TX12) (N := 74) hx hb hts inlX12 hown hK hP 0 rfl rfl 72 (by decide) (hts _ m_265) (fun _ h9 => h9) rfl dX12_image_20 ?_
  refine lv_bipush (v := 15) hx hb dX12_image_23 (by decide +kernel) ?_
  refine lv_iload_n hx hb dX12_image_25 rfl (lv_at hl 2 rfl) ?_
  refine lv_imul hx hb dX12_image_26 ?_
  refine lv_topi (fun z_20 ez_20 => ?_)
  obtain rfl : z_20 = 0 := ez_20.trans (by decide +kernel)
  refine lv_iload_n hx hb dX12_image_27 rfl (lv_at hl 0 rfl) ?_
  refine lv_iadd hx hb dX12_image_28 ?_
  refine lv_topi (fun z_21 ez_21 => ?_)
  obtain rfl : z_21 = 9 := ez_21.trans (by decide +kernel)
  refine lv_aload_n hx hb dX12_image_29 rfl (lv_at hl 1 rfl) ?_
  refine va_get (D := (dC, dI)) (ci := 12) (v := .ref (r 41)) (C := RX12) (T := TX12) (N := 74) hx hb hts inlX12 hown hK hP 0 rfl rfl 41 (by decide) (hts _ m_244) (fun _ h9 => h9) rfl dX12_image_30 ?_
  refine lv_iload_n hx hb dX12_image_33 rfl (lv_at hl 0 rfl) ?_
  refine va_iald hx hb hK hP 1 0 rfl rfl vi_9_15 dX12_image_34 ?_
  refine W.eq (g2 := F0 m 35 ls [.int 0, .int 9, .ref (r 72)]) rfl ?_
  refine va_iast hx hb hK hP hD hS 2 0 rfl rfl vi_9_45 dX12_image_35 (fun H locs hP hD hS => ?_)
  rw [show upd (fun _ => 0) (Int32.toNatClampNeg 9) 0 = (fun _ => 0) from xa_upd0 rfl] at hP hD
  have hP : va_P (dC, dI) classes [(h0, .inr (12, [.ref (r 0), .ref (r 1), .int 0, .int 0, .int 0, .int (-1), .int 0, .int 0, .int 0, .int 0, .long 0, .ref (r 11), .ref (r 12), .ref (r 13), .ref (r 14), .ref (r 15), .ref (r 16), .ref (r 17), .ref (r 18), .ref (r 19), .ref (r 20), .ref (r 21), .ref (r 22), .ref (r 23), .ref (r 24), .ref (r 25), .ref (r 26), .ref (r 27), .ref (r 28), .ref (r 29), .ref (r 30), .ref (r 31), .ref (r 32), .ref (r 33), .int 0, .int 0, .int 0, .int 0, .int 0, .int 0, .int 0, .ref (r 41), .ref (r 42), .ref (r 43), .ref (r 44), .int 0, .int 0, .int 0, .ref (r 48), .int 0, .int 0, .ref (r 51), .ref (r 52), .ref (r 53), .ref (r 54), .int 0, .ref (r 56), .ref (r 57), .ref (r 58), .int 0, .ref (r 60), .ref (r 61), .ref (r 62), .ref (r 63), .ref (r 64), .ref (r 65), .ref (r 66), .ref (r 67), .ref (r 68), .int 0, .int 0, .int 0, .ref (r 72), .ref (r 73)])), (r 41, .inl (cy 0, 15, .inl (fun _ => 0))), (r 72, .inl (cy 0, 45, .inl (fun _ => 0))), (r 73, .inl (cy 3, 3, .inl (fun _ => 0)))] H := hP
  have hD : va_D A [(h0, .inr (12, [.ref (r 0), .ref (r 1), .int 0, .int 0, .int 0, .int (-1), .int 0, .int 0, .int 0, .int 0, .long 0, .ref (r 11), .ref (r 12), .ref (r 13), .ref (r 14), .ref (r 15), .ref (r 16), .ref (r 17), .ref (r 18), .ref (r 19), .ref (r 20), .ref (r 21), .ref (r 22), .ref (r 23), .ref (r 24), .ref (r 25), .ref (r 26), .ref (r 27), .ref (r 28), .ref (r 29), .ref (r 30), .ref (r 31), .ref (r 32), .ref (r 33), .int 0, .int 0, .int 0, .int 0, .int 0, .int 0, .int 0, .ref (r 41), .ref (r 42), .ref (r 43), .ref (r 44), .int 0, .int 0, .int 0, .ref (r 48), .int 0, .int 0, .ref (r 51), .ref (r 52), .ref (r 53), .ref (r 54), .int 0, .ref (r 56), .ref (r 57), .ref (r 58), .int 0, .ref (r 60), .ref (r 61), .ref (r 62), .ref (r 63), .ref (r 64), .ref (r 65), .ref (r 66), .ref (r 67), .ref (r 68), .int 0, .int 0, .int 0, .ref (r 72), .ref (r 73)])), (r 41, .inl (cy 0, 15, .inl (fun _ => 0))), (r 72, .inl (cy 0, 45, .inl (fun _ => 0))), (r 73, .inl (cy 3, 3, .inl (fun _ => 0)))] := hD
  refine lv_iinc (v := 10) (lv' := [(2, .int 10), (0, .ref h0), (1, .int 0)]) hx hb dX12_image_36 hl (k := 0) rfl (by decide +kernel) (by decide) rfl (fun ls hl => ?_)
  refine lv_goto (tgt := 13) hx hb dX12_image_39 (by decide) ?_
  refine lv_iload_n hx hb dX12_image_13 rfl (lv_at hl 0 rfl) ?_
  refine lv_bipush (v := 15) hx hb dX12_image_14 (by decide +kernel) ?_
  refine lv_icmp_ge (tgt := 42) hx hb dX12_image_16 (by decide) (fun c_ => absurd c_ (by decide +kernel)) (fun _ => ?_)
  refine lv_aload_n hx hb dX12_image_19 rfl (lv_at hl 1 rfl) ?_
  refine va_get (D := (dC, dI)) (ci := 12) (v := .ref (r 72)) (C := RX12) (T := TX12) (N := 74) hx hb hts inlX12 hown hK hP 0 rfl rfl 72 (by decide) (hts _ m_265) (fun _ h9 => h9) rfl dX12_image_20 ?_
  refine lv_bipush (v := 15) hx hb dX12_image_23 (by decide +kernel) ?_
  refine lv_iload_n hx hb dX12_image_25 rfl (lv_at hl 2 rfl) ?_
  refine lv_imul hx hb dX12_image_26 ?_
  refine lv_topi (fun z_22 ez_22 => ?_)
  obtain rfl : z_22 = 0 := ez_22.trans (by decide +kernel)
  refine lv_iload_n hx hb dX12_image_27 rfl (lv_at hl 0 rfl) ?_
  refine lv_iadd hx hb dX12_image_28 ?_
  refine lv_topi (fun z_23 ez_23 => ?_)
  obtain rfl : z_23 = 10 := ez_23.trans (by decide +kernel)
  refine lv_aload_n hx hb dX12_image_29 rfl (lv_at hl 1 rfl) ?_
  refine va_get (D := (dC, dI)) (ci := 12) (v := .ref (r 41)) (C := RX12) (T := TX12) (N := 74) hx hb hts inlX12 hown hK hP 0 rfl rfl 41 (by decide) (hts _ m_244) (fun _ h9 => h9) rfl dX12_image_30 ?_
  refine lv_iload_n hx hb dX12_image_33 rfl (lv_at hl 0 rfl) ?_
  refine va_iald hx hb hK hP 1 0 rfl rfl vi_10_15 dX12_image_34 ?_
  refine W.eq (g2 := F0 m 35 ls [.int 0, .int 10, .ref (r 72)]) rfl ?_
  refine va_iast hx hb hK hP hD hS 2 0 rfl rfl vi_10_45 dX12_image_35 (fun H locs hP hD hS => ?_)
  rw [show upd (fun _ => 0) (Int32.toNatClampNeg 10) 0 = (fun _ => 0) from xa_upd0 rfl] at hP hD
  have hP : va_P (dC, dI) classes [(h0, .inr (12, [.ref (r 0), .ref (r 1), .int 0, .int 0, .int 0, .int (-1), .int 0, .int 0, .int 0, .int 0, .long 0, .ref (r 11), .ref (r 12), .ref (r 13), .ref (r 14), .ref (r 15), .ref (r 16), .ref (r 17), .ref (r 18), .ref (r 19), .ref (r 20), .ref (r 21), .ref (r 22), .ref (r 23), .ref (r 24), .ref (r 25), .ref (r 26), .ref (r 27), .ref (r 28), .ref (r 29), .ref (r 30), .ref (r 31), .ref (r 32), .ref (r 33), .int 0, .int 0, .int 0, .int 0, .int 0, .int 0, .int 0, .ref (r 41), .ref (r 42), .ref (r 43), .ref (r 44), .int 0, .int 0, .int 0, .ref (r 48), .int 0, .int 0, .ref (r 51), .ref (r 52), .ref (r 53), .ref (r 54), .int 0, .ref (r 56), .ref (r 57), .ref (r 58), .int 0, .ref (r 60), .ref (r 61), .ref (r 62), .ref (r 63), .ref (r 64), .ref (r 65), .ref (r 66), .ref (r 67), .ref (r 68), .int 0, .int 0, .int 0, .ref (r 72), .ref (r 73)])), (r 41, .inl (cy 0, 15, .inl (fun _ => 0))), (r 72, .inl (cy 0, 45, .inl (fun _ => 0))), (r 73, .inl (cy 3, 3, .inl (fun _ => 0)))] H := hP
  have hD : va_D A [(h0, .inr (12, [.ref (r 0), .ref (r 1), .int 0, .int 0, .int 0, .int (-1), .int 0, .int 0, .int 0, .int 0, .long 0, .ref (r 11), .ref (r 12), .ref (r 13), .ref (r 14), .ref (r 15), .ref (r 16), .ref (r 17), .ref (r 18), .ref (r 19), .ref (r 20), .ref (r 21), .ref (r 22), .ref (r 23), .ref (r 24), .ref (r 25), .ref (r 26), .ref (r 27), .ref (r 28), .ref (r 29), .ref (r 30), .ref (r 31), .ref (r 32), .ref (r 33), .int 0, .int 0, .int 0, .int 0, .int 0, .int 0, .int 0, .ref (r 41), .ref (r 42), .ref (r 43), .ref (r 44), .int 0, .int 0, .int 0, .ref (r 48), .int 0, .int 0, .ref (r 51), .ref (r 52), .ref (r 53), .ref (r 54), .int 0, .ref (r 56), .ref (r 57), .ref (r 58), .int 0, .ref (r 60), .ref (r 61), .ref (r 62), .ref (r 63), .ref (r 64), .ref (r 65), .ref (r 66), .ref (r 67), .ref (r 68), .int 0, .int 0, .int 0, .ref (r 72), .ref (r 73)])), (r 41, .inl (cy 0, 15, .inl (fun _ => 0))), (r 72, .inl (cy 0, 45, .inl (fun _ => 0))), (r 73, .inl (cy 3, 3, .inl (fun _ => 0)))] := hD
  refine lv_iinc (v := 11) (lv' := [(2, .int 11), (0, .ref h0), (1, .int 0)]) hx hb dX12_image_36 hl (k := 0) rfl (by decide +kernel) (by decide) rfl (fun ls hl => ?_)
  refine lv_goto (tgt := 13) hx hb dX12_image_39 (by decide) ?_
  refine lv_iload_n hx hb dX12_image_13 rfl (lv_at hl 0 rfl) ?_
  refine lv_bipush (v := 15) hx hb dX12_image_14 (by decide +kernel) ?_
  refine lv_icmp_ge (tgt := 42) hx hb dX12_image_16 (by decide) (fun c_ => absurd c_ (by decide +kernel)) (fun _ => ?_)
  refine lv_aload_n hx hb dX12_image_19 rfl (lv_at hl 1 rfl) ?_
  refine va_get (D := (dC, dI)) (ci := 12) (v := .ref (r 72)) (C := RX12) (T := TX12) (N := 74) hx hb hts inlX12 hown hK hP 0 rfl rfl 72 (by decide) (hts _ m_265) (fun _ h9 => h9) rfl dX12_image_20 ?_
  refine lv_bipush (v := 15) hx hb dX12_image_23 (by decide +kernel) ?_
  refine lv_iload_n hx hb dX12_image_25 rfl (lv_at hl 2 rfl) ?_
  refine lv_imul hx hb dX12_image_26 ?_
  refine lv_topi (fun z_24 ez_24 => ?_)
  obtain rfl : z_24 = 0 := ez_24.trans (by decide +kernel)
  refine lv_iload_n hx hb dX12_image_27 rfl (lv_at hl 0 rfl) ?_
  refine lv_iadd hx hb dX12_image_28 ?_
  refine lv_topi (fun z_25 ez_25 => ?_)
  obtain rfl : z_25 = 11 := ez_25.trans (by decide +kernel)
  refine lv_aload_n hx hb dX12_image_29 rfl (lv_at hl 1 rfl) ?_
  refine va_get (D := (dC, dI)) (ci := 12) (v := .ref (r 41)) (C := RX12) (T := TX12) (N := 74) hx hb hts inlX12 hown hK hP 0 rfl rfl 41 (by decide) (hts _ m_244) (fun _ h9 => h9) rfl dX12_image_30 ?_
  refine lv_iload_n hx hb dX12_image_33 rfl (lv_at hl 0 rfl) ?_
  refine va_iald hx hb hK hP 1 0 rfl rfl vi_11_15 dX12_image_34 ?_
  refine W.eq (g2 := F0 m 35 ls [.int 0, .int 11, .ref (r 72)]) rfl ?_
  refine va_iast hx hb hK hP hD hS 2 0 rfl rfl vi_11_45 dX12_image_35 (fun H locs hP hD hS => ?_)
  rw [show upd (fun _ => 0) (Int32.toNatClampNeg 11) 0 = (fun _ => 0) from xa_upd0 rfl] at hP hD
  have hP : va_P (dC, dI) classes [(h0, .inr (12, [.ref (r 0), .ref (r 1), .int 0, .int 0, .int 0, .int (-1), .int 0, .int 0, .int 0, .int 0, .long 0, .ref (r 11), .ref (r 12), .ref (r 13), .ref (r 14), .ref (r 15), .ref (r 16), .ref (r 17), .ref (r 18), .ref (r 19), .ref (r 20), .ref (r 21), .ref (r 22), .ref (r 23), .ref (r 24), .ref (r 25), .ref (r 26), .ref (r 27), .ref (r 28), .ref (r 29), .ref (r 30), .ref (r 31), .ref (r 32), .ref (r 33), .int 0, .int 0, .int 0, .int 0, .int 0, .int 0, .int 0, .ref (r 41), .ref (r 42), .ref (r 43), .ref (r 44), .int 0, .int 0, .int 0, .ref (r 48), .int 0, .int 0, .ref (r 51), .ref (r 52), .ref (r 53), .ref (r 54), .int 0, .ref (r 56), .ref (r 57), .ref (r 58), .int 0, .ref (r 60), .ref (r 61), .ref (r 62), .ref (r 63), .ref (r 64), .ref (r 65), .ref (r 66), .ref (r 67), .ref (r 68), .int 0, .int 0, .int 0, .ref (r 72), .ref (r 73)])), (r 41, .inl (cy 0, 15, .inl (fun _ => 0))), (r 72, .inl (cy 0, 45, .inl (fun _ => 0))), (r 73, .inl (cy 3, 3, .inl (fun _ => 0)))] H := hP
  have hD : va_D A [(h0, .inr (12, [.ref (r 0), .ref (r 1), .int 0, .int 0, .int 0, .int (-1), .int 0, .int 0, .int 0, .int 0, .long 0, .ref (r 11), .ref (r 12), .ref (r 13), .ref (r 14), .ref (r 15), .ref (r 16), .ref (r 17), .ref (r 18), .ref (r 19), .ref (r 20), .ref (r 21), .ref (r 22), .ref (r 23), .ref (r 24), .ref (r 25), .ref (r 26), .ref (r 27), .ref (r 28), .ref (r 29), .ref (r 30), .ref (r 31), .ref (r 32), .ref (r 33), .int 0, .int 0, .int 0, .int 0, .int 0, .int 0, .int 0, .ref (r 41), .ref (r 42), .ref (r 43), .ref (r 44), .int 0, .int 0, .int 0, .ref (r 48), .int 0, .int 0, .ref (r 51), .ref (r 52), .ref (r 53), .ref (r 54), .int 0, .ref (r 56), .ref (r 57), .ref (r 58), .int 0, .ref (r 60), .ref (r 61), .ref (r 62), .ref (r 63), .ref (r 64), .ref (r 65), .ref (r 66), .ref (r 67), .ref (r 68), .int 0, .int 0, .int 0, .ref (r 72), .ref (r 73)])), (r 41, .inl (cy 0, 15, .inl (fun _ => 0))), (r 72, .inl (cy 0, 45, .inl (fun _ => 0))), (r 73, .inl (cy 3, 3, .inl (fun _ => 0)))] := hD
  refine lv_iinc (v := 12) (lv' := [(2, .int 12), (0, .ref h0), (1, .int 0)]) hx hb dX12_image_36 hl (k := 0) rfl (by decide +kernel) (by decide) rfl (fun ls hl => ?_)
  refine lv_goto (tgt := 13) hx hb dX12_image_39 (by decide) ?_
  refine lv_iload_n hx hb dX12_image_13 rfl (lv_at hl 0 rfl) ?_
  refine lv_bipush (v := 15) hx hb dX12_image_14 (by decide +kernel) ?_
  refine lv_icmp_ge (tgt := 42) hx hb dX12_image_16 (by decide) (fun c_ => absurd c_ (by decide +kernel)) (fun _ => ?_)
  refine lv_aload_n hx hb dX12_image_19 rfl (lv_at hl 1 rfl) ?_
  refine va_get (D := (dC, dI)) (ci := 12) (v := .ref (r 72)) (C := RX12) (T := TX12) (N := 74) hx hb hts inlX12 hown hK hP 0 rfl rfl 72 (by decide) (hts _ m_265) (fun _ h9 => h9) rfl dX12_image_20 ?_
  refine lv_bipush (v := 15) hx hb dX12_image_23 (by decide +kernel) ?_
  refine lv_iload_n hx hb dX12_image_25 rfl (lv_at hl 2 rfl) ?_
  refine lv_imul hx hb dX12_image_26 ?_
  refine lv_topi (fun z_26 ez_26 => ?_)
  obtain rfl : z_26 = 0 := ez_26.trans (by decide +kernel)
  refine lv_iload_n hx hb dX12_image_27 rfl (lv_at hl 0 rfl) ?_
  refine lv_iadd hx hb dX12_image_28 ?_
  refine lv_topi (fun z_27 ez_27 => ?_)
  obtain rfl : z_27 = 12 := ez_27.trans (by decide +kernel)
  refine lv_aload_n hx hb dX12_image_29 rfl (lv_at hl 1 rfl) ?_
  refine va_get (D := (dC, dI)) (ci := 12) (v := .ref (r 41)) (C := RX12) (T := TX12) (N := 74) hx hb hts inlX12 hown hK hP 0 rfl rfl 41 (by decide) (hts _ m_244) (fun _ h9 => h9) rfl dX12_image_30 ?_
  refine lv_iload_n hx hb dX12_image_33 rfl (lv_at hl 0 rfl) ?_
  refine va_iald hx hb hK hP 1 0 rfl rfl vi_12_15 dX12_image_34 ?_
  refine W.eq (g2 := F0 m 35 ls [.int 0, .int 12, .ref (r 72)]) rfl ?_
  refine va_iast hx hb hK hP hD hS 2 0 rfl rfl vi_12_45 dX12_image_35 (fun H locs hP hD hS => ?_)
  rw [show upd (fun _ => 0) (Int32.toNatClampNeg 12) 0 = (fun _ => 0) from xa_upd0 rfl] at hP hD
  have hP : va_P (dC, dI) classes [(h0, .inr (12, [.ref (r 0), .ref (r 1), .int 0, .int 0, .int 0, .int (-1), .int 0, .int 0, .int 0, .int 0, .long 0, .ref (r 11), .ref (r 12), .ref (r 13), .ref (r 14), .ref (r 15), .ref (r 16), .ref (r 17), .ref (r 18), .ref (r 19), .ref (r 20), .ref (r 21), .ref (r 22), .ref (r 23), .ref (r 24), .ref (r 25), .ref (r 26), .ref (r 27), .ref (r 28), .ref (r 29), .ref (r 30), .ref (r 31), .ref (r 32), .ref (r 33), .int 0, .int 0, .int 0, .int 0, .int 0, .int 0, .int 0, .ref (r 41), .ref (r 42), .ref (r 43), .ref (r 44), .int 0, .int 0, .int 0, .ref (r 48), .int 0, .int 0, .ref (r 51), .ref (r 52), .ref (r 53), .ref (r 54), .int 0, .ref (r 56), .ref (r 57), .ref (r 58), .int 0, .ref (r 60), .ref (r 61), .ref (r 62), .ref (r 63), .ref (r 64), .ref (r 65), .ref (r 66), .ref (r 67), .ref (r 68), .int 0, .int 0, .int 0, .ref (r 72), .ref (r 73)])), (r 41, .inl (cy 0, 15, .inl (fun _ => 0))), (r 72, .inl (cy 0, 45, .inl (fun _ => 0))), (r 73, .inl (cy 3, 3, .inl (fun _ => 0)))] H := hP
  have hD : va_D A [(h0, .inr (12, [.ref (r 0), .ref (r 1), .int 0, .int 0, .int 0, .int (-1), .int 0, .int 0, .int 0, .int 0, .long 0, .ref (r 11), .ref (r 12), .ref (r 13), .ref (r 14), .ref (r 15), .ref (r 16), .ref (r 17), .ref (r 18), .ref (r 19), .ref (r 20), .ref (r 21), .ref (r 22), .ref (r 23), .ref (r 24), .ref (r 25), .ref (r 26), .ref (r 27), .ref (r 28), .ref (r 29), .ref (r 30), .ref (r 31), .ref (r 32), .ref (r 33), .int 0, .int 0, .int 0, .int 0, .int 0, .int 0, .int 0, .ref (r 41), .ref (r 42), .ref (r 43), .ref (r 44), .int 0, .int 0, .int 0, .ref (r 48), .int 0, .int 0, .ref (r 51), .ref (r 52), .ref (r 53), .ref (r 54), .int 0, .ref (r 56), .ref (r 57), .ref (r 58), .int 0, .ref (r 60), .ref (r 61), .ref (r 62), .ref (r 63), .ref (r 64), .ref (r 65), .ref (r 66), .ref (r 67), .ref (r 68), .int 0, .int 0, .int 0, .ref (r 72), .ref (r 73)])), (r 41, .inl (cy 0, 15, .inl (fun _ => 0))), (r 72, .inl (cy 0, 45, .inl (fun _ => 0))), (r 73, .inl (cy 3, 3, .inl (fun _ => 0)))] := hD
  refine lv_iinc (v := 13) (lv' := [(2, .int 13), (0, .ref h0), (1, .int 0)]) hx hb dX12_image_36 hl (k := 0) rfl (by decide +kernel) (by decide) rfl (fun ls hl => ?_)
  refine lv_goto (tgt := 13) hx hb dX12_image_39 (by decide) ?_
  refine lv_iload_n hx hb dX12_image_13 rfl (lv_at hl 0 rfl) ?_
  refine lv_bipush (v := 15) hx hb dX12_image_14 (by decide +kernel) ?_
  refine lv_icmp_ge (tgt := 42) hx hb dX12_image_16 (by decide) (fun c_ => absurd c_ (by decide +kernel)) (fun _ => ?_)
  refine lv_aload_n hx hb dX12_image_19 rfl (lv_at hl 1 rfl) ?_
  refine va_get (D := (dC, dI)) (ci := 12) (v := .ref (r 72)) (C := RX12) (T := TX12) (N := 74) hx hb hts inlX12 hown hK hP 0 rfl rfl 72 (by decide) (hts _ m_265) (fun _ h9 => h9) rfl dX12_image_20 ?_
  refine lv_bipush (v := 15) hx hb dX12_image_23 (by decide +kernel) ?_
  refine lv_iload_n hx hb dX12_image_25 rfl (lv_at hl 2 rfl) ?_
  refine lv_imul hx hb dX12_image_26 ?_
  refine lv_topi (fun z_28 ez_28 => ?_)
  obtain rfl : z_28 = 0 := ez_28.trans (by decide +kernel)
  refine lv_iload_n hx hb dX12_image_27 rfl (lv_at hl 0 rfl) ?_
  refine lv_iadd hx hb dX12_image_28 ?_
  refine lv_topi (fun z_29 ez_29 => ?_)
  obtain rfl : z_29 = 13 := ez_29.trans (by decide +kernel)
  refine lv_aload_n hx hb dX12_image_29 rfl (lv_at hl 1 rfl) ?_
  refine va_get (D := (dC, dI)) (ci := 12) (v := .ref (r 41)) (C := RX12) (T := TX12) (N := 74) hx hb hts inlX12 hown hK hP 0 rfl rfl 41 (by decide) (hts _ m_244) (fun _ h9 => h9) rfl dX12_image_30 ?_
  refine lv_iload_n hx hb dX12_image_33 rfl (lv_at hl 0 rfl) ?_
  refine va_iald hx hb hK hP 1 0 rfl rfl vi_13_15 dX12_image_34 ?_
  refine W.eq (g2 := F0 m 35 ls [.int 0, .int 13, .ref (r 72)]) rfl ?_
  refine va_iast hx hb hK hP hD hS 2 0 rfl rfl vi_13_45 dX12_image_35 (fun H locs hP hD hS => ?_)
  rw [show upd (fun _ => 0) (Int32.toNatClampNeg 13) 0 = (fun _ => 0) from xa_upd0 rfl] at hP hD
  have hP : va_P (dC, dI) classes [(h0, .inr (12, [.ref (r 0), .ref (r 1), .int 0, .int 0, .int 0, .int (-1), .int 0, .int 0, .int 0, .int 0, .long 0, .ref (r 11), .ref (r 12), .ref (r 13), .ref (r 14), .ref (r 15), .ref (r 16), .ref (r 17), .ref (r 18), .ref (r 19), .ref (r 20), .ref (r 21), .ref (r 22), .ref (r 23), .ref (r 24), .ref (r 25), .ref (r 26), .ref (r 27), .ref (r 28), .ref (r 29), .ref (r 30), .ref (r 31), .ref (r 32), .ref (r 33), .int 0, .int 0, .int 0, .int 0, .int 0, .int 0, .int 0, .ref (r 41), .ref (r 42), .ref (r 43), .ref (r 44), .int 0, .int 0, .int 0, .ref (r 48), .int 0, .int 0, .ref (r 51), .ref (r 52), .ref (r 53), .ref (r 54), .int 0, .ref (r 56), .ref (r 57), .ref (r 58), .int 0, .ref (r 60), .ref (r 61), .ref (r 62), .ref (r 63), .ref (r 64), .ref (r 65), .ref (r 66), .ref (r 67), .ref (r 68), .int 0, .int 0, .int 0, .ref (r 72), .ref (r 73)])), (r 41, .inl (cy 0, 15, .inl (fun _ => 0))), (r 72, .inl (cy 0, 45, .inl (fun _ => 0))), (r 73, .inl (cy 3, 3, .inl (fun _ => 0)))] H := hP
  have hD : va_D A [(h0, .inr (12, [.ref (r 0), .ref (r 1), .int 0, .int 0, .int 0, .int (-1), .int 0, .int 0, .int 0, .int 0, .long 0, .ref (r 11), .ref (r 12), .ref (r 13), .ref (r 14), .ref (r 15), .ref (r 16), .ref (r 17), .ref (r 18), .ref (r 19), .ref (r 20), .ref (r 21), .ref (r 22), .ref (r 23), .ref (r 24), .ref (r 25), .ref (r 26), .ref (r 27), .ref (r 28), .ref (r 29), .ref (r 30), .ref (r 31), .ref (r 32), .ref (r 33), .int 0, .int 0, .int 0, .int 0, .int 0, .int 0, .int 0, .ref (r 41), .ref (r 42), .ref (r 43), .ref (r 44), .int 0, .int 0, .int 0, .ref (r 48), .int 0, .int 0, .ref (r 51), .ref (r 52), .ref (r 53), .ref (r 54), .int 0, .ref (r 56), .ref (r 57), .ref (r 58), .int 0, .ref (r 60), .ref (r 61), .ref (r 62), .ref (r 63), .ref (r 64), .ref (r 65), .ref (r 66), .ref (r 67), .ref (r 68), .int 0, .int 0, .int 0, .ref (r 72), .ref (r 73)])), (r 41, .inl (cy 0, 15, .inl (fun _ => 0))), (r 72, .inl (cy 0, 45, .inl (fun _ => 0))), (r 73, .inl (cy 3, 3, .inl (fun _ => 0)))] := hD
  refine lv_iinc (v := 14) (lv' := [(2, .int 14), (0, .ref h0), (1, .int 0)]) hx hb dX12_image_36 hl (k := 0) rfl (by decide +kernel) (by decide) rfl (fun ls hl => ?_)
  refine lv_goto (tgt := 13) hx hb dX12_image_39 (by decide) ?_
  refine lv_iload_n hx hb dX12_image_13 rfl (lv_at hl 0 rfl) ?_
  refine lv_bipush (v := 15) hx hb dX12_image_14 (by decide +kernel) ?_
  refine lv_icmp_ge (tgt := 42) hx hb dX12_image_16 (by decide) (fun c_ => absurd c_ (by decide +kernel)) (fun _ => ?_)
  refine lv_aload_n hx hb dX12_image_19 rfl (lv_at hl 1 rfl) ?_
  refine va_get (D := (dC, dI)) (ci := 12) (v := .ref (r 72)) (C := RX12) (T := TX12) (N := 74) hx hb hts inlX12 hown hK hP 0 rfl rfl 72 (by decide) (hts _ m_265) (fun _ h9 => h9) rfl dX12_image_20 ?_
  refine lv_bipush (v := 15) hx hb dX12_image_23 (by decide +kernel) ?_
  refine lv_iload_n hx hb dX12_image_25 rfl (lv_at hl 2 rfl) ?_
  refine lv_imul hx hb dX12_image_26 ?_
  refine lv_topi (fun z_30 ez_30 => ?_)
  obtain rfl : z_30 = 0 := ez_30.trans (by decide +kernel)
  refine lv_iload_n hx hb dX12_image_27 rfl (lv_at hl 0 rfl) ?_
  refine lv_iadd hx hb dX12_image_28 ?_
  refine lv_topi (fun z_31 ez_31 => ?_)
  obtain rfl : z_31 = 14 := ez_31.trans (by decide +kernel)
  refine lv_aload_n hx hb dX12_image_29 rfl (lv_at hl 1 rfl) ?_
  refine va_get (D := (dC, dI)) (ci := 12) (v := .ref (r 41)) (C := RX12) (T := TX12) (N := 74) hx hb hts inlX12 hown hK hP 0 rfl rfl 41 (by decide) (hts _ m_244) (fun _ h9 => h9) rfl dX12_image_30 ?_
  refine lv_iload_n hx hb dX12_image_33 rfl (lv_at hl 0 rfl) ?_
  refine va_iald hx hb hK hP 1 0 rfl rfl vi_14_15 dX12_image_34 ?_
  refine W.eq (g2 := F0 m 35 ls [.int 0, .int 14, .ref (r 72)]) rfl ?_
  refine va_iast hx hb hK hP hD hS 2 0 rfl rfl vi_14_45 dX12_image_35 (fun H locs hP hD hS => ?_)
  rw [show upd (fun _ => 0) (Int32.toNatClampNeg 14) 0 = (fun _ => 0) from xa_upd0 rfl] at hP hD
  have hP : va_P (dC, dI) classes [(h0, .inr (12, [.ref (r 0), .ref (r 1), .int 0, .int 0, .int 0, .int (-1), .int 0, .int 0, .int 0, .int 0, .long 0, .ref (r 11), .ref (r 12), .ref (r 13), .ref (r 14), .ref (r 15), .ref (r 16), .ref (r 17), .ref (r 18), .ref (r 19), .ref (r 20), .ref (r 21), .ref (r 22), .ref (r 23), .ref (r 24), .ref (r 25), .ref (r 26), .ref (r 27), .ref (r 28), .ref (r 29), .ref (r 30), .ref (r 31), .ref (r 32), .ref (r 33), .int 0, .int 0, .int 0, .int 0, .int 0, .int 0, .int 0, .ref (r 41), .ref (r 42), .ref (r 43), .ref (r 44), .int 0, .int 0, .int 0, .ref (r 48), .int 0, .int 0, .ref (r 51), .ref (r 52), .ref (r 53), .ref (r 54), .int 0, .ref (r 56), .ref (r 57), .ref (r 58), .int 0, .ref (r 60), .ref (r 61), .ref (r 62), .ref (r 63), .ref (r 64), .ref (r 65), .ref (r 66), .ref (r 67), .ref (r 68), .int 0, .int 0, .int 0, .ref (r 72), .ref (r 73)])), (r 41, .inl (cy 0, 15, .inl (fun _ => 0))), (r 72, .inl (cy 0, 45, .inl (fun _ => 0))), (r 73, .inl (cy 3, 3, .inl (fun _ => 0)))] H := hP
  have hD : va_D A [(h0, .inr (12, [.ref (r 0), .ref (r 1), .int 0, .int 0, .int 0, .int (-1), .int 0, .int 0, .int 0, .int 0, .long 0, .ref (r 11), .ref (r 12), .ref (r 13), .ref (r 14), .ref (r 15), .ref (r 16), .ref (r 17), .ref (r 18), .ref (r 19), .ref (r 20), .ref (r 21), .ref (r 22), .ref (r 23), .ref (r 24), .ref (r 25), .ref (r 26), .ref (r 27), .ref (r 28), .ref (r 29), .ref (r 30), .ref (r 31), .ref (r 32), .ref (r 33), .int 0, .int 0, .int 0, .int 0, .int 0, .int 0, .int 0, .ref (r 41), .ref (r 42), .ref (r 43), .ref (r 44), .int 0, .int 0, .int 0, .ref (r 48), .int 0, .int 0, .ref (r 51), .ref (r 52), .ref (r 53), .ref (r 54), .int 0, .ref (r 56), .ref (r 57), .ref (r 58), .int 0, .ref (r 60), .ref (r 61), .ref (r 62), .ref (r 63), .ref (r 64), .ref (r 65), .ref (r 66), .ref (r 67), .ref (r 68), .int 0, .int 0, .int 0, .ref (r 72), .ref (r 73)])), (r 41, .inl (cy 0, 15, .inl (fun _ => 0))), (r 72, .inl (cy 0, 45, .inl (fun _ => 0))), (r 73, .inl (cy 3, 3, .inl (fun _ => 0)))] := hD
  refine lv_iinc (v := 15) (lv' := [(2, .int 15), (0, .ref h0), (1, .int 0)]) hx hb dX12_image_36 hl (k := 0) rfl (by decide +kernel) (by decide) rfl (fun ls hl => ?_)
  refine lv_goto (tgt := 13) hx hb dX12_image_39 (by decide) ?_
  refine lv_iload_n hx hb dX12_image_13 rfl (lv_at hl 0 rfl) ?_
  refine lv_bipush (v := 15) hx hb dX12_image_14 (by decide +kernel) ?_
  refine lv_icmp_ge (tgt := 42) hx hb dX12_image_16 (by decide) (fun _ => ?_) (fun c_ => absurd (by decide +kernel) c_)
  refine lv_aload_n hx hb dX12_image_42 rfl (lv_at hl 1 rfl) ?_
  refine va_get (D := (dC, dI)) (ci := 12) (v := .ref (r 73)) (C := RX12) (T := TX12) (N := 74) hx hb hts inlX12 hown hK hP 0 rfl rfl 73 (by decide) (hts _ m_266) (fun _ h9 => h9) rfl dX12_image_43 ?_
  refine lv_iload_n hx hb dX12_image_46 rfl (lv_at hl 2 rfl) ?_
  refine lv_iconst (v := 1) hx hb dX12_image_47 (by decide +kernel) ?_
  refine va_zast hx hb hK hP hD hS 3 3 rfl rfl vi_0_3 dX12_image_48 (fun H locs hP hD hS => ?_)
  generalize upd (fun _ => 0) (Int32.toNatClampNeg 0) (vp_nar .boolean 1) = f_32 at hP hD
  have hP : va_P (dC, dI) classes [(h0, .inr (12, [.ref (r 0), .ref (r 1), .int 0, .int 0, .int 0, .int (-1), .int 0, .int 0, .int 0, .int 0, .long 0, .ref (r 11), .ref (r 12), .ref (r 13), .ref (r 14), .ref (r 15), .ref (r 16), .ref (r 17), .ref (r 18), .ref (r 19), .ref (r 20), .ref (r 21), .ref (r 22), .ref (r 23), .ref (r 24), .ref (r 25), .ref (r 26), .ref (r 27), .ref (r 28), .ref (r 29), .ref (r 30), .ref (r 31), .ref (r 32), .ref (r 33), .int 0, .int 0, .int 0, .int 0, .int 0, .int 0, .int 0, .ref (r 41), .ref (r 42), .ref (r 43), .ref (r 44), .int 0, .int 0, .int 0, .ref (r 48), .int 0, .int 0, .ref (r 51), .ref (r 52), .ref (r 53), .ref (r 54), .int 0, .ref (r 56), .ref (r 57), .ref (r 58), .int 0, .ref (r 60), .ref (r 61), .ref (r 62), .ref (r 63), .ref (r 64), .ref (r 65), .ref (r 66), .ref (r 67), .ref (r 68), .int 0, .int 0, .int 0, .ref (r 72), .ref (r 73)])), (r 41, .inl (cy 0, 15, .inl (fun _ => 0))), (r 72, .inl (cy 0, 45, .inl (fun _ => 0))), (r 73, .inl (cy 3, 3, .inl f_32))] H := hP
  have hD : va_D A [(h0, .inr (12, [.ref (r 0), .ref (r 1), .int 0, .int 0, .int 0, .int (-1), .int 0, .int 0, .int 0, .int 0, .long 0, .ref (r 11), .ref (r 12), .ref (r 13), .ref (r 14), .ref (r 15), .ref (r 16), .ref (r 17), .ref (r 18), .ref (r 19), .ref (r 20), .ref (r 21), .ref (r 22), .ref (r 23), .ref (r 24), .ref (r 25), .ref (r 26), .ref (r 27), .ref (r 28), .ref (r 29), .ref (r 30), .ref (r 31), .ref (r 32), .ref (r 33), .int 0, .int 0, .int 0, .int 0, .int 0, .int 0, .int 0, .ref (r 41), .ref (r 42), .ref (r 43), .ref (r 44), .int 0, .int 0, .int 0, .ref (r 48), .int 0, .int 0, .ref (r 51), .ref (r 52), .ref (r 53), .ref (r 54), .int 0, .ref (r 56), .ref (r 57), .ref (r 58), .int 0, .ref (r 60), .ref (r 61), .ref (r 62), .ref (r 63), .ref (r 64), .ref (r 65), .ref (r 66), .ref (r 67), .ref (r 68), .int 0, .int 0, .int 0, .ref (r 72), .ref (r 73)])), (r 41, .inl (cy 0, 15, .inl (fun _ => 0))), (r 72, .inl (cy 0, 45, .inl (fun _ => 0))), (r 73, .inl (cy 3, 3, .inl f_32))] := hD
  refine lv_aload_n hx hb dX12_image_49 rfl (lv_at hl 1 rfl) ?_
  refine va_get (D := (dC, dI)) (ci := 12) (v := .ref (r 41)) (C := RX12) (T := TX12) (N := 74) hx hb hts inlX12 hown hK hP 0 rfl rfl 41 (by decide) (hts _ m_244) (fun _ h9 => h9) rfl dX12_image_50 ?_
  refine lv_bipush (v := 13) hx hb dX12_image_53 (by decide +kernel) ?_
  refine va_iald hx hb hK hP 1 0 rfl rfl vi_13_15 dX12_image_55 ?_
  refine W.eq (g2 := F0 m 56 ls [.int 0]) rfl ?_
  exact W.iret (v := 0) hx hb hr (fun t ht hW => ⟨⟨0, (), rfl, rfl, trivial⟩, hS.F ht⟩) hS.2.2 dX12_image_56
set_option maxHeartbeats 4000000 in
set_option maxRecDepth 100000 in
theorem kX12_isIn_10 (l : Launch) (dC : Nat → ClassId) (dI : Nat → Nat → Nat) (cy : Nat → ClassId) : Met l yX12_isIn wmX12_isIn ({ frames := 0, cells := 0, slots := 0, locals := 0 }) (va_Pc [.int 1, .int 0, .int 2] (fun U => va_P (dC, dI) classes [] U.heap ∧ EV dC dI cy U)) (vp_Si (fun r_ => r_ = 1)) 0 0 (fun _ => False) := by
  refine Met.ofW (cc := cX12_isIn) (maxL := 3) (ret := (some .boolean)) (by decide +kernel) rfl ?_
  intro p e s m args below meth c s₁ B hml hv
  obtain ⟨rfl, hP, hE⟩ := hv
  have hK := hE.1
  have hN := hE.2.1
  have hx := B.exec
  have hb := B.bytes
  have hr := B.returns
  have hts0 := atoms_spec (ws := wmX12_isIn) B.pre
  have hts : ∀ w ∈ wsL_law, w.before _ s = true := fun w h => hts0 w (List.mem_cons_of_mem _ h)
  have hown : s.vm.findClass RX12 = some m.cls := findClass_of_methodNamed B.named
  have hlocks := B.notSynchronized
  have hl := lv_entry ([.int 1, .int 0, .int 2]) (n := 3) (Nat.le_of_ble_eq_true rfl)
  rw [lg_entry_eq]
  generalize (lg_sl ([.int 1, .int 0, .int 2]) ++ List.replicate (3 - (lg_sl ([.int 1, .int 0, .int 2])).length) Slot.unset).toArray = ls at hl ⊢
  have hl : lv_has ls 3 [(0, .int 1), (1, .int 0), (2, .int 2)] := hl
  refine lv_iload_n hx hb dX12_isIn_0 rfl (lv_at hl 0 rfl) ?_
  refine lv_iload_n hx hb dX12_isIn_1 rfl (lv_at hl 1 rfl) ?_
  refine lv_icmp_lt (tgt := 14) hx hb dX12_isIn_2 (by decide) (fun c_ => absurd c_ (by decide +kernel)) (fun _ => ?_)
  refine lv_iload_n hx hb dX12_isIn_5 rfl (lv_at hl 0 rfl) ?_
  refine lv_iload_n hx hb dX12_isIn_6 rfl (lv_at hl 2 rfl) ?_
  refine lv_icmp_gt (tgt := 14) hx hb dX12_isIn_7 (by decide) (fun c_ => absurd c_ (by decide +kernel)) (fun _ => ?_)
  refine lv_iconst (v := 1) hx hb dX12_isIn_10 (by decide +kernel) ?_
  refine lv_goto (tgt := 15) hx hb dX12_isIn_11 (by decide) ?_
  exact W.zret (v := 1) hx hb hr (by decide +kernel) (fun t ht hW => ⟨1, rfl, rfl, ht⟩) (fun _ h_ => (List.not_mem_nil h_).elim) dX12_isIn_15
set_option maxHeartbeats 4000000 in
set_option maxRecDepth 100000 in
theorem kX12_image_3 (l : Launch) (dC : Nat → ClassId) (dI : Nat → Nat → Nat) (cy : Nat → ClassId) (h0 : Nat) (r : Nat → Nat) (sz : Nat) : Met l yX12_image wmX12_image ({ frames := 1, cells := 0, slots := 0, locals := 22 }) (va_Pc [.ref h0, .int 1] (fun U => U.heap.size = sz ∧ va_P (dC, dI) classes [(h0, .inr (12, [.ref (r 0), .ref (r 1), .int 0, .int 0, .int 0, .int (-1), .int 0, .int 0, .int 0, .int 0, .long 0, .ref (r 11), .ref (r 12), .ref (r 13), .ref (r 14), .ref (r 15), .ref (r 16), .ref (r 17), .ref (r 18), .ref (r 19), .ref (r 20), .ref (r 21), .ref (r 22), .ref (r 23), .ref (r 24), .ref (r 25), .ref (r 26), .ref (r 27), .ref (r 28), .ref (r 29), .ref (r 30), .ref (r 31), .ref (r 32), .ref (r 33), .int 0, .int 0, .int 0, .int 0, .int 0, .int 0, .int 0, .ref (r 41), .ref (r 42), .ref (r 43), .ref (r 44), .int 0, .int 0, .int 0, .ref (r 48), .int 0, .int 0, .ref (r 51), .ref (r 52), .ref (r 53), .ref (r 54), .int 0, .ref (r 56), .ref (r 57), .ref (r 58), .int 0, .ref (r 60), .ref (r 61), .ref (r 62), .ref (r 63), .ref (r 64), .ref (r 65), .ref (r 66), .ref (r 67), .ref (r 68), .int 0, .int 0, .int 0, .ref (r 72), .ref (r 73)])), (r 41, .inl (cy 0, 15, .inl (fun _ => 0))), (r 72, .inl (cy 0, 45, .inl (fun _ => 0))), (r 73, .inl (cy 3, 3, .inl (fun _ => 0)))] U.heap ∧ EV dC dI cy U ∧ va_D (fun _ => True) [(h0, .inr (12, [.ref (r 0), .ref (r 1), .int 0, .int 0, .int 0, .int (-1), .int 0, .int 0, .int 0, .int 0, .long 0, .ref (r 11), .ref (r 12), .ref (r 13), .ref (r 14), .ref (r 15), .ref (r 16), .ref (r 17), .ref (r 18), .ref (r 19), .ref (r 20), .ref (r 21), .ref (r 22), .ref (r 23), .ref (r 24), .ref (r 25), .ref (r 26), .ref (r 27), .ref (r 28), .ref (r 29), .ref (r 30), .ref (r 31), .ref (r 32), .ref (r 33), .int 0, .int 0, .int 0, .int 0, .int 0, .int 0, .int 0, .ref (r 41), .ref (r 42), .ref (r 43), .ref (r 44), .int 0, .int 0, .int 0, .ref (r 48), .int 0, .int 0, .ref (r 51), .ref (r 52), .ref (r 53), .ref (r 54), .int 0, .ref (r 56), .ref (r 57), .ref (r 58), .int 0, .ref (r 60), .ref (r 61), .ref (r 62), .ref (r 63), .ref (r 64), .ref (r 65), .ref (r 66), .ref (r 67), .ref (r 68), .int 0, .int 0, .int 0, .ref (r 72), .ref (r 73)])), (r 41, .inl (cy 0, 15, .inl (fun _ => 0))), (r 72, .inl (cy 0, 45, .inl (fun _ => 0))), (r 73, .inl (cy 3, 3, .inl (fun _ => 0)))])) (va_Qi (S := Unit) (fun r_ _ => r_ = 0) (fun _ _ => True) (va_A [(h0, .inr (12, [.ref (r 0), .ref (r 1), .int 0, .int 0, .int 0, .int (-1), .int 0, .int 0, .int 0, .int 0, .long 0, .ref (r 11), .ref (r 12), .ref (r 13), .ref (r 14), .ref (r 15), .ref (r 16), .ref (r 17), .ref (r 18), .ref (r 19), .ref (r 20), .ref (r 21), .ref (r 22), .ref (r 23), .ref (r 24), .ref (r 25), .ref (r 26), .ref (r 27), .ref (r 28), .ref (r 29), .ref (r 30), .ref (r 31), .ref (r 32), .ref (r 33), .int 0, .int 0, .int 0, .int 0, .int 0, .int 0, .int 0, .ref (r 41), .ref (r 42), .ref (r 43), .ref (r 44), .int 0, .int 0, .int 0, .ref (r 48), .int 0, .int 0, .ref (r 51), .ref (r 52), .ref (r 53), .ref (r 54), .int 0, .ref (r 56), .ref (r 57), .ref (r 58), .int 0, .ref (r 60), .ref (r 61), .ref (r 62), .ref (r 63), .ref (r 64), .ref (r 65), .ref (r 66), .ref (r 67), .ref (r 68), .int 0, .int 0, .int 0, .ref (r 72), .ref (r 73)])), (r 41, .inl (cy 0, 15, .inl (fun _ => 0))), (r 72, .inl (cy 0, 45, .inl (fun _ => 0))), (r 73, .inl (cy 3, 3, .inl (fun _ => 0)))] sz)) 0 0 (va_A [(h0, .inr (12, [.ref (r 0), .ref (r 1), .int 0, .int 0, .int 0, .int (-1), .int 0, .int 0, .int 0, .int 0, .long 0, .ref (r 11), .ref (r 12), .ref (r 13), .ref (r 14), .ref (r 15), .ref (r 16), .ref (r 17), .ref (r 18), .ref (r 19), .ref (r 20), .ref (r 21), .ref (r 22), .ref (r 23), .ref (r 24), .ref (r 25), .ref (r 26), .ref (r 27), .ref (r 28), .ref (r 29), .ref (r 30), .ref (r 31), .ref (r 32), .ref (r 33), .int 0, .int 0, .int 0, .int 0, .int 0, .int 0, .int 0, .ref (r 41), .ref (r 42), .ref (r 43), .ref (r 44), .int 0, .int 0, .int 0, .ref (r 48), .int 0, .int 0, .ref (r 51), .ref (r 52), .ref (r 53), .ref (r 54), .int 0, .ref (r 56), .ref (r 57), .ref (r 58), .int 0, .ref (r 60), .ref (r 61), .ref (r 62), .ref (r 63), .ref (r 64), .ref (r 65), .ref (r 66), .ref (r 67), .ref (r 68), .int 0, .int 0, .int 0, .ref (r 72), .ref (r 73)])), (r 41, .inl (cy 0, 15, .inl (fun _ => 0))), (r 72, .inl (cy 0, 45, .inl (fun _ => 0))), (r 73, .inl (cy 3, 3, .inl (fun _ => 0)))] sz) := by
  refine Met.ofW (cc := cX12_image) (maxL := 3) (ret := (some .int)) (by decide +kernel) rfl ?_
  intro p e s m args below meth c s₁ B hml hv
  obtain ⟨rfl, hsz, hP, hE, hD0⟩ := hv
  have hK := hE.1
  have hN := hE.2.1
  have hx := B.exec
  have hb := B.bytes
  have hr := B.returns
  have hts0 := atoms_spec (ws := wmX12_image) B.pre
  have hts : ∀ w ∈ wsL_law, w.before _ s = true := fun w h => hts0 w (List.mem_cons_of_mem _ h)
  have hown : s.vm.findClass RX12 = some m.cls := findClass_of_methodNamed B.named
  have hlocks := B.notSynchronized
  subst hsz
  have hD := hD0.self (sz := s.heap.size)
  generalize hAe : va_A [(h0, .inr (12, [.ref (r 0), .ref (r 1), .int 0, .int 0, .int 0, .int (-1), .int 0, .int 0, .int 0, .int 0, .long 0, .ref (r 11), .ref (r 12), .ref (r 13), .ref (r 14), .ref (r 15), .ref (r 16), .ref (r 17), .ref (r 18), .ref (r 19), .ref (r 20), .ref (r 21), .ref (r 22), .ref (r 23), .ref (r 24), .ref (r 25), .ref (r 26), .ref (r 27), .ref (r 28), .ref (r 29), .ref (r 30), .ref (r 31), .ref (r 32), .ref (r 33), .int 0, .int 0, .int 0, .int 0, .int 0, .int 0, .int 0, .ref (r 41), .ref (r 42), .ref (r 43), .ref (r 44), .int 0, .int 0, .int 0, .ref (r 48), .int 0, .int 0, .ref (r 51), .ref (r 52), .ref (r 53), .ref (r 54), .int 0, .ref (r 56), .ref (r 57), .ref (r 58), .int 0, .ref (r 60), .ref (r 61), .ref (r 62), .ref (r 63), .ref (r 64), .ref (r 65), .ref (r 66), .ref (r 67), .ref (r 68), .int 0, .int 0, .int 0, .ref (r 72), .ref (r 73)])), (r 41, .inl (cy 0, 15, .inl (fun _ => 0))), (r 72, .inl (cy 0, 45, .inl (fun _ => 0))), (r 73, .inl (cy 3, 3, .inl (fun _ => 0)))] s.heap.size = A at hD ⊢
  have hA : ∀ q : Nat, s.heap.size ≤ q → A q := fun q h => by rw [← hAe]; exact Or.inr h
  have hS : va_S A s.heap s.heap [] := va_S.rf
  have hP : va_P (dC, dI) classes [(h0, .inr (12, [.ref (r 0), .ref (r 1), .int 0, .int 0, .int 0, .int (-1), .int 0, .int 0, .int 0, .int 0, .long 0, .ref (r 11), .ref (r 12), .ref (r 13), .ref (r 14), .ref (r 15), .ref (r 16), .ref (r 17), .ref (r 18), .ref (r 19), .ref (r 20), .ref (r 21), .ref (r 22), .ref (r 23), .ref (r 24), .ref (r 25), .ref (r 26), .ref (r 27), .ref (r 28), .ref (r 29), .ref (r 30), .ref (r 31), .ref (r 32), .ref (r 33), .int 0, .int 0, .int 0, .int 0, .int 0, .int 0, .int 0, .ref (r 41), .ref (r 42), .ref (r 43), .ref (r 44), .int 0, .int 0, .int 0, .ref (r 48), .int 0, .int 0, .ref (r 51), .ref (r 52), .ref (r 53), .ref (r 54), .int 0, .ref (r 56), .ref (r 57), .ref (r 58), .int 0, .ref (r 60), .ref (r 61), .ref (r 62), .ref (r 63), .ref (r 64), .ref (r 65), .ref (r 66), .ref (r 67), .ref (r 68), .int 0, .int 0, .int 0, .ref (r 72), .ref (r 73)])), (r 41, .inl (cy 0, 15, .inl (fun _ => 0))), (r 72, .inl (cy 0, 45, .inl (fun _ => 0))), (r 73, .inl (cy 3, 3, .inl (fun _ => 0)))] s.heap := hP
  have hl := lv_entry ([.ref h0, .int 1]) (n := 3) (Nat.le_of_ble_eq_true rfl)
  rw [lg_entry_eq]
  generalize (lg_sl ([.ref h0, .int 1]) ++ List.replicate (3 - (lg_sl ([.ref h0, .int 1])).length) Slot.unset).toArray = ls at hl ⊢
  have hl : lv_has ls 3 [(0, .ref h0), (1, .int 1)] := hl
  refine lv_iload_n hx hb dX12_image_0 rfl (lv_at hl 1 rfl) ?_
  refine lv_iconst (v := 0) hx hb dX12_image_1 (by decide +kernel) ?_
  refine lv_iconst (v := 2) hx hb dX12_image_2 (by decide +kernel) ?_
  have hPc := hP.sub (ws' := []) [] rfl
  refine vp_callSi (W.runS (As := [.int 1, .int 0, .int 2]) (rest := []) ⟨hx, hb, hml, hown, hts⟩ (kX12_isIn_10 l dC dI cy) (va_cwS 3 hts (gdS m_775 m_776 m_5 m_777) rfl rfl rfl (by decide +kernel) ⟨Nat.le_of_ble_eq_true rfl, Nat.le_of_ble_eq_true rfl⟩) ⟨fun a U g mk q => by obtain ⟨q0, qP, qE⟩ := q; exact ⟨q0, qP, qE.call⟩, fun U hU hW => ⟨rfl, by rw [hU]; exact hPc, hE.moved hW⟩⟩ rfl rfl hl.1 rfl (lv_room (Nat.le_of_ble_eq_true rfl)) dX12_image_3 ⟨(show 0 + 0 ≤ 0 from by decide +kernel), (show 0 + 0 ≤ 0 from by decide +kernel)⟩) (fun r_1 hw => ?_)
  subst r_1
  refine lv_if_ne (tgt := 11) hx hb dX12_image_6 (by decide) (fun _ => ?_) (fun c_ => absurd c_ (by decide +kernel))
  refine lv_iconst (v := 0) hx hb dX12_image_11 (by decide +kernel) ?_
  refine lv_istore_n (lv' := [(2, .int 0), (0, .ref h0), (1, .int 1)]) hx hb dX12_image_12 rfl hl (by decide) rfl (fun ls hl => ?_)
  refine lv_iload_n hx hb dX12_image_13 rfl (lv_at hl 0 rfl) ?_
  refine lv_bipush (v := 15) hx hb dX12_image_14 (by decide +kernel) ?_
  refine lv_icmp_ge (tgt := 42) hx hb dX12_image_16 (by decide) (fun c_ => absurd c_ (by decide +kernel)) (fun _ => ?_)
  refine lv_aload_n hx hb dX12_image_19 rfl (lv_at hl 1 rfl) ?_
  refine va_get (D := (dC, dI)) (ci := 12) (v := .ref (r 72)) (C := RX12) (T := TX12) (N := 74) hx hb hts inlX12 hown hK hP 0 rfl rfl 72 (by decide) (hts _ m_265) (fun _ h9 => h9) rfl dX12_image_20 ?_
  refine lv_bipush (v := 15) hx hb dX12_image_23 (by decide +kernel) ?_
  refine lv_iload_n hx hb dX12_image_25 rfl (lv_at hl 2 rfl) ?_
  refine lv_imul hx hb dX12_image_26 ?_
  refine lv_topi (fun z_2 ez_2 => ?_)
  obtain rfl : z_2 = 15 := ez_2.trans (by decide +kernel)
  refine lv_iload_n hx hb dX12_image_27 rfl (lv_at hl 0 rfl) ?_
  refine lv_iadd hx hb dX12_image_28 ?_
  refine lv_topi (fun z_3 ez_3 => ?_)
  obtain rfl : z_3 = 15 := ez_3.trans (by decide +kernel)
  refine lv_aload_n hx hb dX12_image_29 rfl (lv_at hl 1 rfl) ?_
  refine va_get (D := (dC, dI)) (ci := 12) (v := .ref (r 41)) (C := RX12) (T := TX12) (N := 74) hx hb hts inlX12 hown hK hP 0 rfl rfl 41 (by decide) (hts _ m_244) (fun _ h9 => h9) rfl dX12_image_30 ?_
  refine lv_iload_n hx hb dX12_image_33 rfl (lv_at hl 0 rfl) ?_
  refine va_iald hx hb hK hP 1 0 rfl rfl vi_0_15 dX12_image_34 ?_
  refine W.eq (g2 := F0 m 35 ls [.int 0, .int 15, .ref (r 72)]) rfl ?_
  refine va_iast hx hb hK hP hD hS 2 0 rfl rfl vi_15_45 dX12_image_35 (fun H locs hP hD hS => ?_)
  rw [show upd (fun _ => 0) (Int32.toNatClampNeg 15) 0 = (fun _ => 0) from xa_upd0 rfl] at hP hD
  have hP : va_P (dC, dI) classes [(h0, .inr (12, [.ref (r 0), .ref (r 1), .int 0, .int 0, .int 0, .int (-1), .int 0, .int 0, .int 0, .int 0, .long 0, .ref (r 11), .ref (r 12), .ref (r 13), .ref (r 14), .ref (r 15), .ref (r 16), .ref (r 17), .ref (r 18), .ref (r 19), .ref (r 20), .ref (r 21), .ref (r 22), .ref (r 23), .ref (r 24), .ref (r 25), .ref (r 26), .ref (r 27), .ref (r 28), .ref (r 29), .ref (r 30), .ref (r 31), .ref (r 32), .ref (r 33), .int 0, .int 0, .int 0, .int 0, .int 0, .int 0, .int 0, .ref (r 41), .ref (r 42), .ref (r 43), .ref (r 44), .int 0, .int 0, .int 0, .ref (r 48), .int 0, .int 0, .ref (r 51), .ref (r 52), .ref (r 53), .ref (r 54), .int 0, .ref (r 56), .ref (r 57), .ref (r 58), .int 0, .ref (r 60), .ref (r 61), .ref (r 62), .ref (r 63), .ref (r 64), .ref (r 65), .ref (r 66), .ref (r 67), .ref (r 68), .int 0, .int 0, .int 0, .ref (r 72), .ref (r 73)])), (r 41, .inl (cy 0, 15, .inl (fun _ => 0))), (r 72, .inl (cy 0, 45, .inl (fun _ => 0))), (r 73, .inl (cy 3, 3, .inl (fun _ => 0)))] H := hP
  have hD : va_D A [(h0, .inr (12, [.ref (r 0), .ref (r 1), .int 0, .int 0, .int 0, .int (-1), .int 0, .int 0, .int 0, .int 0, .long 0, .ref (r 11), .ref (r 12), .ref (r 13), .ref (r 14), .ref (r 15), .ref (r 16), .ref (r 17), .ref (r 18), .ref (r 19), .ref (r 20), .ref (r 21), .ref (r 22), .ref (r 23), .ref (r 24), .ref (r 25), .ref (r 26), .ref (r 27), .ref (r 28), .ref (r 29), .ref (r 30), .ref (r 31), .ref (r 32), .ref (r 33), .int 0, .int 0, .int 0, .int 0, .int 0, .int 0, .int 0, .ref (r 41), .ref (r 42), .ref (r 43), .ref (r 44), .int 0, .int 0, .int 0, .ref (r 48), .int 0, .int 0, .ref (r 51), .ref (r 52), .ref (r 53), .ref (r 54), .int 0, .ref (r 56), .ref (r 57), .ref (r 58), .int 0, .ref (r 60), .ref (r 61), .ref (r 62), .ref (r 63), .ref (r 64), .ref (r 65), .ref (r 66), .ref (r 67), .ref (r 68), .int 0, .int 0, .int 0, .ref (r 72), .ref (r 73)])), (r 41, .inl (cy 0, 15, .inl (fun _ => 0))), (r 72, .inl (cy 0, 45, .inl (fun _ => 0))), (r 73, .inl (cy 3, 3, .inl (fun _ => 0)))] := hD
  refine lv_iinc (v := 1) (lv' := [(2, .int 1), (0, .ref h0), (1, .int 1)]) hx hb dX12_image_36 hl (k := 0) rfl (by decide +kernel) (by decide) rfl (fun ls hl => ?_)
  refine lv_goto (tgt := 13) hx hb dX12_image_39 (by decide) ?_
  refine lv_iload_n hx hb dX12_image_13 rfl (lv_at hl 0 rfl) ?_
  refine lv_bipush (v := 15) hx hb dX12_image_14 (by decide +kernel) ?_
  refine lv_icmp_ge (tgt := 42) hx hb dX12_image_16 (by decide) (fun c_ => absurd c_ (by decide +kernel)) (fun _ => ?_)
  refine lv_aload_n hx hb dX12_image_19 rfl (lv_at hl 1 rfl) ?_
  refine va_get (D := (dC, dI)) (ci := 12) (v := .ref (r 72)) (C := RX12) (T := TX12) (N := 74) hx hb hts inlX12 hown hK hP 0 rfl rfl 72 (by decide) (hts _ m_265) (fun _ h9 => h9) rfl dX12_image_20 ?_
  refine lv_bipush (v := 15) hx hb dX12_image_23 (by decide +kernel) ?_
  refine lv_iload_n hx hb dX12_image_25 rfl (lv_at hl 2 rfl) ?_
  refine lv_imul hx hb dX12_image_26 ?_
  refine lv_topi (fun z_4 ez_4 => ?_)
  obtain rfl : z_4 = 15 := ez_4.trans (by decide +kernel)
  refine lv_iload_n hx hb dX12_image_27 rfl (lv_at hl 0 rfl) ?_
  refine lv_iadd hx hb dX12_image_28 ?_
  refine lv_topi (fun z_5 ez_5 => ?_)
  obtain rfl : z_5 = 16 := ez_5.trans (by decide +kernel)
  refine lv_aload_n hx hb dX12_image_29 rfl (lv_at hl 1 rfl) ?_
  refine va_get (D := (dC, dI)) (ci := 12) (v := .ref (r 41)) (C := RX12) (T := TX12) (N := 74) hx hb hts inlX12 hown hK hP 0 rfl rfl 41 (by decide) (hts _ m_244) (fun _ h9 => h9) rfl dX12_image_30 ?_
  refine lv_iload_n hx hb dX12_image_33 rfl (lv_at hl 0 rfl) ?_
  refine va_iald hx hb hK hP 1 0 rfl rfl vi_1_15 dX12_image_34 ?_
  refine W.eq (g2 := F0 m 35 ls [.int 0, .int 16, .ref (r 72)]) rfl ?_
  refine va_iast hx hb hK hP hD hS 2 0 rfl rfl vi_16_45 dX12_image_35 (fun H locs hP hD hS => ?_)
  rw [show upd (fun _ => 0) (Int32.toNatClampNeg 16) 0 = (fun _ => 0) from xa_upd0 rfl] at hP hD
  have hP : va_P (dC, dI) classes [(h0, .inr (12, [.ref (r 0), .ref (r 1), .int 0, .int 0, .int 0, .int (-1), .int 0, .int 0, .int 0, .int 0, .long 0, .ref (r 11), .ref (r 12), .ref (r 13), .ref (r 14), .ref (r 15), .ref (r 16), .ref (r 17), .ref (r 18), .ref (r 19), .ref (r 20), .ref (r 21), .ref (r 22), .ref (r 23), .ref (r 24), .ref (r 25), .ref (r 26), .ref (r 27), .ref (r 28), .ref (r 29), .ref (r 30), .ref (r 31), .ref (r 32), .ref (r 33), .int 0, .int 0, .int 0, .int 0, .int 0, .int 0, .int 0, .ref (r 41), .ref (r 42), .ref (r 43), .ref (r 44), .int 0, .int 0, .int 0, .ref (r 48), .int 0, .int 0, .ref (r 51), .ref (r 52), .ref (r 53), .ref (r 54), .int 0, .ref (r 56), .ref (r 57), .ref (r 58), .int 0, .ref (r 60), .ref (r 61), .ref (r 62), .ref (r 63), .ref (r 64), .ref (r 65), .ref (r 66), .ref (r 67), .ref (r 68), .int 0, .int 0, .int 0, .ref (r 72), .ref (r 73)])), (r 41, .inl (cy 0, 15, .inl (fun _ => 0))), (r 72, .inl (cy 0, 45, .inl (fun _ => 0))), (r 73, .inl (cy 3, 3, .inl (fun _ => 0)))] H := hP
  have hD : va_D A [(h0, .inr (12, [.ref (r 0), .ref (r 1), .int 0, .int 0, .int 0, .int (-1), .int 0, .int 0, .int 0, .int 0, .long 0, .ref (r 11), .ref (r 12), .ref (r 13), .ref (r 14), .ref (r 15), .ref (r 16), .ref (r 17), .ref (r 18), .ref (r 19), .ref (r 20), .ref (r 21), .ref (r 22), .ref (r 23), .ref (r 24), .ref (r 25), .ref (r 26), .ref (r 27), .ref (r 28), .ref (r 29), .ref (r 30), .ref (r 31), .ref (r 32), .ref (r 33), .int 0, .int 0, .int 0, .int 0, .int 0, .int 0, .int 0, .ref (r 41), .ref (r 42), .ref (r 43), .ref (r 44), .int 0, .int 0, .int 0, .ref (r 48), .int 0, .int 0, .ref (r 51), .ref (r 52), .ref (r 53), .ref (r 54), .int 0, .ref (r 56), .ref (r 57), .ref (r 58), .int 0, .ref (r 60), .ref (r 61), .ref (r 62), .ref (r 63), .ref (r 64), .ref (r 65), .ref (r 66), .ref (r 67), .ref (r 68), .int 0, .int 0, .int 0, .ref (r 72), .ref (r 73)])), (r 41, .inl (cy 0, 15, .inl (fun _ => 0))), (r 72, .inl (cy 0, 45, .inl (fun _ => 0))), (r 73, .inl (cy 3, 3, .inl (fun _ => 0)))] := hD
  refine lv_iinc (v := 2) (lv' := [(2, .int 2), (0, .ref h0), (1, .int 1)]) hx hb dX12_image_36 hl (k := 0) rfl (by decide +kernel) (by decide) rfl (fun ls hl => ?_)
  refine lv_goto (tgt := 13) hx hb dX12_image_39 (by decide) ?_
  refine lv_iload_n hx hb dX12_image_13 rfl (lv_at hl 0 rfl) ?_
  refine lv_bipush (v := 15) hx hb dX12_image_14 (by decide +kernel) ?_
  refine lv_icmp_ge (tgt := 42) hx hb dX12_image_16 (by decide) (fun c_ => absurd c_ (by decide +kernel)) (fun _ => ?_)
  refine lv_aload_n hx hb dX12_image_19 rfl (lv_at hl 1 rfl) ?_
  refine va_get (D := (dC, dI)) (ci := 12) (v := .ref (r 72)) (C := RX12) (T := TX12) (N := 74) hx hb hts inlX12 hown hK hP 0 rfl rfl 72 (by decide) (hts _ m_265) (fun _ h9 => h9) rfl dX12_image_20 ?_
  refine lv_bipush (v := 15) hx hb dX12_image_23 (by decide +kernel) ?_
  refine lv_iload_n hx hb dX12_image_25 rfl (lv_at hl 2 rfl) ?_
  refine lv_imul hx hb dX12_image_26 ?_
  refine lv_topi (fun z_6 ez_6 => ?_)
  obtain rfl : z_6 = 15 := ez_6.trans (by decide +kernel)
  refine lv_iload_n hx hb dX12_image_27 rfl (lv_at hl 0 rfl) ?_
  refine lv_iadd hx hb dX12_image_28 ?_
  refine lv_topi (fun z_7 ez_7 => ?_)
  obtain rfl : z_7 = 17 := ez_7.trans (by decide +kernel)
  refine lv_aload_n hx hb dX12_image_29 rfl (lv_at hl 1 rfl) ?_
  refine va_get (D := (dC, dI)) (ci := 12) (v := .ref (r 41)) (C := RX12) (T := TX12) (N := 74) hx hb hts inlX12 hown hK hP 0 rfl rfl 41 (by decide) (hts _ m_244) (fun _ h9 => h9) rfl dX12_image_30 ?_
  refine lv_iload_n hx hb dX12_image_33 rfl (lv_at hl 0 rfl) ?_
  refine va_iald hx hb hK hP 1 0 rfl rfl vi_2_15 dX12_image_34 ?_
  refine W.eq (g2 := F0 m 35 ls [.int 0, .int 17, .ref (r 72)]) rfl ?_
  refine va_iast hx hb hK hP hD hS 2 0 rfl rfl vi_17_45 dX12_image_35 (fun H locs hP hD hS => ?_)
  rw [show upd (fun _ => 0) (Int32.toNatClampNeg 17) 0 = (fun _ => 0) from xa_upd0 rfl] at hP hD
  have hP : va_P (dC, dI) classes [(h0, .inr (12, [.ref (r 0), .ref (r 1), .int 0, .int 0, .int 0, .int (-1), .int 0, .int 0, .int 0, .int 0, .long 0, .ref (r 11), .ref (r 12), .ref (r 13), .ref (r 14), .ref (r 15), .ref (r 16), .ref (r 17), .ref (r 18), .ref (r 19), .ref (r 20), .ref (r 21), .ref (r 22), .ref (r 23), .ref (r 24), .ref (r 25), .ref (r 26), .ref (r 27), .ref (r 28), .ref (r 29), .ref (r 30), .ref (r 31), .ref (r 32), .ref (r 33), .int 0, .int 0, .int 0, .int 0, .int 0, .int 0, .int 0, .ref (r 41), .ref (r 42), .ref (r 43), .ref (r 44), .int 0, .int 0, .int 0, .ref (r 48), .int 0, .int 0, .ref (r 51), .ref (r 52), .ref (r 53), .ref (r 54), .int 0, .ref (r 56), .ref (r 57), .ref (r 58), .int 0, .ref (r 60), .ref (r 61), .ref (r 62), .ref (r 63), .ref (r 64), .ref (r 65), .ref (r 66), .ref (r 67), .ref (r 68), .int 0, .int 0, .int 0, .ref (r 72), .ref (r 73)])), (r 41, .inl (cy 0, 15, .inl (fun _ => 0))), (r 72, .inl (cy 0, 45, .inl (fun _ => 0))), (r 73, .inl (cy 3, 3, .inl (fun _ => 0)))] H := hP
  have hD : va_D A [(h0, .inr (12, [.ref (r 0), .ref (r 1), .int 0, .int 0, .int 0, .int (-1), .int 0, .int 0, .int 0, .int 0, .long 0, .ref (r 11), .ref (r 12), .ref (r 13), .ref (r 14), .ref (r 15), .ref (r 16), .ref (r 17), .ref (r 18), .ref (r 19), .ref (r 20), .ref (r 21), .ref (r 22), .ref (r 23), .ref (r 24), .ref (r 25), .ref (r 26), .ref (r 27), .ref (r 28), .ref (r 29), .ref (r 30), .ref (r 31), .ref (r 32), .ref (r 33), .int 0, .int 0, .int 0, .int 0, .int 0, .int 0, .int 0, .ref (r 41), .ref (r 42), .ref (r 43), .ref (r 44), .int 0, .int 0, .int 0, .ref (r 48), .int 0, .int 0, .ref (r 51), .ref (r 52), .ref (r 53), .ref (r 54), .int 0, .ref (r 56), .ref (r 57), .ref (r 58), .int 0, .ref (r 60), .ref (r 61), .ref (r 62), .ref (r 63), .ref (r 64), .ref (r 65), .ref (r 66), .ref (r 67), .ref (r 68), .int 0, .int 0, .int 0, .ref (r 72), .ref (r 73)])), (r 41, .inl (cy 0, 15, .inl (fun _ => 0))), (r 72, .inl (cy 0, 45, .inl (fun _ => 0))), (r 73, .inl (cy 3, 3, .inl (fun _ => 0)))] := hD
  refine lv_iinc (v := 3) (lv' := [(2, .int 3), (0, .ref h0), (1, .int 1)]) hx hb dX12_image_36 hl (k := 0) rfl (by decide +kernel) (by decide) rfl (fun ls hl => ?_)
  refine lv_goto (tgt := 13) hx hb dX12_image_39 (by decide) ?_
  refine lv_iload_n hx hb dX12_image_13 rfl (lv_at hl 0 rfl) ?_
  refine lv_bipush (v := 15) hx hb dX12_image_14 (by decide +kernel) ?_
  refine lv_icmp_ge (tgt := 42) hx hb dX12_image_16 (by decide) (fun c_ => absurd c_ (by decide +kernel)) (fun _ => ?_)
  refine lv_aload_n hx hb dX12_image_19 rfl (lv_at hl 1 rfl) ?_
  refine va_get (D := (dC, dI)) (ci := 12) (v := .ref (r 72)) (C := RX12) (T := TX12) (N := 74) hx hb hts inlX12 hown hK hP 0 rfl rfl 72 (by decide) (hts _ m_265) (fun _ h9 => h9) rfl dX12_image_20 ?_
  refine lv_bipush (v := 15) hx hb dX12_image_23 (by decide +kernel) ?_
  refine lv_iload_n hx hb dX12_image_25 rfl (lv_at hl 2 rfl) ?_
  refine lv_imul hx hb dX12_image_26 ?_
  refine lv_topi (fun z_8 ez_8 => ?_)
  obtain rfl : z_8 = 15 := ez_8.trans (by decide +kernel)
  refine lv_iload_n hx hb dX12_image_27 rfl (lv_at hl 0 rfl) ?_
  refine lv_iadd hx hb dX12_image_28 ?_
  refine lv_topi (fun z_9 ez_9 => ?_)
  obtain rfl : z_9 = 18 := ez_9.trans (by decide +kernel)
  refine lv_aload_n hx hb dX12_image_29 rfl (lv_at hl 1 rfl) ?_
  refine va_get (D := (dC, dI)) (ci := 12) (v := .ref (r 41)) (C := RX12) (T := TX12) (N := 74) hx hb hts inlX12 hown hK hP 0 rfl rfl 41 (by decide) (hts _ m_244) (fun _ h9 => h9) rfl dX12_image_30 ?_
  refine lv_iload_n hx hb dX12_image_33 rfl (lv_at hl 0 rfl) ?_
  refine va_iald hx hb hK hP 1 0 rfl rfl vi_3_15 dX12_image_34 ?_
  refine W.eq (g2 := F0 m 35 ls [.int 0, .int 18, .ref (r 72)]) rfl ?_
  refine va_iast hx hb hK hP hD hS 2 0 rfl rfl vi_18_45 dX12_image_35 (fun H locs hP hD hS => ?_)
  rw [show upd (fun _ => 0) (Int32.toNatClampNeg 18) 0 = (fun _ => 0) from xa_upd0 rfl] at hP hD
  have hP : va_P (dC, dI) classes [(h0, .inr (12, [.ref (r 0), .ref (r 1), .int 0, .int 0, .int 0, .int (-1), .int 0, .int 0, .int 0, .int 0, .long 0, .ref (r 11), .ref (r 12), .ref (r 13), .ref (r 14), .ref (r 15), .ref (r 16), .ref (r 17), .ref (r 18), .ref (r 19), .ref (r 20), .ref (r 21), .ref (r 22), .ref (r 23), .ref (r 24), .ref (r 25), .ref (r 26), .ref (r 27), .ref (r 28), .ref (r 29), .ref (r 30), .ref (r 31), .ref (r 32), .ref (r 33), .int 0, .int 0, .int 0, .int 0, .int 0, .int 0, .int 0, .ref (r 41), .ref (r 42), .ref (r 43), .ref (r 44), .int 0, .int 0, .int 0, .ref (r 48), .int 0, .int 0, .ref (r 51), .ref (r 52), .ref (r 53), .ref (r 54), .int 0, .ref (r 56), .ref (r 57), .ref (r 58), .int 0, .ref (r 60), .ref (r 61), .ref (r 62), .ref (r 63), .ref (r 64), .ref (r 65), .ref (r 66), .ref (r 67), .ref (r 68), .int 0, .int 0, .int 0, .ref (r 72), .ref (r 73)])), (r 41, .inl (cy 0, 15, .inl (fun _ => 0))), (r 72, .inl (cy 0, 45, .inl (fun _ => 0))), (r 73, .inl (cy 3, 3, .inl (fun _ => 0)))] H := hP
  have hD : va_D A [(h0, .inr (12, [.ref (r 0), .ref (r 1), .int 0, .int 0, .int 0, .int (-1), .int 0, .int 0, .int 0, .int 0, .long 0, .ref (r 11), .ref (r 12), .ref (r 13), .ref (r 14), .ref (r 15), .ref (r 16), .ref (r 17), .ref (r 18), .ref (r 19), .ref (r 20), .ref (r 21), .ref (r 22), .ref (r 23), .ref (r 24), .ref (r 25), .ref (r 26), .ref (r 27), .ref (r 28), .ref (r 29), .ref (r 30), .ref (r 31), .ref (r 32), .ref (r 33), .int 0, .int 0, .int 0, .int 0, .int 0, .int 0, .int 0, .ref (r 41), .ref (r 42), .ref (r 43), .ref (r 44), .int 0, .int 0, .int 0, .ref (r 48), .int 0, .int 0, .ref (r 51), .ref (r 52), .ref (r 53), .ref (r 54), .int 0, .ref (r 56), .ref (r 57), .ref (r 58), .int 0, .ref (r 60), .ref (r 61), .ref (r 62), .ref (r 63), .ref (r 64), .ref (r 65), .ref (r 66), .ref (r 67), .ref (r 68), .int 0, .int 0, .int 0, .ref (r 72), .ref (r 73)])), (r 41, .inl (cy 0, 15, .inl (fun _ => 0))), (r 72, .inl (cy 0, 45, .inl (fun _ => 0))), (r 73, .inl (cy 3, 3, .inl (fun _ => 0)))] := hD
  refine lv_iinc (v := 4) (lv' := [(2, .int 4), (0, .ref h0), (1, .int 1)]) hx hb dX12_image_36 hl (k := 0) rfl (by decide +kernel) (by decide) rfl (fun ls hl => ?_)
  refine lv_goto (tgt := 13) hx hb dX12_image_39 (by decide) ?_
  refine lv_iload_n hx hb dX12_image_13 rfl (lv_at hl 0 rfl) ?_
  refine lv_bipush (v := 15) hx hb dX12_image_14 (by decide +kernel) ?_
  refine lv_icmp_ge (tgt := 42) hx hb dX12_image_16 (by decide) (fun c_ => absurd c_ (by decide +kernel)) (fun _ => ?_)
  refine lv_aload_n hx hb dX12_image_19 rfl (lv_at hl 1 rfl) ?_
  refine va_get (D := (dC, dI)) (ci := 12) (v := .ref (r 72)) (C := RX12) (T := TX12) (N := 74) hx hb hts inlX12 hown hK hP 0 rfl rfl 72 (by decide) (hts _ m_265) (fun _ h9 => h9) rfl dX12_image_20 ?_
  refine lv_bipush (v := 15) hx hb dX12_image_23 (by decide +kernel) ?_
  refine lv_iload_n hx hb dX12_image_25 rfl (lv_at hl 2 rfl) ?_
  refine lv_imul hx hb dX12_image_26 ?_
  refine lv_topi (fun z_10 ez_10 => ?_)
  obtain rfl : z_10 = 15 := ez_10.trans (by decide +kernel)
  refine lv_iload_n hx hb dX12_image_27 rfl (lv_at hl 0 rfl) ?_
  refine lv_iadd hx hb dX12_image_28 ?_
  refine lv_topi (fun z_11 ez_11 => ?_)
  obtain rfl : z_11 = 19 := ez_11.trans (by decide +kernel)
  refine lv_aload_n hx hb dX12_image_29 rfl (lv_at hl 1 rfl) ?_
  refine va_get (D := (dC, dI)) (ci := 12) (v := .ref (r 41)) (C := RX12) (T := TX12) (N := 74) hx hb hts inlX12 hown hK hP 0 rfl rfl 41 (by decide) (hts _ m_244) (fun _ h9 => h9) rfl dX12_image_30 ?_
  refine lv_iload_n hx hb dX12_image_33 rfl (lv_at hl 0 rfl) ?_
  refine va_iald hx hb hK hP 1 0 rfl rfl vi_4_15 dX12_image_34 ?_
  refine W.eq (g2 := F0 m 35 ls [.int 0, .int 19, .ref (r 72)]) rfl ?_
  refine va_iast hx hb hK hP hD hS 2 0 rfl rfl vi_19_45 dX12_image_35 (fun H locs hP hD hS => ?_)
  rw [show upd (fun _ => 0) (Int32.toNatClampNeg 19) 0 = (fun _ => 0) from xa_upd0 rfl] at hP hD
  have hP : va_P (dC, dI) classes [(h0, .inr (12, [.ref (r 0), .ref (r 1), .int 0, .int 0, .int 0, .int (-1), .int 0, .int 0, .int 0, .int 0, .long 0, .ref (r 11), .ref (r 12), .ref (r 13), .ref (r 14), .ref (r 15), .ref (r 16), .ref (r 17), .ref (r 18), .ref (r 19), .ref (r 20), .ref (r 21), .ref (r 22), .ref (r 23), .ref (r 24), .ref (r 25), .ref (r 26), .ref (r 27), .ref (r 28), .ref (r 29), .ref (r 30), .ref (r 31), .ref (r 32), .ref (r 33), .int 0, .int 0, .int 0, .int 0, .int 0, .int 0, .int 0, .ref (r 41), .ref (r 42), .ref (r 43), .ref (r 44), .int 0, .int 0, .int 0, .ref (r 48), .int 0, .int 0, .ref (r 51), .ref (r 52), .ref (r 53), .ref (r 54), .int 0, .ref (r 56), .ref (r 57), .ref (r 58), .int 0, .ref (r 60), .ref (r 61), .ref (r 62), .ref (r 63), .ref (r 64), .ref (r 65), .ref (r 66), .ref (r 67), .ref (r 68), .int 0, .int 0, .int 0, .ref (r 72), .ref (r 73)])), (r 41, .inl (cy 0, 15, .inl (fun _ => 0))), (r 72, .inl (cy 0, 45, .inl (fun _ => 0))), (r 73, .inl (cy 3, 3, .inl (fun _ => 0)))] H := hP
  have hD : va_D A [(h0, .inr (12, [.ref (r 0), .ref (r 1), .int 0, .int 0, .int 0, .int (-1), .int 0, .int 0, .int 0, .int 0, .long 0, .ref (r 11), .ref (r 12), .ref (r 13), .ref (r 14), .ref (r 15), .ref (r 16), .ref (r 17), .ref (r 18), .ref (r 19), .ref (r 20), .ref (r 21), .ref (r 22), .ref (r 23), .ref (r 24), .ref (r 25), .ref (r 26), .ref (r 27), .ref (r 28), .ref (r 29), .ref (r 30), .ref (r 31), .ref (r 32), .ref (r 33), .int 0, .int 0, .int 0, .int 0, .int 0, .int 0, .int 0, .ref (r 41), .ref (r 42), .ref (r 43), .ref (r 44), .int 0, .int 0, .int 0, .ref (r 48), .int 0, .int 0, .ref (r 51), .ref (r 52), .ref (r 53), .ref (r 54), .int 0, .ref (r 56), .ref (r 57), .ref (r 58), .int 0, .ref (r 60), .ref (r 61), .ref (r 62), .ref (r 63), .ref (r 64), .ref (r 65), .ref (r 66), .ref (r 67), .ref (r 68), .int 0, .int 0, .int 0, .ref (r 72), .ref (r 73)])), (r 41, .inl (cy 0, 15, .inl (fun _ => 0))), (r 72, .inl (cy 0, 45, .inl (fun _ => 0))), (r 73, .inl (cy 3, 3, .inl (fun _ => 0)))] := hD
  refine lv_iinc (v := 5) (lv' := [(2, .int 5), (0, .ref h0), (1, .int 1)]) hx hb dX12_image_36 hl (k := 0) rfl (by decide +kernel) (by decide) rfl (fun ls hl => ?_)
  refine lv_goto (tgt := 13) hx hb dX12_image_39 (by decide) ?_
  refine lv_iload_n hx hb dX12_image_13 rfl (lv_at hl 0 rfl) ?_
  refine lv_bipush (v := 15) hx hb dX12_image_14 (by decide +kernel) ?_
  refine lv_icmp_ge (tgt := 42) hx hb dX12_image_16 (by decide) (fun c_ => absurd c_ (by decide +kernel)) (fun _ => ?_)
  refine lv_aload_n hx hb dX12_image_19 rfl (lv_at hl 1 rfl) ?_
  refine va_get (D := (dC, dI)) (ci := 12) (v := .ref (r 72)) (C := RX12) (T := TX12) (N := 74) hx hb hts inlX12 hown hK hP 0 rfl rfl 72 (by decide) (hts _ m_265) (fun _ h9 => h9) rfl dX12_image_20 ?_
  refine lv_bipush (v := 15) hx hb dX12_image_23 (by decide +kernel) ?_
  refine lv_iload_n hx hb dX12_image_25 rfl (lv_at hl 2 rfl) ?_
  refine lv_imul hx hb dX12_image_26 ?_
  refine lv_topi (fun z_12 ez_12 => ?_)
  obtain rfl : z_12 = 15 := ez_12.trans (by decide +kernel)
  refine lv_iload_n hx hb dX12_image_27 rfl (lv_at hl 0 rfl) ?_
  refine lv_iadd hx hb dX12_image_28 ?_
  refine lv_topi (fun z_13 ez_13 => ?_)
  obtain rfl : z_13 = 20 := ez_13.trans (by decide +kernel)
  refine lv_aload_n hx hb dX12_image_29 rfl (lv_at hl 1 rfl) ?_
  refine va_get (D := (dC, dI)) (ci := 12) (v := .ref (r 41)) (C := RX12) (T := TX12) (N := 74) hx hb hts inlX12 hown hK hP 0 rfl rfl 41 (by decide) (hts _ m_244) (fun _ h9 => h9) rfl dX12_image_30 ?_
  refine lv_iload_n hx hb dX12_image_33 rfl (lv_at hl 0 rfl) ?_
  refine va_iald hx hb hK hP 1 0 rfl rfl vi_5_15 dX12_image_34 ?_
  refine W.eq (g2 := F0 m 35 ls [.int 0, .int 20, .ref (r 72)]) rfl ?_
  refine va_iast hx hb hK hP hD hS 2 0 rfl rfl vi_20_45 dX12_image_35 (fun H locs hP hD hS => ?_)
  rw [show upd (fun _ => 0) (Int32.toNatClampNeg 20) 0 = (fun _ => 0) from xa_upd0 rfl] at hP hD
  have hP : va_P (dC, dI) classes [(h0, .inr (12, [.ref (r 0), .ref (r 1), .int 0, .int 0, .int 0, .int (-1), .int 0, .int 0, .int 0, .int 0, .long 0, .ref (r 11), .ref (r 12), .ref (r 13), .ref (r 14), .ref (r 15), .ref (r 16), .ref (r 17), .ref (r 18), .ref (r 19), .ref (r 20), .ref (r 21), .ref (r 22), .ref (r 23), .ref (r 24), .ref (r 25), .ref (r 26), .ref (r 27), .ref (r 28), .ref (r 29), .ref (r 30), .ref (r 31), .ref (r 32), .ref (r 33), .int 0, .int 0, .int 0, .int 0, .int 0, .int 0, .int 0, .ref (r 41), .ref (r 42), .ref (r 43), .ref (r 44), .int 0, .int 0, .int 0, .ref (r 48), .int 0, .int 0, .ref (r 51), .ref (r 52), .ref (r 53), .ref (r 54), .int 0, .ref (r 56), .ref (r 57), .ref (r 58), .int 0, .ref (r 60), .ref (r 61), .ref (r 62), .ref (r 63), .ref (r 64), .ref (r 65), .ref (r 66), .ref (r 67), .ref (r 68), .int 0, .int 0, .int 0, .ref (r 72), .ref (r 73)])), (r 41, .inl (cy 0, 15, .inl (fun _ => 0))), (r 72, .inl (cy 0, 45, .inl (fun _ => 0))), (r 73, .inl (cy 3, 3, .inl (fun _ => 0)))] H := hP
  have hD : va_D A [(h0, .inr (12, [.ref (r 0), .ref (r 1), .int 0, .int 0, .int 0, .int (-1), .int 0, .int 0, .int 0, .int 0, .long 0, .ref (r 11), .ref (r 12), .ref (r 13), .ref (r 14), .ref (r 15), .ref (r 16), .ref (r 17), .ref (r 18), .ref (r 19), .ref (r 20), .ref (r 21), .ref (r 22), .ref (r 23), .ref (r 24), .ref (r 25), .ref (r 26), .ref (r 27), .ref (r 28), .ref (r 29), .ref (r 30), .ref (r 31), .ref (r 32), .ref (r 33), .int 0, .int 0, .int 0, .int 0, .int 0, .int 0, .int 0, .ref (r 41), .ref (r 42), .ref (r 43), .ref (r 44), .int 0, .int 0, .int 0, .ref (r 48), .int 0, .int 0, .ref (r 51), .ref (r 52), .ref (r 53), .ref (r 54), .int 0, .ref (r 56), .ref (r 57), .ref (r 58), .int 0, .ref (r 60), .ref (r 61), .ref (r 62), .ref (r 63), .ref (r 64), .ref (r 65), .ref (r 66), .ref (r 67), .ref (r 68), .int 0, .int 0, .int 0, .ref (r 72), .ref (r 73)])), (r 41, .inl (cy 0, 15, .inl (fun _ => 0))), (r 72, .inl (cy 0, 45, .inl (fun _ => 0))), (r 73, .inl (cy 3, 3, .inl (fun _ => 0)))] := hD
  refine lv_iinc (v := 6) (lv' := [(2, .int 6), (0, .ref h0), (1, .int 1)]) hx hb dX12_image_36 hl (k := 0) rfl (by decide +kernel) (by decide) rfl (fun ls hl => ?_)
  refine lv_goto (tgt := 13) hx hb dX12_image_39 (by decide) ?_
  refine lv_iload_n hx hb dX12_image_13 rfl (lv_at hl 0 rfl) ?_
  refine lv_bipush (v := 15) hx hb dX12_image_14 (by decide +kernel) ?_
  refine lv_icmp_ge (tgt := 42) hx hb dX12_image_16 (by decide) (fun c_ => absurd c_ (by decide +kernel)) (fun _ => ?_)
  refine lv_aload_n hx hb dX12_image_19 rfl (lv_at hl 1 rfl) ?_
  refine va_get (D := (dC, dI)) (ci := 12) (v := .ref (r 72)) (C := RX12) (T := TX12) (N := 74) hx hb hts inlX12 hown hK hP 0 rfl rfl 72 (by decide) (hts _ m_265) (fun _ h9 => h9) rfl dX12_image_20 ?_
  refine lv_bipush (v := 15) hx hb dX12_image_23 (by decide +kernel) ?_
  refine lv_iload_n hx hb dX12_image_25 rfl (lv_at hl 2 rfl) ?_
  refine lv_imul hx hb dX12_image_26 ?_
  refine lv_topi (fun z_14 ez_14 => ?_)
  obtain rfl : z_14 = 15 := ez_14.trans (by decide +kernel)
  refine lv_iload_n hx hb dX12_image_27 rfl (lv_at hl 0 rfl) ?_
  refine lv_iadd hx hb dX12_image_28 ?_
  refine lv_topi (fun z_15 ez_15 => ?_)
  obtain rfl : z_15 = 21 := ez_15.trans (by decide +kernel)
  refine lv_aload_n hx hb dX12_image_29 rfl (lv_at hl 1 rfl) ?_
  refine va_get (D := (dC, dI)) (ci := 12) (v := .ref (r 41)) (C := RX12) (T := TX12) (N := 74) hx hb hts inlX12 hown hK hP 0 rfl rfl 41 (by decide) (hts _ m_244) (fun _ h9 => h9) rfl dX12_image_30 ?_
  refine lv_iload_n hx hb dX12_image_33 rfl (lv_at hl 0 rfl) ?_
  refine va_iald hx hb hK hP 1 0 rfl rfl vi_6_15 dX12_image_34 ?_
  refine W.eq (g2 := F0 m 35 ls [.int 0, .int 21, .ref (r 72)]) rfl ?_
  refine va_iast hx hb hK hP hD hS 2 0 rfl rfl vi_21_45 dX12_image_35 (fun H locs hP hD hS => ?_)
  rw [show upd (fun _ => 0) (Int32.toNatClampNeg 21) 0 = (fun _ => 0) from xa_upd0 rfl] at hP hD
  have hP : va_P (dC, dI) classes [(h0, .inr (12, [.ref (r 0), .ref (r 1), .int 0, .int 0, .int 0, .int (-1), .int 0, .int 0, .int 0, .int 0, .long 0, .ref (r 11), .ref (r 12), .ref (r 13), .ref (r 14), .ref (r 15), .ref (r 16), .ref (r 17), .ref (r 18), .ref (r 19), .ref (r 20), .ref (r 21), .ref (r 22), .ref (r 23), .ref (r 24), .ref (r 25), .ref (r 26), .ref (r 27), .ref (r 28), .ref (r 29), .ref (r 30), .ref (r 31), .ref (r 32), .ref (r 33), .int 0, .int 0, .int 0, .int 0, .int 0, .int 0, .int 0, .ref (r 41), .ref (r 42), .ref (r 43), .ref (r 44), .int 0, .int 0, .int 0, .ref (r 48), .int 0, .int 0, .ref (r 51), .ref (r 52), .ref (r 53), .ref (r 54), .int 0, .ref (r 56), .ref (r 57), .ref (r 58), .int 0, .ref (r 60), .ref (r 61), .ref (r 62), .ref (r 63), .ref (r 64), .ref (r 65), .ref (r 66), .ref (r 67), .ref (r 68), .int 0, .int 0, .int 0, .ref (r 72), .ref (r 73)])), (r 41, .inl (cy 0, 15, .inl (fun _ => 0))), (r 72, .inl (cy 0, 45, .inl (fun _ => 0))), (r 73, .inl (cy 3, 3, .inl (fun _ => 0)))] H := hP
  have hD : va_D A [(h0, .inr (12, [.ref (r 0), .ref (r 1), .int 0, .int 0, .int 0, .int (-1), .int 0, .int 0, .int 0, .int 0, .long 0, .ref (r 11), .ref (r 12), .ref (r 13), .ref (r 14), .ref (r 15), .ref (r 16), .ref (r 17), .ref (r 18), .ref (r 19), .ref (r 20), .ref (r 21), .ref (r 22), .ref (r 23), .ref (r 24), .ref (r 25), .ref (r 26), .ref (r 27), .ref (r 28), .ref (r 29), .ref (r 30), .ref (r 31), .ref (r 32), .ref (r 33), .int 0, .int 0, .int 0, .int 0, .int 0, .int 0, .int 0, .ref (r 41), .ref (r 42), .ref (r 43), .ref (r 44), .int 0, .int 0, .int 0, .ref (r 48), .int 0, .int 0, .ref (r 51), .ref (r 52), .ref (r 53), .ref (r 54), .int 0, .ref (r 56), .ref (r 57), .ref (r 58), .int 0, .ref (r 60), .ref (r 61), .ref (r 62), .ref (r 63), .ref (r 64), .ref (r 65), .ref (r 66), .ref (r 67), .ref (r 68), .int 0, .int 0, .int 0, .ref (r 72), .ref (r 73)])), (r 41, .inl (cy 0, 15, .inl (fun _ => 0))), (r 72, .inl (cy 0, 45, .inl (fun _ => 0))), (r 73, .inl (cy 3, 3, .inl (fun _ => 0)))] := hD
  refine lv_iinc (v := 7) (lv' := [(2, .int 7), (0, .ref h0), (1, .int 1)]) hx hb dX12_image_36 hl (k := 0) rfl (by decide +kernel) (by decide) rfl (fun ls hl => ?_)
  refine lv_goto (tgt := 13) hx hb dX12_image_39 (by decide) ?_
  refine lv_iload_n hx hb dX12_image_13 rfl (lv_at hl 0 rfl) ?_
  refine lv_bipush (v := 15) hx hb dX12_image_14 (by decide +kernel) ?_
  refine lv_icmp_ge (tgt := 42) hx hb dX12_image_16 (by decide) (fun c_ => absurd c_ (by decide +kernel)) (fun _ => ?_)
  refine lv_aload_n hx hb dX12_image_19 rfl (lv_at hl 1 rfl) ?_
  refine va_get (D := (dC, dI)) (ci := 12) (v := .ref (r 72)) (C := RX12) (T := TX12) (N := 74) hx hb hts inlX12 hown hK hP 0 rfl rfl 72 (by decide) (hts _ m_265) (fun _ h9 => h9) rfl dX12_image_20 ?_
  refine lv_bipush (v := 15) hx hb dX12_image_23 (by decide +kernel) ?_
  refine lv_iload_n hx hb dX12_image_25 rfl (lv_at hl 2 rfl) ?_
  refine lv_imul hx hb dX12_image_26 ?_
  refine lv_topi (fun z_16 ez_16 => ?_)
  obtain rfl : z_16 = 15 := ez_16.trans (by decide +kernel)
  refine lv_iload_n hx hb dX12_image_27 rfl (lv_at hl 0 rfl) ?_
  refine lv_iadd hx hb dX12_image_28 ?_
  refine lv_topi (fun z_17 ez_17 => ?_)
  obtain rfl : z_17 = 22 := ez_17.trans (by decide +kernel)
  refine lv_aload_n hx hb dX12_image_29 rfl (lv_at hl 1 rfl) ?_
  refine va_get (D := (dC, dI)) (ci := 12) (v := .ref (r 41)) (C := RX12) (T := TX12) (N := 74) hx hb hts inlX12 hown hK hP 0 rfl rfl 41 (by decide) (hts _ m_244) (fun _ h9 => h9) rfl dX12_image_30 ?_
  refine lv_iload_n hx hb dX12_image_33 rfl (lv_at hl 0 rfl) ?_
  refine va_iald hx hb hK hP 1 0 rfl rfl vi_7_15 dX12_image_34 ?_
  refine W.eq (g2 := F0 m 35 ls [.int 0, .int 22, .ref (r 72)]) rfl ?_
  refine va_iast hx hb hK hP hD hS 2 0 rfl rfl vi_22_45 dX12_image_35 (fun H locs hP hD hS => ?_)
  rw [show upd (fun _ => 0) (Int32.toNatClampNeg 22) 0 = (fun _ => 0) from xa_upd0 rfl] at hP hD
  have hP : va_P (dC, dI) classes [(h0, .inr (12, [.ref (r 0), .ref (r 1), .int 0, .int 0, .int 0, .int (-1), .int 0, .int 0, .int 0, .int 0, .long 0, .ref (r 11), .ref (r 12), .ref (r 13), .ref (r 14), .ref (r 15), .ref (r 16), .ref (r 17), .ref (r 18), .ref (r 19), .ref (r 20), .ref (r 21), .ref (r 22), .ref (r 23), .ref (r 24), .ref (r 25), .ref (r 26), .ref (r 27), .ref (r 28), .ref (r 29), .ref (r 30), .ref (r 31), .ref (r 32), .ref (r 33), .int 0, .int 0, .int 0, .int 0, .int 0, .int 0, .int 0, .ref (r 41), .ref (r 42), .ref (r 43), .ref (r 44), .int 0, .int 0, .int 0, .ref (r 48), .int 0, .int 0, .ref (r 51), .ref (r 52), .ref (r 53), .ref (r 54), .int 0, .ref (r 56), .ref (r 57), .ref (r 58), .int 0, .ref (r 60), .ref (r 61), .ref (r 62), .ref (r 63), .ref (r 64), .ref (r 65), .ref (r 66), .ref (r 67), .ref (r 68), .int 0, .int 0, .int 0, .ref (r 72), .ref (r 73)])), (r 41, .inl (cy 0, 15, .inl (fun _ => 0))), (r 72, .inl (cy 0, 45, .inl (fun _ => 0))), (r 73, .inl (cy 3, 3, .inl (fun _ => 0)))] H := hP
  have hD : va_D A [(h0, .inr (12, [.ref (r 0), .ref (r 1), .int 0, .int 0, .int 0, .int (-1), .int 0, .int 0, .int 0, .int 0, .long 0, .ref (r 11), .ref (r 12), .ref (r 13), .ref (r 14), .ref (r 15), .ref (r 16), .ref (r 17), .ref (r 18), .ref (r 19), .ref (r 20), .ref (r 21), .ref (r 22), .ref (r 23), .ref (r 24), .ref (r 25), .ref (r 26), .ref (r 27), .ref (r 28), .ref (r 29), .ref (r 30), .ref (r 31), .ref (r 32), .ref (r 33), .int 0, .int 0, .int 0, .int 0, .int 0, .int 0, .int 0, .ref (r 41), .ref (r 42), .ref (r 43), .ref (r 44), .int 0, .int 0, .int 0, .ref (r 48), .int 0, .int 0, .ref (r 51), .ref (r 52), .ref (r 53), .ref (r 54), .int 0, .ref (r 56), .ref (r 57), .ref (r 58), .int 0, .ref (r 60), .ref (r 61), .ref (r 62), .ref (r 63), .ref (r 64), .ref (r 65), .ref (r 66), .ref (r 67), .ref (r 68), .int 0, .int 0, .int 0, .ref (r 72), .ref (r 73)])), (r 41, .inl (cy 0, 15, .inl (fun _ => 0))), (r 72, .inl (cy 0, 45, .inl (fun _ => 0))), (r 73, .inl (cy 3, 3, .inl (fun _ => 0)))] := hD
  refine lv_iinc (v := 8) (lv' := [(2, .int 8), (0, .ref h0), (1, .int 1)]) hx hb dX12_image_36 hl (k := 0) rfl (by decide +kernel) (by decide) rfl (fun ls hl => ?_)
  refine lv_goto (tgt := 13) hx hb dX12_image_39 (by decide) ?_
  refine lv_iload_n hx hb dX12_image_13 rfl (lv_at hl 0 rfl) ?_
  refine lv_bipush (v := 15) hx hb dX12_image_14 (by decide +kernel) ?_
  refine lv_icmp_ge (tgt := 42) hx hb dX12_image_16 (by decide) (fun c_ => absurd c_ (by decide +kernel)) (fun _ => ?_)
  refine lv_aload_n hx hb dX12_image_19 rfl (lv_at hl 1 rfl) ?_
  refine va_get (D := (dC, dI)) (ci := 12) (v := .ref (r 72)) (C := RX12) (T := TX12) (N := 74) hx hb hts inlX12 hown hK hP 0 rfl rfl 72 (by decide) (hts _ m_265) (fun _ h9 => h9) rfl dX12_image_20 ?_
  refine lv_bipush (v := 15) hx hb dX12_image_23 (by decide +kernel) ?_
  refine lv_iload_n hx hb dX12_image_25 rfl (lv_at hl 2 rfl) ?_
  refine lv_imul hx hb dX12_image_26 ?_
  refine lv_topi (fun z_18 ez_18 => ?_)
  obtain rfl : z_18 = 15 := ez_18.trans (by decide +kernel)
  refine lv_iload_n hx hb dX12_image_27 rfl (lv_at hl 0 rfl) ?_
  refine lv_iadd hx hb dX12_image_28 ?_
  refine lv_topi (fun z_19 ez_19 => ?_)
  obtain rfl : z_19 = 23 := ez_19.trans (by decide +kernel)
  refine lv_aload_n hx hb dX12_image_29 rfl (lv_at hl 1 rfl) ?_
  refine va_get (D := (dC, dI)) (ci := 12) (v := .ref (r 41)) (C := RX12) (T := TX12) (N := 74) hx hb hts inlX12 hown hK hP 0 rfl rfl 41 (by decide) (hts _ m_244) (fun _ h9 => h9) rfl dX12_image_30 ?_
  refine lv_iload_n hx hb dX12_image_33 rfl (lv_at hl 0 rfl) ?_
  refine va_iald hx hb hK hP 1 0 rfl rfl vi_8_15 dX12_image_34 ?_
  refine W.eq (g2 := F0 m 35 ls [.int 0, .int 23, .ref (r 72)]) rfl ?_
  refine va_iast hx hb hK hP hD hS 2 0 rfl rfl vi_23_45 dX12_image_35 (fun H locs hP hD hS => ?_)
  rw [show upd (fun _ => 0) (Int32.toNatClampNeg 23) 0 = (fun _ => 0) from xa_upd0 rfl] at hP hD
  have hP : va_P (dC, dI) classes [(h0, .inr (12, [.ref (r 0), .ref (r 1), .int 0, .int 0, .int 0, .int (-1), .int 0, .int 0, .int 0, .int 0, .long 0, .ref (r 11), .ref (r 12), .ref (r 13), .ref (r 14), .ref (r 15), .ref (r 16), .ref (r 17), .ref (r 18), .ref (r 19), .ref (r 20), .ref (r 21), .ref (r 22), .ref (r 23), .ref (r 24), .ref (r 25), .ref (r 26), .ref (r 27), .ref (r 28), .ref (r 29), .ref (r 30), .ref (r 31), .ref (r 32), .ref (r 33), .int 0, .int 0, .int 0, .int 0, .int 0, .int 0, .int 0, .ref (r 41), .ref (r 42), .ref (r 43), .ref (r 44), .int 0, .int 0, .int 0, .ref (r 48), .int 0, .int 0, .ref (r 51), .ref (r 52), .ref (r 53), .ref (r 54), .int 0, .ref (r 56), .ref (r 57), .ref (r 58), .int 0, .ref (r 60), .ref (r 61), .ref (r 62), .ref (r 63), .ref (r 64), .ref (r 65), .ref (r 66), .ref (r 67), .ref (r 68), .int 0, .int 0, .int 0, .ref (r 72), .ref (r 73)])), (r 41, .inl (cy 0, 15, .inl (fun _ => 0))), (r 72, .inl (cy 0, 45, .inl (fun _ => 0))), (r 73, .inl (cy 3, 3, .inl (fun _ => 0)))] H := hP
  have hD : va_D A [(h0, .inr (12, [.ref (r 0), .ref (r 1), .int 0, .int 0, .int 0, .int (-1), .int 0, .int 0, .int 0, .int 0, .long 0, .ref (r 11), .ref (r 12), .ref (r 13), .ref (r 14), .ref (r 15), .ref (r 16), .ref (r 17), .ref (r 18), .ref (r 19), .ref (r 20), .ref (r 21), .ref (r 22), .ref (r 23), .ref (r 24), .ref (r 25), .ref (r 26), .ref (r 27), .ref (r 28), .ref (r 29), .ref (r 30), .ref (r 31), .ref (r 32), .ref (r 33), .int 0, .int 0, .int 0, .int 0, .int 0, .int 0, .int 0, .ref (r 41), .ref (r 42), .ref (r 43), .ref (r 44), .int 0, .int 0, .int 0, .ref (r 48), .int 0, .int 0, .ref (r 51), .ref (r 52), .ref (r 53), .ref (r 54), .int 0, .ref (r 56), .ref (r 57), .ref (r 58), .int 0, .ref (r 60), .ref (r 61), .ref (r 62), .ref (r 63), .ref (r 64), .ref (r 65), .ref (r 66), .ref (r 67), .ref (r 68), .int 0, .int 0, .int 0, .ref (r 72), .ref (r 73)])), (r 41, .inl (cy 0, 15, .inl (fun _ => 0))), (r 72, .inl (cy 0, 45, .inl (fun _ => 0))), (r 73, .inl (cy 3, 3, .inl (fun _ => 0)))] := hD
  refine lv_iinc (v := 9) (lv' := [(2, .int 9), (0, .ref h0), (1, .int 1)]) hx hb dX12_image_36 hl (k := 0) rfl (by decide +kernel) (by decide) rfl (fun ls hl => ?_)
  refine lv_goto (tgt := 13) hx hb dX12_image_39 (by decide) ?_
  refine lv_iload_n hx hb dX12_image_13 rfl (lv_at hl 0 rfl) ?_
  refine lv_bipush (v := 15) hx hb dX12_image_14 (by decide +kernel) ?_
  refine lv_icmp_ge (tgt := 42) hx hb dX12_image_16 (by decide) (fun c_ => absurd c_ (by decide +kernel)) (fun _ => ?_)
  refine lv_aload_n hx hb dX12_image_19 rfl (lv_at hl 1 rfl) ?_
  refine va_get (D := (dC, dI)) (ci := 12) (v := .ref (r 72)) (C := RX12) (T := TX12) (N := 74) hx hb hts inlX12 hown hK hP 0 rfl rfl 72 (by decide) (hts _ m_265) (fun _ h9 => h9) rfl dX12_image_20 ?_
  refine lv_bipush (v := 15) hx hb dX12_image_23 (by decide +kernel) ?_
  refine lv_iload_n hx hb dX12_image_25 rfl (lv_at hl 2 rfl) ?_
  refine lv_imul hx hb dX12_image_26 ?_
  refine lv_topi (fun z_20 ez_20 => ?_)
  obtain rfl : z_20 = 15 := ez_20.trans (by decide +kernel)
  refine lv_iload_n hx hb dX12_image_27 rfl (lv_at hl 0 rfl) ?_
  refine lv_iadd hx hb dX12_image_28 ?_
  refine lv_topi (fun z_21 ez_21 => ?_)
  obtain rfl : z_21 = 24 := ez_21.trans (by decide +kernel)
  refine lv_aload_n hx hb dX12_image_29 rfl (lv_at hl 1 rfl) ?_
  refine va_get (D := (dC, dI)) (ci := 12) (v := .ref (r 41)) (C := RX12) (T := TX12) (N := 74) hx hb hts inlX12 hown hK hP 0 rfl rfl 41 (by decide) (hts _ m_244) (fun _ h9 => h9) rfl dX12_image_30 ?_
  refine lv_iload_n hx hb dX12_image_33 rfl (lv_at hl 0 rfl) ?_
  refine va_iald hx hb hK hP 1 0 rfl rfl vi_9_15 dX12_image_34 ?_
  refine W.eq (g2 := F0 m 35 ls [.int 0, .int 24, .ref (r 72)]) rfl ?_
  refine va_iast hx hb hK hP hD hS 2 0 rfl rfl vi_24_45 dX12_image_35 (fun H locs hP hD hS => ?_)
  rw [show upd (fun _ => 0) (Int32.toNatClampNeg 24) 0 = (fun _ => 0) from xa_upd0 rfl] at hP hD
  have hP : va_P (dC, dI) classes [(h0, .inr (12, [.ref (r 0), .ref (r 1), .int 0, .int 0, .int 0, .int (-1), .int 0, .int 0, .int 0, .int 0, .long 0, .ref (r 11), .ref (r 12), .ref (r 13), .ref (r 14), .ref (r 15), .ref (r 16), .ref (r 17), .ref (r 18), .ref (r 19), .ref (r 20), .ref (r 21), .ref (r 22), .ref (r 23), .ref (r 24), .ref (r 25), .ref (r 26), .ref (r 27), .ref (r 28), .ref (r 29), .ref (r 30), .ref (r 31), .ref (r 32), .ref (r 33), .int 0, .int 0, .int 0, .int 0, .int 0, .int 0, .int 0, .ref (r 41), .ref (r 42), .ref (r 43), .ref (r 44), .int 0, .int 0, .int 0, .ref (r 48), .int 0, .int 0, .ref (r 51), .ref (r 52), .ref (r 53), .ref (r 54), .int 0, .ref (r 56), .ref (r 57), .ref (r 58), .int 0, .ref (r 60), .ref (r 61), .ref (r 62), .ref (r 63), .ref (r 64), .ref (r 65), .ref (r 66), .ref (r 67), .ref (r 68), .int 0, .int 0, .int 0, .ref (r 72), .ref (r 73)])), (r 41, .inl (cy 0, 15, .inl (fun _ => 0))), (r 72, .inl (cy 0, 45, .inl (fun _ => 0))), (r 73, .inl (cy 3, 3, .inl (fun _ => 0)))] H := hP
  have hD : va_D A [(h0, .inr (12, [.ref (r 0), .ref (r 1), .int 0, .int 0, .int 0, .int (-1), .int 0, .int 0, .int 0, .int 0, .long 0, .ref (r 11), .ref (r 12), .ref (r 13), .ref (r 14), .ref (r 15), .ref (r 16), .ref (r 17), .ref (r 18), .ref (r 19), .ref (r 20), .ref (r 21), .ref (r 22), .ref (r 23), .ref (r 24), .ref (r 25), .ref (r 26), .ref (r 27), .ref (r 28), .ref (r 29), .ref (r 30), .ref (r 31), .ref (r 32), .ref (r 33), .int 0, .int 0, .int 0, .int 0, .int 0, .int 0, .int 0, .ref (r 41), .ref (r 42), .ref (r 43), .ref (r 44), .int 0, .int 0, .int 0, .ref (r 48), .int 0, .int 0, .ref (r 51), .ref (r 52), .ref (r 53), .ref (r 54), .int 0, .ref (r 56), .ref (r 57), .ref (r 58), .int 0, .ref (r 60), .ref (r 61), .ref (r 62), .ref (r 63), .ref (r 64), .ref (r 65), .ref (r 66), .ref (r 67), .ref (r 68), .int 0, .int 0, .int 0, .ref (r 72), .ref (r 73)])), (r 41, .inl (cy 0, 15, .inl (fun _ => 0))), (r 72, .inl (cy 0, 45, .inl (fun _ => 0))), (r 73, .inl (cy 3, 3, .inl (fun _ => 0)))] := hD
  refine lv_iinc (v := 10) (lv' := [(2, .int 10), (0, .ref h0), (1, .int 1)]) hx hb dX12_image_36 hl (k := 0) rfl (by decide +kernel) (by decide) rfl (fun ls hl => ?_)
  refine lv_goto (tgt := 13) hx hb dX12_image_39 (by decide) ?_
  refine lv_iload_n hx hb dX12_image_13 rfl (lv_at hl 0 rfl) ?_
  refine lv_bipush (v := 15) hx hb dX12_image_14 (by decide +kernel) ?_
  refine lv_icmp_ge (tgt := 42) hx hb dX12_image_16 (by decide) (fun c_ => absurd c_ (by decide +kernel)) (fun _ => ?_)
  refine lv_aload_n hx hb dX12_image_19 rfl (lv_at hl 1 rfl) ?_
  refine va_get (D := (dC, dI)) (ci := 12) (v := .ref (r 72)) (C := RX12) (T := TX12) (N := 74) hx hb hts inlX12 hown hK hP 0 rfl rfl 72 (by decide) (hts _ m_265) (fun _ h9 => h9) rfl dX12_image_20 ?_
  refine lv_bipush (v := 15) hx hb dX12_image_23 (by decide +kernel) ?_
  refine lv_iload_n hx hb dX12_image_25 rfl (lv_at hl 2 rfl) ?_
  refine lv_imul hx hb dX12_image_26 ?_
  refine lv_topi (fun z_22 ez_22 => ?_)
  obtain rfl : z_22 = 15 := ez_22.trans (by decide +kernel)
  refine lv_iload_n hx hb dX12_image_27 rfl (lv_at hl 0 rfl) ?_
  refine lv_iadd hx hb dX12_image_28 ?_
  refine lv_topi (fun z_23 ez_23 => ?_)
  obtain rfl : z_23 = 25 := ez_23.trans (by decide +kernel)
  refine lv_aload_n hx hb dX12_image_29 rfl (lv_at hl 1 rfl) ?_
  refine va_get (D := (dC, dI)) (ci := 12) (v := .ref (r 41)) (C := RX12) (T := TX12) (N := 74) hx hb hts inlX12 hown hK hP 0 rfl rfl 41 (by decide) (hts _ m_244) (fun _ h9 => h9) rfl dX12_image_30 ?_
  refine lv_iload_n hx hb dX12_image_33 rfl (lv_at hl 0 rfl) ?_
  refine va_iald hx hb hK hP 1 0 rfl rfl vi_10_15 dX12_image_34 ?_
  refine W.eq (g2 := F0 m 35 ls [.int 0, .int 25, .ref (r 72)]) rfl ?_
  refine va_iast hx hb hK hP hD hS 2 0 rfl rfl vi_25_45 dX12_image_35 (fun H locs hP hD hS => ?_)
  rw [show upd (fun _ => 0) (Int32.toNatClampNeg 25) 0 = (fun _ => 0) from xa_upd0 rfl] at hP hD
  have hP : va_P (dC, dI) classes [(h0, .inr (12, [.ref (r 0), .ref (r 1), .int 0, .int 0, .int 0, .int (-1), .int 0, .int 0, .int 0, .int 0, .long 0, .ref (r 11), .ref (r 12), .ref (r 13), .ref (r 14), .ref (r 15), .ref (r 16), .ref (r 17), .ref (r 18), .ref (r 19), .ref (r 20), .ref (r 21), .ref (r 22), .ref (r 23), .ref (r 24), .ref (r 25), .ref (r 26), .ref (r 27), .ref (r 28), .ref (r 29), .ref (r 30), .ref (r 31), .ref (r 32), .ref (r 33), .int 0, .int 0, .int 0, .int 0, .int 0, .int 0, .int 0, .ref (r 41), .ref (r 42), .ref (r 43), .ref (r 44), .int 0, .int 0, .int 0, .ref (r 48), .int 0, .int 0, .ref (r 51), .ref (r 52), .ref (r 53), .ref (r 54), .int 0, .ref (r 56), .ref (r 57), .ref (r 58), .int 0, .ref (r 60), .ref (r 61), .ref (r 62), .ref (r 63), .ref (r 64), .ref (r 65), .ref (r 66), .ref (r 67), .ref (r 68), .int 0, .int 0, .int 0, .ref (r 72), .ref (r 73)])), (r 41, .inl (cy 0, 15, .inl (fun _ => 0))), (r 72, .inl (cy 0, 45, .inl (fun _ => 0))), (r 73, .inl (cy 3, 3, .inl (fun _ => 0)))] H := hP
  have hD : va_D A [(h0, .inr (12, [.ref (r 0), .ref (r 1), .int 0, .int 0, .int 0, .int (-1), .int 0, .int 0, .int 0, .int 0, .long 0, .ref (r 11), .ref (r 12), .ref (r 13), .ref (r 14), .ref (r 15), .ref (r 16), .ref (r 17), .ref (r 18), .ref (r 19), .ref (r 20), .ref (r 21), .ref (r 22), .ref (r 23), .ref (r 24), .ref (r 25), .ref (r 26), .ref (r 27), .ref (r 28), .ref (r 29), .ref (r 30), .ref (r 31), .ref (r 32), .ref (r 33), .int 0, .int 0, .int 0, .int 0, .int 0, .int 0, .int 0, .ref (r 41), .ref (r 42), .ref (r 43), .ref (r 44), .int 0, .int 0, .int 0, .ref (r 48), .int 0, .int 0, .ref (r 51), .ref (r 52), .ref (r 53), .ref (r 54), .int 0, .ref (r 56), .ref (r 57), .ref (r 58), .int 0, .ref (r 60), .ref (r 61), .ref (r 62), .ref (r 63), .ref (r 64), .ref (r 65), .ref (r 66), .ref (r 67), .ref (r 68), .int 0, .int 0, .int 0, .ref (r 72), .ref (r 73)])), (r 41, .inl (cy 0, 15, .inl (fun _ => 0))), (r 72, .inl (cy 0, 45, .inl (fun _ => 0))), (r 73, .inl (cy 3, 3, .inl (fun _ => 0)))] := hD
  refine lv_iinc (v := 11) (lv' := [(2, .int 11), (0, .ref h0), (1, .int 1)]) hx hb dX12_image_36 hl (k := 0) rfl (by decide +kernel) (by decide) rfl (fun ls hl => ?_)
  refine lv_goto (tgt := 13) hx hb dX12_image_39 (by decide) ?_
  refine lv_iload_n hx hb dX12_image_13 rfl (lv_at hl 0 rfl) ?_
  refine lv_bipush (v := 15) hx hb dX12_image_14 (by decide +kernel) ?_
  refine lv_icmp_ge (tgt := 42) hx hb dX12_image_16 (by decide) (fun c_ => absurd c_ (by decide +kernel)) (fun _ => ?_)
  refine lv_aload_n hx hb dX12_image_19 rfl (lv_at hl 1 rfl) ?_
  refine va_get (D := (dC, dI)) (ci := 12) (v := .ref (r 72)) (C := RX12) (T := TX12) (N := 74) hx hb hts inlX12 hown hK hP 0 rfl rfl 72 (by decide) (hts _ m_265) (fun _ h9 => h9) rfl dX12_image_20 ?_
  refine lv_bipush (v := 15) hx hb dX12_image_23 (by decide +kernel) ?_
  refine lv_iload_n hx hb dX12_image_25 rfl (lv_at hl 2 rfl) ?_
  refine lv_imul hx hb dX12_image_26 ?_
  refine lv_topi (fun z_24 ez_24 => ?_)
  obtain rfl : z_24 = 15 := ez_24.trans (by decide +kernel)
  refine lv_iload_n hx hb dX12_image_27 rfl (lv_at hl 0 rfl) ?_
  refine lv_iadd hx hb dX12_image_28 ?_
  refine lv_topi (fun z_25 ez_25 => ?_)
  obtain rfl : z_25 = 26 := ez_25.trans (by decide +kernel)
  refine lv_aload_n hx hb dX12_image_29 rfl (lv_at hl 1 rfl) ?_
  refine va_get (D := (dC, dI)) (ci := 12) (v := .ref (r 41)) (C := RX12) (T := TX12) (N := 74) hx hb hts inlX12 hown hK hP 0 rfl rfl 41 (by decide) (hts _ m_244) (fun _ h9 => h9) rfl dX12_image_30 ?_
  refine lv_iload_n hx hb dX12_image_33 rfl (lv_at hl 0 rfl) ?_
  refine va_iald hx hb hK hP 1 0 rfl rfl vi_11_15 dX12_image_34 ?_
  refine W.eq (g2 := F0 m 35 ls [.int 0, .int 26, .ref (r 72)]) rfl ?_
  refine va_iast hx hb hK hP hD hS 2 0 rfl rfl vi_26_45 dX12_image_35 (fun H locs hP hD hS => ?_)
  rw [show upd (fun _ => 0) (Int32.toNatClampNeg 26) 0 = (fun _ => 0) from xa_upd0 rfl] at hP hD
  have hP : va_P (dC, dI) classes [(h0, .inr (12, [.ref (r 0), .ref (r 1), .int 0, .int 0, .int 0, .int (-1), .int 0, .int 0, .int 0, .int 0, .long 0, .ref (r 11), .ref (r 12), .ref (r 13), .ref (r 14), .ref (r 15), .ref (r 16), .ref (r 17), .ref (r 18), .ref (r 19), .ref (r 20), .ref (r 21), .ref (r 22), .ref (r 23), .ref (r 24), .ref (r 25), .ref (r 26), .ref (r 27), .ref (r 28), .ref (r 29), .ref (r 30), .ref (r 31), .ref (r 32), .ref (r 33), .int 0, .int 0, .int 0, .int 0, .int 0, .int 0, .int 0, .ref (r 41), .ref (r 42), .ref (r 43), .ref (r 44), .int 0, .int 0, .int 0, .ref (r 48), .int 0, .int 0, .ref (r 51), .ref (r 52), .ref (r 53), .ref (r 54), .int 0, .ref (r 56), .ref (r 57), .ref (r 58), .int 0, .ref (r 60), .ref (r 61), .ref (r 62), .ref (r 63), .ref (r 64), .ref (r 65), .ref (r 66), .ref (r 67), .ref (r 68), .int 0, .int 0, .int 0, .ref (r 72), .ref (r 73)])), (r 41, .inl (cy 0, 15, .inl (fun _ => 0))), (r 72, .inl (cy 0, 45, .inl (fun _ => 0))), (r 73, .inl (cy 3, 3, .inl (fun _ => 0)))] H := hP
  have hD : va_D A [(h0, .inr (12, [.ref (r 0), .ref (r 1), .int 0, .int 0, .int 0, .int (-1), .int 0, .int 0, .int 0, .int 0, .long 0, .ref (r 11), .ref (r 12), .ref (r 13), .ref (r 14), .ref (r 15), .ref (r 16), .ref (r 17), .ref (r 18), .ref (r 19), .ref (r 20), .ref (r 21), .ref (r 22), .ref (r 23), .ref (r 24), .ref (r 25), .ref (r 26), .ref (r 27), .ref (r 28), .ref (r 29), .ref (r 30), .ref (r 31), .ref (r 32), .ref (r 33), .int 0, .int 0, .int 0, .int 0, .int 0, .int 0, .int 0, .ref (r 41), .ref (r 42), .ref (r 43), .ref (r 44), .int 0, .int 0, .int 0, .ref (r 48), .int 0, .int 0, .ref (r 51), .ref (r 52), .ref (r 53), .ref (r 54), .int 0, .ref (r 56), .ref (r 57), .ref (r 58), .int 0, .ref (r 60), .ref (r 61), .ref (r 62), .ref (r 63), .ref (r 64), .ref (r 65), .ref (r 66), .ref (r 67), .ref (r 68), .int 0, .int 0, .int 0, .ref (r 72), .ref (r 73)])), (r 41, .inl (cy 0, 15, .inl (fun _ => 0))), (r 72, .inl (cy 0, 45, .inl (fun _ => 0))), (r 73, .inl (cy 3, 3, .inl (fun _ => 0)))] := hD
  refine lv_iinc (v := 12) (lv' := [(2, .int 12), (0, .ref h0), (1, .int 1)]) hx hb dX12_image_36 hl (k := 0) rfl (by decide +kernel) (by decide) rfl (fun ls hl => ?_)
  refine lv_goto (tgt := 13) hx hb dX12_image_39 (by decide) ?_
  refine lv_iload_n hx hb dX12_image_13 rfl (lv_at hl 0 rfl) ?_
  refine lv_bipush (v := 15) hx hb dX12_image_14 (by decide +kernel) ?_
  refine lv_icmp_ge (tgt := 42) hx hb dX12_image_16 (by decide) (fun c_ => absurd c_ (by decide +kernel)) (fun _ => ?_)
  refine lv_aload_n hx hb dX12_image_19 rfl (lv_at hl 1 rfl) ?_
  refine va_get (D := (dC, dI)) (ci := 12) (v := .ref (r 72)) (C := RX12) (T := TX12) (N := 74) hx hb hts inlX12 hown hK hP 0 rfl rfl 72 (by decide) (hts _ m_265) (fun _ h9 => h9) rfl dX12_image_20 ?_
  refine lv_bipush (v := 15) hx hb dX12_image_23 (by decide +kernel) ?_
  refine lv_iload_n hx hb dX12_image_25 rfl (lv_at hl 2 rfl) ?_
  refine lv_imul hx hb dX12_image_26 ?_
  refine lv_topi (fun z_26 ez_26 => ?_)
  obtain rfl : z_26 = 15 := ez_26.trans (by decide +kernel)
  refine lv_iload_n hx hb dX12_image_27 rfl (lv_at hl 0 rfl) ?_
  refine lv_iadd hx hb dX12_image_28 ?_
  refine lv_topi (fun z_27 ez_27 => ?_)
  obtain rfl : z_27 = 27 := ez_27.trans (by decide +kernel)
  refine lv_aload_n hx hb dX12_image_29 rfl (lv_at hl 1 rfl) ?_
  refine va_get (D := (dC, dI)) (ci := 12) (v := .ref (r 41)) (C := RX12) (T := TX12) (N := 74) hx hb hts inlX12 hown hK hP 0 rfl rfl 41 (by decide) (hts _ m_244) (fun _ h9 => h9) rfl dX12_image_30 ?_
  refine lv_iload_n hx hb dX12_image_33 rfl (lv_at hl 0 rfl) ?_
  refine va_iald hx hb hK hP 1 0 rfl rfl vi_12_15 dX12_image_34 ?_
  refine W.eq (g2 := F0 m 35 ls [.int 0, .int 27, .ref (r 72)]) rfl ?_
  refine va_iast hx hb hK hP hD hS 2 0 rfl rfl vi_27_45 dX12_image_35 (fun H locs hP hD hS => ?_)
  rw [show upd (fun _ => 0) (Int32.toNatClampNeg 27) 0 = (fun _ => 0) from xa_upd0 rfl] at hP hD
  have hP : va_P (dC, dI) classes [(h0, .inr (12, [.ref (r 0), .ref (r 1), .int 0, .int 0, .int 0, .int (-1), .int 0, .int 0, .int 0, .int 0, .long 0, .ref (r 11), .ref (r 12), .ref (r 13), .ref (r 14), .ref (r 15), .ref (r 16), .ref (r 17), .ref (r 18), .ref (r 19), .ref (r 20), .ref (r 21), .ref (r 22), .ref (r 23), .ref (r 24), .ref (r 25), .ref (r 26), .ref (r 27), .ref (r 28), .ref (r 29), .ref (r 30), .ref (r 31), .ref (r 32), .ref (r 33), .int 0, .int 0, .int 0, .int 0, .int 0, .int 0, .int 0, .ref (r 41), .ref (r 42), .ref (r 43), .ref (r 44), .int 0, .int 0, .int 0, .ref (r 48), .int 0, .int 0, .ref (r 51), .ref (r 52), .ref (r 53), .ref (r 54), .int 0, .ref (r 56), .ref (r 57), .ref (r 58), .int 0, .ref (r 60), .ref (r 61), .ref (r 62), .ref (r 63), .ref (r 64), .ref (r 65), .ref (r 66), .ref (r 67), .ref (r 68), .int 0, .int 0, .int 0, .ref (r 72), .ref (r 73)])), (r 41, .inl (cy 0, 15, .inl (fun _ => 0))), (r 72, .inl (cy 0, 45, .inl (fun _ => 0))), (r 73, .inl (cy 3, 3, .inl (fun _ => 0)))] H := hP
  have hD : va_D A [(h0, .inr (12, [.ref (r 0), .ref (r 1), .int 0, .int 0, .int 0, .int (-1), .int 0, .int 0, .int 0, .int 0, .long 0, .ref (r 11), .ref (r 12), .ref (r 13), .ref (r 14), .ref (r 15), .ref (r 16), .ref (r 17), .ref (r 18), .ref (r 19), .ref (r 20), .ref (r 21), .ref (r 22), .ref (r 23), .ref (r 24), .ref (r 25), .ref (r 26), .ref (r 27), .ref (r 28), .ref (r 29), .ref (r 30), .ref (r 31), .ref (r 32), .ref (r 33), .int 0, .int 0, .int 0, .int 0, .int 0, .int 0, .int 0, .ref (r 41), .ref (r 42), .ref (r 43), .ref (r 44), .int 0, .int 0, .int 0, .ref (r 48), .int 0, .int 0, .ref (r 51), .ref (r 52), .ref (r 53), .ref (r 54), .int 0, .ref (r 56), .ref (r 57), .ref (r 58), .int 0, .ref (r 60), .ref (r 61), .ref (r 62), .ref (r 63), .ref (r 64), .ref (r 65), .ref (r 66), .ref (r 67), .ref (r 68), .int 0, .int 0, .int 0, .ref (r 72), .ref (r 73)])), (r 41, .inl (cy 0, 15, .inl (fun _ => 0))), (r 72, .inl (cy 0, 45, .inl (fun _ => 0))), (r 73, .inl (cy 3, 3, .inl (fun _ => 0)))] := hD
  refine lv_iinc (v := 13) (lv' := [(2, .int 13), (0, .ref h0), (1, .int 1)]) hx hb dX12_image_36 hl (k := 0) rfl (by decide +kernel) (by decide) rfl (fun ls hl => ?_)
  refine lv_goto (tgt := 13) hx hb dX12_image_39 (by decide) ?_
  refine lv_iload_n hx hb dX12_image_13 rfl (lv_at hl 0 rfl) ?_
  refine lv_bipush (v := 15) hx hb dX12_image_14 (by decide +kernel) ?_
  refine lv_icmp_ge (tgt := 42) hx hb dX12_image_16 (by decide) (fun c_ => absurd c_ (by decide +kernel)) (fun _ => ?_)
  refine lv_aload_n hx hb dX12_image_19 rfl (lv_at hl 1 rfl) ?_
  refine va_get (D := (dC, dI)) (ci := 12) (v := .ref (r 72)) (C := RX12) (T := TX12) (N := 74) hx hb hts inlX12 hown hK hP 0 rfl rfl 72 (by decide) (hts _ m_265) (fun _ h9 => h9) rfl dX12_image_20 ?_
  refine lv_bipush (v := 15) hx hb dX12_image_23 (by decide +kernel) ?_
  refine lv_iload_n hx hb dX12_image_25 rfl (lv_at hl 2 rfl) ?_
  refine lv_imul hx hb dX12_image_26 ?_
  refine lv_topi (fun z_28 ez_28 => ?_)
  obtain rfl : z_28 = 15 := ez_28.trans (by decide +kernel)
  refine lv_iload_n hx hb dX12_image_27 rfl (lv_at hl 0 rfl) ?_
  refine lv_iadd hx hb dX12_image_28 ?_
  refine lv_topi (fun z_29 ez_29 => ?_)
  obtain rfl : z_29 = 28 := ez_29.trans (by decide +kernel)
  refine lv_aload_n hx hb dX12_image_29 rfl (lv_at hl 1 rfl) ?_
  refine va_get (D := (dC, dI)) (ci := 12) (v := .ref (r 41)) (C := RX12) (T := TX12) (N := 74) hx hb hts inlX12 hown hK hP 0 rfl rfl 41 (by decide) (hts _ m_244) (fun _ h9 => h9) rfl dX12_image_30 ?_
  refine lv_iload_n hx hb dX12_image_33 rfl (lv_at hl 0 rfl) ?_
  refine va_iald hx hb hK hP 1 0 rfl rfl vi_13_15 dX12_image_34 ?_
  refine W.eq (g2 := F0 m 35 ls [.int 0, .int 28, .ref (r 72)]) rfl ?_
  refine va_iast hx hb hK hP hD hS 2 0 rfl rfl vi_28_45 dX12_image_35 (fun H locs hP hD hS => ?_)
  rw [show upd (fun _ => 0) (Int32.toNatClampNeg 28) 0 = (fun _ => 0) from xa_upd0 rfl] at hP hD
  have hP : va_P (dC, dI) classes [(h0, .inr (12, [.ref (r 0), .ref (r 1), .int 0, .int 0, .int 0, .int (-1), .int 0, .int 0, .int 0, .int 0, .long 0, .ref (r 11), .ref (r 12), .ref (r 13), .ref (r 14), .ref (r 15), .ref (r 16), .ref (r 17), .ref (r 18), .ref (r 19), .ref (r 20), .ref (r 21), .ref (r 22), .ref (r 23), .ref (r 24), .ref (r 25), .ref (r 26), .ref (r 27), .ref (r 28), .ref (r 29), .ref (r 30), .ref (r 31), .ref (r 32), .ref (r 33), .int 0, .int 0, .int 0, .int 0, .int 0, .int 0, .int 0, .ref (r 41), .ref (r 42), .ref (r 43), .ref (r 44), .int 0, .int 0, .int 0, .ref (r 48), .int 0, .int 0, .ref (r 51), .ref (r 52), .ref (r 53), .ref (r 54), .int 0, .ref (r 56), .ref (r 57), .ref (r 58), .int 0, .ref (r 60), .ref (r 61), .ref (r 62), .ref (r 63), .ref (r 64), .ref (r 65), .ref (r 66), .ref (r 67), .ref (r 68), .int 0, .int 0, .int 0, .ref (r 72), .ref (r 73)])), (r 41, .inl (cy 0, 15, .inl (fun _ => 0))), (r 72, .inl (cy 0, 45, .inl (fun _ => 0))), (r 73, .inl (cy 3, 3, .inl (fun _ => 0)))] H := hP
  have hD : va_D A [(h0, .inr (12, [.ref (r 0), .ref (r 1), .int 0, .int 0, .int 0, .int (-1), .int 0, .int 0, .int 0, .int 0, .long 0, .ref (r 11), .ref (r 12), .ref (r 13), .ref (r 14), .ref (r 15), .ref (r 16), .ref (r 17), .ref (r 18), .ref (r 19), .ref (r 20), .ref (r 21), .ref (r 22), .ref (r 23), .ref (r 24), .ref (r 25), .ref (r 26), .ref (r 27), .ref (r 28), .ref (r 29), .ref (r 30), .ref (r 31), .ref (r 32), .ref (r 33), .int 0, .int 0, .int 0, .int 0, .int 0, .int 0, .int 0, .ref (r 41), .ref (r 42), .ref (r 43), .ref (r 44), .int 0, .int 0, .int 0, .ref (r 48), .int 0, .int 0, .ref (r 51), .ref (r 52), .ref (r 53), .ref (r 54), .int 0, .ref (r 56), .ref (r 57), .ref (r 58), .int 0, .ref (r 60), .ref (r 61), .ref (r 62), .ref (r 63), .ref (r 64), .ref (r 65), .ref (r 66), .ref (r 67), .ref (r 68), .int 0, .int 0, .int 0, .ref (r 72), .ref (r 73)])), (r 41, .inl (cy 0, 15, .inl (fun _ => 0))), (r 72, .inl (cy 0, 45, .inl (fun _ => 0))), (r 73, .inl (cy 3, 3, .inl (fun _ => 0)))] := hD
  refine lv_iinc (v := 14) (lv' := [(2, .int 14), (0, .ref h0), (1, .int 1)]) hx hb dX12_image_36 hl (k := 0) rfl (by decide +kernel) (by decide) rfl (fun ls hl => ?_)
  refine lv_goto (tgt := 13) hx hb dX12_image_39 (by decide) ?_
  refine lv_iload_n hx hb dX12_image_13 rfl (lv_at hl 0 rfl) ?_
  refine lv_bipush (v := 15) hx hb dX12_image_14 (by decide +kernel) ?_
  refine lv_icmp_ge (tgt := 42) hx hb dX12_image_16 (by decide) (fun c_ => absurd c_ (by decide +kernel)) (fun _ => ?_)
  refine lv_aload_n hx hb dX12_image_19 rfl (lv_at hl 1 rfl) ?_
  refine va_get (D := (dC, dI)) (ci := 12) (v := .ref (r 72)) (C := RX12) (T := TX12) (N := 74) hx hb hts inlX12 hown hK hP 0 rfl rfl 72 (by decide) (hts _ m_265) (fun _ h9 => h9) rfl dX12_image_20 ?_
  refine lv_bipush (v := 15) hx hb dX12_image_23 (by decide +kernel) ?_
  refine lv_iload_n hx hb dX12_image_25 rfl (lv_at hl 2 rfl) ?_
  refine lv_imul hx hb dX12_image_26 ?_
  refine lv_topi (fun z_30 ez_30 => ?_)
  obtain rfl : z_30 = 15 := ez_30.trans (by decide +kernel)
  refine lv_iload_n hx hb dX12_image_27 rfl (lv_at hl 0 rfl) ?_
  refine lv_iadd hx hb dX12_image_28 ?_
  refine lv_topi (fun z_31 ez_31 => ?_)
  obtain rfl : z_31 = 29 := ez_31.trans (by decide +kernel)
  refine lv_aload_n hx hb dX12_image_29 rfl (lv_at hl 1 rfl) ?_
  refine va_get (D := (dC, dI)) (ci := 12) (v := .ref (r 41)) (C := RX12) (T := TX12) (N := 74) hx hb hts inlX12 hown hK hP 0 rfl rfl 41 (by decide) (hts _ m_244) (fun _ h9 => h9) rfl dX12_image_30 ?_
  refine lv_iload_n hx hb dX12_image_33 rfl (lv_at hl 0 rfl) ?_
  refine va_iald hx hb hK hP 1 0 rfl rfl vi_14_15 dX12_image_34 ?_
  refine W.eq (g2 := F0 m 35 ls [.int 0, .int 29, .ref (r 72)]) rfl ?_
  refine va_iast hx hb hK hP hD hS 2 0 rfl rfl vi_29_45 dX12_image_35 (fun H locs hP hD hS => ?_)
  rw [show upd (fun _ => 0) (Int32.toNatClampNeg 29) 0 = (fun _ => 0) from xa_upd0 rfl] at hP hD
  have hP : va_P (dC, dI) classes [(h0, .inr (12, [.ref (r 0), .ref (r 1), .int 0, .int 0, .int 0, .int (-1), .int 0, .int 0, .int 0, .int 0, .long 0, .ref (r 11), .ref (r 12), .ref (r 13), .ref (r 14), .ref (r 15), .ref (r 16), .ref (r 17), .ref (r 18), .ref (r 19), .ref (r 20), .ref (r 21), .ref (r 22), .ref (r 23), .ref (r 24), .ref (r 25), .ref (r 26), .ref (r 27), .ref (r 28), .ref (r 29), .ref (r 30), .ref (r 31), .ref (r 32), .ref (r 33), .int 0, .int 0, .int 0, .int 0, .int 0, .int 0, .int 0, .ref (r 41), .ref (r 42), .ref (r 43), .ref (r 44), .int 0, .int 0, .int 0, .ref (r 48), .int 0, .int 0, .ref (r 51), .ref (r 52), .ref (r 53), .ref (r 54), .int 0, .ref (r 56), .ref (r 57), .ref (r 58), .int 0, .ref (r 60), .ref (r 61), .ref (r 62), .ref (r 63), .ref (r 64), .ref (r 65), .ref (r 66), .ref (r 67), .ref (r 68), .int 0, .int 0, .int 0, .ref (r 72), .ref (r 73)])), (r 41, .inl (cy 0, 15, .inl (fun _ => 0))), (r 72, .inl (cy 0, 45, .inl (fun _ => 0))), (r 73, .inl (cy 3, 3, .inl (fun _ => 0)))] H := hP
  have hD : va_D A [(h0, .inr (12, [.ref (r 0), .ref (r 1), .int 0, .int 0, .int 0, .int (-1), .int 0, .int 0, .int 0, .int 0, .long 0, .ref (r 11), .ref (r 12), .ref (r 13), .ref (r 14), .ref (r 15), .ref (r 16), .ref (r 17), .ref (r 18), .ref (r 19), .ref (r 20), .ref (r 21), .ref (r 22), .ref (r 23), .ref (r 24), .ref (r 25), .ref (r 26), .ref (r 27), .ref (r 28), .ref (r 29), .ref (r 30), .ref (r 31), .ref (r 32), .ref (r 33), .int 0, .int 0, .int 0, .int 0, .int 0, .int 0, .int 0, .ref (r 41), .ref (r 42), .ref (r 43), .ref (r 44), .int 0, .int 0, .int 0, .ref (r 48), .int 0, .int 0, .ref (r 51), .ref (r 52), .ref (r 53), .ref (r 54), .int 0, .ref (r 56), .ref (r 57), .ref (r 58), .int 0, .ref (r 60), .ref (r 61), .ref (r 62), .ref (r 63), .ref (r 64), .ref (r 65), .ref (r 66), .ref (r 67), .ref (r 68), .int 0, .int 0, .int 0, .ref (r 72), .ref (r 73)])), (r 41, .inl (cy 0, 15, .inl (fun _ => 0))), (r 72, .inl (cy 0, 45, .inl (fun _ => 0))), (r 73, .inl (cy 3, 3, .inl (fun _ => 0)))] := hD
  refine lv_iinc (v := 15) (lv' := [(2, .int 15), (0, .ref h0), (1, .int 1)]) hx hb dX12_image_36 hl (k := 0) rfl (by decide +kernel) (by decide) rfl (fun ls hl => ?_)
  refine lv_goto (tgt := 13) hx hb dX12_image_39 (by decide) ?_
  refine lv_iload_n hx hb dX12_image_13 rfl (lv_at hl 0 rfl) ?_
  refine lv_bipush (v := 15) hx hb dX12_image_14 (by decide +kernel) ?_
  refine lv_icmp_ge (tgt := 42) hx hb dX12_image_16 (by decide) (fun _ => ?_) (fun c_ => absurd (by decide +kernel) c_)
  refine lv_aload_n hx hb dX12_image_42 rfl (lv_at hl 1 rfl) ?_
  refine va_get (D := (dC, dI)) (ci := 12) (v := .ref (r 73)) (C := RX12) (T := TX12) (N := 74) hx hb hts inlX12 hown hK hP 0 rfl rfl 73 (by decide) (hts _ m_266) (fun _ h9 => h9) rfl dX12_image_43 ?_
  refine lv_iload_n hx hb dX12_image_46 rfl (lv_at hl 2 rfl) ?_
  refine lv_iconst (v := 1) hx hb dX12_image_47 (by decide +kernel) ?_
  refine va_zast hx hb hK hP hD hS 3 3 rfl rfl vi_1_3 dX12_image_48 (fun H locs hP hD hS => ?_)
  generalize upd (fun _ => 0) (Int32.toNatClampNeg 1) (vp_nar .boolean 1) = f_32 at hP hD
  have hP : va_P (dC, dI) classes [(h0, .inr (12, [.ref (r 0), .ref (r 1), .int 0, .int 0, .int 0, .int (-1), .int 0, .int 0, .int 0, .int 0, .long 0, .ref (r 11), .ref (r 12), .ref (r 13), .ref (r 14), .ref (r 15), .ref (r 16), .ref (r 17), .ref (r 18), .ref (r 19), .ref (r 20), .ref (r 21), .ref (r 22), .ref (r 23), .ref (r 24), .ref (r 25), .ref (r 26), .ref (r 27), .ref (r 28), .ref (r 29), .ref (r 30), .ref (r 31), .ref (r 32), .ref (r 33), .int 0, .int 0, .int 0, .int 0, .int 0, .int 0, .int 0, .ref (r 41), .ref (r 42), .ref (r 43), .ref (r 44), .int 0, .int 0, .int 0, .ref (r 48), .int 0, .int 0, .ref (r 51), .ref (r 52), .ref (r 53), .ref (r 54), .int 0, .ref (r 56), .ref (r 57), .ref (r 58), .int 0, .ref (r 60), .ref (r 61), .ref (r 62), .ref (r 63), .ref (r 64), .ref (r 65), .ref (r 66), .ref (r 67), .ref (r 68), .int 0, .int 0, .int 0, .ref (r 72), .ref (r 73)])), (r 41, .inl (cy 0, 15, .inl (fun _ => 0))), (r 72, .inl (cy 0, 45, .inl (fun _ => 0))), (r 73, .inl (cy 3, 3, .inl f_32))] H := hP
  have hD : va_D A [(h0, .inr (12, [.ref (r 0), .ref (r 1), .int 0, .int 0, .int 0, .int (-1), .int 0, .int 0, .int 0, .int 0, .long 0, .ref (r 11), .ref (r 12), .ref (r 13), .ref (r 14), .ref (r 15), .ref (r 16), .ref (r 17), .ref (r 18), .ref (r 19), .ref (r 20), .ref (r 21), .ref (r 22), .ref (r 23), .ref (r 24), .ref (r 25), .ref (r 26), .ref (r 27), .ref (r 28), .ref (r 29), .ref (r 30), .ref (r 31), .ref (r 32), .ref (r 33), .int 0, .int 0, .int 0, .int 0, .int 0, .int 0, .int 0, .ref (r 41), .ref (r 42), .ref (r 43), .ref (r 44), .int 0, .int 0, .int 0, .ref (r 48), .int 0, .int 0, .ref (r 51), .ref (r 52), .ref (r 53), .ref (r 54), .int 0, .ref (r 56), .ref (r 57), .ref (r 58), .int 0, .ref (r 60), .ref (r 61), .ref (r 62), .ref (r 63), .ref (r 64), .ref (r 65), .ref (r 66), .ref (r 67), .ref (r 68), .int 0, .int 0, .int 0, .ref (r 72), .ref (r 73)])), (r 41, .inl (cy 0, 15, .inl (fun _ => 0))), (r 72, .inl (cy 0, 45, .inl (fun _ => 0))), (r 73, .inl (cy 3, 3, .inl f_32))] := hD
  refine lv_aload_n hx hb dX12_image_49 rfl (lv_at hl 1 rfl) ?_
  refine va_get (D := (dC, dI)) (ci := 12) (v := .ref (r 41)) (C := RX12) (T := TX12) (N := 74) hx hb hts inlX12 hown hK hP 0 rfl rfl 41 (by decide) (hts _ m_244) (fun _ h9 => h9) rfl dX12_image_50 ?_
  refine lv_bipush (v := 13) hx hb dX12_image_53 (by decide +kernel) ?_
  refine va_iald hx hb hK hP 1 0 rfl rfl vi_13_15 dX12_image_55 ?_
  refine W.eq (g2 := F0 m 56 ls [.int 0]) rfl ?_
  exact W.iret (v := 0) hx hb hr (fun t ht hW => ⟨⟨0, (), rfl, rfl, trivial⟩, hS.F ht⟩) hS.2.2 dX12_image_56
set_option maxHeartbeats 4000000 in
set_option maxRecDepth 100000 in
theorem kX12_isIn_11 (l : Launch) (dC : Nat → ClassId) (dI : Nat → Nat → Nat) (cy : Nat → ClassId) : Met l yX12_isIn wmX12_isIn ({ frames := 0, cells := 0, slots := 0, locals := 0 }) (va_Pc [.int 2, .int 0, .int 2] (fun U => va_P (dC, dI) classes [] U.heap ∧ EV dC dI cy U)) (vp_Si (fun r_ => r_ = 1)) 0 0 (fun _ => False) := by
  refine Met.ofW (cc := cX12_isIn) (maxL := 3) (ret := (some .boolean)) (by decide +kernel) rfl ?_
  intro p e s m args below meth c s₁ B hml hv
  obtain ⟨rfl, hP, hE⟩ := hv
  have hK := hE.1
  have hN := hE.2.1
  have hx := B.exec
  have hb := B.bytes
  have hr := B.returns
  have hts0 := atoms_spec (ws := wmX12_isIn) B.pre
  have hts : ∀ w ∈ wsL_law, w.before _ s = true := fun w h => hts0 w (List.mem_cons_of_mem _ h)
  have hown : s.vm.findClass RX12 = some m.cls := findClass_of_methodNamed B.named
  have hlocks := B.notSynchronized
  have hl := lv_entry ([.int 2, .int 0, .int 2]) (n := 3) (Nat.le_of_ble_eq_true rfl)
  rw [lg_entry_eq]
  generalize (lg_sl ([.int 2, .int 0, .int 2]) ++ List.replicate (3 - (lg_sl ([.int 2, .int 0, .int 2])).length) Slot.unset).toArray = ls at hl ⊢
  have hl : lv_has ls 3 [(0, .int 2), (1, .int 0), (2, .int 2)] := hl
  refine lv_iload_n hx hb dX12_isIn_0 rfl (lv_at hl 0 rfl) ?_
  refine lv_iload_n hx hb dX12_isIn_1 rfl (lv_at hl 1 rfl) ?_
  refine lv_icmp_lt (tgt := 14) hx hb dX12_isIn_2 (by decide) (fun c_ => absurd c_ (by decide +kernel)) (fun _ => ?_)
  refine lv_iload_n hx hb dX12_isIn_5 rfl (lv_at hl 0 rfl) ?_
  refine lv_iload_n hx hb dX12_isIn_6 rfl (lv_at hl 2 rfl) ?_
  refine lv_icmp_gt (tgt := 14) hx hb dX12_isIn_7 (by decide) (fun c_ => absurd c_ (by decide +kernel)) (fun _ => ?_)
  refine lv_iconst (v := 1) hx hb dX12_isIn_10 (by decide +kernel) ?_
  refine lv_goto (tgt := 15) hx hb dX12_isIn_11 (by decide) ?_
  exact W.zret (v := 1) hx hb hr (by decide +kernel) (fun t ht hW => ⟨1, rfl, rfl, ht⟩) (fun _ h_ => (List.not_mem_nil h_).elim) dX12_isIn_15
set_option maxHeartbeats 4000000 in
set_option maxRecDepth 100000 in
theorem kX12_image_4 (l : Launch) (dC : Nat → ClassId) (dI : Nat → Nat → Nat) (cy : Nat → ClassId) (h0 : Nat) (r : Nat → Nat) (sz : Nat) : Met l yX12_image wmX12_image ({ frames := 1, cells := 0, slots := 0, locals := 22 }) (va_Pc [.ref h0, .int 2] (fun U => U.heap.size = sz ∧ va_P (dC, dI) classes [(h0, .inr (12, [.ref (r 0), .ref (r 1), .int 0, .int 0, .int 0, .int (-1), .int 0, .int 0, .int 0, .int 0, .long 0, .ref (r 11), .ref (r 12), .ref (r 13), .ref (r 14), .ref (r 15), .ref (r 16), .ref (r 17), .ref (r 18), .ref (r 19), .ref (r 20), .ref (r 21), .ref (r 22), .ref (r 23), .ref (r 24), .ref (r 25), .ref (r 26), .ref (r 27), .ref (r 28), .ref (r 29), .ref (r 30), .ref (r 31), .ref (r 32), .ref (r 33), .int 0, .int 0, .int 0, .int 0, .int 0, .int 0, .int 0, .ref (r 41), .ref (r 42), .ref (r 43), .ref (r 44), .int 0, .int 0, .int 0, .ref (r 48), .int 0, .int 0, .ref (r 51), .ref (r 52), .ref (r 53), .ref (r 54), .int 0, .ref (r 56), .ref (r 57), .ref (r 58), .int 0, .ref (r 60), .ref (r 61), .ref (r 62), .ref (r 63), .ref (r 64), .ref (r 65), .ref (r 66), .ref (r 67), .ref (r 68), .int 0, .int 0, .int 0, .ref (r 72), .ref (r 73)])), (r 41, .inl (cy 0, 15, .inl (fun _ => 0))), (r 72, .inl (cy 0, 45, .inl (fun _ => 0))), (r 73, .inl (cy 3, 3, .inl (fun _ => 0)))] U.heap ∧ EV dC dI cy U ∧ va_D (fun _ => True) [(h0, .inr (12, [.ref (r 0), .ref (r 1), .int 0, .int 0, .int 0, .int (-1), .int 0, .int 0, .int 0, .int 0, .long 0, .ref (r 11), .ref (r 12), .ref (r 13), .ref (r 14), .ref (r 15), .ref (r 16), .ref (r 17), .ref (r 18), .ref (r 19), .ref (r 20), .ref (r 21), .ref (r 22), .ref (r 23), .ref (r 24), .ref (r 25), .ref (r 26), .ref (r 27), .ref (r 28), .ref (r 29), .ref (r 30), .ref (r 31), .ref (r 32), .ref (r 33), .int 0, .int 0, .int 0, .int 0, .int 0, .int 0, .int 0, .ref (r 41), .ref (r 42), .ref (r 43), .ref (r 44), .int 0, .int 0, .int 0, .ref (r 48), .int 0, .int 0, .ref (r 51), .ref (r 52), .ref (r 53), .ref (r 54), .int 0, .ref (r 56), .ref (r 57), .ref (r 58), .int 0, .ref (r 60), .ref (r 61), .ref (r 62), .ref (r 63), .ref (r 64), .ref (r 65), .ref (r 66), .ref (r 67), .ref (r 68), .int 0, .int 0, .int 0, .ref (r 72), .ref (r 73)])), (r 41, .inl (cy 0, 15, .inl (fun _ => 0))), (r 72, .inl (cy 0, 45, .inl (fun _ => 0))), (r 73, .inl (cy 3, 3, .inl (fun _ => 0)))])) (va_Qi (S := Unit) (fun r_ _ => r_ = 0) (fun _ _ => True) (va_A [(h0, .inr (12, [.ref (r 0), .ref (r 1), .int 0, .int 0, .int 0, .int (-1), .int 0, .int 0, .int 0, .int 0, .long 0, .ref (r 11), .ref (r 12), .ref (r 13), .ref (r 14), .ref (r 15), .ref (r 16), .ref (r 17), .ref (r 18), .ref (r 19), .ref (r 20), .ref (r 21), .ref (r 22), .ref (r 23), .ref (r 24), .ref (r 25), .ref (r 26), .ref (r 27), .ref (r 28), .ref (r 29), .ref (r 30), .ref (r 31), .ref (r 32), .ref (r 33), .int 0, .int 0, .int 0, .int 0, .int 0, .int 0, .int 0, .ref (r 41), .ref (r 42), .ref (r 43), .ref (r 44), .int 0, .int 0, .int 0, .ref (r 48), .int 0, .int 0, .ref (r 51), .ref (r 52), .ref (r 53), .ref (r 54), .int 0, .ref (r 56), .ref (r 57), .ref (r 58), .int 0, .ref (r 60), .ref (r 61), .ref (r 62), .ref (r 63), .ref (r 64), .ref (r 65), .ref (r 66), .ref (r 67), .ref (r 68), .int 0, .int 0, .int 0, .ref (r 72), .ref (r 73)])), (r 41, .inl (cy 0, 15, .inl (fun _ => 0))), (r 72, .inl (cy 0, 45, .inl (fun _ => 0))), (r 73, .inl (cy 3, 3, .inl (fun _ => 0)))] sz)) 0 0 (va_A [(h0, .inr (12, [.ref (r 0), .ref (r 1), .int 0, .int 0, .int 0, .int (-1), .int 0, .int 0, .int 0, .int 0, .long 0, .ref (r 11), .ref (r 12), .ref (r 13), .ref (r 14), .ref (r 15), .ref (r 16), .ref (r 17), .ref (r 18), .ref (r 19), .ref (r 20), .ref (r 21), .ref (r 22), .ref (r 23), .ref (r 24), .ref (r 25), .ref (r 26), .ref (r 27), .ref (r 28), .ref (r 29), .ref (r 30), .ref (r 31), .ref (r 32), .ref (r 33), .int 0, .int 0, .int 0, .int 0, .int 0, .int 0, .int 0, .ref (r 41), .ref (r 42), .ref (r 43), .ref (r 44), .int 0, .int 0, .int 0, .ref (r 48), .int 0, .int 0, .ref (r 51), .ref (r 52), .ref (r 53), .ref (r 54), .int 0, .ref (r 56), .ref (r 57), .ref (r 58), .int 0, .ref (r 60), .ref (r 61), .ref (r 62), .ref (r 63), .ref (r 64), .ref (r 65), .ref (r 66), .ref (r 67), .ref (r 68), .int 0, .int 0, .int 0, .ref (r 72), .ref (r 73)])), (r 41, .inl (cy 0, 15, .inl (fun _ => 0))), (r 72, .inl (cy 0, 45, .inl (fun _ => 0))), (r 73, .inl (cy 3, 3, .inl (fun _ => 0)))] sz) := by
  refine Met.ofW (cc := cX12_image) (maxL := 3) (ret := (some .int)) (by decide +kernel) rfl ?_
  intro p e s m args below meth c s₁ B hml hv
  obtain ⟨rfl, hsz, hP, hE, hD0⟩ := hv
  have hK := hE.1
  have hN := hE.2.1
  have hx := B.exec
  have hb := B.bytes
  have hr := B.returns
  have hts0 := atoms_spec (ws := wmX12_image) B.pre
  have hts : ∀ w ∈ wsL_law, w.before _ s = true := fun w h => hts0 w (List.mem_cons_of_mem _ h)
  have hown : s.vm.findClass RX12 = some m.cls := findClass_of_methodNamed B.named
  have hlocks := B.notSynchronized
  subst hsz
  have hD := hD0.self (sz := s.heap.size)
  generalize hAe : va_A [(h0, .inr (12, [.ref (r 0), .ref (r 1), .int 0, .int 0, .int 0, .int (-1), .int 0, .int 0, .int 0, .int 0, .long 0, .ref (r 11), .ref (r 12), .ref (r 13), .ref (r 14), .ref (r 15), .ref (r 16), .ref (r 17), .ref (r 18), .ref (r 19), .ref (r 20), .ref (r 21), .ref (r 22), .ref (r 23), .ref (r 24), .ref (r 25), .ref (r 26), .ref (r 27), .ref (r 28), .ref (r 29), .ref (r 30), .ref (r 31), .ref (r 32), .ref (r 33), .int 0, .int 0, .int 0, .int 0, .int 0, .int 0, .int 0, .ref (r 41), .ref (r 42), .ref (r 43), .ref (r 44), .int 0, .int 0, .int 0, .ref (r 48), .int 0, .int 0, .ref (r 51), .ref (r 52), .ref (r 53), .ref (r 54), .int 0, .ref (r 56), .ref (r 57), .ref (r 58), .int 0, .ref (r 60), .ref (r 61), .ref (r 62), .ref (r 63), .ref (r 64), .ref (r 65), .ref (r 66), .ref (r 67), .ref (r 68), .int 0, .int 0, .int 0, .ref (r 72), .ref (r 73)])), (r 41, .inl (cy 0, 15, .inl (fun _ => 0))), (r 72, .inl (cy 0, 45, .inl (fun _ => 0))), (r 73, .inl (cy 3, 3, .inl (fun _ => 0)))] s.heap.size = A at hD ⊢
  have hA : ∀ q : Nat, s.heap.size ≤ q → A q := fun q h => by rw [← hAe]; exact Or.inr h
  have hS : va_S A s.heap s.heap [] := va_S.rf
  have hP : va_P (dC, dI) classes [(h0, .inr (12, [.ref (r 0), .ref (r 1), .int 0, .int 0, .int 0, .int (-1), .int 0, .int 0, .int 0, .int 0, .long 0, .ref (r 11), .ref (r 12), .ref (r 13), .ref (r 14), .ref (r 15), .ref (r 16), .ref (r 17), .ref (r 18), .ref (r 19), .ref (r 20), .ref (r 21), .ref (r 22), .ref (r 23), .ref (r 24), .ref (r 25), .ref (r 26), .ref (r 27), .ref (r 28), .ref (r 29), .ref (r 30), .ref (r 31), .ref (r 32), .ref (r 33), .int 0, .int 0, .int 0, .int 0, .int 0, .int 0, .int 0, .ref (r 41), .ref (r 42), .ref (r 43), .ref (r 44), .int 0, .int 0, .int 0, .ref (r 48), .int 0, .int 0, .ref (r 51), .ref (r 52), .ref (r 53), .ref (r 54), .int 0, .ref (r 56), .ref (r 57), .ref (r 58), .int 0, .ref (r 60), .ref (r 61), .ref (r 62), .ref (r 63), .ref (r 64), .ref (r 65), .ref (r 66), .ref (r 67), .ref (r 68), .int 0, .int 0, .int 0, .ref (r 72), .ref (r 73)])), (r 41, .inl (cy 0, 15, .inl (fun _ => 0))), (r 72, .inl (cy 0, 45, .inl (fun _ => 0))), (r 73, .inl (cy 3, 3, .inl (fun _ => 0)))] s.heap := hP
  have hl := lv_entry ([.ref h0, .int 2]) (n := 3) (Nat.le_of_ble_eq_true rfl)
  rw [lg_entry_eq]
  generalize (lg_sl ([.ref h0, .int 2]) ++ List.replicate (3 - (lg_sl ([.ref h0, .int 2])).length) Slot.unset).toArray = ls at hl ⊢
  have hl : lv_has ls 3 [(0, .ref h0), (1, .int 2)] := hl
  refine lv_iload_n hx hb dX12_image_0 rfl (lv_at hl 1 rfl) ?_
  refine lv_iconst (v := 0) hx hb dX12_image_1 (by decide +kernel) ?_
  refine lv_iconst (v := 2) hx hb dX12_image_2 (by decide +kernel) ?_
  have hPc := hP.sub (ws' := []) [] rfl
  refine vp_callSi (W.runS (As := [.int 2, .int 0, .int 2]) (rest := []) ⟨hx, hb, hml, hown, hts⟩ (kX12_isIn_11 l dC dI cy) (va_cwS 3 hts (gdS m_775 m_776 m_5 m_777) rfl rfl rfl (by decide +kernel) ⟨Nat.le_of_ble_eq_true rfl, Nat.le_of_ble_eq_true rfl⟩) ⟨fun a U g mk q => by obtain ⟨q0, qP, qE⟩ := q; exact ⟨q0, qP, qE.call⟩, fun U hU hW => ⟨rfl, by rw [hU]; exact hPc, hE.moved hW⟩⟩ rfl rfl hl.1 rfl (lv_room (Nat.le_of_ble_eq_true rfl)) dX12_image_3 ⟨(show 0 + 0 ≤ 0 from by decide +kernel), (show 0 + 0 ≤ 0 from by decide +kernel)⟩) (fun r_1 hw => ?_)
  subst r_1
  refine lv_if_ne (tgt := 11) hx hb dX12_image_6 (by decide) (fun _ => ?_) (fun c_ => absurd c_ (by decide +kernel))
  refine lv_iconst (v := 0) hx hb dX12_image_11 (by decide +kernel) ?_
  refine lv_istore_n (lv' := [(2, .int 0), (0, .ref h0), (1, .int 2)]) hx hb dX12_image_12 rfl hl (by decide) rfl (fun ls hl => ?_)
  refine lv_iload_n hx hb dX12_image_13 rfl (lv_at hl 0 rfl) ?_
  refine lv_bipush (v := 15) hx hb dX12_image_14 (by decide +kernel) ?_
  refine lv_icmp_ge (tgt := 42) hx hb dX12_image_16 (by decide) (fun c_ => absurd c_ (by decide +kernel)) (fun _ => ?_)
  refine lv_aload_n hx hb dX12_image_19 rfl (lv_at hl 1 rfl) ?_
  refine va_get (D := (dC, dI)) (ci := 12) (v := .ref (r 72)) (C := RX12) (T := TX12) (N := 74) hx hb hts inlX12 hown hK hP 0 rfl rfl 72 (by decide) (hts _ m_265) (fun _ h9 => h9) rfl dX12_image_20 ?_
  refine lv_bipush (v := 15) hx hb dX12_image_23 (by decide +kernel) ?_
  refine lv_iload_n hx hb dX12_image_25 rfl (lv_at hl 2 rfl) ?_
  refine lv_imul hx hb dX12_image_26 ?_
  refine lv_topi (fun z_2 ez_2 => ?_)
  obtain rfl : z_2 = 30 := ez_2.trans (by decide +kernel)
  refine lv_iload_n hx hb dX12_image_27 rfl (lv_at hl 0 rfl) ?_
  refine lv_iadd hx hb dX12_image_28 ?_
  refine lv_topi (fun z_3 ez_3 => ?_)
  obtain rfl : z_3 = 30 := ez_3.trans (by decide +kernel)
  refine lv_aload_n hx hb dX12_image_29 rfl (lv_at hl 1 rfl) ?_
  refine va_get (D := (dC, dI)) (ci := 12) (v := .ref (r 41)) (C := RX12) (T := TX12) (N := 74) hx hb hts inlX12 hown hK hP 0 rfl rfl 41 (by decide) (hts _ m_244) (fun _ h9 => h9) rfl dX12_image_30 ?_
  refine lv_iload_n hx hb dX12_image_33 rfl (lv_at hl 0 rfl) ?_
  refine va_iald hx hb hK hP 1 0 rfl rfl vi_0_15 dX12_image_34 ?_
  refine W.eq (g2 := F0 m 35 ls [.int 0, .int 30, .ref (r 72)]) rfl ?_
  refine va_iast hx hb hK hP hD hS 2 0 rfl rfl vi_30_45 dX12_image_35 (fun H locs hP hD hS => ?_)
  rw [show upd (fun _ => 0) (Int32.toNatClampNeg 30) 0 = (fun _ => 0) from xa_upd0 rfl] at hP hD
  have hP : va_P (dC, dI) classes [(h0, .inr (12, [.ref (r 0), .ref (r 1), .int 0, .int 0, .int 0, .int (-1), .int 0, .int 0, .int 0, .int 0, .long 0, .ref (r 11), .ref (r 12), .ref (r 13), .ref (r 14), .ref (r 15), .ref (r 16), .ref (r 17), .ref (r 18), .ref (r 19), .ref (r 20), .ref (r 21), .ref (r 22), .ref (r 23), .ref (r 24), .ref (r 25), .ref (r 26), .ref (r 27), .ref (r 28), .ref (r 29), .ref (r 30), .ref (r 31), .ref (r 32), .ref (r 33), .int 0, .int 0, .int 0, .int 0, .int 0, .int 0, .int 0, .ref (r 41), .ref (r 42), .ref (r 43), .ref (r 44), .int 0, .int 0, .int 0, .ref (r 48), .int 0, .int 0, .ref (r 51), .ref (r 52), .ref (r 53), .ref (r 54), .int 0, .ref (r 56), .ref (r 57), .ref (r 58), .int 0, .ref (r 60), .ref (r 61), .ref (r 62), .ref (r 63), .ref (r 64), .ref (r 65), .ref (r 66), .ref (r 67), .ref (r 68), .int 0, .int 0, .int 0, .ref (r 72), .ref (r 73)])), (r 41, .inl (cy 0, 15, .inl (fun _ => 0))), (r 72, .inl (cy 0, 45, .inl (fun _ => 0))), (r 73, .inl (cy 3, 3, .inl (fun _ => 0)))] H := hP
  have hD : va_D A [(h0, .inr (12, [.ref (r 0), .ref (r 1), .int 0, .int 0, .int 0, .int (-1), .int 0, .int 0, .int 0, .int 0, .long 0, .ref (r 11), .ref (r 12), .ref (r 13), .ref (r 14), .ref (r 15), .ref (r 16), .ref (r 17), .ref (r 18), .ref (r 19), .ref (r 20), .ref (r 21), .ref (r 22), .ref (r 23), .ref (r 24), .ref (r 25), .ref (r 26), .ref (r 27), .ref (r 28), .ref (r 29), .ref (r 30), .ref (r 31), .ref (r 32), .ref (r 33), .int 0, .int 0, .int 0, .int 0, .int 0, .int 0, .int 0, .ref (r 41), .ref (r 42), .ref (r 43), .ref (r 44), .int 0, .int 0, .int 0, .ref (r 48), .int 0, .int 0, .ref (r 51), .ref (r 52), .ref (r 53), .ref (r 54), .int 0, .ref (r 56), .ref (r 57), .ref (r 58), .int 0, .ref (r 60), .ref (r 61), .ref (r 62), .ref (r 63), .ref (r 64), .ref (r 65), .ref (r 66), .ref (r 67), .ref (r 68), .int 0, .int 0, .int 0, .ref (r 72), .ref (r 73)])), (r 41, .inl (cy 0, 15, .inl (fun _ => 0))), (r 72, .inl (cy 0, 45, .inl (fun _ => 0))), (r 73, .inl (cy 3, 3, .inl (fun _ => 0)))] := hD
  refine lv_iinc (v := 1) (lv' := [(2, .int 1), (0, .ref h0), (1, .int 2)]) hx hb dX12_image_36 hl (k := 0) rfl (by decide +kernel) (by decide) rfl (fun ls hl => ?_)
  refine lv_goto (tgt := 13) hx hb dX12_image_39 (by decide) ?_
  refine lv_iload_n hx hb dX12_image_13 rfl (lv_at hl 0 rfl) ?_
  refine lv_bipush (v := 15) hx hb dX12_image_14 (by decide +kernel) ?_
  refine lv_icmp_ge (tgt := 42) hx hb dX12_image_16 (by decide) (fun c_ => absurd c_ (by decide +kernel)) (fun _ => ?_)
  refine lv_aload_n hx hb dX12_image_19 rfl (lv_at hl 1 rfl) ?_
  refine va_get (D := (dC, dI)) (ci := 12) (v := .ref (r 72)) (C := RX12) (T := TX12) (N := 74) hx hb hts inlX12 hown hK hP 0 rfl rfl 72 (by decide) (hts _ m_265) (fun _ h9 => h9) rfl dX12_image_20 ?_
  refine lv_bipush (v := 15) hx hb dX12_image_23 (by decide +kernel) ?_
  refine lv_iload_n hx hb dX12_image_25 rfl (lv_at hl 2 rfl) ?_
  refine lv_imul hx hb dX12_image_26 ?_
  refine lv_topi (fun z_4 ez_4 => ?_)
  obtain rfl : z_4 = 30 := ez_4.trans (by decide +kernel)
  refine lv_iload_n hx hb dX12_image_27 rfl (lv_at hl 0 rfl) ?_
  refine lv_iadd hx hb dX12_image_28 ?_
  refine lv_topi (fun z_5 ez_5 => ?_)
  obtain rfl : z_5 = 31 := ez_5.trans (by decide +kernel)
  refine lv_aload_n hx hb dX12_image_29 rfl (lv_at hl 1 rfl) ?_
  refine va_get (D := (dC, dI)) (ci := 12) (v := .ref (r 41)) (C := RX12) (T := TX12) (N := 74) hx hb hts inlX12 hown hK hP 0 rfl rfl 41 (by decide) (hts _ m_244) (fun _ h9 => h9) rfl dX12_image_30 ?_
  refine lv_iload_n hx hb dX12_image_33 rfl (lv_at hl 0 rfl) ?_
  refine va_iald hx hb hK hP 1 0 rfl rfl vi_1_15 dX12_image_34 ?_
  refine W.eq (g2 := F0 m 35 ls [.int 0, .int 31, .ref (r 72)]) rfl ?_
  refine va_iast hx hb hK hP hD hS 2 0 rfl rfl vi_31_45 dX12_image_35 (fun H locs hP hD hS => ?_)
  rw [show upd (fun _ => 0) (Int32.toNatClampNeg 31) 0 = (fun _ => 0) from xa_upd0 rfl] at hP hD
  have hP : va_P (dC, dI) classes [(h0, .inr (12, [.ref (r 0), .ref (r 1), .int 0, .int 0, .int 0, .int (-1), .int 0, .int 0, .int 0, .int 0, .long 0, .ref (r 11), .ref (r 12), .ref (r 13), .ref (r 14), .ref (r 15), .ref (r 16), .ref (r 17), .ref (r 18), .ref (r 19), .ref (r 20), .ref (r 21), .ref (r 22), .ref (r 23), .ref (r 24), .ref (r 25), .ref (r 26), .ref (r 27), .ref (r 28), .ref (r 29), .ref (r 30), .ref (r 31), .ref (r 32), .ref (r 33), .int 0, .int 0, .int 0, .int 0, .int 0, .int 0, .int 0, .ref (r 41), .ref (r 42), .ref (r 43), .ref (r 44), .int 0, .int 0, .int 0, .ref (r 48), .int 0, .int 0, .ref (r 51), .ref (r 52), .ref (r 53), .ref (r 54), .int 0, .ref (r 56), .ref (r 57), .ref (r 58), .int 0, .ref (r 60), .ref (r 61), .ref (r 62), .ref (r 63), .ref (r 64), .ref (r 65), .ref (r 66), .ref (r 67), .ref (r 68), .int 0, .int 0, .int 0, .ref (r 72), .ref (r 73)])), (r 41, .inl (cy 0, 15, .inl (fun _ => 0))), (r 72, .inl (cy 0, 45, .inl (fun _ => 0))), (r 73, .inl (cy 3, 3, .inl (fun _ => 0)))] H := hP
  have hD : va_D A [(h0, .inr (12, [.ref (r 0), .ref (r 1), .int 0, .int 0, .int 0, .int (-1), .int 0, .int 0, .int 0, .int 0, .long 0, .ref (r 11), .ref (r 12), .ref (r 13), .ref (r 14), .ref (r 15), .ref (r 16), .ref (r 17), .ref (r 18), .ref (r 19), .ref (r 20), .ref (r 21), .ref (r 22), .ref (r 23), .ref (r 24), .ref (r 25), .ref (r 26), .ref (r 27), .ref (r 28), .ref (r 29), .ref (r 30), .ref (r 31), .ref (r 32), .ref (r 33), .int 0, .int 0, .int 0, .int 0, .int 0, .int 0, .int 0, .ref (r 41), .ref (r 42), .ref (r 43), .ref (r 44), .int 0, .int 0, .int 0, .ref (r 48), .int 0, .int 0, .ref (r 51), .ref (r 52), .ref (r 53), .ref (r 54), .int 0, .ref (r 56), .ref (r 57), .ref (r 58), .int 0, .ref (r 60), .ref (r 61), .ref (r 62), .ref (r 63), .ref (r 64), .ref (r 65), .ref (r 66), .ref (r 67), .ref (r 68), .int 0, .int 0, .int 0, .ref (r 72), .ref (r 73)])), (r 41, .inl (cy 0, 15, .inl (fun _ => 0))), (r 72, .inl (cy 0, 45, .inl (fun _ => 0))), (r 73, .inl (cy 3, 3, .inl (fun _ => 0)))] := hD
  refine lv_iinc (v := 2) (lv' := [(2, .int 2), (0, .ref h0), (1, .int 2)]) hx hb dX12_image_36 hl (k := 0) rfl (by decide +kernel) (by decide) rfl (fun ls hl => ?_)
  refine lv_goto (tgt := 13) hx hb dX12_image_39 (by decide) ?_
  refine lv_iload_n hx hb dX12_image_13 rfl (lv_at hl 0 rfl) ?_
  refine lv_bipush (v := 15) hx hb dX12_image_14 (by decide +kernel) ?_
  refine lv_icmp_ge (tgt := 42) hx hb dX12_image_16 (by decide) (fun c_ => absurd c_ (by decide +kernel)) (fun _ => ?_)
  refine lv_aload_n hx hb dX12_image_19 rfl (lv_at hl 1 rfl) ?_
  refine va_get (D := (dC, dI)) (ci := 12) (v := .ref (r 72)) (C := RX12) (T := TX12) (N := 74) hx hb hts inlX12 hown hK hP 0 rfl rfl 72 (by decide) (hts _ m_265) (fun _ h9 => h9) rfl dX12_image_20 ?_
  refine lv_bipush (v := 15) hx hb dX12_image_23 (by decide +kernel) ?_
  refine lv_iload_n hx hb dX12_image_25 rfl (lv_at hl 2 rfl) ?_
  refine lv_imul hx hb dX12_image_26 ?_
  refine lv_topi (fun z_6 ez_6 => ?_)
  obtain rfl : z_6 = 30 := ez_6.trans (by decide +kernel)
  refine lv_iload_n hx hb dX12_image_27 rfl (lv_at hl 0 rfl) ?_
  refine lv_iadd hx hb dX12_image_28 ?_
  refine lv_topi (fun z_7 ez_7 => ?_)
  obtain rfl : z_7 = 32 := ez_7.trans (by decide +kernel)
  refine lv_aload_n hx hb dX12_image_29 rfl (lv_at hl 1 rfl) ?_
  refine va_get (D := (dC, dI)) (ci := 12) (v := .ref (r 41)) (C := RX12) (T := TX12) (N := 74) hx hb hts inlX12 hown hK hP 0 rfl rfl 41 (by decide) (hts _ m_244) (fun _ h9 => h9) rfl dX12_image_30 ?_
  refine lv_iload_n hx hb dX12_image_33 rfl (lv_at hl 0 rfl) ?_
  refine va_iald hx hb hK hP 1 0 rfl rfl vi_2_15 dX12_image_34 ?_
  refine W.eq (g2 := F0 m 35 ls [.int 0, .int 32, .ref (r 72)]) rfl ?_
  refine va_iast hx hb hK hP hD hS 2 0 rfl rfl vi_32_45 dX12_image_35 (fun H locs hP hD hS => ?_)
  rw [show upd (fun _ => 0) (Int32.toNatClampNeg 32) 0 = (fun _ => 0) from xa_upd0 rfl] at hP hD
  have hP : va_P (dC, dI) classes [(h0, .inr (12, [.ref (r 0), .ref (r 1), .int 0, .int 0, .int 0, .int (-1), .int 0, .int 0, .int 0, .int 0, .long 0, .ref (r 11), .ref (r 12), .ref (r 13), .ref (r 14), .ref (r 15), .ref (r 16), .ref (r 17), .ref (r 18), .ref (r 19), .ref (r 20), .ref (r 21), .ref (r 22), .ref (r 23), .ref (r 24), .ref (r 25), .ref (r 26), .ref (r 27), .ref (r 28), .ref (r 29), .ref (r 30), .ref (r 31), .ref (r 32), .ref (r 33), .int 0, .int 0, .int 0, .int 0, .int 0, .int 0, .int 0, .ref (r 41), .ref (r 42), .ref (r 43), .ref (r 44), .int 0, .int 0, .int 0, .ref (r 48), .int 0, .int 0, .ref (r 51), .ref (r 52), .ref (r 53), .ref (r 54), .int 0, .ref (r 56), .ref (r 57), .ref (r 58), .int 0, .ref (r 60), .ref (r 61), .ref (r 62), .ref (r 63), .ref (r 64), .ref (r 65), .ref (r 66), .ref (r 67), .ref (r 68), .int 0, .int 0, .int 0, .ref (r 72), .ref (r 73)])), (r 41, .inl (cy 0, 15, .inl (fun _ => 0))), (r 72, .inl (cy 0, 45, .inl (fun _ => 0))), (r 73, .inl (cy 3, 3, .inl (fun _ => 0)))] H := hP
  have hD : va_D A [(h0, .inr (12, [.ref (r 0), .ref (r 1), .int 0, .int 0, .int 0, .int (-1), .int 0, .int 0, .int 0, .int 0, .long 0, .ref (r 11), .ref (r 12), .ref (r 13), .ref (r 14), .ref (r 15), .ref (r 16), .ref (r 17), .ref (r 18), .ref (r 19), .ref (r 20), .ref (r 21), .ref (r 22), .ref (r 23), .ref (r 24), .ref (r 25), .ref (r 26), .ref (r 27), .ref (r 28), .ref (r 29), .ref (r 30), .ref (r 31), .ref (r 32), .ref (r 33), .int 0, .int 0, .int 0, .int 0, .int 0, .int 0, .int 0, .ref (r 41), .ref (r 42), .ref (r 43), .ref (r 44), .int 0, .int 0, .int 0, .ref (r 48), .int 0, .int 0, .ref (r 51), .ref (r 52), .ref (r 53), .ref (r 54), .int 0, .ref (r 56), .ref (r 57), .ref (r 58), .int 0, .ref (r 60), .ref (r 61), .ref (r 62), .ref (r 63), .ref (r 64), .ref (r 65), .ref (r 66), .ref (r 67), .ref (r 68), .int 0, .int 0, .int 0, .ref (r 72), .ref (r 73)])), (r 41, .inl (cy 0, 15, .inl (fun _ => 0))), (r 72, .inl (cy 0, 45, .inl (fun _ => 0))), (r 73, .inl (cy 3, 3, .inl (fun _ => 0)))] := hD
  refine lv_iinc (v := 3) (lv' := [(2, .int 3), (0, .ref h0), (1, .int 2)]) hx hb dX12_image_36 hl (k := 0) rfl (by decide +kernel) (by decide) rfl (fun ls hl => ?_)
  refine lv_goto (tgt := 13) hx hb dX12_image_39 (by decide) ?_
  refine lv_iload_n hx hb dX12_image_13 rfl (lv_at hl 0 rfl) ?_
  refine lv_bipush (v := 15) hx hb dX12_image_14 (by decide +kernel) ?_
  refine lv_icmp_ge (tgt := 42) hx hb dX12_image_16 (by decide) (fun c_ => absurd c_ (by decide +kernel)) (fun _ => ?_)
  refine lv_aload_n hx hb dX12_image_19 rfl (lv_at hl 1 rfl) ?_
  refine va_get (D := (dC, dI)) (ci := 12) (v := .ref (r 72)) (C := RX12) (T := TX12) (N := 74) hx hb hts inlX12 hown hK hP 0 rfl rfl 72 (by decide) (hts _ m_265) (fun _ h9 => h9) rfl dX12_image_20 ?_
  refine lv_bipush (v := 15) hx hb dX12_image_23 (by decide +kernel) ?_
  refine lv_iload_n hx hb dX12_image_25 rfl (lv_at hl 2 rfl) ?_
  refine lv_imul hx hb dX12_image_26 ?_
  refine lv_topi (fun z_8 ez_8 => ?_)
  obtain rfl : z_8 = 30 := ez_8.trans (by decide +kernel)
  refine lv_iload_n hx hb dX12_image_27 rfl (lv_at hl 0 rfl) ?_
  refine lv_iadd hx hb dX12_image_28 ?_
  refine lv_topi (fun z_9 ez_9 => ?_)
  obtain rfl : z_9 = 33 := ez_9.trans (by decide +kernel)
  refine lv_aload_n hx hb dX12_image_29 rfl (lv_at hl 1 rfl) ?_
  refine va_get (D := (dC, dI)) (ci := 12) (v := .ref (r 41)) (C := RX12) (T := TX12) (N := 74) hx hb hts inlX12 hown hK hP 0 rfl rfl 41 (by decide) (hts _ m_244) (fun _ h9 => h9) rfl dX12_image_30 ?_
  refine lv_iload_n hx hb dX12_image_33 rfl (lv_at hl 0 rfl) ?_
  refine va_iald hx hb hK hP 1 0 rfl rfl vi_3_15 dX12_image_34 ?_
  refine W.eq (g2 := F0 m 35 ls [.int 0, .int 33, .ref (r 72)]) rfl ?_
  refine va_iast hx hb hK hP hD hS 2 0 rfl rfl vi_33_45 dX12_image_35 (fun H locs hP hD hS => ?_)
  rw [show upd (fun _ => 0) (Int32.toNatClampNeg 33) 0 = (fun _ => 0) from xa_upd0 rfl] at hP hD
  have hP : va_P (dC, dI) classes [(h0, .inr (12, [.ref (r 0), .ref (r 1), .int 0, .int 0, .int 0, .int (-1), .int 0, .int 0, .int 0, .int 0, .long 0, .ref (r 11), .ref (r 12), .ref (r 13), .ref (r 14), .ref (r 15), .ref (r 16), .ref (r 17), .ref (r 18), .ref (r 19), .ref (r 20), .ref (r 21), .ref (r 22), .ref (r 23), .ref (r 24), .ref (r 25), .ref (r 26), .ref (r 27), .ref (r 28), .ref (r 29), .ref (r 30), .ref (r 31), .ref (r 32), .ref (r 33), .int 0, .int 0, .int 0, .int 0, .int 0, .int 0, .int 0, .ref (r 41), .ref (r 42), .ref (r 43), .ref (r 44), .int 0, .int 0, .int 0, .ref (r 48), .int 0, .int 0, .ref (r 51), .ref (r 52), .ref (r 53), .ref (r 54), .int 0, .ref (r 56), .ref (r 57), .ref (r 58), .int 0, .ref (r 60), .ref (r 61), .ref (r 62), .ref (r 63), .ref (r 64), .ref (r 65), .ref (r 66), .ref (r 67), .ref (r 68), .int 0, .int 0, .int 0, .ref (r 72), .ref (r 73)])), (r 41, .inl (cy 0, 15, .inl (fun _ => 0))), (r 72, .inl (cy 0, 45, .inl (fun _ => 0))), (r 73, .inl (cy 3, 3, .inl (fun _ => 0)))] H := hP
  have hD : va_D A [(h0, .inr (12, [.ref (r 0), .ref (r 1), .int 0, .int 0, .int 0, .int (-1), .int 0, .int 0, .int 0, .int 0, .long 0, .ref (r 11), .ref (r 12), .ref (r 13), .ref (r 14), .ref (r 15), .ref (r 16), .ref (r 17), .ref (r 18), .ref (r 19), .ref (r 20), .ref (r 21), .ref (r 22), .ref (r 23), .ref (r 24), .ref (r 25), .ref (r 26), .ref (r 27), .ref (r 28), .ref (r 29), .ref (r 30), .ref (r 31), .ref (r 32), .ref (r 33), .int 0, .int 0, .int 0, .int 0, .int 0, .int 0, .int 0, .ref (r 41), .ref (r 42), .ref (r 43), .ref (r 44), .int 0, .int 0, .int 0, .ref (r 48), .int 0, .int 0, .ref (r 51), .ref (r 52), .ref (r 53), .ref (r 54), .int 0, .ref (r 56), .ref (r 57), .ref (r 58), .int 0, .ref (r 60), .ref (r 61), .ref (r 62), .ref (r 63), .ref (r 64), .ref (r 65), .ref (r 66), .ref (r 67), .ref (r 68), .int 0, .int 0, .int 0, .ref (r 72), .ref (r 73)])), (r 41, .inl (cy 0, 15, .inl (fun _ => 0))), (r 72, .inl (cy 0, 45, .inl (fun _ => 0))), (r 73, .inl (cy 3, 3, .inl (fun _ => 0)))] := hD
  refine lv_iinc (v := 4) (lv' := [(2, .int 4), (0, .ref h0), (1, .int 2)]) hx hb dX12_image_36 hl (k := 0) rfl (by decide +kernel) (by decide) rfl (fun ls hl => ?_)
  refine lv_goto (tgt := 13) hx hb dX12_image_39 (by decide) ?_
  refine lv_iload_n hx hb dX12_image_13 rfl (lv_at hl 0 rfl) ?_
  refine lv_bipush (v := 15) hx hb dX12_image_14 (by decide +kernel) ?_
  refine lv_icmp_ge (tgt := 42) hx hb dX12_image_16 (by decide) (fun c_ => absurd c_ (by decide +kernel)) (fun _ => ?_)
  refine lv_aload_n hx hb dX12_image_19 rfl (lv_at hl 1 rfl) ?_
  refine va_get (D := (dC, dI)) (ci := 12) (v := .ref (r 72)) (C := RX12) (T := TX12) (N := 74) hx hb hts inlX12 hown hK hP 0 rfl rfl 72 (by decide) (hts _ m_265) (fun _ h9 => h9) rfl dX12_image_20 ?_
  refine lv_bipush (v := 15) hx hb dX12_image_23 (by decide +kernel) ?_
  refine lv_iload_n hx hb dX12_image_25 rfl (lv_at hl 2 rfl) ?_
  refine lv_imul hx hb dX12_image_26 ?_
  refine lv_topi (fun z_10 ez_10 => ?_)
  obtain rfl : z_10 = 30 := ez_10.trans (by decide +kernel)
  refine lv_iload_n hx hb dX12_image_27 rfl (lv_at hl 0 rfl) ?_
  refine lv_iadd hx hb dX12_image_28 ?_
  refine lv_topi (fun z_11 ez_11 => ?_)
  obtain rfl : z_11 = 34 := ez_11.trans (by decide +kernel)
  refine lv_aload_n hx hb dX12_image_29 rfl (lv_at hl 1 rfl) ?_
  refine va_get (D := (dC, dI)) (ci := 12) (v := .ref (r 41)) (C := RX12) (T := TX12) (N := 74) hx hb hts inlX12 hown hK hP 0 rfl rfl 41 (by decide) (hts _ m_244) (fun _ h9 => h9) rfl dX12_image_30 ?_
  refine lv_iload_n hx hb dX12_image_33 rfl (lv_at hl 0 rfl) ?_
  refine va_iald hx hb hK hP 1 0 rfl rfl vi_4_15 dX12_image_34 ?_
  refine W.eq (g2 := F0 m 35 ls [.int 0, .int 34, .ref (r 72)]) rfl ?_
  refine va_iast hx hb hK hP hD hS 2 0 rfl rfl vi_34_45 dX12_image_35 (fun H locs hP hD hS => ?_)
  rw [show upd (fun _ => 0) (Int32.toNatClampNeg 34) 0 = (fun _ => 0) from xa_upd0 rfl] at hP hD
  have hP : va_P (dC, dI) classes [(h0, .inr (12, [.ref (r 0), .ref (r 1), .int 0, .int 0, .int 0, .int (-1), .int 0, .int 0, .int 0, .int 0, .long 0, .ref (r 11), .ref (r 12), .ref (r 13), .ref (r 14), .ref (r 15), .ref (r 16), .ref (r 17), .ref (r 18), .ref (r 19), .ref (r 20), .ref (r 21), .ref (r 22), .ref (r 23), .ref (r 24), .ref (r 25), .ref (r 26), .ref (r 27), .ref (r 28), .ref (r 29), .ref (r 30), .ref (r 31), .ref (r 32), .ref (r 33), .int 0, .int 0, .int 0, .int 0, .int 0, .int 0, .int 0, .ref (r 41), .ref (r 42), .ref (r 43), .ref (r 44), .int 0, .int 0, .int 0, .ref (r 48), .int 0, .int 0, .ref (r 51), .ref (r 52), .ref (r 53), .ref (r 54), .int 0, .ref (r 56), .ref (r 57), .ref (r 58), .int 0, .ref (r 60), .ref (r 61), .ref (r 62), .ref (r 63), .ref (r 64), .ref (r 65), .ref (r 66), .ref (r 67), .ref (r 68), .int 0, .int 0, .int 0, .ref (r 72), .ref (r 73)])), (r 41, .inl (cy 0, 15, .inl (fun _ => 0))), (r 72, .inl (cy 0, 45, .inl (fun _ => 0))), (r 73, .inl (cy 3, 3, .inl (fun _ => 0)))] H := hP
  have hD : va_D A [(h0, .inr (12, [.ref (r 0), .ref (r 1), .int 0, .int 0, .int 0, .int (-1), .int 0, .int 0, .int 0, .int 0, .long 0, .ref (r 11), .ref (r 12), .ref (r 13), .ref (r 14), .ref (r 15), .ref (r 16), .ref (r 17), .ref (r 18), .ref (r 19), .ref (r 20), .ref (r 21), .ref (r 22), .ref (r 23), .ref (r 24), .ref (r 25), .ref (r 26), .ref (r 27), .ref (r 28), .ref (r 29), .ref (r 30), .ref (r 31), .ref (r 32), .ref (r 33), .int 0, .int 0, .int 0, .int 0, .int 0, .int 0, .int 0, .ref (r 41), .ref (r 42), .ref (r 43), .ref (r 44), .int 0, .int 0, .int 0, .ref (r 48), .int 0, .int 0, .ref (r 51), .ref (r 52), .ref (r 53), .ref (r 54), .int 0, .ref (r 56), .ref (r 57), .ref (r 58), .int 0, .ref (r 60), .ref (r 61), .ref (r 62), .ref (r 63), .ref (r 64), .ref (r 65), .ref (r 66), .ref (r 67), .ref (r 68), .int 0, .int 0, .int 0, .ref (r 72), .ref (r 73)])), (r 41, .inl (cy 0, 15, .inl (fun _ => 0))), (r 72, .inl (cy 0, 45, .inl (fun _ => 0))), (r 73, .inl (cy 3, 3, .inl (fun _ => 0)))] := hD
  refine lv_iinc (v := 5) (lv' := [(2, .int 5), (0, .ref h0), (1, .int 2)]) hx hb dX12_image_36 hl (k := 0) rfl (by decide +kernel) (by decide) rfl (fun ls hl => ?_)
  refine lv_goto (tgt := 13) hx hb dX12_image_39 (by decide) ?_
  refine lv_iload_n hx hb dX12_image_13 rfl (lv_at hl 0 rfl) ?_
  refine lv_bipush (v := 15) hx hb dX12_image_14 (by decide +kernel) ?_
  refine lv_icmp_ge (tgt := 42) hx hb dX12_image_16 (by decide) (fun c_ => absurd c_ (by decide +kernel)) (fun _ => ?_)
  refine lv_aload_n hx hb dX12_image_19 rfl (lv_at hl 1 rfl) ?_
  refine va_get (D := (dC, dI)) (ci := 12) (v := .ref (r 72)) (C := RX12) (T := TX12) (N := 74) hx hb hts inlX12 hown hK hP 0 rfl rfl 72 (by decide) (hts _ m_265) (fun _ h9 => h9) rfl dX12_image_20 ?_
  refine lv_bipush (v := 15) hx hb dX12_image_23 (by decide +kernel) ?_
  refine lv_iload_n hx hb dX12_image_25 rfl (lv_at hl 2 rfl) ?_
  refine lv_imul hx hb dX12_image_26 ?_
  refine lv_topi (fun z_12 ez_12 => ?_)
  obtain rfl : z_12 = 30 := ez_12.trans (by decide +kernel)
  refine lv_iload_n hx hb dX12_image_27 rfl (lv_at hl 0 rfl) ?_
  refine lv_iadd hx hb dX12_image_28 ?_
  refine lv_topi (fun z_13 ez_13 => ?_)
  obtain rfl : z_13 = 35 := ez_13.trans (by decide +kernel)
  refine lv_aload_n hx hb dX12_image_29 rfl (lv_at hl 1 rfl) ?_
  refine va_get (D := (dC, dI)) (ci := 12) (v := .ref (r 41)) (C := RX12) (T := TX12) (N := 74) hx hb hts inlX12 hown hK hP 0 rfl rfl 41 (by decide) (hts _ m_244) (fun _ h9 => h9) rfl dX12_image_30 ?_
  refine lv_iload_n hx hb dX12_image_33 rfl (lv_at hl 0 rfl) ?_
  refine va_iald hx hb hK hP 1 0 rfl rfl vi_5_15 dX12_image_34 ?_
  refine W.eq (g2 := F0 m 35 ls [.int 0, .int 35, .ref (r 72)]) rfl ?_
  refine va_iast hx hb hK hP hD hS 2 0 rfl rfl vi_35_45 dX12_image_35 (fun H locs hP hD hS => ?_)
  rw [show upd (fun _ => 0) (Int32.toNatClampNeg 35) 0 = (fun _ => 0) from xa_upd0 rfl] at hP hD
  have hP : va_P (dC, dI) classes [(h0, .inr (12, [.ref (r 0), .ref (r 1), .int 0, .int 0, .int 0, .int (-1), .int 0, .int 0, .int 0, .int 0, .long 0, .ref (r 11), .ref (r 12), .ref (r 13), .ref (r 14), .ref (r 15), .ref (r 16), .ref (r 17), .ref (r 18), .ref (r 19), .ref (r 20), .ref (r 21), .ref (r 22), .ref (r 23), .ref (r 24), .ref (r 25), .ref (r 26), .ref (r 27), .ref (r 28), .ref (r 29), .ref (r 30), .ref (r 31), .ref (r 32), .ref (r 33), .int 0, .int 0, .int 0, .int 0, .int 0, .int 0, .int 0, .ref (r 41), .ref (r 42), .ref (r 43), .ref (r 44), .int 0, .int 0, .int 0, .ref (r 48), .int 0, .int 0, .ref (r 51), .ref (r 52), .ref (r 53), .ref (r 54), .int 0, .ref (r 56), .ref (r 57), .ref (r 58), .int 0, .ref (r 60), .ref (r 61), .ref (r 62), .ref (r 63), .ref (r 64), .ref (r 65), .ref (r 66), .ref (r 67), .ref (r 68), .int 0, .int 0, .int 0, .ref (r 72), .ref (r 73)])), (r 41, .inl (cy 0, 15, .inl (fun _ => 0))), (r 72, .inl (cy 0, 45, .inl (fun _ => 0))), (r 73, .inl (cy 3, 3, .inl (fun _ => 0)))] H := hP
  have hD : va_D A [(h0, .inr (12, [.ref (r 0), .ref (r 1), .int 0, .int 0, .int 0, .int (-1), .int 0, .int 0, .int 0, .int 0, .long 0, .ref (r 11), .ref (r 12), .ref (r 13), .ref (r 14), .ref (r 15), .ref (r 16), .ref (r 17), .ref (r 18), .ref (r 19), .ref (r 20), .ref (r 21), .ref (r 22), .ref (r 23), .ref (r 24), .ref (r 25), .ref (r 26), .ref (r 27), .ref (r 28), .ref (r 29), .ref (r 30), .ref (r 31), .ref (r 32), .ref (r 33), .int 0, .int 0, .int 0, .int 0, .int 0, .int 0, .int 0, .ref (r 41), .ref (r 42), .ref (r 43), .ref (r 44), .int 0, .int 0, .int 0, .ref (r 48), .int 0, .int 0, .ref (r 51), .ref (r 52), .ref (r 53), .ref (r 54), .int 0, .ref (r 56), .ref (r 57), .ref (r 58), .int 0, .ref (r 60), .ref (r 61), .ref (r 62), .ref (r 63), .ref (r 64), .ref (r 65), .ref (r 66), .ref (r 67), .ref (r 68), .int 0, .int 0, .int 0, .ref (r 72), .ref (r 73)])), (r 41, .inl (cy 0, 15, .inl (fun _ => 0))), (r 72, .inl (cy 0, 45, .inl (fun _ => 0))), (r 73, .inl (cy 3, 3, .inl (fun _ => 0)))] := hD
  refine lv_iinc (v := 6) (lv' := [(2, .int 6), (0, .ref h0), (1, .int 2)]) hx hb dX12_image_36 hl (k := 0) rfl (by decide +kernel) (by decide) rfl (fun ls hl => ?_)
  refine lv_goto (tgt := 13) hx hb dX12_image_39 (by decide) ?_
  refine lv_iload_n hx hb dX12_image_13 rfl (lv_at hl 0 rfl) ?_
  refine lv_bipush (v := 15) hx hb dX12_image_14 (by decide +kernel) ?_
  refine lv_icmp_ge (tgt := 42) hx hb dX12_image_16 (by decide) (fun c_ => absurd c_ (by decide +kernel)) (fun _ => ?_)
  refine lv_aload_n hx hb dX12_image_19 rfl (lv_at hl 1 rfl) ?_
  refine va_get (D := (dC, dI)) (ci := 12) (v := .ref (r 72)) (C := RX12) (T := TX12) (N := 74) hx hb hts inlX12 hown hK hP 0 rfl rfl 72 (by decide) (hts _ m_265) (fun _ h9 => h9) rfl dX12_image_20 ?_
  refine lv_bipush (v := 15) hx hb dX12_image_23 (by decide +kernel) ?_
  refine lv_iload_n hx hb dX12_image_25 rfl (lv_at hl 2 rfl) ?_
  refine lv_imul hx hb dX12_image_26 ?_
  refine lv_topi (fun z_14 ez_14 => ?_)
  obtain rfl : z_14 = 30 := ez_14.trans (by decide +kernel)
  refine lv_iload_n hx hb dX12_image_27 rfl (lv_at hl 0 rfl) ?_
  refine lv_iadd hx hb dX12_image_28 ?_
  refine lv_topi (fun z_15 ez_15 => ?_)
  obtain rfl : z_15 = 36 := ez_15.trans (by decide +kernel)
  refine lv_aload_n hx hb dX12_image_29 rfl (lv_at hl 1 rfl) ?_
  refine va_get (D := (dC, dI)) (ci := 12) (v := .ref (r 41)) (C := RX12) (T := TX12) (N := 74) hx hb hts inlX12 hown hK hP 0 rfl rfl 41 (by decide) (hts _ m_244) (fun _ h9 => h9) rfl dX12_image_30 ?_
  refine lv_iload_n hx hb dX12_image_33 rfl (lv_at hl 0 rfl) ?_
  refine va_iald hx hb hK hP 1 0 rfl rfl vi_6_15 dX12_image_34 ?_
  refine W.eq (g2 := F0 m 35 ls [.int 0, .int 36, .ref (r 72)]) rfl ?_
  refine va_iast hx hb hK hP hD hS 2 0 rfl rfl vi_36_45 dX12_image_35 (fun H locs hP hD hS => ?_)
  rw [show upd (fun _ => 0) (Int32.toNatClampNeg 36) 0 = (fun _ => 0) from xa_upd0 rfl] at hP hD
  have hP : va_P (dC, dI) classes [(h0, .inr (12, [.ref (r 0), .ref (r 1), .int 0, .int 0, .int 0, .int (-1), .int 0, .int 0, .int 0, .int 0, .long 0, .ref (r 11), .ref (r 12), .ref (r 13), .ref (r 14), .ref (r 15), .ref (r 16), .ref (r 17), .ref (r 18), .ref (r 19), .ref (r 20), .ref (r 21), .ref (r 22), .ref (r 23), .ref (r 24), .ref (r 25), .ref (r 26), .ref (r 27), .ref (r 28), .ref (r 29), .ref (r 30), .ref (r 31), .ref (r 32), .ref (r 33), .int 0, .int 0, .int 0, .int 0, .int 0, .int 0, .int 0, .ref (r 41), .ref (r 42), .ref (r 43), .ref (r 44), .int 0, .int 0, .int 0, .ref (r 48), .int 0, .int 0, .ref (r 51), .ref (r 52), .ref (r 53), .ref (r 54), .int 0, .ref (r 56), .ref (r 57), .ref (r 58), .int 0, .ref (r 60), .ref (r 61), .ref (r 62), .ref (r 63), .ref (r 64), .ref (r 65), .ref (r 66), .ref (r 67), .ref (r 68), .int 0, .int 0, .int 0, .ref (r 72), .ref (r 73)])), (r 41, .inl (cy 0, 15, .inl (fun _ => 0))), (r 72, .inl (cy 0, 45, .inl (fun _ => 0))), (r 73, .inl (cy 3, 3, .inl (fun _ => 0)))] H := hP
  have hD : va_D A [(h0, .inr (12, [.ref (r 0), .ref (r 1), .int 0, .int 0, .int 0, .int (-1), .int 0, .int 0, .int 0, .int 0, .long 0, .ref (r 11), .ref (r 12), .ref (r 13), .ref (r 14), .ref (r 15), .ref (r 16), .ref (r 17), .ref (r 18), .ref (r 19), .ref (r 20), .ref (r 21), .ref (r 22), .ref (r 23), .ref (r 24), .ref (r 25), .ref (r 26), .ref (r 27), .ref (r 28), .ref (r 29), .ref (r 30), .ref (r 31), .ref (r 32), .ref (r 33), .int 0, .int 0, .int 0, .int 0, .int 0, .int 0, .int 0, .ref (r 41), .ref (r 42), .ref (r 43), .ref (r 44), .int 0, .int 0, .int 0, .ref (r 48), .int 0, .int 0, .ref (r 51), .ref (r 52), .ref (r 53), .ref (r 54), .int 0, .ref (r 56), .ref (r 57), .ref (r 58), .int 0, .ref (r 60), .ref (r 61), .ref (r 62), .ref (r 63), .ref (r 64), .ref (r 65), .ref (r 66), .ref (r 67), .ref (r 68), .int 0, .int 0, .int 0, .ref (r 72), .ref (r 73)])), (r 41, .inl (cy 0, 15, .inl (fun _ => 0))), (r 72, .inl (cy 0, 45, .inl (fun _ => 0))), (r 73, .inl (cy 3, 3, .inl (fun _ => 0)))] := hD
  refine lv_iinc (v := 7) (lv' := [(2, .int 7), (0, .ref h0), (1, .int 2)]) hx hb dX12_image_36 hl (k := 0) rfl (by decide +kernel) (by decide) rfl (fun ls hl => ?_)
  refine lv_goto (tgt := 13) hx hb dX12_image_39 (by decide) ?_
  refine lv_iload_n hx hb dX12_image_13 rfl (lv_at hl 0 rfl) ?_
  refine lv_bipush (v := 15) hx hb dX12_image_14 (by decide +kernel) ?_
  refine lv_icmp_ge (tgt := 42) hx hb dX12_image_16 (by decide) (fun c_ => absurd c_ (by decide +kernel)) (fun _ => ?_)
  refine lv_aload_n hx hb dX12_image_19 rfl (lv_at hl 1 rfl) ?_
  refine va_get (D := (dC, dI)) (ci := 12) (v := .ref (r 72)) (C := RX12) (T := TX12) (N := 74) hx hb hts inlX12 hown hK hP 0 rfl rfl 72 (by decide) (hts _ m_265) (fun _ h9 => h9) rfl dX12_image_20 ?_
  refine lv_bipush (v := 15) hx hb dX12_image_23 (by decide +kernel) ?_
  refine lv_iload_n hx hb dX12_image_25 rfl (lv_at hl 2 rfl) ?_
  refine lv_imul hx hb dX12_image_26 ?_
  refine lv_topi (fun z_16 ez_16 => ?_)
  obtain rfl : z_16 = 30 := ez_16.trans (by decide +kernel)
  refine lv_iload_n hx hb dX12_image_27 rfl (lv_at hl 0 rfl) ?_
  refine lv_iadd hx hb dX12_image_28 ?_
  refine lv_topi (fun z_17 ez_17 => ?_)
  obtain rfl : z_17 = 37 := ez_17.trans (by decide +kernel)
  refine lv_aload_n hx hb dX12_image_29 rfl (lv_at hl 1 rfl) ?_
  refine va_get (D := (dC, dI)) (ci := 12) (v := .ref (r 41)) (C := RX12) (T := TX12) (N := 74) hx hb hts inlX12 hown hK hP 0 rfl rfl 41 (by decide) (hts _ m_244) (fun _ h9 => h9) rfl dX12_image_30 ?_
  refine lv_iload_n hx hb dX12_image_33 rfl (lv_at hl 0 rfl) ?_
  refine va_iald hx hb hK hP 1 0 rfl rfl vi_7_15 dX12_image_34 ?_
  refine W.eq (g2 := F0 m 35 ls [.int 0, .int 37, .ref (r 72)]) rfl ?_
  refine va_iast hx hb hK hP hD hS 2 0 rfl rfl vi_37_45 dX12_image_35 (fun H locs hP hD hS => ?_)
  rw [show upd (fun _ => 0) (Int32.toNatClampNeg 37) 0 = (fun _ => 0) from xa_upd0 rfl] at hP hD
  have hP : va_P (dC, dI) classes [(h0, .inr (12, [.ref (r 0), .ref (r 1), .int 0, .int 0, .int 0, .int (-1), .int 0, .int 0, .int 0, .int 0, .long 0, .ref (r 11), .ref (r 12), .ref (r 13), .ref (r 14), .ref (r 15), .ref (r 16), .ref (r 17), .ref (r 18), .ref (r 19), .ref (r 20), .ref (r 21), .ref (r 22), .ref (r 23), .ref (r 24), .ref (r 25), .ref (r 26), .ref (r 27), .ref (r 28), .ref (r 29), .ref (r 30), .ref (r 31), .ref (r 32), .ref (r 33), .int 0, .int 0, .int 0, .int 0, .int 0, .int 0, .int 0, .ref (r 41), .ref (r 42), .ref (r 43), .ref (r 44), .int 0, .int 0, .int 0, .ref (r 48), .int 0, .int 0, .ref (r 51), .ref (r 52), .ref (r 53), .ref (r 54), .int 0, .ref (r 56), .ref (r 57), .ref (r 58), .int 0, .ref (r 60), .ref (r 61), .ref (r 62), .ref (r 63), .ref (r 64), .ref (r 65), .ref (r 66), .ref (r 67), .ref (r 68), .int 0, .int 0, .int 0, .ref (r 72), .ref (r 73)])), (r 41, .inl (cy 0, 15, .inl (fun _ => 0))), (r 72, .inl (cy 0, 45, .inl (fun _ => 0))), (r 73, .inl (cy 3, 3, .inl (fun _ => 0)))] H := hP
  have hD : va_D A [(h0, .inr (12, [.ref (r 0), .ref (r 1), .int 0, .int 0, .int 0, .int (-1), .int 0, .int 0, .int 0, .int 0, .long 0, .ref (r 11), .ref (r 12), .ref (r 13), .ref (r 14), .ref (r 15), .ref (r 16), .ref (r 17), .ref (r 18), .ref (r 19), .ref (r 20), .ref (r 21), .ref (r 22), .ref (r 23), .ref (r 24), .ref (r 25), .ref (r 26), .ref (r 27), .ref (r 28), .ref (r 29), .ref (r 30), .ref (r 31), .ref (r 32), .ref (r 33), .int 0, .int 0, .int 0, .int 0, .int 0, .int 0, .int 0, .ref (r 41), .ref (r 42), .ref (r 43), .ref (r 44), .int 0, .int 0, .int 0, .ref (r 48), .int 0, .int 0, .ref (r 51), .ref (r 52), .ref (r 53), .ref (r 54), .int 0, .ref (r 56), .ref (r 57), .ref (r 58), .int 0, .ref (r 60), .ref (r 61), .ref (r 62), .ref (r 63), .ref (r 64), .ref (r 65), .ref (r 66), .ref (r 67), .ref (r 68), .int 0, .int 0, .int 0, .ref (r 72), .ref (r 73)])), (r 41, .inl (cy 0, 15, .inl (fun _ => 0))), (r 72, .inl (cy 0, 45, .inl (fun _ => 0))), (r 73, .inl (cy 3, 3, .inl (fun _ => 0)))] := hD
  refine lv_iinc (v := 8) (lv' := [(2, .int 8), (0, .ref h0), (1, .int 2)]) hx hb dX12_image_36 hl (k := 0) rfl (by decide +kernel) (by decide) rfl (fun ls hl => ?_)
  refine lv_goto (tgt := 13) hx hb dX12_image_39 (by decide) ?_
  refine lv_iload_n hx hb dX12_image_13 rfl (lv_at hl 0 rfl) ?_
  refine lv_bipush (v := 15) hx hb dX12_image_14 (by decide +kernel) ?_
  refine lv_icmp_ge (tgt := 42) hx hb dX12_image_16 (by decide) (fun c_ => absurd c_ (by decide +kernel)) (fun _ => ?_)
  refine lv_aload_n hx hb dX12_image_19 rfl (lv_at hl 1 rfl) ?_
  refine va_get (D := (dC, dI)) (ci := 12) (v := .ref (r 72)) (C := RX12) (T := TX12) (N := 74) hx hb hts inlX12 hown hK hP 0 rfl rfl 72 (by decide) (hts _ m_265) (fun _ h9 => h9) rfl dX12_image_20 ?_
  refine lv_bipush (v := 15) hx hb dX12_image_23 (by decide +kernel) ?_
  refine lv_iload_n hx hb dX12_image_25 rfl (lv_at hl 2 rfl) ?_
  refine lv_imul hx hb dX12_image_26 ?_
  refine lv_topi (fun z_18 ez_18 => ?_)
  obtain rfl : z_18 = 30 := ez_18.trans (by decide +kernel)
  refine lv_iload_n hx hb dX12_image_27 rfl (lv_at hl 0 rfl) ?_
  refine lv_iadd hx hb dX12_image_28 ?_
  refine lv_topi (fun z_19 ez_19 => ?_)
  obtain rfl : z_19 = 38 := ez_19.trans (by decide +kernel)
  refine lv_aload_n hx hb dX12_image_29 rfl (lv_at hl 1 rfl) ?_
  refine va_get (D := (dC, dI)) (ci := 12) (v := .ref (r 41)) (C := RX12) (T := TX12) (N := 74) hx hb hts inlX12 hown hK hP 0 rfl rfl 41 (by decide) (hts _ m_244) (fun _ h9 => h9) rfl dX12_image_30 ?_
  refine lv_iload_n hx hb dX12_image_33 rfl (lv_at hl 0 rfl) ?_
  refine va_iald hx hb hK hP 1 0 rfl rfl vi_8_15 dX12_image_34 ?_
  refine W.eq (g2 := F0 m 35 ls [.int 0, .int 38, .ref (r 72)]) rfl ?_
  refine va_iast hx hb hK hP hD hS 2 0 rfl rfl vi_38_45 dX12_image_35 (fun H locs hP hD hS => ?_)
  rw [show upd (fun _ => 0) (Int32.toNatClampNeg 38) 0 = (fun _ => 0) from xa_upd0 rfl] at hP hD
  have hP : va_P (dC, dI) classes [(h0, .inr (12, [.ref (r 0), .ref (r 1), .int 0, .int 0, .int 0, .int (-1), .int 0, .int 0, .int 0, .int 0, .long 0, .ref (r 11), .ref (r 12), .ref (r 13), .ref (r 14), .ref (r 15), .ref (r 16), .ref (r 17), .ref (r 18), .ref (r 19), .ref (r 20), .ref (r 21), .ref (r 22), .ref (r 23), .ref (r 24), .ref (r 25), .ref (r 26), .ref (r 27), .ref (r 28), .ref (r 29), .ref (r 30), .ref (r 31), .ref (r 32), .ref (r 33), .int 0, .int 0, .int 0, .int 0, .int 0, .int 0, .int 0, .ref (r 41), .ref (r 42), .ref (r 43), .ref (r 44), .int 0, .int 0, .int 0, .ref (r 48), .int 0, .int 0, .ref (r 51), .ref (r 52), .ref (r 53), .ref (r 54), .int 0, .ref (r 56), .ref (r 57), .ref (r 58), .int 0, .ref (r 60), .ref (r 61), .ref (r 62), .ref (r 63), .ref (r 64), .ref (r 65), .ref (r 66), .ref (r 67), .ref (r 68), .int 0, .int 0, .int 0, .ref (r 72), .ref (r 73)])), (r 41, .inl (cy 0, 15, .inl (fun _ => 0))), (r 72, .inl (cy 0, 45, .inl (fun _ => 0))), (r 73, .inl (cy 3, 3, .inl (fun _ => 0)))] H := hP
  have hD : va_D A [(h0, .inr (12, [.ref (r 0), .ref (r 1), .int 0, .int 0, .int 0, .int (-1), .int 0, .int 0, .int 0, .int 0, .long 0, .ref (r 11), .ref (r 12), .ref (r 13), .ref (r 14), .ref (r 15), .ref (r 16), .ref (r 17), .ref (r 18), .ref (r 19), .ref (r 20), .ref (r 21), .ref (r 22), .ref (r 23), .ref (r 24), .ref (r 25), .ref (r 26), .ref (r 27), .ref (r 28), .ref (r 29), .ref (r 30), .ref (r 31), .ref (r 32), .ref (r 33), .int 0, .int 0, .int 0, .int 0, .int 0, .int 0, .int 0, .ref (r 41), .ref (r 42), .ref (r 43), .ref (r 44), .int 0, .int 0, .int 0, .ref (r 48), .int 0, .int 0, .ref (r 51), .ref (r 52), .ref (r 53), .ref (r 54), .int 0, .ref (r 56), .ref (r 57), .ref (r 58), .int 0, .ref (r 60), .ref (r 61), .ref (r 62), .ref (r 63), .ref (r 64), .ref (r 65), .ref (r 66), .ref (r 67), .ref (r 68), .int 0, .int 0, .int 0, .ref (r 72), .ref (r 73)])), (r 41, .inl (cy 0, 15, .inl (fun _ => 0))), (r 72, .inl (cy 0, 45, .inl (fun _ => 0))), (r 73, .inl (cy 3, 3, .inl (fun _ => 0)))] := hD
  refine lv_iinc (v := 9) (lv' := [(2, .int 9), (0, .ref h0), (1, .int 2)]) hx hb dX12_image_36 hl (k := 0) rfl (by decide +kernel) (by decide) rfl (fun ls hl => ?_)
  refine lv_goto (tgt := 13) hx hb dX12_image_39 (by decide) ?_
  refine lv_iload_n hx hb dX12_image_13 rfl (lv_at hl 0 rfl) ?_
  refine lv_bipush (v := 15) hx hb dX12_image_14 (by decide +kernel) ?_
  refine lv_icmp_ge (tgt := 42) hx hb dX12_image_16 (by decide) (fun c_ => absurd c_ (by decide +kernel)) (fun _ => ?_)
  refine lv_aload_n hx hb dX12_image_19 rfl (lv_at hl 1 rfl) ?_
  refine va_get (D := (dC, dI)) (ci := 12) (v := .ref (r 72)) (C := RX12) (T := TX12) (N := 74) hx hb hts inlX12 hown hK hP 0 rfl rfl 72 (by decide) (hts _ m_265) (fun _ h9 => h9) rfl dX12_image_20 ?_
  refine lv_bipush (v := 15) hx hb dX12_image_23 (by decide +kernel) ?_
  refine lv_iload_n hx hb dX12_image_25 rfl (lv_at hl 2 rfl) ?_
  refine lv_imul hx hb dX12_image_26 ?_
  refine lv_topi (fun z_20 ez_20 => ?_)
  obtain rfl : z_20 = 30 := ez_20.trans (by decide +kernel)
  refine lv_iload_n hx hb dX12_image_27 rfl (lv_at hl 0 rfl) ?_
  refine lv_iadd hx hb dX12_image_28 ?_
  refine lv_topi (fun z_21 ez_21 => ?_)
  obtain rfl : z_21 = 39 := ez_21.trans (by decide +kernel)
  refine lv_aload_n hx hb dX12_image_29 rfl (lv_at hl 1 rfl) ?_
  refine va_get (D := (dC, dI)) (ci := 12) (v := .ref (r 41)) (C := RX12) (T := TX12) (N := 74) hx hb hts inlX12 hown hK hP 0 rfl rfl 41 (by decide) (hts _ m_244) (fun _ h9 => h9) rfl dX12_image_30 ?_
  refine lv_iload_n hx hb dX12_image_33 rfl (lv_at hl 0 rfl) ?_
  refine va_iald hx hb hK hP 1 0 rfl rfl vi_9_15 dX12_image_34 ?_
  refine W.eq (g2 := F0 m 35 ls [.int 0, .int 39, .ref (r 72)]) rfl ?_
  refine va_iast hx hb hK hP hD hS 2 0 rfl rfl vi_39_45 dX12_image_35 (fun H locs hP hD hS => ?_)
  rw [show upd (fun _ => 0) (Int32.toNatClampNeg 39) 0 = (fun _ => 0) from xa_upd0 rfl] at hP hD
  have hP : va_P (dC, dI) classes [(h0, .inr (12, [.ref (r 0), .ref (r 1), .int 0, .int 0, .int 0, .int (-1), .int 0, .int 0, .int 0, .int 0, .long 0, .ref (r 11), .ref (r 12), .ref (r 13), .ref (r 14), .ref (r 15), .ref (r 16), .ref (r 17), .ref (r 18), .ref (r 19), .ref (r 20), .ref (r 21), .ref (r 22), .ref (r 23), .ref (r 24), .ref (r 25), .ref (r 26), .ref (r 27), .ref (r 28), .ref (r 29), .ref (r 30), .ref (r 31), .ref (r 32), .ref (r 33), .int 0, .int 0, .int 0, .int 0, .int 0, .int 0, .int 0, .ref (r 41), .ref (r 42), .ref (r 43), .ref (r 44), .int 0, .int 0, .int 0, .ref (r 48), .int 0, .int 0, .ref (r 51), .ref (r 52), .ref (r 53), .ref (r 54), .int 0, .ref (r 56), .ref (r 57), .ref (r 58), .int 0, .ref (r 60), .ref (r 61), .ref (r 62), .ref (r 63), .ref (r 64), .ref (r 65), .ref (r 66), .ref (r 67), .ref (r 68), .int 0, .int 0, .int 0, .ref (r 72), .ref (r 73)])), (r 41, .inl (cy 0, 15, .inl (fun _ => 0))), (r 72, .inl (cy 0, 45, .inl (fun _ => 0))), (r 73, .inl (cy 3, 3, .inl (fun _ => 0)))] H := hP
  have hD : va_D A [(h0, .inr (12, [.ref (r 0), .ref (r 1), .int 0, .int 0, .int 0, .int (-1), .int 0, .int 0, .int 0, .int 0, .long 0, .ref (r 11), .ref (r 12), .ref (r 13), .ref (r 14), .ref (r 15), .ref (r 16), .ref (r 17), .ref (r 18), .ref (r 19), .ref (r 20), .ref (r 21), .ref (r 22), .ref (r 23), .ref (r 24), .ref (r 25), .ref (r 26), .ref (r 27), .ref (r 28), .ref (r 29), .ref (r 30), .ref (r 31), .ref (r 32), .ref (r 33), .int 0, .int 0, .int 0, .int 0, .int 0, .int 0, .int 0, .ref (r 41), .ref (r 42), .ref (r 43), .ref (r 44), .int 0, .int 0, .int 0, .ref (r 48), .int 0, .int 0, .ref (r 51), .ref (r 52), .ref (r 53), .ref (r 54), .int 0, .ref (r 56), .ref (r 57), .ref (r 58), .int 0, .ref (r 60), .ref (r 61), .ref (r 62), .ref (r 63), .ref (r 64), .ref (r 65), .ref (r 66), .ref (r 67), .ref (r 68), .int 0, .int 0, .int 0, .ref (r 72), .ref (r 73)])), (r 41, .inl (cy 0, 15, .inl (fun _ => 0))), (r 72, .inl (cy 0, 45, .inl (fun _ => 0))), (r 73, .inl (cy 3, 3, .inl (fun _ => 0)))] := hD
  refine lv_iinc (v := 10) (lv' := [(2, .int 10), (0, .ref h0), (1, .int 2)]) hx hb dX12_image_36 hl (k := 0) rfl (by decide +kernel) (by decide) rfl (fun ls hl => ?_)
  refine lv_goto (tgt := 13) hx hb dX12_image_39 (by decide) ?_
  refine lv_iload_n hx hb dX12_image_13 rfl (lv_at hl 0 rfl) ?_
  refine lv_bipush (v := 15) hx hb dX12_image_14 (by decide +kernel) ?_
  refine lv_icmp_ge (tgt := 42) hx hb dX12_image_16 (by decide) (fun c_ => absurd c_ (by decide +kernel)) (fun _ => ?_)
  refine lv_aload_n hx hb dX12_image_19 rfl (lv_at hl 1 rfl) ?_
  refine va_get (D := (dC, dI)) (ci := 12) (v := .ref (r 72)) (C := RX12) (T := TX12) (N := 74) hx hb hts inlX12 hown hK hP 0 rfl rfl 72 (by decide) (hts _ m_265) (fun _ h9 => h9) rfl dX12_image_20 ?_
  refine lv_bipush (v := 15) hx hb dX12_image_23 (by decide +kernel) ?_
  refine lv_iload_n hx hb dX12_image_25 rfl (lv_at hl 2 rfl) ?_
  refine lv_imul hx hb dX12_image_26 ?_
  refine lv_topi (fun z_22 ez_22 => ?_)
  obtain rfl : z_22 = 30 := ez_22.trans (by decide +kernel)
  refine lv_iload_n hx hb dX12_image_27 rfl (lv_at hl 0 rfl) ?_
  refine lv_iadd hx hb dX12_image_28 ?_
  refine lv_topi (fun z_23 ez_23 => ?_)
  obtain rfl : z_23 = 40 := ez_23.trans (by decide +kernel)
  refine lv_aload_n hx hb dX12_image_29 rfl (lv_at hl 1 rfl) ?_
  refine va_get (D := (dC, dI)) (ci := 12) (v := .ref (r 41)) (C := RX12) (T := TX12) (N := 74) hx hb hts inlX12 hown hK hP 0 rfl rfl 41 (by decide) (hts _ m_244) (fun _ h9 => h9) rfl dX12_image_30 ?_
  refine lv_iload_n hx hb dX12_image_33 rfl (lv_at hl 0 rfl) ?_
  refine va_iald hx hb hK hP 1 0 rfl rfl vi_10_15 dX12_image_34 ?_
  refine W.eq (g2 := F0 m 35 ls [.int 0, .int 40, .ref (r 72)]) rfl ?_
  refine va_iast hx hb hK hP hD hS 2 0 rfl rfl vi_40_45 dX12_image_35 (fun H locs hP hD hS => ?_)
  rw [show upd (fun _ => 0) (Int32.toNatClampNeg 40) 0 = (fun _ => 0) from xa_upd0 rfl] at hP hD
  have hP : va_P (dC, dI) classes [(h0, .inr (12, [.ref (r 0), .ref (r 1), .int 0, .int 0, .int 0, .int (-1), .int 0, .int 0, .int 0, .int 0, .long 0, .ref (r 11), .ref (r 12), .ref (r 13), .ref (r 14), .ref (r 15), .ref (r 16), .ref (r 17), .ref (r 18), .ref (r 19), .ref (r 20), .ref (r 21), .ref (r 22), .ref (r 23), .ref (r 24), .ref (r 25), .ref (r 26), .ref (r 27), .ref (r 28), .ref (r 29), .ref (r 30), .ref (r 31), .ref (r 32), .ref (r 33), .int 0, .int 0, .int 0, .int 0, .int 0, .int 0, .int 0, .ref (r 41), .ref (r 42), .ref (r 43), .ref (r 44), .int 0, .int 0, .int 0, .ref (r 48), .int 0, .int 0, .ref (r 51), .ref (r 52), .ref (r 53), .ref (r 54), .int 0, .ref (r 56), .ref (r 57), .ref (r 58), .int 0, .ref (r 60), .ref (r 61), .ref (r 62), .ref (r 63), .ref (r 64), .ref (r 65), .ref (r 66), .ref (r 67), .ref (r 68), .int 0, .int 0, .int 0, .ref (r 72), .ref (r 73)])), (r 41, .inl (cy 0, 15, .inl (fun _ => 0))), (r 72, .inl (cy 0, 45, .inl (fun _ => 0))), (r 73, .inl (cy 3, 3, .inl (fun _ => 0)))] H := hP
  have hD : va_D A [(h0, .inr (12, [.ref (r 0), .ref (r 1), .int 0, .int 0, .int 0, .int (-1), .int 0, .int 0, .int 0, .int 0, .long 0, .ref (r 11), .ref (r 12), .ref (r 13), .ref (r 14), .ref (r 15), .ref (r 16), .ref (r 17), .ref (r 18), .ref (r 19), .ref (r 20), .ref (r 21), .ref (r 22), .ref (r 23), .ref (r 24), .ref (r 25), .ref (r 26), .ref (r 27), .ref (r 28), .ref (r 29), .ref (r 30), .ref (r 31), .ref (r 32), .ref (r 33), .int 0, .int 0, .int 0, .int 0, .int 0, .int 0, .int 0, .ref (r 41), .ref (r 42), .ref (r 43), .ref (r 44), .int 0, .int 0, .int 0, .ref (r 48), .int 0, .int 0, .ref (r 51), .ref (r 52), .ref (r 53), .ref (r 54), .int 0, .ref (r 56), .ref (r 57), .ref (r 58), .int 0, .ref (r 60), .ref (r 61), .ref (r 62), .ref (r 63), .ref (r 64), .ref (r 65), .ref (r 66), .ref (r 67), .ref (r 68), .int 0, .int 0, .int 0, .ref (r 72), .ref (r 73)])), (r 41, .inl (cy 0, 15, .inl (fun _ => 0))), (r 72, .inl (cy 0, 45, .inl (fun _ => 0))), (r 73, .inl (cy 3, 3, .inl (fun _ => 0)))] := hD
  refine lv_iinc (v := 11) (lv' := [(2, .int 11), (0, .ref h0), (1, .int 2)]) hx hb dX12_image_36 hl (k := 0) rfl (by decide +kernel) (by decide) rfl (fun ls hl => ?_)
  refine lv_goto (tgt := 13) hx hb dX12_image_39 (by decide) ?_
  refine lv_iload_n hx hb dX12_image_13 rfl (lv_at hl 0 rfl) ?_
  refine lv_bipush (v := 15) hx hb dX12_image_14 (by decide +kernel) ?_
  refine lv_icmp_ge (tgt := 42) hx hb dX12_image_16 (by decide) (fun c_ => absurd c_ (by decide +kernel)) (fun _ => ?_)
  refine lv_aload_n hx hb dX12_image_19 rfl (lv_at hl 1 rfl) ?_
  refine va_get (D := (dC, dI)) (ci := 12) (v := .ref (r 72)) (C := RX12) (T := TX12) (N := 74) hx hb hts inlX12 hown hK hP 0 rfl rfl 72 (by decide) (hts _ m_265) (fun _ h9 => h9) rfl dX12_image_20 ?_
  refine lv_bipush (v := 15) hx hb dX12_image_23 (by decide +kernel) ?_
  refine lv_iload_n hx hb dX12_image_25 rfl (lv_at hl 2 rfl) ?_
  refine lv_imul hx hb dX12_image_26 ?_
  refine lv_topi (fun z_24 ez_24 => ?_)
  obtain rfl : z_24 = 30 := ez_24.trans (by decide +kernel)
  refine lv_iload_n hx hb dX12_image_27 rfl (lv_at hl 0 rfl) ?_
  refine lv_iadd hx hb dX12_image_28 ?_
  refine lv_topi (fun z_25 ez_25 => ?_)
  obtain rfl : z_25 = 41 := ez_25.trans (by decide +kernel)
  refine lv_aload_n hx hb dX12_image_29 rfl (lv_at hl 1 rfl) ?_
  refine va_get (D := (dC, dI)) (ci := 12) (v := .ref (r 41)) (C := RX12) (T := TX12) (N := 74) hx hb hts inlX12 hown hK hP 0 rfl rfl 41 (by decide) (hts _ m_244) (fun _ h9 => h9) rfl dX12_image_30 ?_
  refine lv_iload_n hx hb dX12_image_33 rfl (lv_at hl 0 rfl) ?_
  refine va_iald hx hb hK hP 1 0 rfl rfl vi_11_15 dX12_image_34 ?_
  refine W.eq (g2 := F0 m 35 ls [.int 0, .int 41, .ref (r 72)]) rfl ?_
  refine va_iast hx hb hK hP hD hS 2 0 rfl rfl vi_41_45 dX12_image_35 (fun H locs hP hD hS => ?_)
  rw [show upd (fun _ => 0) (Int32.toNatClampNeg 41) 0 = (fun _ => 0) from xa_upd0 rfl] at hP hD
  have hP : va_P (dC, dI) classes [(h0, .inr (12, [.ref (r 0), .ref (r 1), .int 0, .int 0, .int 0, .int (-1), .int 0, .int 0, .int 0, .int 0, .long 0, .ref (r 11), .ref (r 12), .ref (r 13), .ref (r 14), .ref (r 15), .ref (r 16), .ref (r 17), .ref (r 18), .ref (r 19), .ref (r 20), .ref (r 21), .ref (r 22), .ref (r 23), .ref (r 24), .ref (r 25), .ref (r 26), .ref (r 27), .ref (r 28), .ref (r 29), .ref (r 30), .ref (r 31), .ref (r 32), .ref (r 33), .int 0, .int 0, .int 0, .int 0, .int 0, .int 0, .int 0, .ref (r 41), .ref (r 42), .ref (r 43), .ref (r 44), .int 0, .int 0, .int 0, .ref (r 48), .int 0, .int 0, .ref (r 51), .ref (r 52), .ref (r 53), .ref (r 54), .int 0, .ref (r 56), .ref (r 57), .ref (r 58), .int 0, .ref (r 60), .ref (r 61), .ref (r 62), .ref (r 63), .ref (r 64), .ref (r 65), .ref (r 66), .ref (r 67), .ref (r 68), .int 0, .int 0, .int 0, .ref (r 72), .ref (r 73)])), (r 41, .inl (cy 0, 15, .inl (fun _ => 0))), (r 72, .inl (cy 0, 45, .inl (fun _ => 0))), (r 73, .inl (cy 3, 3, .inl (fun _ => 0)))] H := hP
  have hD : va_D A [(h0, .inr (12, [.ref (r 0), .ref (r 1), .int 0, .int 0, .int 0, .int (-1), .int 0, .int 0, .int 0, .int 0, .long 0, .ref (r 11), .ref (r 12), .ref (r 13), .ref (r 14), .ref (r 15), .ref (r 16), .ref (r 17), .ref (r 18), .ref (r 19), .ref (r 20), .ref (r 21), .ref (r 22), .ref (r 23), .ref (r 24), .ref (r 25), .ref (r 26), .ref (r 27), .ref (r 28), .ref (r 29), .ref (r 30), .ref (r 31), .ref (r 32), .ref (r 33), .int 0, .int 0, .int 0, .int 0, .int 0, .int 0, .int 0, .ref (r 41), .ref (r 42), .ref (r 43), .ref (r 44), .int 0, .int 0, .int 0, .ref (r 48), .int 0, .int 0, .ref (r 51), .ref (r 52), .ref (r 53), .ref (r 54), .int 0, .ref (r 56), .ref (r 57), .ref (r 58), .int 0, .ref (r 60), .ref (r 61), .ref (r 62), .ref (r 63), .ref (r 64), .ref (r 65), .ref (r 66), .ref (r 67), .ref (r 68), .int 0, .int 0, .int 0, .ref (r 72), .ref (r 73)])), (r 41, .inl (cy 0, 15, .inl (fun _ => 0))), (r 72, .inl (cy 0, 45, .inl (fun _ => 0))), (r 73, .inl (cy 3, 3, .inl (fun _ => 0)))] := hD
  refine lv_iinc (v := 12) (lv' := [(2, .int 12), (0, .ref h0), (1, .int 2)]) hx hb dX12_image_36 hl (k := 0) rfl (by decide +kernel) (by decide) rfl (fun ls hl => ?_)
  refine lv_goto (tgt := 13) hx hb dX12_image_39 (by decide) ?_
  refine lv_iload_n hx hb dX12_image_13 rfl (lv_at hl 0 rfl) ?_
  refine lv_bipush (v := 15) hx hb dX12_image_14 (by decide +kernel) ?_
  refine lv_icmp_ge (tgt := 42) hx hb dX12_image_16 (by decide) (fun c_ => absurd c_ (by decide +kernel)) (fun _ => ?_)
  refine lv_aload_n hx hb dX12_image_19 rfl (lv_at hl 1 rfl) ?_
  refine va_get (D := (dC, dI)) (ci := 12) (v := .ref (r 72)) (C := RX12) (T := TX12) (N := 74) hx hb hts inlX12 hown hK hP 0 rfl rfl 72 (by decide) (hts _ m_265) (fun _ h9 => h9) rfl dX12_image_20 ?_
  refine lv_bipush (v := 15) hx hb dX12_image_23 (by decide +kernel) ?_
  refine lv_iload_n hx hb dX12_image_25 rfl (lv_at hl 2 rfl) ?_
  refine lv_imul hx hb dX12_image_26 ?_
  refine lv_topi (fun z_26 ez_26 => ?_)
  obtain rfl : z_26 = 30 := ez_26.trans (by decide +kernel)
  refine lv_iload_n hx hb dX12_image_27 rfl (lv_at hl 0 rfl) ?_
  refine lv_iadd hx hb dX12_image_28 ?_
  refine lv_topi (fun z_27 ez_27 => ?_)
  obtain rfl : z_27 = 42 := ez_27.trans (by decide +kernel)
  refine lv_aload_n hx hb dX12_image_29 rfl (lv_at hl 1 rfl) ?_
  refine va_get (D := (dC, dI)) (ci := 12) (v := .ref (r 41)) (C := RX12) (T := TX12) (N := 74) hx hb hts inlX12 hown hK hP 0 rfl rfl 41 (by decide) (hts _ m_244) (fun _ h9 => h9) rfl dX12_image_30 ?_
  refine lv_iload_n hx hb dX12_image_33 rfl (lv_at hl 0 rfl) ?_
  refine va_iald hx hb hK hP 1 0 rfl rfl vi_12_15 dX12_image_34 ?_
  refine W.eq (g2 := F0 m 35 ls [.int 0, .int 42, .ref (r 72)]) rfl ?_
  refine va_iast hx hb hK hP hD hS 2 0 rfl rfl vi_42_45 dX12_image_35 (fun H locs hP hD hS => ?_)
  rw [show upd (fun _ => 0) (Int32.toNatClampNeg 42) 0 = (fun _ => 0) from xa_upd0 rfl] at hP hD
  have hP : va_P (dC, dI) classes [(h0, .inr (12, [.ref (r 0), .ref (r 1), .int 0, .int 0, .int 0, .int (-1), .int 0, .int 0, .int 0, .int 0, .long 0, .ref (r 11), .ref (r 12), .ref (r 13), .ref (r 14), .ref (r 15), .ref (r 16), .ref (r 17), .ref (r 18), .ref (r 19), .ref (r 20), .ref (r 21), .ref (r 22), .ref (r 23), .ref (r 24), .ref (r 25), .ref (r 26), .ref (r 27), .ref (r 28), .ref (r 29), .ref (r 30), .ref (r 31), .ref (r 32), .ref (r 33), .int 0, .int 0, .int 0, .int 0, .int 0, .int 0, .int 0, .ref (r 41), .ref (r 42), .ref (r 43), .ref (r 44), .int 0, .int 0, .int 0, .ref (r 48), .int 0, .int 0, .ref (r 51), .ref (r 52), .ref (r 53), .ref (r 54), .int 0, .ref (r 56), .ref (r 57), .ref (r 58), .int 0, .ref (r 60), .ref (r 61), .ref (r 62), .ref (r 63), .ref (r 64), .ref (r 65), .ref (r 66), .ref (r 67), .ref (r 68), .int 0, .int 0, .int 0, .ref (r 72), .ref (r 73)])), (r 41, .inl (cy 0, 15, .inl (fun _ => 0))), (r 72, .inl (cy 0, 45, .inl (fun _ => 0))), (r 73, .inl (cy 3, 3, .inl (fun _ => 0)))] H := hP
  have hD : va_D A [(h0, .inr (12, [.ref (r 0), .ref (r 1), .int 0, .int 0, .int 0, .int (-1), .int 0, .int 0, .int 0, .int 0, .long 0, .ref (r 11), .ref (r 12), .ref (r 13), .ref (r 14), .ref (r 15), .ref (r 16), .ref (r 17), .ref (r 18), .ref (r 19), .ref (r 20), .ref (r 21), .ref (r 22), .ref (r 23), .ref (r 24), .ref (r 25), .ref (r 26), .ref (r 27), .ref (r 28), .ref (r 29), .ref (r 30), .ref (r 31), .ref (r 32), .ref (r 33), .int 0, .int 0, .int 0, .int 0, .int 0, .int 0, .int 0, .ref (r 41), .ref (r 42), .ref (r 43), .ref (r 44), .int 0, .int 0, .int 0, .ref (r 48), .int 0, .int 0, .ref (r 51), .ref (r 52), .ref (r 53), .ref (r 54), .int 0, .ref (r 56), .ref (r 57), .ref (r 58), .int 0, .ref (r 60), .ref (r 61), .ref (r 62), .ref (r 63), .ref (r 64), .ref (r 65), .ref (r 66), .ref (r 67), .ref (r 68), .int 0, .int 0, .int 0, .ref (r 72), .ref (r 73)])), (r 41, .inl (cy 0, 15, .inl (fun _ => 0))), (r 72, .inl (cy 0, 45, .inl (fun _ => 0))), (r 73, .inl (cy 3, 3, .inl (fun _ => 0)))] := hD
  refine lv_iinc (v := 13) (lv' := [(2, .int 13), (0, .ref h0), (1, .int 2)]) hx hb dX12_image_36 hl (k := 0) rfl (by decide +kernel) (by decide) rfl (fun ls hl => ?_)
  refine lv_goto (tgt := 13) hx hb dX12_image_39 (by decide) ?_
  refine lv_iload_n hx hb dX12_image_13 rfl (lv_at hl 0 rfl) ?_
  refine lv_bipush (v := 15) hx hb dX12_image_14 (by decide +kernel) ?_
  refine lv_icmp_ge (tgt := 42) hx hb dX12_image_16 (by decide) (fun c_ => absurd c_ (by decide +kernel)) (fun _ => ?_)
  refine lv_aload_n hx hb dX12_image_19 rfl (lv_at hl 1 rfl) ?_
  refine va_get (D := (dC, dI)) (ci := 12) (v := .ref (r 72)) (C := RX12) (T := TX12) (N := 74) hx hb hts inlX12 hown hK hP 0 rfl rfl 72 (by decide) (hts _ m_265) (fun _ h9 => h9) rfl dX12_image_20 ?_
  refine lv_bipush (v := 15) hx hb dX12_image_23 (by decide +kernel) ?_
  refine lv_iload_n hx hb dX12_image_25 rfl (lv_at hl 2 rfl) ?_
  refine lv_imul hx hb dX12_image_26 ?_
  refine lv_topi (fun z_28 ez_28 => ?_)
  obtain rfl : z_28 = 30 := ez_28.trans (by decide +kernel)
  refine lv_iload_n hx hb dX12_image_27 rfl (lv_at hl 0 rfl) ?_
  refine lv_iadd hx hb dX12_image_28 ?_
  refine lv_topi (fun z_29 ez_29 => ?_)
  obtain rfl : z_29 = 43 := ez_29.trans (by decide +kernel)
  refine lv_aload_n hx hb dX12_image_29 rfl (lv_at hl 1 rfl) ?_
  refine va_get (D := (dC, dI)) (ci := 12) (v := .ref (r 41)) (C := RX12) (T := TX12) (N := 74) hx hb hts inlX12 hown hK hP 0 rfl rfl 41 (by decide) (hts _ m_244) (fun _ h9 => h9) rfl dX12_image_30 ?_
  refine lv_iload_n hx hb dX12_image_33 rfl (lv_at hl 0 rfl) ?_
  refine va_iald hx hb hK hP 1 0 rfl rfl vi_13_15 dX12_image_34 ?_
  refine W.eq (g2 := F0 m 35 ls [.int 0, .int 43, .ref (r 72)]) rfl ?_
  refine va_iast hx hb hK hP hD hS 2 0 rfl rfl vi_43_45 dX12_image_35 (fun H locs hP hD hS => ?_)
  rw [show upd (fun _ => 0) (Int32.toNatClampNeg 43) 0 = (fun _ => 0) from xa_upd0 rfl] at hP hD
  have hP : va_P (dC, dI) classes [(h0, .inr (12, [.ref (r 0), .ref (r 1), .int 0, .int 0, .int 0, .int (-1), .int 0, .int 0, .int 0, .int 0, .long 0, .ref (r 11), .ref (r 12), .ref (r 13), .ref (r 14), .ref (r 15), .ref (r 16), .ref (r 17), .ref (r 18), .ref (r 19), .ref (r 20), .ref (r 21), .ref (r 22), .ref (r 23), .ref (r 24), .ref (r 25), .ref (r 26), .ref (r 27), .ref (r 28), .ref (r 29), .ref (r 30), .ref (r 31), .ref (r 32), .ref (r 33), .int 0, .int 0, .int 0, .int 0, .int 0, .int 0, .int 0, .ref (r 41), .ref (r 42), .ref (r 43), .ref (r 44), .int 0, .int 0, .int 0, .ref (r 48), .int 0, .int 0, .ref (r 51), .ref (r 52), .ref (r 53), .ref (r 54), .int 0, .ref (r 56), .ref (r 57), .ref (r 58), .int 0, .ref (r 60), .ref (r 61), .ref (r 62), .ref (r 63), .ref (r 64), .ref (r 65), .ref (r 66), .ref (r 67), .ref (r 68), .int 0, .int 0, .int 0, .ref (r 72), .ref (r 73)])), (r 41, .inl (cy 0, 15, .inl (fun _ => 0))), (r 72, .inl (cy 0, 45, .inl (fun _ => 0))), (r 73, .inl (cy 3, 3, .inl (fun _ => 0)))] H := hP
  have hD : va_D A [(h0, .inr (12, [.ref (r 0), .ref (r 1), .int 0, .int 0, .int 0, .int (-1), .int 0, .int 0, .int 0, .int 0, .long 0, .ref (r 11), .ref (r 12), .ref (r 13), .ref (r 14), .ref (r 15), .ref (r 16), .ref (r 17), .ref (r 18), .ref (r 19), .ref (r 20), .ref (r 21), .ref (r 22), .ref (r 23), .ref (r 24), .ref (r 25), .ref (r 26), .ref (r 27), .ref (r 28), .ref (r 29), .ref (r 30), .ref (r 31), .ref (r 32), .ref (r 33), .int 0, .int 0, .int 0, .int 0, .int 0, .int 0, .int 0, .ref (r 41), .ref (r 42), .ref (r 43), .ref (r 44), .int 0, .int 0, .int 0, .ref (r 48), .int 0, .int 0, .ref (r 51), .ref (r 52), .ref (r 53), .ref (r 54), .int 0, .ref (r 56), .ref (r 57), .ref (r 58), .int 0, .ref (r 60), .ref (r 61), .ref (r 62), .ref (r 63), .ref (r 64), .ref (r 65), .ref (r 66), .ref (r 67), .ref (r 68), .int 0, .int 0, .int 0, .ref (r 72), .ref (r 73)])), (r 41, .inl (cy 0, 15, .inl (fun _ => 0))), (r 72, .inl (cy 0, 45, .inl (fun _ => 0))), (r 73, .inl (cy 3, 3, .inl (fun _ => 0)))] := hD
  refine lv_iinc (v := 14) (lv' := [(2, .int 14), (0, .ref h0), (1, .int 2)]) hx hb dX12_image_36 hl (k := 0) rfl (by decide +kernel) (by decide) rfl (fun ls hl => ?_)
  refine lv_goto (tgt := 13) hx hb dX12_image_39 (by decide) ?_
  refine lv_iload_n hx hb dX12_image_13 rfl (lv_at hl 0 rfl) ?_
  refine lv_bipush (v := 15) hx hb dX12_image_14 (by decide +kernel) ?_
  refine lv_icmp_ge (tgt := 42) hx hb dX12_image_16 (by decide) (fun c_ => absurd c_ (by decide +kernel)) (fun _ => ?_)
  refine lv_aload_n hx hb dX12_image_19 rfl (lv_at hl 1 rfl) ?_
  refine va_get (D := (dC, dI)) (ci := 12) (v := .ref (r 72)) (C := RX12) (T := TX12) (N := 74) hx hb hts inlX12 hown hK hP 0 rfl rfl 72 (by decide) (hts _ m_265) (fun _ h9 => h9) rfl dX12_image_20 ?_
  refine lv_bipush (v := 15) hx hb dX12_image_23 (by decide +kernel) ?_
  refine lv_iload_n hx hb dX12_image_25 rfl (lv_at hl 2 rfl) ?_
  refine lv_imul hx hb dX12_image_26 ?_
  refine lv_topi (fun z_30 ez_30 => ?_)
  obtain rfl : z_30 = 30 := ez_30.trans (by decide +kernel)
  refine lv_iload_n hx hb dX12_image_27 rfl (lv_at hl 0 rfl) ?_
  refine lv_iadd hx hb dX12_image_28 ?_
  refine lv_topi (fun z_31 ez_31 => ?_)
  obtain rfl : z_31 = 44 := ez_31.trans (by decide +kernel)
  refine lv_aload_n hx hb dX12_image_29 rfl (lv_at hl 1 rfl) ?_
  refine va_get (D := (dC, dI)) (ci := 12) (v := .ref (r 41)) (C := RX12) (T := TX12) (N := 74) hx hb hts inlX12 hown hK hP 0 rfl rfl 41 (by decide) (hts _ m_244) (fun _ h9 => h9) rfl dX12_image_30 ?_
  refine lv_iload_n hx hb dX12_image_33 rfl (lv_at hl 0 rfl) ?_
  refine va_iald hx hb hK hP 1 0 rfl rfl vi_14_15 dX12_image_34 ?_
  refine W.eq (g2 := F0 m 35 ls [.int 0, .int 44, .ref (r 72)]) rfl ?_
  refine va_iast hx hb hK hP hD hS 2 0 rfl rfl vi_44_45 dX12_image_35 (fun H locs hP hD hS => ?_)
  rw [show upd (fun _ => 0) (Int32.toNatClampNeg 44) 0 = (fun _ => 0) from xa_upd0 rfl] at hP hD
  have hP : va_P (dC, dI) classes [(h0, .inr (12, [.ref (r 0), .ref (r 1), .int 0, .int 0, .int 0, .int (-1), .int 0, .int 0, .int 0, .int 0, .long 0, .ref (r 11), .ref (r 12), .ref (r 13), .ref (r 14), .ref (r 15), .ref (r 16), .ref (r 17), .ref (r 18), .ref (r 19), .ref (r 20), .ref (r 21), .ref (r 22), .ref (r 23), .ref (r 24), .ref (r 25), .ref (r 26), .ref (r 27), .ref (r 28), .ref (r 29), .ref (r 30), .ref (r 31), .ref (r 32), .ref (r 33), .int 0, .int 0, .int 0, .int 0, .int 0, .int 0, .int 0, .ref (r 41), .ref (r 42), .ref (r 43), .ref (r 44), .int 0, .int 0, .int 0, .ref (r 48), .int 0, .int 0, .ref (r 51), .ref (r 52), .ref (r 53), .ref (r 54), .int 0, .ref (r 56), .ref (r 57), .ref (r 58), .int 0, .ref (r 60), .ref (r 61), .ref (r 62), .ref (r 63), .ref (r 64), .ref (r 65), .ref (r 66), .ref (r 67), .ref (r 68), .int 0, .int 0, .int 0, .ref (r 72), .ref (r 73)])), (r 41, .inl (cy 0, 15, .inl (fun _ => 0))), (r 72, .inl (cy 0, 45, .inl (fun _ => 0))), (r 73, .inl (cy 3, 3, .inl (fun _ => 0)))] H := hP
  have hD : va_D A [(h0, .inr (12, [.ref (r 0), .ref (r 1), .int 0, .int 0, .int 0, .int (-1), .int 0, .int 0, .int 0, .int 0, .long 0, .ref (r 11), .ref (r 12), .ref (r 13), .ref (r 14), .ref (r 15), .ref (r 16), .ref (r 17), .ref (r 18), .ref (r 19), .ref (r 20), .ref (r 21), .ref (r 22), .ref (r 23), .ref (r 24), .ref (r 25), .ref (r 26), .ref (r 27), .ref (r 28), .ref (r 29), .ref (r 30), .ref (r 31), .ref (r 32), .ref (r 33), .int 0, .int 0, .int 0, .int 0, .int 0, .int 0, .int 0, .ref (r 41), .ref (r 42), .ref (r 43), .ref (r 44), .int 0, .int 0, .int 0, .ref (r 48), .int 0, .int 0, .ref (r 51), .ref (r 52), .ref (r 53), .ref (r 54), .int 0, .ref (r 56), .ref (r 57), .ref (r 58), .int 0, .ref (r 60), .ref (r 61), .ref (r 62), .ref (r 63), .ref (r 64), .ref (r 65), .ref (r 66), .ref (r 67), .ref (r 68), .int 0, .int 0, .int 0, .ref (r 72), .ref (r 73)])), (r 41, .inl (cy 0, 15, .inl (fun _ => 0))), (r 72, .inl (cy 0, 45, .inl (fun _ => 0))), (r 73, .inl (cy 3, 3, .inl (fun _ => 0)))] := hD
  refine lv_iinc (v := 15) (lv' := [(2, .int 15), (0, .ref h0), (1, .int 2)]) hx hb dX12_image_36 hl (k := 0) rfl (by decide +kernel) (by decide) rfl (fun ls hl => ?_)
  refine lv_goto (tgt := 13) hx hb dX12_image_39 (by decide) ?_
  refine lv_iload_n hx hb dX12_image_13 rfl (lv_at hl 0 rfl) ?_
  refine lv_bipush (v := 15) hx hb dX12_image_14 (by decide +kernel) ?_
  refine lv_icmp_ge (tgt := 42) hx hb dX12_image_16 (by decide) (fun _ => ?_) (fun c_ => absurd (by decide +kernel) c_)
  refine lv_aload_n hx hb dX12_image_42 rfl (lv_at hl 1 rfl) ?_
  refine va_get (D := (dC, dI)) (ci := 12) (v := .ref (r 73)) (C := RX12) (T := TX12) (N := 74) hx hb hts inlX12 hown hK hP 0 rfl rfl 73 (by decide) (hts _ m_266) (fun _ h9 => h9) rfl dX12_image_43 ?_
  refine lv_iload_n hx hb dX12_image_46 rfl (lv_at hl 2 rfl) ?_
  refine lv_iconst (v := 1) hx hb dX12_image_47 (by decide +kernel) ?_
  refine va_zast hx hb hK hP hD hS 3 3 rfl rfl vi_2_3 dX12_image_48 (fun H locs hP hD hS => ?_)
  generalize upd (fun _ => 0) (Int32.toNatClampNeg 2) (vp_nar .boolean 1) = f_32 at hP hD
  have hP : va_P (dC, dI) classes [(h0, .inr (12, [.ref (r 0), .ref (r 1), .int 0, .int 0, .int 0, .int (-1), .int 0, .int 0, .int 0, .int 0, .long 0, .ref (r 11), .ref (r 12), .ref (r 13), .ref (r 14), .ref (r 15), .ref (r 16), .ref (r 17), .ref (r 18), .ref (r 19), .ref (r 20), .ref (r 21), .ref (r 22), .ref (r 23), .ref (r 24), .ref (r 25), .ref (r 26), .ref (r 27), .ref (r 28), .ref (r 29), .ref (r 30), .ref (r 31), .ref (r 32), .ref (r 33), .int 0, .int 0, .int 0, .int 0, .int 0, .int 0, .int 0, .ref (r 41), .ref (r 42), .ref (r 43), .ref (r 44), .int 0, .int 0, .int 0, .ref (r 48), .int 0, .int 0, .ref (r 51), .ref (r 52), .ref (r 53), .ref (r 54), .int 0, .ref (r 56), .ref (r 57), .ref (r 58), .int 0, .ref (r 60), .ref (r 61), .ref (r 62), .ref (r 63), .ref (r 64), .ref (r 65), .ref (r 66), .ref (r 67), .ref (r 68), .int 0, .int 0, .int 0, .ref (r 72), .ref (r 73)])), (r 41, .inl (cy 0, 15, .inl (fun _ => 0))), (r 72, .inl (cy 0, 45, .inl (fun _ => 0))), (r 73, .inl (cy 3, 3, .inl f_32))] H := hP
  have hD : va_D A [(h0, .inr (12, [.ref (r 0), .ref (r 1), .int 0, .int 0, .int 0, .int (-1), .int 0, .int 0, .int 0, .int 0, .long 0, .ref (r 11), .ref (r 12), .ref (r 13), .ref (r 14), .ref (r 15), .ref (r 16), .ref (r 17), .ref (r 18), .ref (r 19), .ref (r 20), .ref (r 21), .ref (r 22), .ref (r 23), .ref (r 24), .ref (r 25), .ref (r 26), .ref (r 27), .ref (r 28), .ref (r 29), .ref (r 30), .ref (r 31), .ref (r 32), .ref (r 33), .int 0, .int 0, .int 0, .int 0, .int 0, .int 0, .int 0, .ref (r 41), .ref (r 42), .ref (r 43), .ref (r 44), .int 0, .int 0, .int 0, .ref (r 48), .int 0, .int 0, .ref (r 51), .ref (r 52), .ref (r 53), .ref (r 54), .int 0, .ref (r 56), .ref (r 57), .ref (r 58), .int 0, .ref (r 60), .ref (r 61), .ref (r 62), .ref (r 63), .ref (r 64), .ref (r 65), .ref (r 66), .ref (r 67), .ref (r 68), .int 0, .int 0, .int 0, .ref (r 72), .ref (r 73)])), (r 41, .inl (cy 0, 15, .inl (fun _ => 0))), (r 72, .inl (cy 0, 45, .inl (fun _ => 0))), (r 73, .inl (cy 3, 3, .inl f_32))] := hD
  refine lv_aload_n hx hb dX12_image_49 rfl (lv_at hl 1 rfl) ?_
  refine va_get (D := (dC, dI)) (ci := 12) (v := .ref (r 41)) (C := RX12) (T := TX12) (N := 74) hx hb hts inlX12 hown hK hP 0 rfl rfl 41 (by decide) (hts _ m_244) (fun _ h9 => h9) rfl dX12_image_50 ?_
  refine lv_bipush (v := 13) hx hb dX12_image_53 (by decide +kernel) ?_
  refine va_iald hx hb hK hP 1 0 rfl rfl vi_13_15 dX12_image_55 ?_
  refine W.eq (g2 := F0 m 56 ls [.int 0]) rfl ?_
  exact W.iret (v := 0) hx hb hr (fun t ht hW => ⟨⟨0, (), rfl, rfl, trivial⟩, hS.F ht⟩) hS.2.2 dX12_image_56
set_option maxHeartbeats 4000000 in
set_option maxRecDepth 100000 in
theorem kX12_about_2 (l : Launch) (dC : Nat → ClassId) (dI : Nat → Nat → Nat) (cy : Nat → ClassId) (h0 : Nat) (r : Nat → Nat) : Met l yX12_about wmX12_about ({ frames := 0, cells := 0, slots := 0, locals := 0 }) (va_Pc [.ref h0, .int 0] (fun U => va_P (dC, dI) classes [(h0, .inr (12, [.ref (r 0), .ref (r 1), .int 0, .int 0, .int 0, .int (-1), .int 0, .int 0, .int 0, .int 0, .long 0, .ref (r 11), .ref (r 12), .ref (r 13), .ref (r 14), .ref (r 15), .ref (r 16), .ref (r 17), .ref (r 18), .ref (r 19), .ref (r 20), .ref (r 21), .ref (r 22), .ref (r 23), .ref (r 24), .ref (r 25), .ref (r 26), .ref (r 27), .ref (r 28), .ref (r 29), .ref (r 30), .ref (r 31), .ref (r 32), .ref (r 33), .int 0, .int 0, .int 0, .int 0, .int 0, .int 0, .int 0, .ref (r 41), .ref (r 42), .ref (r 43), .ref (r 44), .int 0, .int 0, .int 0, .ref (r 48), .int 0, .int 0, .ref (r 51), .ref (r 52), .ref (r 53), .ref (r 54), .int 0, .ref (r 56), .ref (r 57), .ref (r 58), .int 0, .ref (r 60), .ref (r 61), .ref (r 62), .ref (r 63), .ref (r 64), .ref (r 65), .ref (r 66), .ref (r 67), .ref (r 68), .int 0, .int 0, .int 0, .ref (r 72), .ref (r 73)])), (r 13, .inl (cy 0, 2, .inl (fun _ => 0)))] U.heap ∧ EV dC dI cy U)) (vp_Si (fun r_ => r_ = 0)) 0 0 (fun _ => False) := by
  refine Met.ofW (cc := cX12_about) (maxL := 2) (ret := (some .int)) (by decide +kernel) rfl ?_
  intro p e s m args below meth c s₁ B hml hv
  obtain ⟨rfl, hP, hE⟩ := hv
  have hK := hE.1
  have hN := hE.2.1
  have hx := B.exec
  have hb := B.bytes
  have hr := B.returns
  have hts0 := atoms_spec (ws := wmX12_about) B.pre
  have hts : ∀ w ∈ wsL_law, w.before _ s = true := fun w h => hts0 w (List.mem_cons_of_mem _ h)
  have hown : s.vm.findClass RX12 = some m.cls := findClass_of_methodNamed B.named
  have hlocks := B.notSynchronized
  have hl := lv_entry ([.ref h0, .int 0]) (n := 2) (Nat.le_of_ble_eq_true rfl)
  rw [lg_entry_eq]
  generalize (lg_sl ([.ref h0, .int 0]) ++ List.replicate (2 - (lg_sl ([.ref h0, .int 0])).length) Slot.unset).toArray = ls at hl ⊢
  have hl : lv_has ls 2 [(0, .ref h0), (1, .int 0)] := hl
  refine lv_iload_n hx hb dX12_about_0 rfl (lv_at hl 1 rfl) ?_
  refine lv_tableIn (off := 67) (tgt := 68) hx hb dX12_about_1 (by decide +kernel) (by decide +kernel) (by decide +kernel) (by decide) ?_
  refine lv_aload_n hx hb dX12_about_68 rfl (lv_at hl 0 rfl) ?_
  refine va_get (D := (dC, dI)) (ci := 12) (v := .ref (r 13)) (C := RX12) (T := TX12) (N := 74) hx hb hts inlX12 hown hK hP 0 rfl rfl 13 (by decide) (hts _ m_223) (fun _ h9 => h9) rfl dX12_about_69 ?_
  refine lv_aload_n hx hb dX12_about_72 rfl (lv_at hl 0 rfl) ?_
  refine va_get (D := (dC, dI)) (ci := 12) (v := .int 0) (C := RX12) (T := TX12) (N := 74) hx hb hts inlX12 hown hK hP 0 rfl rfl 34 (by decide) (hts _ m_277) (fun _ h9 => h9) rfl dX12_about_73 ?_
  refine va_iald hx hb hK hP 1 0 rfl rfl vi_0_2 dX12_about_76 ?_
  refine W.eq (g2 := F0 m 77 ls [.int 0]) rfl ?_
  exact W.iret (v := 0) hx hb hr (fun t ht hW => ⟨0, rfl, rfl, ht⟩) (fun _ h_ => (List.not_mem_nil h_).elim) dX12_about_77
set_option maxHeartbeats 4000000 in
set_option maxRecDepth 100000 in
theorem kX12_about_3 (l : Launch) (dC : Nat → ClassId) (dI : Nat → Nat → Nat) (cy : Nat → ClassId) (h0 : Nat) (r : Nat → Nat) : Met l yX12_about wmX12_about ({ frames := 0, cells := 0, slots := 0, locals := 0 }) (va_Pc [.ref h0, .int 1] (fun U => va_P (dC, dI) classes [(h0, .inr (12, [.ref (r 0), .ref (r 1), .int 0, .int 0, .int 0, .int (-1), .int 0, .int 0, .int 0, .int 0, .long 0, .ref (r 11), .ref (r 12), .ref (r 13), .ref (r 14), .ref (r 15), .ref (r 16), .ref (r 17), .ref (r 18), .ref (r 19), .ref (r 20), .ref (r 21), .ref (r 22), .ref (r 23), .ref (r 24), .ref (r 25), .ref (r 26), .ref (r 27), .ref (r 28), .ref (r 29), .ref (r 30), .ref (r 31), .ref (r 32), .ref (r 33), .int 0, .int 0, .int 0, .int 0, .int 0, .int 0, .int 0, .ref (r 41), .ref (r 42), .ref (r 43), .ref (r 44), .int 0, .int 0, .int 0, .ref (r 48), .int 0, .int 0, .ref (r 51), .ref (r 52), .ref (r 53), .ref (r 54), .int 0, .ref (r 56), .ref (r 57), .ref (r 58), .int 0, .ref (r 60), .ref (r 61), .ref (r 62), .ref (r 63), .ref (r 64), .ref (r 65), .ref (r 66), .ref (r 67), .ref (r 68), .int 0, .int 0, .int 0, .ref (r 72), .ref (r 73)])), (r 11, .inl (cy 0, 2, .inl (fun _ => 0)))] U.heap ∧ EV dC dI cy U)) (vp_Si (fun r_ => r_ = 0)) 0 0 (fun _ => False) := by
  refine Met.ofW (cc := cX12_about) (maxL := 2) (ret := (some .int)) (by decide +kernel) rfl ?_
  intro p e s m args below meth c s₁ B hml hv
  obtain ⟨rfl, hP, hE⟩ := hv
  have hK := hE.1
  have hN := hE.2.1
  have hx := B.exec
  have hb := B.bytes
  have hr := B.returns
  have hts0 := atoms_spec (ws := wmX12_about) B.pre
  have hts : ∀ w ∈ wsL_law, w.before _ s = true := fun w h => hts0 w (List.mem_cons_of_mem _ h)
  have hown : s.vm.findClass RX12 = some m.cls := findClass_of_methodNamed B.named
  have hlocks := B.notSynchronized
  have hl := lv_entry ([.ref h0, .int 1]) (n := 2) (Nat.le_of_ble_eq_true rfl)
  rw [lg_entry_eq]
  generalize (lg_sl ([.ref h0, .int 1]) ++ List.replicate (2 - (lg_sl ([.ref h0, .int 1])).length) Slot.unset).toArray = ls at hl ⊢
  have hl : lv_has ls 2 [(0, .ref h0), (1, .int 1)] := hl
  refine lv_iload_n hx hb dX12_about_0 rfl (lv_at hl 1 rfl) ?_
  refine lv_tableIn (off := 77) (tgt := 78) hx hb dX12_about_1 (by decide +kernel) (by decide +kernel) (by decide +kernel) (by decide) ?_
  refine lv_aload_n hx hb dX12_about_78 rfl (lv_at hl 0 rfl) ?_
  refine va_get (D := (dC, dI)) (ci := 12) (v := .ref (r 11)) (C := RX12) (T := TX12) (N := 74) hx hb hts inlX12 hown hK hP 0 rfl rfl 11 (by decide) (hts _ m_221) (fun _ h9 => h9) rfl dX12_about_79 ?_
  refine lv_aload_n hx hb dX12_about_82 rfl (lv_at hl 0 rfl) ?_
  refine va_get (D := (dC, dI)) (ci := 12) (v := .int 0) (C := RX12) (T := TX12) (N := 74) hx hb hts inlX12 hown hK hP 0 rfl rfl 34 (by decide) (hts _ m_277) (fun _ h9 => h9) rfl dX12_about_83 ?_
  refine va_iald hx hb hK hP 1 0 rfl rfl vi_0_2 dX12_about_86 ?_
  refine W.eq (g2 := F0 m 87 ls [.int 0]) rfl ?_
  exact W.iret (v := 0) hx hb hr (fun t ht hW => ⟨0, rfl, rfl, ht⟩) (fun _ h_ => (List.not_mem_nil h_).elim) dX12_about_87
set_option maxHeartbeats 4000000 in
set_option maxRecDepth 100000 in
theorem kX12_about_4 (l : Launch) (dC : Nat → ClassId) (dI : Nat → Nat → Nat) (cy : Nat → ClassId) (h0 : Nat) (r : Nat → Nat) : Met l yX12_about wmX12_about ({ frames := 0, cells := 0, slots := 0, locals := 0 }) (va_Pc [.ref h0, .int 2] (fun U => va_P (dC, dI) classes [(h0, .inr (12, [.ref (r 0), .ref (r 1), .int 0, .int 0, .int 0, .int (-1), .int 0, .int 0, .int 0, .int 0, .long 0, .ref (r 11), .ref (r 12), .ref (r 13), .ref (r 14), .ref (r 15), .ref (r 16), .ref (r 17), .ref (r 18), .ref (r 19), .ref (r 20), .ref (r 21), .ref (r 22), .ref (r 23), .ref (r 24), .ref (r 25), .ref (r 26), .ref (r 27), .ref (r 28), .ref (r 29), .ref (r 30), .ref (r 31), .ref (r 32), .ref (r 33), .int 0, .int 0, .int 0, .int 0, .int 0, .int 0, .int 0, .ref (r 41), .ref (r 42), .ref (r 43), .ref (r 44), .int 0, .int 0, .int 0, .ref (r 48), .int 0, .int 0, .ref (r 51), .ref (r 52), .ref (r 53), .ref (r 54), .int 0, .ref (r 56), .ref (r 57), .ref (r 58), .int 0, .ref (r 60), .ref (r 61), .ref (r 62), .ref (r 63), .ref (r 64), .ref (r 65), .ref (r 66), .ref (r 67), .ref (r 68), .int 0, .int 0, .int 0, .ref (r 72), .ref (r 73)])), (r 41, .inl (cy 0, 15, .inl (fun _ => 0)))] U.heap ∧ EV dC dI cy U)) (vp_Si (fun r_ => r_ = 0)) 0 0 (fun _ => False) := by
  refine Met.ofW (cc := cX12_about) (maxL := 2) (ret := (some .int)) (by decide +kernel) rfl ?_
  intro p e s m args below meth c s₁ B hml hv
  obtain ⟨rfl, hP, hE⟩ := hv
  have hK := hE.1
  have hN := hE.2.1
  have hx := B.exec
  have hb := B.bytes
  have hr := B.returns
  have hts0 := atoms_spec (ws := wmX12_about) B.pre
  have hts : ∀ w ∈ wsL_law, w.before _ s = true := fun w h => hts0 w (List.mem_cons_of_mem _ h)
  have hown : s.vm.findClass RX12 = some m.cls := findClass_of_methodNamed B.named
  have hlocks := B.notSynchronized
  have hl := lv_entry ([.ref h0, .int 2]) (n := 2) (Nat.le_of_ble_eq_true rfl)
  rw [lg_entry_eq]
  generalize (lg_sl ([.ref h0, .int 2]) ++ List.replicate (2 - (lg_sl ([.ref h0, .int 2])).length) Slot.unset).toArray = ls at hl ⊢
  have hl : lv_has ls 2 [(0, .ref h0), (1, .int 2)] := hl
  refine lv_iload_n hx hb dX12_about_0 rfl (lv_at hl 1 rfl) ?_
  refine lv_tableIn (off := 87) (tgt := 88) hx hb dX12_about_1 (by decide +kernel) (by decide +kernel) (by decide +kernel) (by decide) ?_
  refine lv_aload_n hx hb dX12_about_88 rfl (lv_at hl 0 rfl) ?_
  refine va_get (D := (dC, dI)) (ci := 12) (v := .ref (r 41)) (C := RX12) (T := TX12) (N := 74) hx hb hts inlX12 hown hK hP 0 rfl rfl 41 (by decide) (hts _ m_244) (fun _ h9 => h9) rfl dX12_about_89 ?_
  refine lv_bipush (v := 12) hx hb dX12_about_92 (by decide +kernel) ?_
  refine va_iald hx hb hK hP 1 0 rfl rfl vi_12_15 dX12_about_94 ?_
  refine W.eq (g2 := F0 m 95 ls [.int 0]) rfl ?_
  exact W.iret (v := 0) hx hb hr (fun t ht hW => ⟨0, rfl, rfl, ht⟩) (fun _ h_ => (List.not_mem_nil h_).elim) dX12_about_95
set_option maxHeartbeats 4000000 in
set_option maxRecDepth 100000 in
theorem kX12_about_5 (l : Launch) (dC : Nat → ClassId) (dI : Nat → Nat → Nat) (cy : Nat → ClassId) (h0 : Nat) (r : Nat → Nat) : Met l yX12_about wmX12_about ({ frames := 0, cells := 0, slots := 0, locals := 0 }) (va_Pc [.ref h0, .int 3] (fun U => va_P (dC, dI) classes [(h0, .inr (12, [.ref (r 0), .ref (r 1), .int 0, .int 0, .int 0, .int (-1), .int 0, .int 0, .int 0, .int 0, .long 0, .ref (r 11), .ref (r 12), .ref (r 13), .ref (r 14), .ref (r 15), .ref (r 16), .ref (r 17), .ref (r 18), .ref (r 19), .ref (r 20), .ref (r 21), .ref (r 22), .ref (r 23), .ref (r 24), .ref (r 25), .ref (r 26), .ref (r 27), .ref (r 28), .ref (r 29), .ref (r 30), .ref (r 31), .ref (r 32), .ref (r 33), .int 0, .int 0, .int 0, .int 0, .int 0, .int 0, .int 0, .ref (r 41), .ref (r 42), .ref (r 43), .ref (r 44), .int 0, .int 0, .int 0, .ref (r 48), .int 0, .int 0, .ref (r 51), .ref (r 52), .ref (r 53), .ref (r 54), .int 0, .ref (r 56), .ref (r 57), .ref (r 58), .int 0, .ref (r 60), .ref (r 61), .ref (r 62), .ref (r 63), .ref (r 64), .ref (r 65), .ref (r 66), .ref (r 67), .ref (r 68), .int 0, .int 0, .int 0, .ref (r 72), .ref (r 73)])), (r 41, .inl (cy 0, 15, .inl (fun _ => 0)))] U.heap ∧ EV dC dI cy U)) (vp_Si (fun r_ => r_ = 0)) 0 0 (fun _ => False) := by
  refine Met.ofW (cc := cX12_about) (maxL := 2) (ret := (some .int)) (by decide +kernel) rfl ?_
  intro p e s m args below meth c s₁ B hml hv
  obtain ⟨rfl, hP, hE⟩ := hv
  have hK := hE.1
  have hN := hE.2.1
  have hx := B.exec
  have hb := B.bytes
  have hr := B.returns
  have hts0 := atoms_spec (ws := wmX12_about) B.pre
  have hts : ∀ w ∈ wsL_law, w.before _ s = true := fun w h => hts0 w (List.mem_cons_of_mem _ h)
  have hown : s.vm.findClass RX12 = some m.cls := findClass_of_methodNamed B.named
  have hlocks := B.notSynchronized
  have hl := lv_entry ([.ref h0, .int 3]) (n := 2) (Nat.le_of_ble_eq_true rfl)
  rw [lg_entry_eq]
  generalize (lg_sl ([.ref h0, .int 3]) ++ List.replicate (2 - (lg_sl ([.ref h0, .int 3])).length) Slot.unset).toArray = ls at hl ⊢
  have hl : lv_has ls 2 [(0, .ref h0), (1, .int 3)] := hl
  refine lv_iload_n hx hb dX12_about_0 rfl (lv_at hl 1 rfl) ?_
  refine lv_tableIn (off := 95) (tgt := 96) hx hb dX12_about_1 (by decide +kernel) (by decide +kernel) (by decide +kernel) (by decide) ?_
  refine lv_aload_n hx hb dX12_about_96 rfl (lv_at hl 0 rfl) ?_
  refine va_get (D := (dC, dI)) (ci := 12) (v := .ref (r 41)) (C := RX12) (T := TX12) (N := 74) hx hb hts inlX12 hown hK hP 0 rfl rfl 41 (by decide) (hts _ m_244) (fun _ h9 => h9) rfl dX12_about_97 ?_
  refine lv_bipush (v := 13) hx hb dX12_about_100 (by decide +kernel) ?_
  refine va_iald hx hb hK hP 1 0 rfl rfl vi_13_15 dX12_about_102 ?_
  refine W.eq (g2 := F0 m 103 ls [.int 0]) rfl ?_
  exact W.iret (v := 0) hx hb hr (fun t ht hW => ⟨0, rfl, rfl, ht⟩) (fun _ h_ => (List.not_mem_nil h_).elim) dX12_about_103
set_option maxHeartbeats 4000000 in
set_option maxRecDepth 100000 in
theorem kX12_about_6 (l : Launch) (dC : Nat → ClassId) (dI : Nat → Nat → Nat) (cy : Nat → ClassId) (h0 : Nat) (r : Nat → Nat) : Met l yX12_about wmX12_about ({ frames := 0, cells := 0, slots := 0, locals := 0 }) (va_Pc [.ref h0, .int 4] (fun U => va_P (dC, dI) classes [(h0, .inr (12, [.ref (r 0), .ref (r 1), .int 0, .int 0, .int 0, .int (-1), .int 0, .int 0, .int 0, .int 0, .long 0, .ref (r 11), .ref (r 12), .ref (r 13), .ref (r 14), .ref (r 15), .ref (r 16), .ref (r 17), .ref (r 18), .ref (r 19), .ref (r 20), .ref (r 21), .ref (r 22), .ref (r 23), .ref (r 24), .ref (r 25), .ref (r 26), .ref (r 27), .ref (r 28), .ref (r 29), .ref (r 30), .ref (r 31), .ref (r 32), .ref (r 33), .int 0, .int 0, .int 0, .int 0, .int 0, .int 0, .int 0, .ref (r 41), .ref (r 42), .ref (r 43), .ref (r 44), .int 0, .int 0, .int 0, .ref (r 48), .int 0, .int 0, .ref (r 51), .ref (r 52), .ref (r 53), .ref (r 54), .int 0, .ref (r 56), .ref (r 57), .ref (r 58), .int 0, .ref (r 60), .ref (r 61), .ref (r 62), .ref (r 63), .ref (r 64), .ref (r 65), .ref (r 66), .ref (r 67), .ref (r 68), .int 0, .int 0, .int 0, .ref (r 72), .ref (r 73)])), (r 41, .inl (cy 0, 15, .inl (fun _ => 0)))] U.heap ∧ EV dC dI cy U)) (vp_Si (fun r_ => r_ = 0)) 0 0 (fun _ => False) := by
  refine Met.ofW (cc := cX12_about) (maxL := 2) (ret := (some .int)) (by decide +kernel) rfl ?_
  intro p e s m args below meth c s₁ B hml hv
  obtain ⟨rfl, hP, hE⟩ := hv
  have hK := hE.1
  have hN := hE.2.1
  have hx := B.exec
  have hb := B.bytes
  have hr := B.returns
  have hts0 := atoms_spec (ws := wmX12_about) B.pre
  have hts : ∀ w ∈ wsL_law, w.before _ s = true := fun w h => hts0 w (List.mem_cons_of_mem _ h)
  have hown : s.vm.findClass RX12 = some m.cls := findClass_of_methodNamed B.named
  have hlocks := B.notSynchronized
  have hl := lv_entry ([.ref h0, .int 4]) (n := 2) (Nat.le_of_ble_eq_true rfl)
  rw [lg_entry_eq]
  generalize (lg_sl ([.ref h0, .int 4]) ++ List.replicate (2 - (lg_sl ([.ref h0, .int 4])).length) Slot.unset).toArray = ls at hl ⊢
  have hl : lv_has ls 2 [(0, .ref h0), (1, .int 4)] := hl
  refine lv_iload_n hx hb dX12_about_0 rfl (lv_at hl 1 rfl) ?_
  refine lv_tableIn (off := 103) (tgt := 104) hx hb dX12_about_1 (by decide +kernel) (by decide +kernel) (by decide +kernel) (by decide) ?_
  refine lv_aload_n hx hb dX12_about_104 rfl (lv_at hl 0 rfl) ?_
  refine va_get (D := (dC, dI)) (ci := 12) (v := .ref (r 41)) (C := RX12) (T := TX12) (N := 74) hx hb hts inlX12 hown hK hP 0 rfl rfl 41 (by decide) (hts _ m_244) (fun _ h9 => h9) rfl dX12_about_105 ?_
  refine lv_bipush (v := 14) hx hb dX12_about_108 (by decide +kernel) ?_
  refine va_iald hx hb hK hP 1 0 rfl rfl vi_14_15 dX12_about_110 ?_
  refine W.eq (g2 := F0 m 111 ls [.int 0]) rfl ?_
  exact W.iret (v := 0) hx hb hr (fun t ht hW => ⟨0, rfl, rfl, ht⟩) (fun _ h_ => (List.not_mem_nil h_).elim) dX12_about_111
set_option maxHeartbeats 4000000 in
set_option maxRecDepth 100000 in
theorem kX12_about_7 (l : Launch) (dC : Nat → ClassId) (dI : Nat → Nat → Nat) (cy : Nat → ClassId) (h0 : Nat) (r : Nat → Nat) : Met l yX12_about wmX12_about ({ frames := 0, cells := 0, slots := 0, locals := 0 }) (va_Pc [.ref h0, .int 5] (fun U => va_P (dC, dI) classes [(h0, .inr (12, [.ref (r 0), .ref (r 1), .int 0, .int 0, .int 0, .int (-1), .int 0, .int 0, .int 0, .int 0, .long 0, .ref (r 11), .ref (r 12), .ref (r 13), .ref (r 14), .ref (r 15), .ref (r 16), .ref (r 17), .ref (r 18), .ref (r 19), .ref (r 20), .ref (r 21), .ref (r 22), .ref (r 23), .ref (r 24), .ref (r 25), .ref (r 26), .ref (r 27), .ref (r 28), .ref (r 29), .ref (r 30), .ref (r 31), .ref (r 32), .ref (r 33), .int 0, .int 0, .int 0, .int 0, .int 0, .int 0, .int 0, .ref (r 41), .ref (r 42), .ref (r 43), .ref (r 44), .int 0, .int 0, .int 0, .ref (r 48), .int 0, .int 0, .ref (r 51), .ref (r 52), .ref (r 53), .ref (r 54), .int 0, .ref (r 56), .ref (r 57), .ref (r 58), .int 0, .ref (r 60), .ref (r 61), .ref (r 62), .ref (r 63), .ref (r 64), .ref (r 65), .ref (r 66), .ref (r 67), .ref (r 68), .int 0, .int 0, .int 0, .ref (r 72), .ref (r 73)])), (r 12, .inl (cy 0, 2, .inl (fun _ => 0)))] U.heap ∧ EV dC dI cy U)) (vp_Si (fun r_ => r_ = 0)) 0 0 (fun _ => False) := by
  refine Met.ofW (cc := cX12_about) (maxL := 2) (ret := (some .int)) (by decide +kernel) rfl ?_
  intro p e s m args below meth c s₁ B hml hv
  obtain ⟨rfl, hP, hE⟩ := hv
  have hK := hE.1
  have hN := hE.2.1
  have hx := B.exec
  have hb := B.bytes
  have hr := B.returns
  have hts0 := atoms_spec (ws := wmX12_about) B.pre
  have hts : ∀ w ∈ wsL_law, w.before _ s = true := fun w h => hts0 w (List.mem_cons_of_mem _ h)
  have hown : s.vm.findClass RX12 = some m.cls := findClass_of_methodNamed B.named
  have hlocks := B.notSynchronized
  have hl := lv_entry ([.ref h0, .int 5]) (n := 2) (Nat.le_of_ble_eq_true rfl)
  rw [lg_entry_eq]
  generalize (lg_sl ([.ref h0, .int 5]) ++ List.replicate (2 - (lg_sl ([.ref h0, .int 5])).length) Slot.unset).toArray = ls at hl ⊢
  have hl : lv_has ls 2 [(0, .ref h0), (1, .int 5)] := hl
  refine lv_iload_n hx hb dX12_about_0 rfl (lv_at hl 1 rfl) ?_
  refine lv_tableIn (off := 111) (tgt := 112) hx hb dX12_about_1 (by decide +kernel) (by decide +kernel) (by decide +kernel) (by decide) ?_
  refine lv_aload_n hx hb dX12_about_112 rfl (lv_at hl 0 rfl) ?_
  refine va_get (D := (dC, dI)) (ci := 12) (v := .ref (r 12)) (C := RX12) (T := TX12) (N := 74) hx hb hts inlX12 hown hK hP 0 rfl rfl 12 (by decide) (hts _ m_222) (fun _ h9 => h9) rfl dX12_about_113 ?_
  refine lv_aload_n hx hb dX12_about_116 rfl (lv_at hl 0 rfl) ?_
  refine va_get (D := (dC, dI)) (ci := 12) (v := .int 0) (C := RX12) (T := TX12) (N := 74) hx hb hts inlX12 hown hK hP 0 rfl rfl 34 (by decide) (hts _ m_277) (fun _ h9 => h9) rfl dX12_about_117 ?_
  refine va_iald hx hb hK hP 1 0 rfl rfl vi_0_2 dX12_about_120 ?_
  refine W.eq (g2 := F0 m 121 ls [.int 0]) rfl ?_
  exact W.iret (v := 0) hx hb hr (fun t ht hW => ⟨0, rfl, rfl, ht⟩) (fun _ h_ => (List.not_mem_nil h_).elim) dX12_about_121
set_option maxHeartbeats 4000000 in
set_option maxRecDepth 100000 in
theorem kX12_about_8 (l : Launch) (dC : Nat → ClassId) (dI : Nat → Nat → Nat) (cy : Nat → ClassId) (h0 : Nat) (r : Nat → Nat) : Met l yX12_about wmX12_about ({ frames := 0, cells := 0, slots := 0, locals := 0 }) (va_Pc [.ref h0, .int 6] (fun U => va_P (dC, dI) classes [(h0, .inr (12, [.ref (r 0), .ref (r 1), .int 0, .int 0, .int 0, .int (-1), .int 0, .int 0, .int 0, .int 0, .long 0, .ref (r 11), .ref (r 12), .ref (r 13), .ref (r 14), .ref (r 15), .ref (r 16), .ref (r 17), .ref (r 18), .ref (r 19), .ref (r 20), .ref (r 21), .ref (r 22), .ref (r 23), .ref (r 24), .ref (r 25), .ref (r 26), .ref (r 27), .ref (r 28), .ref (r 29), .ref (r 30), .ref (r 31), .ref (r 32), .ref (r 33), .int 0, .int 0, .int 0, .int 0, .int 0, .int 0, .int 0, .ref (r 41), .ref (r 42), .ref (r 43), .ref (r 44), .int 0, .int 0, .int 0, .ref (r 48), .int 0, .int 0, .ref (r 51), .ref (r 52), .ref (r 53), .ref (r 54), .int 0, .ref (r 56), .ref (r 57), .ref (r 58), .int 0, .ref (r 60), .ref (r 61), .ref (r 62), .ref (r 63), .ref (r 64), .ref (r 65), .ref (r 66), .ref (r 67), .ref (r 68), .int 0, .int 0, .int 0, .ref (r 72), .ref (r 73)]))] U.heap ∧ EV dC dI cy U)) (vp_Si (fun r_ => r_ = 0)) 0 0 (fun _ => False) := by
  refine Met.ofW (cc := cX12_about) (maxL := 2) (ret := (some .int)) (by decide +kernel) rfl ?_
  intro p e s m args below meth c s₁ B hml hv
  obtain ⟨rfl, hP, hE⟩ := hv
  have hK := hE.1
  have hN := hE.2.1
  have hx := B.exec
  have hb := B.bytes
  have hr := B.returns
  have hts0 := atoms_spec (ws := wmX12_about) B.pre
  have hts : ∀ w ∈ wsL_law, w.before _ s = true := fun w h => hts0 w (List.mem_cons_of_mem _ h)
  have hown : s.vm.findClass RX12 = some m.cls := findClass_of_methodNamed B.named
  have hlocks := B.notSynchronized
  have hl := lv_entry ([.ref h0, .int 6]) (n := 2) (Nat.le_of_ble_eq_true rfl)
  rw [lg_entry_eq]
  generalize (lg_sl ([.ref h0, .int 6]) ++ List.replicate (2 - (lg_sl ([.ref h0, .int 6])).length) Slot.unset).toArray = ls at hl ⊢
  have hl : lv_has ls 2 [(0, .ref h0), (1, .int 6)] := hl
  refine lv_iload_n hx hb dX12_about_0 rfl (lv_at hl 1 rfl) ?_
  refine lv_tableIn (off := 121) (tgt := 122) hx hb dX12_about_1 (by decide +kernel) (by decide +kernel) (by decide +kernel) (by decide) ?_
  refine lv_aload_n hx hb dX12_about_122 rfl (lv_at hl 0 rfl) ?_
  refine va_get (D := (dC, dI)) (ci := 12) (v := .int 0) (C := RX12) (T := TX12) (N := 74) hx hb hts inlX12 hown hK hP 0 rfl rfl 49 (by decide) (hts _ m_278) (fun _ h9 => h9) rfl dX12_about_123 ?_
  exact W.iret (v := 0) hx hb hr (fun t ht hW => ⟨0, rfl, rfl, ht⟩) (fun _ h_ => (List.not_mem_nil h_).elim) dX12_about_126
set_option maxHeartbeats 4000000 in
set_option maxRecDepth 100000 in
theorem kX12_about_9 (l : Launch) (dC : Nat → ClassId) (dI : Nat → Nat → Nat) (cy : Nat → ClassId) (h0 : Nat) (r : Nat → Nat) : Met l yX12_about wmX12_about ({ frames := 0, cells := 0, slots := 0, locals := 0 }) (va_Pc [.ref h0, .int 7] (fun U => va_P (dC, dI) classes [(h0, .inr (12, [.ref (r 0), .ref (r 1), .int 0, .int 0, .int 0, .int (-1), .int 0, .int 0, .int 0, .int 0, .long 0, .ref (r 11), .ref (r 12), .ref (r 13), .ref (r 14), .ref (r 15), .ref (r 16), .ref (r 17), .ref (r 18), .ref (r 19), .ref (r 20), .ref (r 21), .ref (r 22), .ref (r 23), .ref (r 24), .ref (r 25), .ref (r 26), .ref (r 27), .ref (r 28), .ref (r 29), .ref (r 30), .ref (r 31), .ref (r 32), .ref (r 33), .int 0, .int 0, .int 0, .int 0, .int 0, .int 0, .int 0, .ref (r 41), .ref (r 42), .ref (r 43), .ref (r 44), .int 0, .int 0, .int 0, .ref (r 48), .int 0, .int 0, .ref (r 51), .ref (r 52), .ref (r 53), .ref (r 54), .int 0, .ref (r 56), .ref (r 57), .ref (r 58), .int 0, .ref (r 60), .ref (r 61), .ref (r 62), .ref (r 63), .ref (r 64), .ref (r 65), .ref (r 66), .ref (r 67), .ref (r 68), .int 0, .int 0, .int 0, .ref (r 72), .ref (r 73)]))] U.heap ∧ EV dC dI cy U)) (vp_Si (fun r_ => r_ = 0)) 0 0 (fun _ => False) := by
  refine Met.ofW (cc := cX12_about) (maxL := 2) (ret := (some .int)) (by decide +kernel) rfl ?_
  intro p e s m args below meth c s₁ B hml hv
  obtain ⟨rfl, hP, hE⟩ := hv
  have hK := hE.1
  have hN := hE.2.1
  have hx := B.exec
  have hb := B.bytes
  have hr := B.returns
  have hts0 := atoms_spec (ws := wmX12_about) B.pre
  have hts : ∀ w ∈ wsL_law, w.before _ s = true := fun w h => hts0 w (List.mem_cons_of_mem _ h)
  have hown : s.vm.findClass RX12 = some m.cls := findClass_of_methodNamed B.named
  have hlocks := B.notSynchronized
  have hl := lv_entry ([.ref h0, .int 7]) (n := 2) (Nat.le_of_ble_eq_true rfl)
  rw [lg_entry_eq]
  generalize (lg_sl ([.ref h0, .int 7]) ++ List.replicate (2 - (lg_sl ([.ref h0, .int 7])).length) Slot.unset).toArray = ls at hl ⊢
  have hl : lv_has ls 2 [(0, .ref h0), (1, .int 7)] := hl
  refine lv_iload_n hx hb dX12_about_0 rfl (lv_at hl 1 rfl) ?_
  refine lv_tableIn (off := 126) (tgt := 127) hx hb dX12_about_1 (by decide +kernel) (by decide +kernel) (by decide +kernel) (by decide) ?_
  refine lv_aload_n hx hb dX12_about_127 rfl (lv_at hl 0 rfl) ?_
  refine va_get (D := (dC, dI)) (ci := 12) (v := .int 0) (C := RX12) (T := TX12) (N := 74) hx hb hts inlX12 hown hK hP 0 rfl rfl 50 (by decide) (hts _ m_279) (fun _ h9 => h9) rfl dX12_about_128 ?_
  exact W.iret (v := 0) hx hb hr (fun t ht hW => ⟨0, rfl, rfl, ht⟩) (fun _ h_ => (List.not_mem_nil h_).elim) dX12_about_131
set_option maxHeartbeats 4000000 in
set_option maxRecDepth 100000 in
theorem kX12_about_10 (l : Launch) (dC : Nat → ClassId) (dI : Nat → Nat → Nat) (cy : Nat → ClassId) (h0 : Nat) (r : Nat → Nat) : Met l yX12_about wmX12_about ({ frames := 0, cells := 0, slots := 0, locals := 0 }) (va_Pc [.ref h0, .int 8] (fun U => va_P (dC, dI) classes [(h0, .inr (12, [.ref (r 0), .ref (r 1), .int 0, .int 0, .int 0, .int (-1), .int 0, .int 0, .int 0, .int 0, .long 0, .ref (r 11), .ref (r 12), .ref (r 13), .ref (r 14), .ref (r 15), .ref (r 16), .ref (r 17), .ref (r 18), .ref (r 19), .ref (r 20), .ref (r 21), .ref (r 22), .ref (r 23), .ref (r 24), .ref (r 25), .ref (r 26), .ref (r 27), .ref (r 28), .ref (r 29), .ref (r 30), .ref (r 31), .ref (r 32), .ref (r 33), .int 0, .int 0, .int 0, .int 0, .int 0, .int 0, .int 0, .ref (r 41), .ref (r 42), .ref (r 43), .ref (r 44), .int 0, .int 0, .int 0, .ref (r 48), .int 0, .int 0, .ref (r 51), .ref (r 52), .ref (r 53), .ref (r 54), .int 0, .ref (r 56), .ref (r 57), .ref (r 58), .int 0, .ref (r 60), .ref (r 61), .ref (r 62), .ref (r 63), .ref (r 64), .ref (r 65), .ref (r 66), .ref (r 67), .ref (r 68), .int 0, .int 0, .int 0, .ref (r 72), .ref (r 73)]))] U.heap ∧ EV dC dI cy U)) (vp_Si (fun r_ => r_ = 0)) 0 0 (fun _ => False) := by
  refine Met.ofW (cc := cX12_about) (maxL := 2) (ret := (some .int)) (by decide +kernel) rfl ?_
  intro p e s m args below meth c s₁ B hml hv
  obtain ⟨rfl, hP, hE⟩ := hv
  have hK := hE.1
  have hN := hE.2.1
  have hx := B.exec
  have hb := B.bytes
  have hr := B.returns
  have hts0 := atoms_spec (ws := wmX12_about) B.pre
  have hts : ∀ w ∈ wsL_law, w.before _ s = true := fun w h => hts0 w (List.mem_cons_of_mem _ h)
  have hown : s.vm.findClass RX12 = some m.cls := findClass_of_methodNamed B.named
  have hlocks := B.notSynchronized
  have hl := lv_entry ([.ref h0, .int 8]) (n := 2) (Nat.le_of_ble_eq_true rfl)
  rw [lg_entry_eq]
  generalize (lg_sl ([.ref h0, .int 8]) ++ List.replicate (2 - (lg_sl ([.ref h0, .int 8])).length) Slot.unset).toArray = ls at hl ⊢
  have hl : lv_has ls 2 [(0, .ref h0), (1, .int 8)] := hl
  refine lv_iload_n hx hb dX12_about_0 rfl (lv_at hl 1 rfl) ?_
  refine lv_tableIn (off := 131) (tgt := 132) hx hb dX12_about_1 (by decide +kernel) (by decide +kernel) (by decide +kernel) (by decide) ?_
  refine lv_aload_n hx hb dX12_about_132 rfl (lv_at hl 0 rfl) ?_
  refine va_get (D := (dC, dI)) (ci := 12) (v := .int 0) (C := RX12) (T := TX12) (N := 74) hx hb hts inlX12 hown hK hP 0 rfl rfl 69 (by decide) (hts _ m_280) (fun _ h9 => h9) rfl dX12_about_133 ?_
  exact W.iret (v := 0) hx hb hr (fun t ht hW => ⟨0, rfl, rfl, ht⟩) (fun _ h_ => (List.not_mem_nil h_).elim) dX12_about_136
set_option maxHeartbeats 4000000 in
set_option maxRecDepth 100000 in
theorem kX12_about_11 (l : Launch) (dC : Nat → ClassId) (dI : Nat → Nat → Nat) (cy : Nat → ClassId) (h0 : Nat) (r : Nat → Nat) : Met l yX12_about wmX12_about ({ frames := 0, cells := 0, slots := 0, locals := 0 }) (va_Pc [.ref h0, .int 9] (fun U => va_P (dC, dI) classes [(h0, .inr (12, [.ref (r 0), .ref (r 1), .int 0, .int 0, .int 0, .int (-1), .int 0, .int 0, .int 0, .int 0, .long 0, .ref (r 11), .ref (r 12), .ref (r 13), .ref (r 14), .ref (r 15), .ref (r 16), .ref (r 17), .ref (r 18), .ref (r 19), .ref (r 20), .ref (r 21), .ref (r 22), .ref (r 23), .ref (r 24), .ref (r 25), .ref (r 26), .ref (r 27), .ref (r 28), .ref (r 29), .ref (r 30), .ref (r 31), .ref (r 32), .ref (r 33), .int 0, .int 0, .int 0, .int 0, .int 0, .int 0, .int 0, .ref (r 41), .ref (r 42), .ref (r 43), .ref (r 44), .int 0, .int 0, .int 0, .ref (r 48), .int 0, .int 0, .ref (r 51), .ref (r 52), .ref (r 53), .ref (r 54), .int 0, .ref (r 56), .ref (r 57), .ref (r 58), .int 0, .ref (r 60), .ref (r 61), .ref (r 62), .ref (r 63), .ref (r 64), .ref (r 65), .ref (r 66), .ref (r 67), .ref (r 68), .int 0, .int 0, .int 0, .ref (r 72), .ref (r 73)]))] U.heap ∧ EV dC dI cy U)) (vp_Si (fun r_ => r_ = 0)) 0 0 (fun _ => False) := by
  refine Met.ofW (cc := cX12_about) (maxL := 2) (ret := (some .int)) (by decide +kernel) rfl ?_
  intro p e s m args below meth c s₁ B hml hv
  obtain ⟨rfl, hP, hE⟩ := hv
  have hK := hE.1
  have hN := hE.2.1
  have hx := B.exec
  have hb := B.bytes
  have hr := B.returns
  have hts0 := atoms_spec (ws := wmX12_about) B.pre
  have hts : ∀ w ∈ wsL_law, w.before _ s = true := fun w h => hts0 w (List.mem_cons_of_mem _ h)
  have hown : s.vm.findClass RX12 = some m.cls := findClass_of_methodNamed B.named
  have hlocks := B.notSynchronized
  have hl := lv_entry ([.ref h0, .int 9]) (n := 2) (Nat.le_of_ble_eq_true rfl)
  rw [lg_entry_eq]
  generalize (lg_sl ([.ref h0, .int 9]) ++ List.replicate (2 - (lg_sl ([.ref h0, .int 9])).length) Slot.unset).toArray = ls at hl ⊢
  have hl : lv_has ls 2 [(0, .ref h0), (1, .int 9)] := hl
  refine lv_iload_n hx hb dX12_about_0 rfl (lv_at hl 1 rfl) ?_
  refine lv_tableIn (off := 136) (tgt := 137) hx hb dX12_about_1 (by decide +kernel) (by decide +kernel) (by decide +kernel) (by decide) ?_
  refine lv_aload_n hx hb dX12_about_137 rfl (lv_at hl 0 rfl) ?_
  refine va_get (D := (dC, dI)) (ci := 12) (v := .int 0) (C := RX12) (T := TX12) (N := 74) hx hb hts inlX12 hown hK hP 0 rfl rfl 70 (by decide) (hts _ m_1613) (fun _ h9 => h9) rfl dX12_about_138 ?_
  exact W.iret (v := 0) hx hb hr (fun t ht hW => ⟨0, rfl, rfl, ht⟩) (fun _ h_ => (List.not_mem_nil h_).elim) dX12_about_141
set_option maxHeartbeats 4000000 in
set_option maxRecDepth 100000 in
theorem kX12_about_12 (l : Launch) (dC : Nat → ClassId) (dI : Nat → Nat → Nat) (cy : Nat → ClassId) (h0 : Nat) (r : Nat → Nat) : Met l yX12_about wmX12_about ({ frames := 0, cells := 0, slots := 0, locals := 0 }) (va_Pc [.ref h0, .int 10] (fun U => va_P (dC, dI) classes [(h0, .inr (12, [.ref (r 0), .ref (r 1), .int 0, .int 0, .int 0, .int (-1), .int 0, .int 0, .int 0, .int 0, .long 0, .ref (r 11), .ref (r 12), .ref (r 13), .ref (r 14), .ref (r 15), .ref (r 16), .ref (r 17), .ref (r 18), .ref (r 19), .ref (r 20), .ref (r 21), .ref (r 22), .ref (r 23), .ref (r 24), .ref (r 25), .ref (r 26), .ref (r 27), .ref (r 28), .ref (r 29), .ref (r 30), .ref (r 31), .ref (r 32), .ref (r 33), .int 0, .int 0, .int 0, .int 0, .int 0, .int 0, .int 0, .ref (r 41), .ref (r 42), .ref (r 43), .ref (r 44), .int 0, .int 0, .int 0, .ref (r 48), .int 0, .int 0, .ref (r 51), .ref (r 52), .ref (r 53), .ref (r 54), .int 0, .ref (r 56), .ref (r 57), .ref (r 58), .int 0, .ref (r 60), .ref (r 61), .ref (r 62), .ref (r 63), .ref (r 64), .ref (r 65), .ref (r 66), .ref (r 67), .ref (r 68), .int 0, .int 0, .int 0, .ref (r 72), .ref (r 73)]))] U.heap ∧ EV dC dI cy U)) (vp_Si (fun r_ => r_ = 0)) 0 0 (fun _ => False) := by
  refine Met.ofW (cc := cX12_about) (maxL := 2) (ret := (some .int)) (by decide +kernel) rfl ?_
  intro p e s m args below meth c s₁ B hml hv
  obtain ⟨rfl, hP, hE⟩ := hv
  have hK := hE.1
  have hN := hE.2.1
  have hx := B.exec
  have hb := B.bytes
  have hr := B.returns
  have hts0 := atoms_spec (ws := wmX12_about) B.pre
  have hts : ∀ w ∈ wsL_law, w.before _ s = true := fun w h => hts0 w (List.mem_cons_of_mem _ h)
  have hown : s.vm.findClass RX12 = some m.cls := findClass_of_methodNamed B.named
  have hlocks := B.notSynchronized
  have hl := lv_entry ([.ref h0, .int 10]) (n := 2) (Nat.le_of_ble_eq_true rfl)
  rw [lg_entry_eq]
  generalize (lg_sl ([.ref h0, .int 10]) ++ List.replicate (2 - (lg_sl ([.ref h0, .int 10])).length) Slot.unset).toArray = ls at hl ⊢
  have hl : lv_has ls 2 [(0, .ref h0), (1, .int 10)] := hl
  refine lv_iload_n hx hb dX12_about_0 rfl (lv_at hl 1 rfl) ?_
  refine lv_tableIn (off := 141) (tgt := 142) hx hb dX12_about_1 (by decide +kernel) (by decide +kernel) (by decide +kernel) (by decide) ?_
  refine lv_aload_n hx hb dX12_about_142 rfl (lv_at hl 0 rfl) ?_
  refine va_get (D := (dC, dI)) (ci := 12) (v := .int 0) (C := RX12) (T := TX12) (N := 74) hx hb hts inlX12 hown hK hP 0 rfl rfl 2 (by decide) (hts _ m_299) (fun _ h9 => h9) rfl dX12_about_143 ?_
  exact W.iret (v := 0) hx hb hr (fun t ht hW => ⟨0, rfl, rfl, ht⟩) (fun _ h_ => (List.not_mem_nil h_).elim) dX12_about_146
set_option maxHeartbeats 4000000 in
set_option maxRecDepth 100000 in
theorem kX12_about_13 (l : Launch) (dC : Nat → ClassId) (dI : Nat → Nat → Nat) (cy : Nat → ClassId) (h0 : Nat) (r : Nat → Nat) : Met l yX12_about wmX12_about ({ frames := 0, cells := 0, slots := 0, locals := 0 }) (va_Pc [.ref h0, .int 11] (fun U => va_P (dC, dI) classes [(h0, .inr (12, [.ref (r 0), .ref (r 1), .int 0, .int 0, .int 0, .int (-1), .int 0, .int 0, .int 0, .int 0, .long 0, .ref (r 11), .ref (r 12), .ref (r 13), .ref (r 14), .ref (r 15), .ref (r 16), .ref (r 17), .ref (r 18), .ref (r 19), .ref (r 20), .ref (r 21), .ref (r 22), .ref (r 23), .ref (r 24), .ref (r 25), .ref (r 26), .ref (r 27), .ref (r 28), .ref (r 29), .ref (r 30), .ref (r 31), .ref (r 32), .ref (r 33), .int 0, .int 0, .int 0, .int 0, .int 0, .int 0, .int 0, .ref (r 41), .ref (r 42), .ref (r 43), .ref (r 44), .int 0, .int 0, .int 0, .ref (r 48), .int 0, .int 0, .ref (r 51), .ref (r 52), .ref (r 53), .ref (r 54), .int 0, .ref (r 56), .ref (r 57), .ref (r 58), .int 0, .ref (r 60), .ref (r 61), .ref (r 62), .ref (r 63), .ref (r 64), .ref (r 65), .ref (r 66), .ref (r 67), .ref (r 68), .int 0, .int 0, .int 0, .ref (r 72), .ref (r 73)])), (r 14, .inl (cy 0, 2, .inl (fun _ => 0)))] U.heap ∧ EV dC dI cy U)) (vp_Si (fun r_ => r_ = 0)) 0 0 (fun _ => False) := by
  refine Met.ofW (cc := cX12_about) (maxL := 2) (ret := (some .int)) (by decide +kernel) rfl ?_
  intro p e s m args below meth c s₁ B hml hv
  obtain ⟨rfl, hP, hE⟩ := hv
  have hK := hE.1
  have hN := hE.2.1
  have hx := B.exec
  have hb := B.bytes
  have hr := B.returns
  have hts0 := atoms_spec (ws := wmX12_about) B.pre
  have hts : ∀ w ∈ wsL_law, w.before _ s = true := fun w h => hts0 w (List.mem_cons_of_mem _ h)
  have hown : s.vm.findClass RX12 = some m.cls := findClass_of_methodNamed B.named
  have hlocks := B.notSynchronized
  have hl := lv_entry ([.ref h0, .int 11]) (n := 2) (Nat.le_of_ble_eq_true rfl)
  rw [lg_entry_eq]
  generalize (lg_sl ([.ref h0, .int 11]) ++ List.replicate (2 - (lg_sl ([.ref h0, .int 11])).length) Slot.unset).toArray = ls at hl ⊢
  have hl : lv_has ls 2 [(0, .ref h0), (1, .int 11)] := hl
  refine lv_iload_n hx hb dX12_about_0 rfl (lv_at hl 1 rfl) ?_
  refine lv_tableIn (off := 146) (tgt := 147) hx hb dX12_about_1 (by decide +kernel) (by decide +kernel) (by decide +kernel) (by decide) ?_
  refine lv_aload_n hx hb dX12_about_147 rfl (lv_at hl 0 rfl) ?_
  refine va_get (D := (dC, dI)) (ci := 12) (v := .ref (r 14)) (C := RX12) (T := TX12) (N := 74) hx hb hts inlX12 hown hK hP 0 rfl rfl 14 (by decide) (hts _ m_224) (fun _ h9 => h9) rfl dX12_about_148 ?_
  refine lv_aload_n hx hb dX12_about_151 rfl (lv_at hl 0 rfl) ?_
  refine va_get (D := (dC, dI)) (ci := 12) (v := .int 0) (C := RX12) (T := TX12) (N := 74) hx hb hts inlX12 hown hK hP 0 rfl rfl 34 (by decide) (hts _ m_277) (fun _ h9 => h9) rfl dX12_about_152 ?_
  refine va_iald hx hb hK hP 1 0 rfl rfl vi_0_2 dX12_about_155 ?_
  refine W.eq (g2 := F0 m 156 ls [.int 0]) rfl ?_
  exact W.iret (v := 0) hx hb hr (fun t ht hW => ⟨0, rfl, rfl, ht⟩) (fun _ h_ => (List.not_mem_nil h_).elim) dX12_about_156
set_option maxHeartbeats 4000000 in
set_option maxRecDepth 100000 in
theorem kX12_about_14 (l : Launch) (dC : Nat → ClassId) (dI : Nat → Nat → Nat) (cy : Nat → ClassId) (h0 : Nat) (r : Nat → Nat) : Met l yX12_about wmX12_about ({ frames := 0, cells := 0, slots := 0, locals := 0 }) (va_Pc [.ref h0, .int 12] (fun U => va_P (dC, dI) classes [(h0, .inr (12, [.ref (r 0), .ref (r 1), .int 0, .int 0, .int 0, .int (-1), .int 0, .int 0, .int 0, .int 0, .long 0, .ref (r 11), .ref (r 12), .ref (r 13), .ref (r 14), .ref (r 15), .ref (r 16), .ref (r 17), .ref (r 18), .ref (r 19), .ref (r 20), .ref (r 21), .ref (r 22), .ref (r 23), .ref (r 24), .ref (r 25), .ref (r 26), .ref (r 27), .ref (r 28), .ref (r 29), .ref (r 30), .ref (r 31), .ref (r 32), .ref (r 33), .int 0, .int 0, .int 0, .int 0, .int 0, .int 0, .int 0, .ref (r 41), .ref (r 42), .ref (r 43), .ref (r 44), .int 0, .int 0, .int 0, .ref (r 48), .int 0, .int 0, .ref (r 51), .ref (r 52), .ref (r 53), .ref (r 54), .int 0, .ref (r 56), .ref (r 57), .ref (r 58), .int 0, .ref (r 60), .ref (r 61), .ref (r 62), .ref (r 63), .ref (r 64), .ref (r 65), .ref (r 66), .ref (r 67), .ref (r 68), .int 0, .int 0, .int 0, .ref (r 72), .ref (r 73)]))] U.heap ∧ EV dC dI cy U)) (vp_Si (fun r_ => r_ = 0)) 0 0 (fun _ => False) := by
  refine Met.ofW (cc := cX12_about) (maxL := 2) (ret := (some .int)) (by decide +kernel) rfl ?_
  intro p e s m args below meth c s₁ B hml hv
  obtain ⟨rfl, hP, hE⟩ := hv
  have hK := hE.1
  have hN := hE.2.1
  have hx := B.exec
  have hb := B.bytes
  have hr := B.returns
  have hts0 := atoms_spec (ws := wmX12_about) B.pre
  have hts : ∀ w ∈ wsL_law, w.before _ s = true := fun w h => hts0 w (List.mem_cons_of_mem _ h)
  have hown : s.vm.findClass RX12 = some m.cls := findClass_of_methodNamed B.named
  have hlocks := B.notSynchronized
  have hl := lv_entry ([.ref h0, .int 12]) (n := 2) (Nat.le_of_ble_eq_true rfl)
  rw [lg_entry_eq]
  generalize (lg_sl ([.ref h0, .int 12]) ++ List.replicate (2 - (lg_sl ([.ref h0, .int 12])).length) Slot.unset).toArray = ls at hl ⊢
  have hl : lv_has ls 2 [(0, .ref h0), (1, .int 12)] := hl
  refine lv_iload_n hx hb dX12_about_0 rfl (lv_at hl 1 rfl) ?_
  refine lv_tableIn (off := 156) (tgt := 157) hx hb dX12_about_1 (by decide +kernel) (by decide +kernel) (by decide +kernel) (by decide) ?_
  refine lv_aload_n hx hb dX12_about_157 rfl (lv_at hl 0 rfl) ?_
  refine va_get (D := (dC, dI)) (ci := 12) (v := .int 0) (C := RX12) (T := TX12) (N := 74) hx hb hts inlX12 hown hK hP 0 rfl rfl 55 (by decide) (hts _ m_281) (fun _ h9 => h9) rfl dX12_about_158 ?_
  exact W.iret (v := 0) hx hb hr (fun t ht hW => ⟨0, rfl, rfl, ht⟩) (fun _ h_ => (List.not_mem_nil h_).elim) dX12_about_161
