set_option maxHeartbeats 4000000 in
set_option maxRecDepth 100000 in
theorem kX12_image_1 (l : Launch) (dC : Nat → ClassId) (dI : Nat → Nat → Nat) (cy : Nat → ClassId) (h0 : Nat) (r : Nat → Nat) (p0 : Int32) (sz : Nat) : Met l yX12_image wmX12_image ({ frames := 1, cells := 0, slots := 0, locals := 22 }) (va_Pc [.ref h0, .int p0] (fun U => U.heap.size = sz ∧ va_P (dC, dI) classes [(h0, .inr (12, [.ref (r 0), .ref (r 1), .int 0, .int 0, .int 0, .int (-1), .int 0, .int 0, .int 0, .int 0, .long 0, .ref (r 11), .ref (r 12), .ref (r 13), .ref (r 14), .ref (r 15), .ref (r 16), .ref (r 17), .ref (r 18), .ref (r 19), .ref (r 20), .ref (r 21), .ref (r 22), .ref (r 23), .ref (r 24), .ref (r 25), .ref (r 26), .ref (r 27), .ref (r 28), .ref (r 29), .ref (r 30), .ref (r 31), .ref (r 32), .ref (r 33), .int 0, .int 0, .int 0, .int 0, .int 0, .int 0, .int 0, .ref (r 41), .ref (r 42), .ref (r 43), .ref (r 44), .int 0, .int 0, .int 0, .ref (r 48), .int 0, .int 0, .ref (r 51), .ref (r 52), .ref (r 53), .ref (r 54), .int 0, .ref (r 56), .ref (r 57), .ref (r 58), .int 0, .ref (r 60), .ref (r 61), .ref (r 62), .ref (r 63), .ref (r 64), .ref (r 65), .ref (r 66), .ref (r 67), .ref (r 68), .int 0, .int 0, .int 0, .ref (r 72), .ref (r 73)])), (r 41, .inl (cy 0, 15, .inl (fun _ => 0))), (r 72, .inl (cy 0, 45, .inl (fun _ => 0))), (r 73, .inl (cy 3, 3, .inl (fun _ => 0)))] U.heap ∧ EV dC dI cy U ∧ va_D (fun _ => True) [(h0, .inr (12, [.ref (r 0), .ref (r 1), .int 0, .int 0, .int 0, .int (-1), .int 0, .int 0, .int 0, .int 0, .long 0, .ref (r 11), .ref (r 12), .ref (r 13), .ref (r 14), .ref (r 15), .ref (r 16), .ref (r 17), .ref (r 18), .ref (r 19), .ref (r 20), .ref (r 21), .ref (r 22), .ref (r 23), .ref (r 24), .ref (r 25), .ref (r 26), .ref (r 27), .ref (r 28), .ref (r 29), .ref (r 30), .ref (r 31), .ref (r 32), .ref (r 33), .int 0, .int 0, .int 0, .int 0, .int 0, .int 0, .int 0, .ref (r 41), .ref (r 42), .ref (r 43), .ref (r 44), .int 0, .int 0, .int 0, .ref (r 48), .int 0, .int 0, .ref (r 51), .ref (r 52), .ref (r 53), .ref (r 54), .int 0, .ref (r 56), .ref (r 57), .ref (r 58), .int 0, .ref (r 60), .ref (r 61), .ref (r 62), .ref (r 63), .ref (r 64), .ref (r 65), .ref (r 66), .ref (r 67), .ref (r 68), .int 0, .int 0, .int 0, .ref (r 72), .ref (r 73)])), (r 41, .inl (cy 0, 15, .inl (fun _ => 0))), (r 72, .inl (cy 0, 45, .inl (fun _ => 0))), (r 73, .inl (cy 3, 3, .inl (fun _ => 0)))])) (va_Qi (S := Unit) (fun r_ _ => (r_ = (-1) ∧ p0 < 0) ∨ (r_ = (-1) ∧ ¬ p0 < 0 ∧ 2 < p0) ∨ (r_ = 0 ∧ ¬ p0 < 0 ∧ ¬ 2 < p0 ∧ p0 = 0) ∨ (r_ = 0 ∧ ¬ p0 < 0 ∧ ¬ 2 < p0 ∧ p0 = 1) ∨ (r_ = 0 ∧ ¬ p0 < 0 ∧ ¬ 2 < p0 ∧ p0 = 2)) (fun _ _ => True) (va_A [(h0, .inr (12, [.ref (r 0), .ref (r 1), .int 0, .int 0, .int 0, .int (-1), .int 0, .int 0, .int 0, .int 0, .long 0, .ref (r 11), .ref (r 12), .ref (r 13), .ref (r 14), .ref (r 15), .ref (r 16), .ref (r 17), .ref (r 18), .ref (r 19), .ref (r 20), .ref (r 21), .ref (r 22), .ref (r 23), .ref (r 24), .ref (r 25), .ref (r 26), .ref (r 27), .ref (r 28), .ref (r 29), .ref (r 30), .ref (r 31), .ref (r 32), .ref (r 33), .int 0, .int 0, .int 0, .int 0, .int 0, .int 0, .int 0, .ref (r 41), .ref (r 42), .ref (r 43), .ref (r 44), .int 0, .int 0, .int 0, .ref (r 48), .int 0, .int 0, .ref (r 51), .ref (r 52), .ref (r 53), .ref (r 54), .int 0, .ref (r 56), .ref (r 57), .ref (r 58), .int 0, .ref (r 60), .ref (r 61), .ref (r 62), .ref (r 63), .ref (r 64), .ref (r 65), .ref (r 66), .ref (r 67), .ref (r 68), .int 0, .int 0, .int 0, .ref (r 72), .ref (r 73)])), (r 41, .inl (cy 0, 15, .inl (fun _ => 0))), (r 72, .inl (cy 0, 45, .inl (fun _ => 0))), (r 73, .inl (cy 3, 3, .inl (fun _ => 0)))] sz)) 0 0 (va_A [(h0, .inr (12, [.ref (r 0), .ref (r 1), .int 0, .int 0, .int 0, .int (-1), .int 0, .int 0, .int 0, .int 0, .long 0, .ref (r 11), .ref (r 12), .ref (r 13), .ref (r 14), .ref (r 15), .ref (r 16), .ref (r 17), .ref (r 18), .ref (r 19), .ref (r 20), .ref (r 21), .ref (r 22), .ref (r 23), .ref (r 24), .ref (r 25), .ref (r 26), .ref (r 27), .ref (r 28), .ref (r 29), .ref (r 30), .ref (r 31), .ref (r 32), .ref (r 33), .int 0, .int 0, .int 0, .int 0, .int 0, .int 0, .int 0, .ref (r 41), .ref (r 42), .ref (r 43), .ref (r 44), .int 0, .int 0, .int 0, .ref (r 48), .int 0, .int 0, .ref (r 51), .ref (r 52), .ref (r 53), .ref (r 54), .int 0, .ref (r 56), .ref (r 57), .ref (r 58), .int 0, .ref (r 60), .ref (r 61), .ref (r 62), .ref (r 63), .ref (r 64), .ref (r 65), .ref (r 66), .ref (r 67), .ref (r 68), .int 0, .int 0, .int 0, .ref (r 72), .ref (r 73)])), (r 41, .inl (cy 0, 15, .inl (fun _ => 0))), (r 72, .inl (cy 0, 45, .inl (fun _ => 0))), (r 73, .inl (cy 3, 3, .inl (fun _ => 0)))] sz) := by
  refine Met.ofW (cc := cX12_image) (maxL := 3) (ret := (some .int)) (by decide +kernel) rfl ?_
  intro p e s m args below meth c s₁ B hml hv
  obtain ⟨rfl, hsz, hP, hE, hD0⟩ := hv
  have hK := hE.1
  have hN := hE.2.1
  have hx := B.exec
  have hb := B.bytes
  have hr := B.returns
  have hts0 := atoms_spec (ws := wmX12_image) B.pre
  have hts : ∀ w ∈ wsL_law, w.before _ s = true := fun w h => hts0 w (List.mem_cons_of_mem _ h)
  have hown : s.vm.findClass RX12 = some m.cls := findClass_of_methodNamed B.named
  have hlocks := B.notSynchronized
  subst hsz
  have hD := hD0.self (sz := s.heap.size)
  generalize hAe : va_A [(h0, .inr (12, [.ref (r 0), .ref (r 1), .int 0, .int 0, .int 0, .int (-1), .int 0, .int 0, .int 0, .int 0, .long 0, .ref (r 11), .ref (r 12), .ref (r 13), .ref (r 14), .ref (r 15), .ref (r 16), .ref (r 17), .ref (r 18), .ref (r 19), .ref (r 20), .ref (r 21), .ref (r 22), .ref (r 23), .ref (r 24), .ref (r 25), .ref (r 26), .ref (r 27), .ref (r 28), .ref (r 29), .ref (r 30), .ref (r 31), .ref (r 32), .ref (r 33), .int 0, .int 0, .int 0, .int 0, .int 0, .int 0, .int 0, .ref (r 41), .ref (r 42), .ref (r 43), .ref (r 44), .int 0, .int 0, .int 0, .ref (r 48), .int 0, .int 0, .ref (r 51), .ref (r 52), .ref (r 53), .ref (r 54), .int 0, .ref (r 56), .ref (r 57), .ref (r 58), .int 0, .ref (r 60), .ref (r 61), .ref (r 62), .ref (r 63), .ref (r 64), .ref (r 65), .ref (r 66), .ref (r 67), .ref (r 68), .int 0, .int 0, .int 0, .ref (r 72), .ref (r 73)])), (r 41, .inl (cy 0, 15, .inl (fun _ => 0))), (r 72, .inl (cy 0, 45, .inl (fun _ => 0))), (r 73, .inl (cy 3, 3, .inl (fun _ => 0)))] s.heap.size = A at hD ⊢
  have hA : ∀ q : Nat, s.heap.size ≤ q → A q := fun q h => by rw [← hAe]; exact Or.inr h
  have hS : va_S A s.heap s.heap [] := va_S.rf
  have hP : va_P (dC, dI) classes [(h0, .inr (12, [.ref (r 0), .ref (r 1), .int 0, .int 0, .int 0, .int (-1), .int 0, .int 0, .int 0, .int 0, .long 0, .ref (r 11), .ref (r 12), .ref (r 13), .ref (r 14), .ref (r 15), .ref (r 16), .ref (r 17), .ref (r 18), .ref (r 19), .ref (r 20), .ref (r 21), .ref (r 22), .ref (r 23), .ref (r 24), .ref (r 25), .ref (r 26), .ref (r 27), .ref (r 28), .ref (r 29), .ref (r 30), .ref (r 31), .ref (r 32), .ref (r 33), .int 0, .int 0, .int 0, .int 0, .int 0, .int 0, .int 0, .ref (r 41), .ref (r 42), .ref (r 43), .ref (r 44), .int 0, .int 0, .int 0, .ref (r 48), .int 0, .int 0, .ref (r 51), .ref (r 52), .ref (r 53), .ref (r 54), .int 0, .ref (r 56), .ref (r 57), .ref (r 58), .int 0, .ref (r 60), .ref (r 61), .ref (r 62), .ref (r 63), .ref (r 64), .ref (r 65), .ref (r 66), .ref (r 67), .ref (r 68), .int 0, .int 0, .int 0, .ref (r 72), .ref (r 73)])), (r 41, .inl (cy 0, 15, .inl (fun _ => 0))), (r 72, .inl (cy 0, 45, .inl (fun _ => 0))), (r 73, .inl (cy 3, 3, .inl (fun _ => 0)))] s.heap := hP
  have hl := lv_entry ([.ref h0, .int p0]) (n := 3) (Nat.le_of_ble_eq_true rfl)
  rw [lg_entry_eq]
  generalize (lg_sl ([.ref h0, .int p0]) ++ List.replicate (3 - (lg_sl ([.ref h0, .int p0])).length) Slot.unset).toArray = ls at hl ⊢
  have hl : lv_has ls 3 [(0, .ref h0), (1, .int p0)] := hl
  refine lv_iload_n hx hb dX12_image_0 rfl (lv_at hl 1 rfl) ?_
  refine lv_iconst (v := 0) hx hb dX12_image_1 (by decide +kernel) ?_
  refine lv_iconst (v := 2) hx hb dX12_image_2 (by decide +kernel) ?_
  have hPc := hP.sub (ws' := []) [] rfl
  refine vp_callSi (W.runS (As := [.int p0, .int 0, .int 2]) (rest := []) ⟨hx, hb, hml, hown, hts⟩ (kX12_isIn_8 l dC dI cy p0) (va_cwS 3 hts (gdS m_775 m_776 m_5 m_777) rfl rfl rfl (by decide +kernel) ⟨Nat.le_of_ble_eq_true rfl, Nat.le_of_ble_eq_true rfl⟩) ⟨fun a U g mk q => by obtain ⟨q0, qP, qE⟩ := q; exact ⟨q0, qP, qE.call⟩, fun U hU hW => ⟨rfl, by rw [hU]; exact hPc, hE.moved hW⟩⟩ rfl rfl hl.1 rfl (lv_room (Nat.le_of_ble_eq_true rfl)) dX12_image_3 ⟨(show 0 + 0 ≤ 0 from by decide +kernel), (show 0 + 0 ≤ 0 from by decide +kernel)⟩) (fun r_1 hw => ?_)
  rcases hw with ⟨hr1, c_2⟩ | ⟨hr1, c_3, c_4⟩ | ⟨hr1, c_5, c_6⟩
  · subst r_1
    refine lv_if_ne (tgt := 11) hx hb dX12_image_6 (by decide) (fun c_ => absurd (by decide +kernel) c_) (fun _ => ?_)
    refine lv_iconst (v := (-1)) hx hb dX12_image_9 (by decide +kernel) ?_
    exact W.iret (v := (-1)) hx hb hr (fun t ht hW => ⟨⟨(-1), (), rfl, Or.inl ⟨rfl, c_2⟩, trivial⟩, hS.F ht⟩) hS.2.2 dX12_image_10
  · subst r_1
    refine lv_if_ne (tgt := 11) hx hb dX12_image_6 (by decide) (fun c_ => absurd (by decide +kernel) c_) (fun _ => ?_)
    refine lv_iconst (v := (-1)) hx hb dX12_image_9 (by decide +kernel) ?_
    exact W.iret (v := (-1)) hx hb hr (fun t ht hW => ⟨⟨(-1), (), rfl, Or.inr (Or.inl ⟨rfl, c_3, c_4⟩), trivial⟩, hS.F ht⟩) hS.2.2 dX12_image_10
  · subst r_1
    refine lv_if_ne (tgt := 11) hx hb dX12_image_6 (by decide) (fun _ => ?_) (fun c_ => absurd c_ (by decide +kernel))
    rcases nn_17 c_5 c_6 with c_7 | c_7 | c_7
    · subst c_7
      refine lv_iconst (v := 0) hx hb dX12_image_11 (by decide +kernel) ?_
      refine lv_istore_n (lv' := [(2, .int 0), (0, .ref h0), (1, .int 0)]) hx hb dX12_image_12 rfl hl (by decide) rfl (fun ls hl => ?_)
      refine lv_iload_n hx hb dX12_image_13 rfl (lv_at hl 0 rfl) ?_
      refine lv_bipush (v := 15) hx hb dX12_image_14 (by decide +kernel) ?_
      refine lv_icmp_ge (tgt := 42) hx hb dX12_image_16 (by decide) (fun c_ => absurd c_ (by decide +kernel)) (fun _ => ?_)
      refine lv_aload_n hx hb dX12_image_19 rfl (lv_at hl 1 rfl) ?_
      refine va_get (D := (dC, dI)) (ci := 12) (v := .ref (r 72)) (C := RX12) (T := TX12) (N := 74) hx hb hts inlX12 hown hK hP 0 rfl rfl 72 (by decide) (hts _ m_265) (fun _ h9 => h9) rfl dX12_image_20 ?_
      refine lv_bipush (v := 15) hx hb dX12_image_23 (by decide +kernel) ?_
      refine lv_iload_n hx hb dX12_image_25 rfl (lv_at hl 2 rfl) ?_
      refine lv_imul hx hb dX12_image_26 ?_
      refine lv_topi (fun z_8 ez_8 => ?_)
      obtain rfl : z_8 = 0 := ez_8.trans (by decide +kernel)
      refine lv_iload_n hx hb dX12_image_27 rfl (lv_at hl 0 rfl) ?_
      refine lv_iadd hx hb dX12_image_28 ?_
      refine lv_topi (fun z_9 ez_9 => ?_)
      obtain rfl : z_9 = 0 := ez_9.trans (by decide +kernel)
      refine lv_aload_n hx hb dX12_image_29 rfl (lv_at hl 1 rfl) ?_
      refine va_get (D := (dC, dI)) (ci := 12) (v := .ref (r 41)) (C := RX12) (T := TX12) (N := 74) hx hb hts inlX12 hown hK hP 0 rfl rfl 41 (by decide) (hts _ m_244) (fun _ h9 => h9) rfl dX12_image_30 ?_
      refine lv_iload_n hx hb dX12_image_33 rfl (lv_at hl 0 rfl) ?_
      refine va_iald hx hb hK hP 1 0 rfl rfl vi_0_15 dX12_image_34 ?_
      refine W.eq (g2 := F0 m 35 ls [.int 0, .int 0, .ref (r 72)]) rfl ?_
      refine va_iast hx hb hK hP hD hS 2 0 rfl rfl vi_0_45 dX12_image_35 (fun H locs hP hD hS => ?_)
      rw [show upd (fun _ => 0) (Int32.toNatClampNeg 0) 0 = (fun _ => 0) from xa_upd0 rfl] at hP hD
      have hP : va_P (dC, dI) classes [(h0, .inr (12, [.ref (r 0), .ref (r 1), .int 0, .int 0, .int 0, .int (-1), .int 0, .int 0, .int 0, .int 0, .long 0, .ref (r 11), .ref (r 12), .ref (r 13), .ref (r 14), .ref (r 15), .ref (r 16), .ref (r 17), .ref (r 18), .ref (r 19), .ref (r 20), .ref (r 21), .ref (r 22), .ref (r 23), .ref (r 24), .ref (r 25), .ref (r 26), .ref (r 27), .ref (r 28), .ref (r 29), .ref (r 30), .ref (r 31), .ref (r 32), .ref (r 33), .int 0, .int 0, .int 0, .int 0, .int 0, .int 0, .int 0, .ref (r 41), .ref (r 42), .ref (r 43), .ref (r 44), .int 0, .int 0, .int 0, .ref (r 48), .int 0, .int 0, .ref (r 51), .ref (r 52), .ref (r 53), .ref (r 54), .int 0, .ref (r 56), .ref (r 57), .ref (r 58), .int 0, .ref (r 60), .ref (r 61), .ref (r 62), .ref (r 63), .ref (r 64), .ref (r 65), .ref (r 66), .ref (r 67), .ref (r 68), .int 0, .int 0, .int 0, .ref (r 72), .ref (r 73)])), (r 41, .inl (cy 0, 15, .inl (fun _ => 0))), (r 72, .inl (cy 0, 45, .inl (fun _ => 0))), (r 73, .inl (cy 3, 3, .inl (fun _ => 0)))] H := hP
      have hD : va_D A [(h0, .inr (12, [.ref (r 0), .ref (r 1), .int 0, .int 0, .int 0, .int (-1), .int 0, .int 0, .int 0, .int 0, .long 0, .ref (r 11), .ref (r 12), .ref (r 13), .ref (r 14), .ref (r 15), .ref (r 16), .ref (r 17), .ref (r 18), .ref (r 19), .ref (r 20), .ref (r 21), .ref (r 22), .ref (r 23), .ref (r 24), .ref (r 25), .ref (r 26), .ref (r 27), .ref (r 28), .ref (r 29), .ref (r 30), .ref (r 31), .ref (r 32), .ref (r 33), .int 0, .int 0, .int 0, .int 0, .int 0, .int 0, .int 0, .ref (r 41), .ref (r 42), .ref (r 43), .ref (r 44), .int 0, .int 0, .int 0, .ref (r 48), .int 0, .int 0, .ref (r 51), .ref (r 52), .ref (r 53), .ref (r 54), .int 0, .ref (r 56), .ref (r 57), .ref (r 58), .int 0, .ref (r 60), .ref (r 61), .ref (r 62), .ref (r 63), .ref (r 64), .ref (r 65), .ref (r 66), .ref (r 67), .ref (r 68), .int 0, .int 0, .int 0, .ref (r 72), .ref (r 73)])), (r 41, .inl (cy 0, 15, .inl (fun _ => 0))), (r 72, .inl (cy 0, 45, .inl (fun _ => 0))), (r 73, .inl (cy 3, 3, .inl (fun _ => 0)))] := hD
      refine lv_iinc (v := 1) (lv' := [(2, .int 1), (0, .ref h0), (1, .int 0)]) hx hb dX12_image_36 hl (k := 0) rfl (by decide +kernel) (by decide) rfl (fun ls hl => ?_)
      refine lv_goto (tgt := 13) hx hb dX12_image_39 (by decide) ?_
      refine lv_iload_n hx hb dX12_image_13 rfl (lv_at hl 0 rfl) ?_
      refine lv_bipush (v := 15) hx hb dX12_image_14 (by decide +kernel) ?_
      refine lv_icmp_ge (tgt := 42) hx hb dX12_image_16 (by decide) (fun c_ => absurd c_ (by decide +kernel)) (fun _ => ?_)
      refine lv_aload_n hx hb dX12_image_19 rfl (lv_at hl 1 rfl) ?_
      refine va_get (D := (dC, dI)) (ci := 12) (v := .ref (r 72)) (C := RX12) (T := TX12) (N := 74) hx hb hts inlX12 hown hK hP 0 rfl rfl 72 (by decide) (hts _ m_265) (fun _ h9 => h9) rfl dX12_image_20 ?_
      refine lv_bipush (v := 15) hx hb dX12_image_23 (by decide +kernel) ?_
      refine lv_iload_n hx hb dX12_image_25 rfl (lv_at hl 2 rfl) ?_
      refine lv_imul hx hb dX12_image_26 ?_
      refine lv_topi (fun z_10 ez_10 => ?_)
      obtain rfl : z_10 = 0 := ez_10.trans (by decide +kernel)
      refine lv_iload_n hx hb dX12_image_27 rfl (lv_at hl 0 rfl) ?_
      refine lv_iadd hx hb dX12_image_28 ?_
      refine lv_topi (fun z_11 ez_11 => ?_)
      obtain rfl : z_11 = 1 := ez_11.trans (by decide +kernel)
      refine lv_aload_n hx hb dX12_image_29 rfl (lv_at hl 1 rfl) ?_
      refine va_get (D := (dC, dI)) (ci := 12) (v := .ref (r 41)) (C := RX12) (T := TX12) (N := 74) hx hb hts inlX12 hown hK hP 0 rfl rfl 41 (by decide) (hts _ m_244) (fun _ h9 => h9) rfl dX12_image_30 ?_
      refine lv_iload_n hx hb dX12_image_33 rfl (lv_at hl 0 rfl) ?_
      refine va_iald hx hb hK hP 1 0 rfl rfl vi_1_15 dX12_image_34 ?_
      refine W.eq (g2 := F0 m 35 ls [.int 0, .int 1, .ref (r 72)]) rfl ?_
      refine va_iast hx hb hK hP hD hS 2 0 rfl rfl vi_1_45 dX12_image_35 (fun H locs hP hD hS => ?_)
      rw [show upd (fun _ => 0) (Int32.toNatClampNeg 1) 0 = (fun _ => 0) from xa_upd0 rfl] at hP hD
      have hP : va_P (dC, dI) classes [(h0, .inr (12, [.ref (r 0), .ref (r 1), .int 0, .int 0, .int 0, .int (-1), .int 0, .int 0, .int 0, .int 0, .long 0, .ref (r 11), .ref (r 12), .ref (r 13), .ref (r 14), .ref (r 15), .ref (r 16), .ref (r 17), .ref (r 18), .ref (r 19), .ref (r 20), .ref (r 21), .ref (r 22), .ref (r 23), .ref (r 24), .ref (r 25), .ref (r 26), .ref (r 27), .ref (r 28), .ref (r 29), .ref (r 30), .ref (r 31), .ref (r 32), .ref (r 33), .int 0, .int 0, .int 0, .int 0, .int 0, .int 0, .int 0, .ref (r 41), .ref (r 42), .ref (r 43), .ref (r 44), .int 0, .int 0, .int 0, .ref (r 48), .int 0, .int 0, .ref (r 51), .ref (r 52), .ref (r 53), .ref (r 54), .int 0, .ref (r 56), .ref (r 57), .ref (r 58), .int 0, .ref (r 60), .ref (r 61), .ref (r 62), .ref (r 63), .ref (r 64), .ref (r 65), .ref (r 66), .ref (r 67), .ref (r 68), .int 0, .int 0, .int 0, .ref (r 72), .ref (r 73)])), (r 41, .inl (cy 0, 15, .inl (fun _ => 0))), (r 72, .inl (cy 0, 45, .inl (fun _ => 0))), (r 73, .inl (cy 3, 3, .inl (fun _ => 0)))] H := hP
      have hD : va_D A [(h0, .inr (12, [.ref (r 0), .ref (r 1), .int 0, .int 0, .int 0, .int (-1), .int 0, .int 0, .int 0, .int 0, .long 0, .ref (r 11), .ref (r 12), .ref (r 13), .ref (r 14), .ref (r 15), .ref (r 16), .ref (r 17), .ref (r 18), .ref (r 19), .ref (r 20), .ref (r 21), .ref (r 22), .ref (r 23), .ref (r 24), .ref (r 25), .ref (r 26), .ref (r 27), .ref (r 28), .ref (r 29), .ref (r 30), .ref (r 31), .ref (r 32), .ref (r 33), .int 0, .int 0, .int 0, .int 0, .int 0, .int 0, .int 0, .ref (r 41), .ref (r 42), .ref (r 43), .ref (r 44), .int 0, .int 0, .int 0, .ref (r 48), .int 0, .int 0, .ref (r 51), .ref (r 52), .ref (r 53), .ref (r 54), .int 0, .ref (r 56), .ref (r 57), .ref (r 58), .int 0, .ref (r 60), .ref (r 61), .ref (r 62), .ref (r 63), .ref (r 64), .ref (r 65), .ref (r 66), .ref (r 67), .ref (r 68), .int 0, .int 0, .int 0, .ref (r 72), .ref (r 73)])), (r 41, .inl (cy 0, 15, .inl (fun _ => 0))), (r 72, .inl (cy 0, 45, .inl (fun _ => 0))), (r 73, .inl (cy 3, 3, .inl (fun _ => 0)))] := hD
      refine lv_iinc (v := 2) (lv' := [(2, .int 2), (0, .ref h0), (1, .int 0)]) hx hb dX12_image_36 hl (k := 0) rfl (by decide +kernel) (by decide) rfl (fun ls hl => ?_)
      refine lv_goto (tgt := 13) hx hb dX12_image_39 (by decide) ?_
      refine lv_iload_n hx hb dX12_image_13 rfl (lv_at hl 0 rfl) ?_
      refine lv_bipush (v := 15) hx hb dX12_image_14 (by decide +kernel) ?_
      refine lv_icmp_ge (tgt := 42) hx hb dX12_image_16 (by decide) (fun c_ => absurd c_ (by decide +kernel)) (fun _ => ?_)
      refine lv_aload_n hx hb dX12_image_19 rfl (lv_at hl 1 rfl) ?_
      refine va_get (D := (dC, dI)) (ci := 12) (v := .ref (r 72)) (C := RX12) (T := TX12) (N := 74) hx hb hts inlX12 hown hK hP 0 rfl rfl 72 (by decide) (hts _ m_265) (fun _ h9 => h9) rfl dX12_image_20 ?_
      refine lv_bipush (v := 15) hx hb dX12_image_23 (by decide +kernel) ?_
      refine lv_iload_n hx hb dX12_image_25 rfl (lv_at hl 2 rfl) ?_
      refine lv_imul hx hb dX12_image_26 ?_
      refine lv_topi (fun z_12 ez_12 => ?_)
      obtain rfl : z_12 = 0 := ez_12.trans (by decide +kernel)
      refine lv_iload_n hx hb dX12_image_27 rfl (lv_at hl 0 rfl) ?_
      refine lv_iadd hx hb dX12_image_28 ?_
      refine lv_topi (fun z_13 ez_13 => ?_)
      obtain rfl : z_13 = 2 := ez_13.trans (by decide +kernel)
      refine lv_aload_n hx hb dX12_image_29 rfl (lv_at hl 1 rfl) ?_
      refine va_get (D := (dC, dI)) (ci := 12) (v := .ref (r 41)) (C := RX12) (T := TX12) (N := 74) hx hb hts inlX12 hown hK hP 0 rfl rfl 41 (by decide) (hts _ m_244) (fun _ h9 => h9) rfl dX12_image_30 ?_
      refine lv_iload_n hx hb dX12_image_33 rfl (lv_at hl 0 rfl) ?_
      refine va_iald hx hb hK hP 1 0 rfl rfl vi_2_15 dX12_image_34 ?_
      refine W.eq (g2 := F0 m 35 ls [.int 0, .int 2, .ref (r 72)]) rfl ?_
      refine va_iast hx hb hK hP hD hS 2 0 rfl rfl vi_2_45 dX12_image_35 (fun H locs hP hD hS => ?_)
      rw [show upd (fun _ => 0) (Int32.toNatClampNeg 2) 0 = (fun _ => 0) from xa_upd0 rfl] at hP hD
      have hP : va_P (dC, dI) classes [(h0, .inr (12, [.ref (r 0), .ref (r 1), .int 0, .int 0, .int 0, .int (-1), .int 0, .int 0, .int 0, .int 0, .long 0, .ref (r 11), .ref (r 12), .ref (r 13), .ref (r 14), .ref (r 15), .ref (r 16), .ref (r 17), .ref (r 18), .ref (r 19), .ref (r 20), .ref (r 21), .ref (r 22), .ref (r 23), .ref (r 24), .ref (r 25), .ref (r 26), .ref (r 27), .ref (r 28), .ref (r 29), .ref (r 30), .ref (r 31), .ref (r 32), .ref (r 33), .int 0, .int 0, .int 0, .int 0, .int 0, .int 0, .int 0, .ref (r 41), .ref (r 42), .ref (r 43), .ref (r 44), .int 0, .int 0, .int 0, .ref (r 48), .int 0, .int 0, .ref (r 51), .ref (r 52), .ref (r 53), .ref (r 54), .int 0, .ref (r 56), .ref (r 57), .ref (r 58), .int 0, .ref (r 60), .ref (r 61), .ref (r 62), .ref (r 63), .ref (r 64), .ref (r 65), .ref (r 66), .ref (r 67), .ref (r 68), .int 0, .int 0, .int 0, .ref (r 72), .ref (r 73)])), (r 41, .inl (cy 0, 15, .inl (fun _ => 0))), (r 72, .inl (cy 0, 45, .inl (fun _ => 0))), (r 73, .inl (cy 3, 3, .inl (fun _ => 0)))] H := hP
      have hD : va_D A [(h0, .inr (12, [.ref (r 0), .ref (r 1), .int 0, .int 0, .int 0, .int (-1), .int 0, .int 0, .int 0, .int 0, .long 0, .ref (r 11), .ref (r 12), .ref (r 13), .ref (r 14), .ref (r 15), .ref (r 16), .ref (r 17), .ref (r 18), .ref (r 19), .ref (r 20), .ref (r 21), .ref (r 22), .ref (r 23), .ref (r 24), .ref (r 25), .ref (r 26), .ref (r 27), .ref (r 28), .ref (r 29), .ref (r 30), .ref (r 31), .ref (r 32), .ref (r 33), .int 0, .int 0, .int 0, .int 0, .int 0, .int 0, .int 0, .ref (r 41), .ref (r 42), .ref (r 43), .ref (r 44), .int 0, .int 0, .int 0, .ref (r 48), .int 0, .int 0, .ref (r 51), .ref (r 52), .ref (r 53), .ref (r 54), .int 0, .ref (r 56), .ref (r 57), .ref (r 58), .int 0, .ref (r 60), .ref (r 61), .ref (r 62), .ref (r 63), .ref (r 64), .ref (r 65), .ref (r 66), .ref (r 67), .ref (r 68), .int 0, .int 0, .int 0, .ref (r 72), .ref (r 73)])), (r 41, .inl (cy 0, 15, .inl (fun _ => 0))), (r 72, .inl (cy 0, 45, .inl (fun _ => 0))), (r 73, .inl (cy 3, 3, .inl (fun _ => 0)))] := hD
      refine lv_iinc (v := 3) (lv' := [(2, .int 3), (0, .ref h0), (1, .int 0)]) hx hb dX12_image_36 hl (k := 0) rfl (by decide +kernel) (by decide) rfl (fun ls hl => ?_)
      refine lv_goto (tgt := 13) hx hb dX12_image_39 (by decide) ?_
      refine lv_iload_n hx hb dX12_image_13 rfl (lv_at hl 0 rfl) ?_
      refine lv_bipush (v := 15) hx hb dX12_image_14 (by decide +kernel) ?_
      refine lv_icmp_ge (tgt := 42) hx hb dX12_image_16 (by decide) (fun c_ => absurd c_ (by decide +kernel)) (fun _ => ?_)
      refine lv_aload_n hx hb dX12_image_19 rfl (lv_at hl 1 rfl) ?_
      refine va_get (D := (dC, dI)) (ci := 12) (v := .ref (r 72)) (C := RX12) (T := TX12) (N := 74) hx hb hts inlX12 hown hK hP 0 rfl rfl 72 (by decide) (hts _ m_265) (fun _ h9 => h9) rfl dX12_image_20 ?_
      refine lv_bipush (v := 15) hx hb dX12_image_23 (by decide +kernel) ?_
      refine lv_iload_n hx hb dX12_image_25 rfl (lv_at hl 2 rfl) ?_
      refine lv_imul hx hb dX12_image_26 ?_
      refine lv_topi (fun z_14 ez_14 => ?_)
      obtain rfl : z_14 = 0 := ez_14.trans (by decide +kernel)
      refine lv_iload_n hx hb dX12_image_27 rfl (lv_at hl 0 rfl) ?_
      refine lv_iadd hx hb dX12_image_28 ?_
      refine lv_topi (fun z_15 ez_15 => ?_)
      obtain rfl : z_15 = 3 := ez_15.trans (by decide +kernel)
      refine lv_aload_n hx hb dX12_image_29 rfl (lv_at hl 1 rfl) ?_
      refine va_get (D := (dC, dI)) (ci := 12) (v := .ref (r 41)) (C := RX12) (T := TX12) (N := 74) hx hb hts inlX12 hown hK hP 0 rfl rfl 41 (by decide) (hts _ m_244) (fun _ h9 => h9) rfl dX12_image_30 ?_
      refine lv_iload_n hx hb dX12_image_33 rfl (lv_at hl 0 rfl) ?_
      refine va_iald hx hb hK hP 1 0 rfl rfl vi_3_15 dX12_image_34 ?_
      refine W.eq (g2 := F0 m 35 ls [.int 0, .int 3, .ref (r 72)]) rfl ?_
      refine va_iast hx hb hK hP hD hS 2 0 rfl rfl vi_3_45 dX12_image_35 (fun H locs hP hD hS => ?_)
      rw [show upd (fun _ => 0) (Int32.toNatClampNeg 3) 0 = (fun _ => 0) from xa_upd0 rfl] at hP hD
      have hP : va_P (dC, dI) classes [(h0, .inr (12, [.ref (r 0), .ref (r 1), .int 0, .int 0, .int 0, .int (-1), .int 0, .int 0, .int 0, .int 0, .long 0, .ref (r 11), .ref (r 12), .ref (r 13), .ref (r 14), .ref (r 15), .ref (r 16), .ref (r 17), .ref (r 18), .ref (r 19), .ref (r 20), .ref (r 21), .ref (r 22), .ref (r 23), .ref (r 24), .ref (r 25), .ref (r 26), .ref (r 27), .ref (r 28), .ref (r 29), .ref (r 30), .ref (r 31), .ref (r 32), .ref (r 33), .int 0, .int 0, .int 0, .int 0, .int 0, .int 0, .int 0, .ref (r 41), .ref (r 42), .ref (r 43), .ref (r 44), .int 0, .int 0, .int 0, .ref (r 48), .int 0, .int 0, .ref (r 51), .ref (r 52), .ref (r 53), .ref (r 54), .int 0, .ref (r 56), .ref (r 57), .ref (r 58), .int 0, .ref (r 60), .ref (r 61), .ref (r 62), .ref (r 63), .ref (r 64), .ref (r 65), .ref (r 66), .ref (r 67), .ref (r 68), .int 0, .int 0, .int 0, .ref (r 72), .ref (r 73)])), (r 41, .inl (cy 0, 15, .inl (fun _ => 0))), (r 72, .inl (cy 0, 45, .inl (fun _ => 0))), (r 73, .inl (cy 3, 3, .inl (fun _ => 0)))] H := hP
      have hD : va_D A [(h0, .inr (12, [.ref (r 0), .ref (r 1), .int 0, .int 0, .int 0, .int (-1), .int 0, .int 0, .int 0, .int 0, .long 0, .ref (r 11), .ref (r 12), .ref (r 13), .ref (r 14), .ref (r 15), .ref (r 16), .ref (r 17), .ref (r 18), .ref (r 19), .ref (r 20), .ref (r 21), .ref (r 22), .ref (r 23), .ref (r 24), .ref (r 25), .ref (r 26), .ref (r 27), .ref (r 28), .ref (r 29), .ref (r 30), .ref (r 31), .ref (r 32), .ref (r 33), .int 0, .int 0, .int 0, .int 0, .int 0, .int 0, .int 0, .ref (r 41), .ref (r 42), .ref (r 43), .ref (r 44), .int 0, .int 0, .int 0, .ref (r 48), .int 0, .int 0, .ref (r 51), .ref (r 52), .ref (r 53), .ref (r 54), .int 0, .ref (r 56), .ref (r 57), .ref (r 58), .int 0, .ref (r 60), .ref (r 61), .ref (r 62), .ref (r 63), .ref (r 64), .ref (r 65), .ref (r 66), .ref (r 67), .ref (r 68), .int 0, .int 0, .int 0, .ref (r 72), .ref (r 73)])), (r 41, .inl (cy 0, 15, .inl (fun _ => 0))), (r 72, .inl (cy 0, 45, .inl (fun _ => 0))), (r 73, .inl (cy 3, 3, .inl (fun _ => 0)))] := hD
      refine lv_iinc (v := 4) (lv' := [(2, .int 4), (0, .ref h0), (1, .int 0)]) hx hb dX12_image_36 hl (k := 0) rfl (by decide +kernel) (by decide) rfl (fun ls hl => ?_)
      refine lv_goto (tgt := 13) hx hb dX12_image_39 (by decide) ?_
      refine lv_iload_n hx hb dX12_image_13 rfl (lv_at hl 0 rfl) ?_
      refine lv_bipush (v := 15) hx hb dX12_image_14 (by decide +kernel) ?_
      refine lv_icmp_ge (tgt := 42) hx hb dX12_image_16 (by decide) (fun c_ => absurd c_ (by decide +kernel)) (fun _ => ?_)
      refine lv_aload_n hx hb dX12_image_19 rfl (lv_at hl 1 rfl) ?_
      refine va_get (D := (dC, dI)) (ci := 12) (v := .ref (r 72)) (C := RX12) (T := TX12) (N := 74) hx hb hts inlX12 hown hK hP 0 rfl rfl 72 (by decide) (hts _ m_265) (fun _ h9 => h9) rfl dX12_image_20 ?_
      refine lv_bipush (v := 15) hx hb dX12_image_23 (by decide +kernel) ?_
      refine lv_iload_n hx hb dX12_image_25 rfl (lv_at hl 2 rfl) ?_
      refine lv_imul hx hb dX12_image_26 ?_
      refine lv_topi (fun z_16 ez_16 => ?_)
      obtain rfl : z_16 = 0 := ez_16.trans (by decide +kernel)
      refine lv_iload_n hx hb dX12_image_27 rfl (lv_at hl 0 rfl) ?_
      refine lv_iadd hx hb dX12_image_28 ?_
      refine lv_topi (fun z_17 ez_17 => ?_)
      obtain rfl : z_17 = 4 := ez_17.trans (by decide +kernel)
      refine lv_aload_n hx hb dX12_image_29 rfl (lv_at hl 1 rfl) ?_
      refine va_get (D := (dC, dI)) (ci := 12) (v := .ref (r 41)) (C := RX12) (T := TX12) (N := 74) hx hb hts inlX12 hown hK hP 0 rfl rfl 41 (by decide) (hts _ m_244) (fun _ h9 => h9) rfl dX12_image_30 ?_
      refine lv_iload_n hx hb dX12_image_33 rfl (lv_at hl 0 rfl) ?_
      refine va_iald hx hb hK hP 1 0 rfl rfl vi_4_15 dX12_image_34 ?_
      refine W.eq (g2 := F0 m 35 ls [.int 0, .int 4, .ref (r 72)]) rfl ?_
      refine va_iast hx hb hK hP hD hS 2 0 rfl rfl vi_4_45 dX12_image_35 (fun H locs hP hD hS => ?_)
      rw [show upd (fun _ => 0) (Int32.toNatClampNeg 4) 0 = (fun _ => 0) from xa_upd0 rfl] at hP hD
      have hP : va_P (dC, dI) classes [(h0, .inr (12, [.ref (r 0), .ref (r 1), .int 0, .int 0, .int 0, .int (-1), .int 0, .int 0, .int 0, .int 0, .long 0, .ref (r 11), .ref (r 12), .ref (r 13), .ref (r 14), .ref (r 15), .ref (r 16), .ref (r 17), .ref (r 18), .ref (r 19), .ref (r 20), .ref (r 21), .ref (r 22), .ref (r 23), .ref (r 24), .ref (r 25), .ref (r 26), .ref (r 27), .ref (r 28), .ref (r 29), .ref (r 30), .ref (r 31), .ref (r 32), .ref (r 33), .int 0, .int 0, .int 0, .int 0, .int 0, .int 0, .int 0, .ref (r 41), .ref (r 42), .ref (r 43), .ref (r 44), .int 0, .int 0, .int 0, .ref (r 48), .int 0, .int 0, .ref (r 51), .ref (r 52), .ref (r 53), .ref (r 54), .int 0, .ref (r 56), .ref (r 57), .ref (r 58), .int 0, .ref (r 60), .ref (r 61), .ref (r 62), .ref (r 63), .ref (r 64), .ref (r 65), .ref (r 66), .ref (r 67), .ref (r 68), .int 0, .int 0, .int 0, .ref (r 72), .ref (r 73)])), (r 41, .inl (cy 0, 15, .inl (fun _ => 0))), (r 72, .inl (cy 0, 45, .inl (fun _ => 0))), (r 73, .inl (cy 3, 3, .inl (fun _ => 0)))] H := hP
      have hD : va_D A [(h0, .inr (12, [.ref (r 0), .ref (r 1), .int 0, .int 0, .int 0, .int (-1), .int 0, .int 0, .int 0, .int 0, .long 0, .ref (r 11), .ref (r 12), .ref (r 13), .ref (r 14), .ref (r 15), .ref (r 16), .ref (r 17), .ref (r 18), .ref (r 19), .ref (r 20), .ref (r 21), .ref (r 22), .ref (r 23), .ref (r 24), .ref (r 25), .ref (r 26), .ref (r 27), .ref (r 28), .ref (r 29), .ref (r 30), .ref (r 31), .ref (r 32), .ref (r 33), .int 0, .int 0, .int 0, .int 0, .int 0, .int 0, .int 0, .ref (r 41), .ref (r 42), .ref (r 43), .ref (r 44), .int 0, .int 0, .int 0, .ref (r 48), .int 0, .int 0, .ref (r 51), .ref (r 52), .ref (r 53), .ref (r 54), .int 0, .ref (r 56), .ref (r 57), .ref (r 58), .int 0, .ref (r 60), .ref (r 61), .ref (r 62), .ref (r 63), .ref (r 64), .ref (r 65), .ref (r 66), .ref (r 67), .ref (r 68), .int 0, .int 0, .int 0, .ref (r 72), .ref (r 73)])), (r 41, .inl (cy 0, 15, .inl (fun _ => 0))), (r 72, .inl (cy 0, 45, .inl (fun _ => 0))), (r 73, .inl (cy 3, 3, .inl (fun _ => 0)))] := hD
      refine lv_iinc (v := 5) (lv' := [(2, .int 5), (0, .ref h0), (1, .int 0)]) hx hb dX12_image_36 hl (k := 0) rfl (by decide +kernel) (by decide) rfl (fun ls hl => ?_)
      refine lv_goto (tgt := 13) hx hb dX12_image_39 (by decide) ?_
      refine lv_iload_n hx hb dX12_image_13 rfl (lv_at hl 0 rfl) ?_
      refine lv_bipush (v := 15) hx hb dX12_image_14 (by decide +kernel) ?_
      refine lv_icmp_ge (tgt := 42) hx hb dX12_image_16 (by decide) (fun c_ => absurd c_ (by decide +kernel)) (fun _ => ?_)
      refine lv_aload_n hx hb dX12_image_19 rfl (lv_at hl 1 rfl) ?_
      refine va_get (D := (dC, dI)) (ci := 12) (v := .ref (r 72)) (C := RX12) (T := TX12) (N := 74) hx hb hts inlX12 hown hK hP 0 rfl rfl 72 (by decide) (hts _ m_265) (fun _ h9 => h9) rfl dX12_image_20 ?_
      refine lv_bipush (v := 15) hx hb dX12_image_23 (by decide +kernel) ?_
      refine lv_iload_n hx hb dX12_image_25 rfl (lv_at hl 2 rfl) ?_
      refine lv_imul hx hb dX12_image_26 ?_
      refine lv_topi (fun z_18 ez_18 => ?_)
      obtain rfl : z_18 = 0 := ez_18.trans (by decide +kernel)
      refine lv_iload_n hx hb dX12_image_27 rfl (lv_at hl 0 rfl) ?_
      refine lv_iadd hx hb dX12_image_28 ?_
      refine lv_topi (fun z_19 ez_19 => ?_)
      obtain rfl : z_19 = 5 := ez_19.trans (by decide +kernel)
      refine lv_aload_n hx hb dX12_image_29 rfl (lv_at hl 1 rfl) ?_
      refine va_get (D := (dC, dI)) (ci := 12) (v := .ref (r 41)) (C := RX12) (T := TX12) (N := 74) hx hb hts inlX12 hown hK hP 0 rfl rfl 41 (by decide) (hts _ m_244) (fun _ h9 => h9) rfl dX12_image_30 ?_
      refine lv_iload_n hx hb dX12_image_33 rfl (lv_at hl 0 rfl) ?_
      refine va_iald hx hb hK hP 1 0 rfl rfl vi_5_15 dX12_image_34 ?_
      refine W.eq (g2 := F0 m 35 ls [.int 0, .int 5, .ref (r 72)]) rfl ?_
      refine va_iast hx hb hK hP hD hS 2 0 rfl rfl vi_5_45 dX12_image_35 (fun H locs hP hD hS => ?_)
      rw [show upd (fun _ => 0) (Int32.toNatClampNeg 5) 0 = (fun _ => 0) from xa_upd0 rfl] at hP hD
      have hP : va_P (dC, dI) classes [(h0, .inr (12, [.ref (r 0), .ref (r 1), .int 0, .int 0, .int 0, .int (-1), .int 0, .int 0, .int 0, .int 0, .long 0, .ref (r 11), .ref (r 12), .ref (r 13), .ref (r 14), .ref (r 15), .ref (r 16), .ref (r 17), .ref (r 18), .ref (r 19), .ref (r 20), .ref (r 21), .ref (r 22), .ref (r 23), .ref (r 24), .ref (r 25), .ref (r 26), .ref (r 27), .ref (r 28), .ref (r 29), .ref (r 30), .ref (r 31), .ref (r 32), .ref (r 33), .int 0, .int 0, .int 0, .int 0, .int 0, .int 0, .int 0, .ref (r 41), .ref (r 42), .ref (r 43), .ref (r 44), .int 0, .int 0, .int 0, .ref (r 48), .int 0, .int 0, .ref (r 51), .ref (r 52), .ref (r 53), .ref (r 54), .int 0, .ref (r 56), .ref (r 57), .ref (r 58), .int 0, .ref (r 60), .ref (r 61), .ref (r 62), .ref (r 63), .ref (r 64), .ref (r 65), .ref (r 66), .ref (r 67), .ref (r 68), .int 0, .int 0, .int 0, .ref (r 72), .ref (r 73)])), (r 41, .inl (cy 0, 15, .inl (fun _ => 0))), (r 72, .inl (cy 0, 45, .inl (fun _ => 0))), (r 73, .inl (cy 3, 3, .inl (fun _ => 0)))] H := hP
      have hD : va_D A [(h0, .inr (12, [.ref (r 0), .ref (r 1), .int 0, .int 0, .int 0, .int (-1), .int 0, .int 0, .int 0, .int 0, .long 0, .ref (r 11), .ref (r 12), .ref (r 13), .ref (r 14), .ref (r 15), .ref (r 16), .ref (r 17), .ref (r 18), .ref (r 19), .ref (r 20), .ref (r 21), .ref (r 22), .ref (r 23), .ref (r 24), .ref (r 25), .ref (r 26), .ref (r 27), .ref (r 28), .ref (r 29), .ref (r 30), .ref (r 31), .ref (r 32), .ref (r 33), .int 0, .int 0, .int 0, .int 0, .int 0, .int 0, .int 0, .ref (r 41), .ref (r 42), .ref (r 43), .ref (r 44), .int 0, .int 0, .int 0, .ref (r 48), .int 0, .int 0, .ref (r 51), .ref (r 52), .ref (r 53), .ref (r 54), .int 0, .ref (r 56), .ref (r 57), .ref (r 58), .int 0, .ref (r 60), .ref (r 61), .ref (r 62), .ref (r 63), .ref (r 64), .ref (r 65), .ref (r 66), .ref (r 67), .ref (r 68), .int 0, .int 0, .int 0, .ref (r 72), .ref (r 73)])), (r 41, .inl (cy 0, 15, .inl (fun _ => 0))), (r 72, .inl (cy 0, 45, .inl (fun _ => 0))), (r 73, .inl (cy 3, 3, .inl (fun _ => 0)))] := hD
      refine lv_iinc (v := 6) (lv' := [(2, .int 6), (0, .ref h0), (1, .int 0)]) hx hb dX12_image_36 hl (k := 0) rfl (by decide +kernel) (by decide) rfl (fun ls hl => ?_)
      refine lv_goto (tgt := 13) hx hb dX12_image_39 (by decide) ?_
      refine lv_iload_n hx hb dX12_image_13 rfl (lv_at hl 0 rfl) ?_
      refine lv_bipush (v := 15) hx hb dX12_image_14 (by decide +kernel) ?_
      refine lv_icmp_ge (tgt := 42) hx hb dX12_image_16 (by decide) (fun c_ => absurd c_ (by decide +kernel)) (fun _ => ?_)
      refine lv_aload_n hx hb dX12_image_19 rfl (lv_at hl 1 rfl) ?_
      refine va_get (D := (dC, dI)) (ci := 12) (v := .ref (r 72)) (C := RX12) (T := TX12) (N := 74) hx hb hts inlX12 hown hK hP 0 rfl rfl 72 (by decide) (hts _ m_265) (fun _ h9 => h9) rfl dX12_image_20 ?_
      refine lv_bipush (v := 15) hx hb dX12_image_23 (by decide +kernel) ?_
      refine lv_iload_n hx hb dX12_image_25 rfl (lv_at hl 2 rfl) ?_
      refine lv_imul hx hb dX12_image_26 ?_
      refine lv_topi (fun z_20 ez_20 => ?_)
      obtain rfl : z_20 = 0 := ez_20.trans (by decide +kernel)
      refine lv_iload_n hx hb dX12_image_27 rfl (lv_at hl 0 rfl) ?_
      refine lv_iadd hx hb dX12_image_28 ?_
      refine lv_topi (fun z_21 ez_21 => ?_)
      obtain rfl : z_21 = 6 := ez_21.trans (by decide +kernel)
      refine lv_aload_n hx hb dX12_image_29 rfl (lv_at hl 1 rfl) ?_
      refine va_get (D := (dC, dI)) (ci := 12) (v := .ref (r 41)) (C := RX12) (T := TX12) (N := 74) hx hb hts inlX12 hown hK hP 0 rfl rfl 41 (by decide) (hts _ m_244) (fun _ h9 => h9) rfl dX12_image_30 ?_
      refine lv_iload_n hx hb dX12_image_33 rfl (lv_at hl 0 rfl) ?_
      refine va_iald hx hb hK hP 1 0 rfl rfl vi_6_15 dX12_image_34 ?_
      refine W.eq (g2 := F0 m 35 ls [.int 0, .int 6, .ref (r 72)]) rfl ?_
      refine va_iast hx hb hK hP hD hS 2 0 rfl rfl vi_6_45 dX12_image_35 (fun H locs hP hD hS => ?_)
      rw [show upd (fun _ => 0) (Int32.toNatClampNeg 6) 0 = (fun _ => 0) from xa_upd0 rfl] at hP hD
      have hP : va_P (dC, dI) classes [(h0, .inr (12, [.ref (r 0), .ref (r 1), .int 0, .int 0, .int 0, .int (-1), .int 0, .int 0, .int 0, .int 0, .long 0, .ref (r 11), .ref (r 12), .ref (r 13), .ref (r 14), .ref (r 15), .ref (r 16), .ref (r 17), .ref (r 18), .ref (r 19), .ref (r 20), .ref (r 21), .ref (r 22), .ref (r 23), .ref (r 24), .ref (r 25), .ref (r 26), .ref (r 27), .ref (r 28), .ref (r 29), .ref (r 30), .ref (r 31), .ref (r 32), .ref (r 33), .int 0, .int 0, .int 0, .int 0, .int 0, .int 0, .int 0, .ref (r 41), .ref (r 42), .ref (r 43), .ref (r 44), .int 0, .int 0, .int 0, .ref (r 48), .int 0, .int 0, .ref (r 51), .ref (r 52), .ref (r 53), .ref (r 54), .int 0, .ref (r 56), .ref (r 57), .ref (r 58), .int 0, .ref (r 60), .ref (r 61), .ref (r 62), .ref (r 63), .ref (r 64), .ref (r 65), .ref (r 66), .ref (r 67), .ref (r 68), .int 0, .int 0, .int 0, .ref (r 72), .ref (r 73)])), (r 41, .inl (cy 0, 15, .inl (fun _ => 0))), (r 72, .inl (cy 0, 45, .inl (fun _ => 0))), (r 73, .inl (cy 3, 3, .inl (fun _ => 0)))] H := hP
      have hD : va_D A [(h0, .inr (12, [.ref (r 0), .ref (r 1), .int 0, .int 0, .int 0, .int (-1), .int 0, .int 0, .int 0, .int 0, .long 0, .ref (r 11), .ref (r 12), .ref (r 13), .ref (r 14), .ref (r 15), .ref (r 16), .ref (r 17), .ref (r 18), .ref (r 19), .ref (r 20), .ref (r 21), .ref (r 22), .ref (r 23), .ref (r 24), .ref (r 25), .ref (r 26), .ref (r 27), .ref (r 28), .ref (r 29), .ref (r 30), .ref (r 31), .ref (r 32), .ref (r 33), .int 0, .int 0, .int 0, .int 0, .int 0, .int 0, .int 0, .ref (r 41), .ref (r 42), .ref (r 43), .ref (r 44), .int 0, .int 0, .int 0, .ref (r 48), .int 0, .int 0, .ref (r 51), .ref (r 52), .ref (r 53), .ref (r 54), .int 0, .ref (r 56), .ref (r 57), .ref (r 58), .int 0, .ref (r 60), .ref (r 61), .ref (r 62), .ref (r 63), .ref (r 64), .ref (r 65), .ref (r 66), .ref (r 67), .ref (r 68), .int 0, .int 0, .int 0, .ref (r 72), .ref (r 73)])), (r 41, .inl (cy 0, 15, .inl (fun _ => 0))), (r 72, .inl (cy 0, 45, .inl (fun _ => 0))), (r 73, .inl (cy 3, 3, .inl (fun _ => 0)))] := hD
      refine lv_iinc (v := 7) (lv' := [(2, .int 7), (0, .ref h0), (1, .int 0)]) hx hb dX12_image_36 hl (k := 0) rfl (by decide +kernel) (by decide) rfl (fun ls hl => ?_)
      refine lv_goto (tgt := 13) hx hb dX12_image_39 (by decide) ?_
      refine lv_iload_n hx hb dX12_image_13 rfl (lv_at hl 0 rfl) ?_
      refine lv_bipush (v := 15) hx hb dX12_image_14 (by decide +kernel) ?_
      refine lv_icmp_ge (tgt := 42) hx hb dX12_image_16 (by decide) (fun c_ => absurd c_ (by decide +kernel)) (fun _ => ?_)
      refine lv_aload_n hx hb dX12_image_19 rfl (lv_at hl 1 rfl) ?_
      refine va_get (D := (dC, dI)) (ci := 12) (v := .ref (r 72)) (C := RX12) (T := TX12) (N := 74) hx hb hts inlX12 hown hK hP 0 rfl rfl 72 (by decide) (hts _ m_265) (fun _ h9 => h9) rfl dX12_image_20 ?_
      refine lv_bipush (v := 15) hx hb dX12_image_23 (by decide +kernel) ?_
      refine lv_iload_n hx hb dX12_image_25 rfl (lv_at hl 2 rfl) ?_
      refine lv_imul hx hb dX12_image_26 ?_
      refine lv_topi (fun z_22 ez_22 => ?_)
      obtain rfl : z_22 = 0 := ez_22.trans (by decide +kernel)
      refine lv_iload_n hx hb dX12_image_27 rfl (lv_at hl 0 rfl) ?_
      refine lv_iadd hx hb dX12_image_28 ?_
      refine lv_topi (fun z_23 ez_23 => ?_)
      obtain rfl : z_23 = 7 := ez_23.trans (by decide +kernel)
      refine lv_aload_n hx hb dX12_image_29 rfl (lv_at hl 1 rfl) ?_
      refine va_get (D := (dC, dI)) (ci := 12) (v := .ref (r 41)) (C := RX12) (T := TX12) (N := 74) hx hb hts inlX12 hown hK hP 0 rfl rfl 41 (by decide) (hts _ m_244) (fun _ h9 => h9) rfl dX12_image_30 ?_
      refine lv_iload_n hx hb dX12_image_33 rfl (lv_at hl 0 rfl) ?_
      refine va_iald hx hb hK hP 1 0 rfl rfl vi_7_15 dX12_image_34 ?_
      refine W.eq (g2 := F0 m 35 ls [.int 0, .int 7, .ref (r 72)]) rfl ?_
      refine va_iast hx hb hK hP hD hS 2 0 rfl rfl vi_7_45 dX12_image_35 (fun H locs hP hD hS => ?_)
      rw [show upd (fun _ => 0) (Int32.toNatClampNeg 7) 0 = (fun _ => 0) from xa_upd0 rfl] at hP hD
      have hP : va_P (dC, dI) classes [(h0, .inr (12, [.ref (r 0), .ref (r 1), .int 0, .int 0, .int 0, .int (-1), .int 0, .int 0, .int 0, .int 0, .long 0, .ref (r 11), .ref (r 12), .ref (r 13), .ref (r 14), .ref (r 15), .ref (r 16), .ref (r 17), .ref (r 18), .ref (r 19), .ref (r 20), .ref (r 21), .ref (r 22), .ref (r 23), .ref (r 24), .ref (r 25), .ref (r 26), .ref (r 27), .ref (r 28), .ref (r 29), .ref (r 30), .ref (r 31), .ref (r 32), .ref (r 33), .int 0, .int 0, .int 0, .int 0, .int 0, .int 0, .int 0, .ref (r 41), .ref (r 42), .ref (r 43), .ref (r 44), .int 0, .int 0, .int 0, .ref (r 48), .int 0, .int 0, .ref (r 51), .ref (r 52), .ref (r 53), .ref (r 54), .int 0, .ref (r 56), .ref (r 57), .ref (r 58), .int 0, .ref (r 60), .ref (r 61), .ref (r 62), .ref (r 63), .ref (r 64), .ref (r 65), .ref (r 66), .ref (r 67), .ref (r 68), .int 0, .int 0, .int 0, .ref (r 72), .ref (r 73)])), (r 41, .inl (cy 0, 15, .inl (fun _ => 0))), (r 72, .inl (cy 0, 45, .inl (fun _ => 0))), (r 73, .inl (cy 3, 3, .inl (fun _ => 0)))] H := hP
      have hD : va_D A [(h0, .inr (12, [.ref (r 0), .ref (r 1), .int 0, .int 0, .int 0, .int (-1), .int 0, .int 0, .int 0, .int 0, .long 0, .ref (r 11), .ref (r 12), .ref (r 13), .ref (r 14), .ref (r 15), .ref (r 16), .ref (r 17), .ref (r 18), .ref (r 19), .ref (r 20), .ref (r 21), .ref (r 22), .ref (r 23), .ref (r 24), .ref (r 25), .ref (r 26), .ref (r 27), .ref (r 28), .ref (r 29), .ref (r 30), .ref (r 31), .ref (r 32), .ref (r 33), .int 0, .int 0, .int 0, .int 0, .int 0, .int 0, .int 0, .ref (r 41), .ref (r 42), .ref (r 43), .ref (r 44), .int 0, .int 0, .int 0, .ref (r 48), .int 0, .int 0, .ref (r 51), .ref (r 52), .ref (r 53), .ref (r 54), .int 0, .ref (r 56), .ref (r 57), .ref (r 58), .int 0, .ref (r 60), .ref (r 61), .ref (r 62), .ref (r 63), .ref (r 64), .ref (r 65), .ref (r 66), .ref (r 67), .ref (r 68), .int 0, .int 0, .int 0, .ref (r 72), .ref (r 73)])), (r 41, .inl (cy 0, 15, .inl (fun _ => 0))), (r 72, .inl (cy 0, 45, .inl (fun _ => 0))), (r 73, .inl (cy 3, 3, .inl (fun _ => 0)))] := hD
      refine lv_iinc (v := 8) (lv' := [(2, .int 8), (0, .ref h0), (1, .int 0)]) hx hb dX12_image_36 hl (k := 0) rfl (by decide +kernel) (by decide) rfl (fun ls hl => ?_)
      refine lv_goto (tgt := 13) hx hb dX12_image_39 (by decide) ?_
      refine lv_iload_n hx hb dX12_image_13 rfl (lv_at hl 0 rfl) ?_
      refine lv_bipush (v := 15) hx hb dX12_image_14 (by decide +kernel) ?_
      refine lv_icmp_ge (tgt := 42) hx hb dX12_image_16 (by decide) (fun c_ => absurd c_ (by decide +kernel)) (fun _ => ?_)
      refine lv_aload_n hx hb dX12_image_19 rfl (lv_at hl 1 rfl) ?_
      refine va_get (D := (dC, dI)) (ci := 12) (v := .ref (r 72)) (C := RX12) (T := TX12) (N := 74) hx hb hts inlX12 hown hK hP 0 rfl rfl 72 (by decide) (hts _ m_265) (fun _ h9 => h9) rfl dX12_image_20 ?_
      refine lv_bipush (v := 15) hx hb dX12_image_23 (by decide +kernel) ?_
      refine lv_iload_n hx hb dX12_image_25 rfl (lv_at hl 2 rfl) ?_
      refine lv_imul hx hb dX12_image_26 ?_
      refine lv_topi (fun z_24 ez_24 => ?_)
      obtain rfl : z_24 = 0 := ez_24.trans (by decide +kernel)
      refine lv_iload_n hx hb dX12_image_27 rfl (lv_at hl 0 rfl) ?_
      refine lv_iadd hx hb dX12_image_28 ?_
      refine lv_topi (fun z_25 ez_25 => ?_)
      obtain rfl : z_25 = 8 := ez_25.trans (by decide +kernel)
      refine lv_aload_n hx hb dX12_image_29 rfl (lv_at hl 1 rfl) ?_
      refine va_get (D := (dC, dI)) (ci := 12) (v := .ref (r 41)) (C := RX12) (T := TX12) (N := 74) hx hb hts inlX12 hown hK hP 0 rfl rfl 41 (by decide) (hts _ m_244) (fun _ h9 => h9) rfl dX12_image_30 ?_
      refine lv_iload_n hx hb dX12_image_33 rfl (lv_at hl 0 rfl) ?_
      refine va_iald hx hb hK hP 1 0 rfl rfl vi_8_15 dX12_image_34 ?_
      refine W.eq (g2 := F0 m 35 ls [.int 0, .int 8, .ref (r 72)]) rfl ?_
      refine va_iast hx hb hK hP hD hS 2 0 rfl rfl vi_8_45 dX12_image_35 (fun H locs hP hD hS => ?_)
      rw [show upd (fun _ => 0) (Int32.toNatClampNeg 8) 0 = (fun _ => 0) from xa_upd0 rfl] at hP hD
      have hP : va_P (dC, dI) classes [(h0, .inr (12, [.ref (r 0), .ref (r 1), .int 0, .int 0, .int 0, .int (-1), .int 0, .int 0, .int 0, .int 0, .long 0, .ref (r 11), .ref (r 12), .ref (r 13), .ref (r 14), .ref (r 15), .ref (r 16), .ref (r 17), .ref (r 18), .ref (r 19), .ref (r 20), .ref (r 21), .ref (r 22), .ref (r 23), .ref (r 24), .ref (r 25), .ref (r 26), .ref (r 27), .ref (r 28), .ref (r 29), .ref (r 30), .ref (r 31), .ref (r 32), .ref (r 33), .int 0, .int 0, .int 0, .int 0, .int 0, .int 0, .int 0, .ref (r 41), .ref (r 42), .ref (r 43), .ref (r 44), .int 0, .int 0, .int 0, .ref (r 48), .int 0, .int 0, .ref (r 51), .ref (r 52), .ref (r 53), .ref (r 54), .int 0, .ref (r 56), .ref (r 57), .ref (r 58), .int 0, .ref (r 60), .ref (r 61), .ref (r 62), .ref (r 63), .ref (r 64), .ref (r 65), .ref (r 66), .ref (r 67), .ref (r 68), .int 0, .int 0, .int 0, .ref (r 72), .ref (r 73)])), (r 41, .inl (cy 0, 15, .inl (fun _ => 0))), (r 72, .inl (cy 0, 45, .inl (fun _ => 0))), (r 73, .inl (cy 3, 3, .inl (fun _ => 0)))] H := hP
      have hD : va_D A [(h0, .inr (12, [.ref (r 0), .ref (r 1), .int 0, .int 0, .int 0, .int (-1), .int 0, .int 0, .int 0, .int 0, .long 0, .ref (r 11), .ref (r 12), .ref (r 13), .ref (r 14), .ref (r 15), .ref (r 16), .ref (r 17), .ref (r 18), .ref (r 19), .ref (r 20), .ref (r 21), .ref (r 22), .ref (r 23), .ref (r 24), .ref (r 25), .ref (r 26), .ref (r 27), .ref (r 28), .ref (r 29), .ref (r 30), .ref (r 31), .ref (r 32), .ref (r 33), .int 0, .int 0, .int 0, .int 0, .int 0, .int 0, .int 0, .ref (r 41), .ref (r 42), .ref (r 43), .ref (r 44), .int 0, .int 0, .int 0, .ref (r 48), .int 0, .int 0, .ref (r 51), .ref (r 52), .ref (r 53), .ref (r 54), .int 0, .ref (r 56), .ref (r 57), .ref (r 58), .int 0, .ref (r 60), .ref (r 61), .ref (r 62), .ref (r 63), .ref (r 64), .ref (r 65), .ref (r 66), .ref (r 67), .ref (r 68), .int 0, .int 0, .int 0, .ref (r 72), .ref (r 73)])), (r 41, .inl (cy 0, 15, .inl (fun _ => 0))), (r 72, .inl (cy 0, 45, .inl (fun _ => 0))), (r 73, .inl (cy 3, 3, .inl (fun _ => 0)))] := hD
      refine lv_iinc (v := 9) (lv' := [(2, .int 9), (0, .ref h0), (1, .int 0)]) hx hb dX12_image_36 hl (k := 0) rfl (by decide +kernel) (by decide) rfl (fun ls hl => ?_)
      refine lv_goto (tgt := 13) hx hb dX12_image_39 (by decide) ?_
      refine lv_iload_n hx hb dX12_image_13 rfl (lv_at hl 0 rfl) ?_
      refine lv_bipush (v := 15) hx hb dX12_image_14 (by decide +kernel) ?_
      refine lv_icmp_ge (tgt := 42) hx hb dX12_image_16 (by decide) (fun c_ => absurd c_ (by decide +kernel)) (fun _ => ?_)
      refine lv_aload_n hx hb dX12_image_19 rfl (lv_at hl 1 rfl) ?_
      refine va_get (D := (dC, dI)) (ci := 12) (v := .ref (r 72)) (C := RX12) (T := TX12) (N := 74) hx hb hts inlX12 hown hK hP 0 rfl rfl 72 (by decide) (hts _ m_265) (fun _ h9 => h9) rfl dX12_image_20 ?_
      refine lv_bipush (v := 15) hx hb dX12_image_23 (by decide +kernel) ?_
      refine lv_iload_n hx hb dX12_image_25 rfl (lv_at hl 2 rfl) ?_
      refine lv_imul hx hb dX12_image_26 ?_
      refine lv_topi (fun z_26 ez_26 => ?_)
      obtain rfl : z_26 = 0 := ez_26.trans (by decide +kernel)
      refine lv_iload_n hx hb dX12_image_27 rfl (lv_at hl 0 rfl) ?_
      refine lv_iadd hx hb dX12_image_28 ?_
      refine lv_topi (fun z_27 ez_27 => ?_)
      obtain rfl : z_27 = 9 := ez_27.trans (by decide +kernel)
      refine lv_aload_n hx hb dX12_image_29 rfl (lv_at hl 1 rfl) ?_
      refine va_get (D := (dC, dI)) (ci := 12) (v := .ref (r 41)) (C := RX12) (T := TX12) (N := 74) hx hb hts inlX12 hown hK hP 0 rfl rfl 41 (by decide) (hts _ m_244) (fun _ h9 => h9) rfl dX12_image_30 ?_
      refine lv_iload_n hx hb dX12_image_33 rfl (lv_at hl 0 rfl) ?_
      refine va_iald hx hb hK hP 1 0 rfl rfl vi_9_15 dX12_image_34 ?_
      refine W.eq (g2 := F0 m 35 ls [.int 0, .int 9, .ref (r 72)]) rfl ?_
      refine va_iast hx hb hK hP hD hS 2 0 rfl rfl vi_9_45 dX12_image_35 (fun H locs hP hD hS => ?_)
      rw [show upd (fun _ => 0) (Int32.toNatClampNeg 9) 0 = (fun _ => 0) from xa_upd0 rfl] at hP hD
      have hP : va_P (dC, dI) classes [(h0, .inr (12, [.ref (r 0), .ref (r 1), .int 0, .int 0, .int 0, .int (-1), .int 0, .int 0, .int 0, .int 0, .long 0, .ref (r 11), .ref (r 12), .ref (r 13), .ref (r 14), .ref (r 15), .ref (r 16), .ref (r 17), .ref (r 18), .ref (r 19), .ref (r 20), .ref (r 21), .ref (r 22), .ref (r 23), .ref (r 24), .ref (r 25), .ref (r 26), .ref (r 27), .ref (r 28), .ref (r 29), .ref (r 30), .ref (r 31), .ref (r 32), .ref (r 33), .int 0, .int 0, .int 0, .int 0, .int 0, .int 0, .int 0, .ref (r 41), .ref (r 42), .ref (r 43), .ref (r 44), .int 0, .int 0, .int 0, .ref (r 48), .int 0, .int 0, .ref (r 51), .ref (r 52), .ref (r 53), .ref (r 54), .int 0, .ref (r 56), .ref (r 57), .ref (r 58), .int 0, .ref (r 60), .ref (r 61), .ref (r 62), .ref (r 63), .ref (r 64), .ref (r 65), .ref (r 66), .ref (r 67), .ref (r 68), .int 0, .int 0, .int 0, .ref (r 72), .ref (r 73)])), (r 41, .inl (cy 0, 15, .inl (fun _ => 0))), (r 72, .inl (cy 0, 45, .inl (fun _ => 0))), (r 73, .inl (cy 3, 3, .inl (fun _ => 0)))] H := hP
      have hD : va_D A [(h0, .inr (12, [.ref (r 0), .ref (r 1), .int 0, .int 0, .int 0, .int (-1), .int 0, .int 0, .int 0, .int 0, .long 0, .ref (r 11), .ref (r 12), .ref (r 13), .ref (r 14), .ref (r 15), .ref (r 16), .ref (r 17), .ref (r 18), .ref (r 19), .ref (r 20), .ref (r 21), .ref (r 22), .ref (r 23), .ref (r 24), .ref (r 25), .ref (r 26), .ref (r 27), .ref (r 28), .ref (r 29), .ref (r 30), .ref (r 31), .ref (r 32), .ref (r 33), .int 0, .int 0, .int 0, .int 0, .int 0, .int 0, .int 0, .ref (r 41), .ref (r 42), .ref (r 43), .ref (r 44), .int 0, .int 0, .int 0, .ref (r 48), .int 0, .int 0, .ref (r 51), .ref (r 52), .ref (r 53), .ref (r 54), .int 0, .ref (r 56), .ref (r 57), .ref (r 58), .int 0, .ref (r 60), .ref (r 61), .ref (r 62), .ref (r 63), .ref (r 64), .ref (r 65), .ref (r 66), .ref (r 67), .ref (r 68), .int 0, .int 0, .int 0, .ref (r 72), .ref (r 73)])), (r 41, .inl (cy 0, 15, .inl (fun _ => 0))), (r 72, .inl (cy 0, 45, .inl (fun _ => 0))), (r 73, .inl (cy 3, 3, .inl (fun _ => 0)))] := hD
      refine lv_iinc (v := 10) (lv' := [(2, .int 10), (0, .ref h0), (1, .int 0)]) hx hb dX12_image_36 hl (k := 0) rfl (by decide +kernel) (by decide) rfl (fun ls hl => ?_)
      refine lv_goto (tgt := 13) hx hb dX12_image_39 (by decide) ?_
      refine lv_iload_n hx hb dX12_image_13 rfl (lv_at hl 0 rfl) ?_
      refine lv_bipush (v := 15) hx hb dX12_image_14 (by decide +kernel) ?_
      refine lv_icmp_ge (tgt := 42) hx hb dX12_image_16 (by decide) (fun c_ => absurd c_ (by decide +kernel)) (fun _ => ?_)
      refine lv_aload_n hx hb dX12_image_19 rfl (lv_at hl 1 rfl) ?_
      refine va_get (D := (dC, dI)) (ci := 12) (v := .ref (r 72)) (C := RX12) (T := TX12) (N := 74) hx hb hts inlX12 hown hK hP 0 rfl rfl 72 (by decide) (hts _ m_265) (fun _ h9 => h9) rfl dX12_image_20 ?_
      refine lv_bipush (v := 15) hx hb dX12_image_23 (by decide +kernel) ?_
      refine lv_iload_n hx hb dX12_image_25 rfl (lv_at hl 2 rfl) ?_
      refine lv_imul hx hb dX12_image_26 ?_
      refine lv_topi (fun z_28 ez_28 => ?_)
      obtain rfl : z_28 = 0 := ez_28.trans (by decide +kernel)
      refine lv_iload_n hx hb dX12_image_27 rfl (lv_at hl 0 rfl) ?_
      refine lv_iadd hx hb dX12_image_28 ?_
      refine lv_topi (fun z_29 ez_29 => ?_)
      obtain rfl : z_29 = 10 := ez_29.trans (by decide +kernel)
      refine lv_aload_n hx hb dX12_image_29 rfl (lv_at hl 1 rfl) ?_
      refine va_get (D := (dC, dI)) (ci := 12) (v := .ref (r 41)) (C := RX12) (T := TX12) (N := 74) hx hb hts inlX12 hown hK hP 0 rfl rfl 41 (by decide) (hts _ m_244) (fun _ h9 => h9) rfl dX12_image_30 ?_
      refine lv_iload_n hx hb dX12_image_33 rfl (lv_at hl 0 rfl) ?_
      refine va_iald hx hb hK hP 1 0 rfl rfl vi_10_15 dX12_image_34 ?_
      refine W.eq (g2 := F0 m 35 ls [.int 0, .int 10, .ref (r 72)]) rfl ?_
      refine va_iast hx hb hK hP hD hS 2 0 rfl rfl vi_10_45 dX12_image_35 (fun H locs hP hD hS => ?_)
      rw [show upd (fun _ => 0) (Int32.toNatClampNeg 10) 0 = (fun _ => 0) from xa_upd0 rfl] at hP hD
      have hP : va_P (dC, dI) classes [(h0, .inr (12, [.ref (r 0), .ref (r 1), .int 0, .int 0, .int 0, .int (-1), .int 0, .int 0, .int 0, .int 0, .long 0, .ref (r 11), .ref (r 12), .ref (r 13), .ref (r 14), .ref (r 15), .ref (r 16), .ref (r 17), .ref (r 18), .ref (r 19), .ref (r 20), .ref (r 21), .ref (r 22), .ref (r 23), .ref (r 24), .ref (r 25), .ref (r 26), .ref (r 27), .ref (r 28), .ref (r 29), .ref (r 30), .ref (r 31), .ref (r 32), .ref (r 33), .int 0, .int 0, .int 0, .int 0, .int 0, .int 0, .int 0, .ref (r 41), .ref (r 42), .ref (r 43), .ref (r 44), .int 0, .int 0, .int 0, .ref (r 48), .int 0, .int 0, .ref (r 51), .ref (r 52), .ref (r 53), .ref (r 54), .int 0, .ref (r 56), .ref (r 57), .ref (r 58), .int 0, .ref (r 60), .ref (r 61), .ref (r 62), .ref (r 63), .ref (r 64), .ref (r 65), .ref (r 66), .ref (r 67), .ref (r 68), .int 0, .int 0, .int 0, .ref (r 72), .ref (r 73)])), (r 41, .inl (cy 0, 15, .inl (fun _ => 0))), (r 72, .inl (cy 0, 45, .inl (fun _ => 0))), (r 73, .inl (cy 3, 3, .inl (fun _ => 0)))] H := hP
      have hD : va_D A [(h0, .inr (12, [.ref (r 0), .ref (r 1), .int 0, .int 0, .int 0, .int (-1), .int 0, .int 0, .int 0, .int 0, .long 0, .ref (r 11), .ref (r 12), .ref (r 13), .ref (r 14), .ref (r 15), .ref (r 16), .ref (r 17), .ref (r 18), .ref (r 19), .ref (r 20), .ref (r 21), .ref (r 22), .ref (r 23), .ref (r 24), .ref (r 25), .ref (r 26), .ref (r 27), .ref (r 28), .ref (r 29), .ref (r 30), .ref (r 31), .ref (r 32), .ref (r 33), .int 0, .int 0, .int 0, .int 0, .int 0, .int 0, .int 0, .ref (r 41), .ref (r 42), .ref (r 43), .ref (r 44), .int 0, .int 0, .int 0, .ref (r 48), .int 0, .int 0, .ref (r 51), .ref (r 52), .ref (r 53), .ref (r 54), .int 0, .ref (r 56), .ref (r 57), .ref (r 58), .int 0, .ref (r 60), .ref (r 61), .ref (r 62), .ref (r 63), .ref (r 64), .ref (r 65), .ref (r 66), .ref (r 67), .ref (r 68), .int 0, .int 0, .int 0, .ref (r 72), .ref (r 73)])), (r 41, .inl (cy 0, 15, .inl (fun _ => 0))), (r 72, .inl (cy 0, 45, .inl (fun _ => 0))), (r 73, .inl (cy 3, 3, .inl (fun _ => 0)))] := hD
      refine lv_iinc (v := 11) (lv' := [(2, .int 11), (0, .ref h0), (1, .int 0)]) hx hb dX12_image_36 hl (k := 0) rfl (by decide +kernel) (by decide) rfl (fun ls hl => ?_)
      refine lv_goto (tgt := 13) hx hb dX12_image_39 (by decide) ?_
      refine lv_iload_n hx hb dX12_image_13 rfl (lv_at hl 0 rfl) ?_
      refine lv_bipush (v := 15) hx hb dX12_image_14 (by decide +kernel) ?_
      refine lv_icmp_ge (tgt := 42) hx hb dX12_image_16 (by decide) (fun c_ => absurd c_ (by decide +kernel)) (fun _ => ?_)
      refine lv_aload_n hx hb dX12_image_19 rfl (lv_at hl 1 rfl) ?_
      refine va_get (D := (dC, dI)) (ci := 12) (v := .ref (r 72)) (C := RX12) (T := TX12) (N := 74) hx hb hts inlX12 hown hK hP 0 rfl rfl 72 (by decide) (hts _ m_265) (fun _ h9 => h9) rfl dX12_image_20 ?_
      refine lv_bipush (v := 15) hx hb dX12_image_23 (by decide +kernel) ?_
      refine lv_iload_n hx hb dX12_image_25 rfl (lv_at hl 2 rfl) ?_
      refine lv_imul hx hb dX12_image_26 ?_
      refine lv_topi (fun z_30 ez_30 => ?_)
      obtain rfl : z_30 = 0 := ez_30.trans (by decide +kernel)
      refine lv_iload_n hx hb dX12_image_27 rfl (lv_at hl 0 rfl) ?_
      refine lv_iadd hx hb dX12_image_28 ?_
      refine lv_topi (fun z_31 ez_31 => ?_)
      obtain rfl : z_31 = 11 := ez_31.trans (by decide +kernel)
      refine lv_aload_n hx hb dX12_image_29 rfl (lv_at hl 1 rfl) ?_
      refine va_get (D := (dC, dI)) (ci := 12) (v := .ref (r 41)) (C := RX12) (T := TX12) (N := 74) hx hb hts inlX12 hown hK hP 0 rfl rfl 41 (by decide) (hts _ m_244) (fun _ h9 => h9) rfl dX12_image_30 ?_
      refine lv_iload_n hx hb dX12_image_33 rfl (lv_at hl 0 rfl) ?_
      refine va_iald hx hb hK hP 1 0 rfl rfl vi_11_15 dX12_image_34 ?_
      refine W.eq (g2 := F0 m 35 ls [.int 0, .int 11, .ref (r 72)]) rfl ?_
      refine va_iast hx hb hK hP hD hS 2 0 rfl rfl vi_11_45 dX12_image_35 (fun H locs hP hD hS => ?_)
      rw [show upd (fun _ => 0) (Int32.toNatClampNeg 11) 0 = (fun _ => 0) from xa_upd0 rfl] at hP hD
      have hP : va_P (dC, dI) classes [(h0, .inr (12, [.ref (r 0), .ref (r 1), .int 0, .int 0, .int 0, .int (-1), .int 0, .int 0, .int 0, .int 0, .long 0, .ref (r 11), .ref (r 12), .ref (r 13), .ref (r 14), .ref (r 15), .ref (r 16), .ref (r 17), .ref (r 18), .ref (r 19), .ref (r 20), .ref (r 21), .ref (r 22), .ref (r 23), .ref (r 24), .ref (r 25), .ref (r 26), .ref (r 27), .ref (r 28), .ref (r 29), .ref (r 30), .ref (r 31), .ref (r 32), .ref (r 33), .int 0, .int 0, .int 0, .int 0, .int 0, .int 0, .int 0, .ref (r 41), .ref (r 42), .ref (r 43), .ref (r 44), .int 0, .int 0, .int 0, .ref (r 48), .int 0, .int 0, .ref (r 51), .ref (r 52), .ref (r 53), .ref (r 54), .int 0, .ref (r 56), .ref (r 57), .ref (r 58), .int 0, .ref (r 60), .ref (r 61), .ref (r 62), .ref (r 63), .ref (r 64), .ref (r 65), .ref (r 66), .ref (r 67), .ref (r 68), .int 0, .int 0, .int 0, .ref (r 72), .ref (r 73)])), (r 41, .inl (cy 0, 15, .inl (fun _ => 0))), (r 72, .inl (cy 0, 45, .inl (fun _ => 0))), (r 73, .inl (cy 3, 3, .inl (fun _ => 0)))] H := hP
      have hD : va_D A [(h0, .inr (12, [.ref (r 0), .ref (r 1), .int 0, .int 0, .int 0, .int (-1), .int 0, .int 0, .int 0, .int 0, .long 0, .ref (r 11), .ref (r 12), .ref (r 13), .ref (r 14), .ref (r 15), .ref (r 16), .ref (r 17), .ref (r 18), .ref (r 19), .ref (r 20), .ref (r 21), .ref (r 22), .ref (r 23), .ref (r 24), .ref (r 25), .ref (r 26), .ref (r 27), .ref (r 28), .ref (r 29), .ref (r 30), .ref (r 31), .ref (r 32), .ref (r 33), .int 0, .int 0, .int 0, .int 0, .int 0, .int 0, .int 0, .ref (r 41), .ref (r 42), .ref (r 43), .ref (r 44), .int 0, .int 0, .int 0, .ref (r 48), .int 0, .int 0, .ref (r 51), .ref (r 52), .ref (r 53), .ref (r 54), .int 0, .ref (r 56), .ref (r 57), .ref (r 58), .int 0, .ref (r 60), .ref (r 61), .ref (r 62), .ref (r 63), .ref (r 64), .ref (r 65), .ref (r 66), .ref (r 67), .ref (r 68), .int 0, .int 0, .int 0, .ref (r 72), .ref (r 73)])), (r 41, .inl (cy 0, 15, .inl (fun _ => 0))), (r 72, .inl (cy 0, 45, .inl (fun _ => 0))), (r 73, .inl (cy 3, 3, .inl (fun _ => 0)))] := hD
      refine lv_iinc (v := 12) (lv' := [(2, .int 12), (0, .ref h0), (1, .int 0)]) hx hb dX12_image_36 hl (k := 0) rfl (by decide +kernel) (by decide) rfl (fun ls hl => ?_)
      refine lv_goto (tgt := 13) hx hb dX12_image_39 (by decide) ?_
      refine lv_iload_n hx hb dX12_image_13 rfl (lv_at hl 0 rfl) ?_
      refine lv_bipush (v := 15) hx hb dX12_image_14 (by decide +kernel) ?_
      refine lv_icmp_ge (tgt := 42) hx hb dX12_image_16 (by decide) (fun c_ => absurd c_ (by decide +kernel)) (fun _ => ?_)
      refine lv_aload_n hx hb dX12_image_19 rfl (lv_at hl 1 rfl) ?_
      refine va_get (D := (dC, dI)) (ci := 12) (v := .ref (r 72)) (C := RX12) (T := TX12) (N := 74) hx hb hts inlX12 hown hK hP 0 rfl rfl 72 (by decide) (hts _ m_265) (fun _ h9 => h9) rfl dX12_image_20 ?_
      refine lv_bipush (v := 15) hx hb dX12_image_23 (by decide +kernel) ?_
      refine lv_iload_n hx hb dX12_image_25 rfl (lv_at hl 2 rfl) ?_
      refine lv_imul hx hb dX12_image_26 ?_
      refine lv_topi (fun z_32 ez_32 => ?_)
      obtain rfl : z_32 = 0 := ez_32.trans (by decide +kernel)
      refine lv_iload_n hx hb dX12_image_27 rfl (lv_at hl 0 rfl) ?_
      refine lv_iadd hx hb dX12_image_28 ?_
      refine lv_topi (fun z_33 ez_33 => ?_)
      obtain rfl : z_33 = 12 := ez_33.trans (by decide +kernel)
      refine lv_aload_n hx hb dX12_image_29 rfl (lv_at hl 1 rfl) ?_
      refine va_get (D := (dC, dI)) (ci := 12) (v := .ref (r 41)) (C := RX12) (T := TX12) (N := 74) hx hb hts inlX12 hown hK hP 0 rfl rfl 41 (by decide) (hts _ m_244) (fun _ h9 => h9) rfl dX12_image_30 ?_
      refine lv_iload_n hx hb dX12_image_33 rfl (lv_at hl 0 rfl) ?_
      refine va_iald hx hb hK hP 1 0 rfl rfl vi_12_15 dX12_image_34 ?_
      refine W.eq (g2 := F0 m 35 ls [.int 0, .int 12, .ref (r 72)]) rfl ?_
      refine va_iast hx hb hK hP hD hS 2 0 rfl rfl vi_12_45 dX12_image_35 (fun H locs hP hD hS => ?_)
      rw [show upd (fun _ => 0) (Int32.toNatClampNeg 12) 0 = (fun _ => 0) from xa_upd0 rfl] at hP hD
      have hP : va_P (dC, dI) classes [(h0, .inr (12, [.ref (r 0), .ref (r 1), .int 0, .int 0, .int 0, .int (-1), .int 0, .int 0, .int 0, .int 0, .long 0, .ref (r 11), .ref (r 12), .ref (r 13), .ref (r 14), .ref (r 15), .ref (r 16), .ref (r 17), .ref (r 18), .ref (r 19), .ref (r 20), .ref (r 21), .ref (r 22), .ref (r 23), .ref (r 24), .ref (r 25), .ref (r 26), .ref (r 27), .ref (r 28), .ref (r 29), .ref (r 30), .ref (r 31), .ref (r 32), .ref (r 33), .int 0, .int 0, .int 0, .int 0, .int 0, .int 0, .int 0, .ref (r 41), .ref (r 42), .ref (r 43), .ref (r 44), .int 0, .int 0, .int 0, .ref (r 48), .int 0, .int 0, .ref (r 51), .ref (r 52), .ref (r 53), .ref (r 54), .int 0, .ref (r 56), .ref (r 57), .ref (r 58), .int 0, .ref (r 60), .ref (r 61), .ref (r 62), .ref (r 63), .ref (r 64), .ref (r 65), .ref (r 66), .ref (r 67), .ref (r 68), .int 0, .int 0, .int 0, .ref (r 72), .ref (r 73)])), (r 41, .inl (cy 0, 15, .inl (fun _ => 0))), (r 72, .inl (cy 0, 45, .inl (fun _ => 0))), (r 73, .inl (cy 3, 3, .inl (fun _ => 0)))] H := hP
      have hD : va_D A [(h0, .inr (12, [.ref (r 0), .ref (r 1), .int 0, .int 0, .int 0, .int (-1), .int 0, .int 0, .int 0, .int 0, .long 0, .ref (r 11), .ref (r 12), .ref (r 13), .ref (r 14), .ref (r 15), .ref (r 16), .ref (r 17), .ref (r 18), .ref (r 19), .ref (r 20), .ref (r 21), .ref (r 22), .ref (r 23), .ref (r 24), .ref (r 25), .ref (r 26), .ref (r 27), .ref (r 28), .ref (r 29), .ref (r 30), .ref (r 31), .ref (r 32), .ref (r 33), .int 0, .int 0, .int 0, .int 0, .int 0, .int 0, .int 0, .ref (r 41), .ref (r 42), .ref (r 43), .ref (r 44), .int 0, .int 0, .int 0, .ref (r 48), .int 0, .int 0, .ref (r 51), .ref (r 52), .ref (r 53), .ref (r 54), .int 0, .ref (r 56), .ref (r 57), .ref (r 58), .int 0, .ref (r 60), .ref (r 61), .ref (r 62), .ref (r 63), .ref (r 64), .ref (r 65), .ref (r 66), .ref (r 67), .ref (r 68), .int 0, .int 0, .int 0, .ref (r 72), .ref (r 73)])), (r 41, .inl (cy 0, 15, .inl (fun _ => 0))), (r 72, .inl (cy 0, 45, .inl (fun _ => 0))), (r 73, .inl (cy 3, 3, .inl (fun _ => 0)))] := hD
      refine lv_iinc (v := 13) (lv' := [(2, .int 13), (0, .ref h0), (1, .int 0)]) hx hb dX12_image_36 hl (k := 0) rfl (by decide +kernel) (by decide) rfl (fun ls hl => ?_)
      refine lv_goto (tgt := 13) hx hb dX12_image_39 (by decide) ?_
      refine lv_iload_n hx hb dX12_image_13 rfl (lv_at hl 0 rfl) ?_
      refine lv_bipush (v := 15) hx hb dX12_image_14 (by decide +kernel) ?_
      refine lv_icmp_ge (tgt := 42) hx hb dX12_image_16 (by decide) (fun c_ => absurd c_ (by decide +kernel)) (fun _ => ?_)
      refine lv_aload_n hx hb dX12_image_19 rfl (lv_at hl 1 rfl) ?_
      refine va_get (D := (dC, dI)) (ci := 12) (v := .ref (r 72)) (C := RX12) (T := TX12) (N := 74) hx hb hts inlX12 hown hK hP 0 rfl rfl 72 (by decide) (hts _ m_265) (fun _ h9 => h9) rfl dX12_image_20 ?_
      refine lv_bipush (v := 15) hx hb dX12_image_23 (by decide +kernel) ?_
      refine lv_iload_n hx hb dX12_image_25 rfl (lv_at hl 2 rfl) ?_
      refine lv_imul hx hb dX12_image_26 ?_
      refine lv_topi (fun z_34 ez_34 => ?_)
      obtain rfl : z_34 = 0 := ez_34.trans (by decide +kernel)
      refine lv_iload_n hx hb dX12_image_27 rfl (lv_at hl 0 rfl) ?_
      refine lv_iadd hx hb dX12_image_28 ?_
      refine lv_topi (fun z_35 ez_35 => ?_)
      obtain rfl : z_35 = 13 := ez_35.trans (by decide +kernel)
      refine lv_aload_n hx hb dX12_image_29 rfl (lv_at hl 1 rfl) ?_
      refine va_get (D := (dC, dI)) (ci := 12) (v := .ref (r 41)) (C := RX12) (T := TX12) (N := 74) hx hb hts inlX12 hown hK hP 0 rfl rfl 41 (by decide) (hts _ m_244) (fun _ h9 => h9) rfl dX12_image_30 ?_
      refine lv_iload_n hx hb dX12_image_33 rfl (lv_at hl 0 rfl) ?_
      refine va_iald hx hb hK hP 1 0 rfl rfl vi_13_15 dX12_image_34 ?_
      refine W.eq (g2 := F0 m 35 ls [.int 0, .int 13, .ref (r 72)]) rfl ?_
      refine va_iast hx hb hK hP hD hS 2 0 rfl rfl vi_13_45 dX12_image_35 (fun H locs hP hD hS => ?_)
      rw [show upd (fun _ => 0) (Int32.toNatClampNeg 13) 0 = (fun _ => 0) from xa_upd0 rfl] at hP hD
      have hP : va_P (dC, dI) classes [(h0, .inr (12, [.ref (r 0), .ref (r 1), .int 0, .int 0, .int 0, .int (-1), .int 0, .int 0, .int 0, .int 0, .long 0, .ref (r 11), .ref (r 12), .ref (r 13), .ref (r 14), .ref (r 15), .ref (r 16), .ref (r 17), .ref (r 18), .ref (r 19), .ref (r 20), .ref (r 21), .ref (r 22), .ref (r 23), .ref (r 24), .ref (r 25), .ref (r 26), .ref (r 27), .ref (r 28), .ref (r 29), .ref (r 30), .ref (r 31), .ref (r 32), .ref (r 33), .int 0, .int 0, .int 0, .int 0, .int 0, .int 0, .int 0, .ref (r 41), .ref (r 42), .ref (r 43), .ref (r 44), .int 0, .int 0, .int 0, .ref (r 48), .int 0, .int 0, .ref (r 51), .ref (r 52), .ref (r 53), .ref (r 54), .int 0, .ref (r 56), .ref (r 57), .ref (r 58), .int 0, .ref (r 60), .ref (r 61), .ref (r 62), .ref (r 63), .ref (r 64), .ref (r 65), .ref (r 66), .ref (r 67), .ref (r 68), .int 0, .int 0, .int 0, .ref (r 72), .ref (r 73)])), (r 41, .inl (cy 0, 15, .inl (fun _ => 0))), (r 72, .inl (cy 0, 45, .inl (fun _ => 0))), (r 73, .inl (cy 3, 3, .inl (fun _ => 0)))] H := hP
      have hD : va_D A [(h0, .inr (12, [.ref (r 0), .ref (r 1), .int 0, .int 0, .int 0, .int (-1), .int 0, .int 0, .int 0, .int 0, .long 0, .ref (r 11), .ref (r 12), .ref (r 13), .ref (r 14), .ref (r 15), .ref (r 16), .ref (r 17), .ref (r 18), .ref (r 19), .ref (r 20), .ref (r 21), .ref (r 22), .ref (r 23), .ref (r 24), .ref (r 25), .ref (r 26), .ref (r 27), .ref (r 28), .ref (r 29), .ref (r 30), .ref (r 31), .ref (r 32), .ref (r 33), .int 0, .int 0, .int 0, .int 0, .int 0, .int 0, .int 0, .ref (r 41), .ref (r 42), .ref (r 43), .ref (r 44), .int 0, .int 0, .int 0, .ref (r 48), .int 0, .int 0, .ref (r 51), .ref (r 52), .ref (r 53), .ref (r 54), .int 0, .ref (r 56), .ref (r 57), .ref (r 58), .int 0, .ref (r 60), .ref (r 61), .ref (r 62), .ref (r 63), .ref (r 64), .ref (r 65), .ref (r 66), .ref (r 67), .ref (r 68), .int 0, .int 0, .int 0, .ref (r 72), .ref (r 73)])), (r 41, .inl (cy 0, 15, .inl (fun _ => 0))), (r 72, .inl (cy 0, 45, .inl (fun _ => 0))), (r 73, .inl (cy 3, 3, .inl (fun _ => 0)))] := hD
      refine lv_iinc (v := 14) (lv' := [(2, .int 14), (0, .ref h0), (1, .int 0)]) hx hb dX12_image_36 hl (k := 0) rfl (by decide +kernel) (by decide) rfl (fun ls hl => ?_)
      refine lv_goto (tgt := 13) hx hb dX12_image_39 (by decide) ?_
      refine lv_iload_n hx hb dX12_image_13 rfl (lv_at hl 0 rfl) ?_
      refine lv_bipush (v := 15) hx hb dX12_image_14 (by decide +kernel) ?_
      refine lv_icmp_ge (tgt := 42) hx hb dX12_image_16 (by decide) (fun c_ => absurd c_ (by decide +kernel)) (fun _ => ?_)
      refine lv_aload_n hx hb dX12_image_19 rfl (lv_at hl 1 rfl) ?_
      refine va_get (D := (dC, dI)) (ci := 12) (v := .ref (r 72)) (C := RX12) (T := TX12) (N := 74) hx hb hts inlX12 hown hK hP 0 rfl rfl 72 (by decide) (hts _ m_265) (fun _ h9 => h9) rfl dX12_image_20 ?_
      refine lv_bipush (v := 15) hx hb dX12_image_23 (by decide +kernel) ?_
      refine lv_iload_n hx hb dX12_image_25 rfl (lv_at hl 2 rfl) ?_
      refine lv_imul hx hb dX12_image_26 ?_
      refine lv_topi (fun z_36 ez_36 => ?_)
      obtain rfl : z_36 = 0 := ez_36.trans (by decide +kernel)
      refine lv_iload_n hx hb dX12_image_27 rfl (lv_at hl 0 rfl) ?_
      refine lv_iadd hx hb dX12_image_28 ?_
      refine lv_topi (fun z_37 ez_37 => ?_)
      obtain rfl : z_37 = 14 := ez_37.trans (by decide +kernel)
      refine lv_aload_n hx hb dX12_image_29 rfl (lv_at hl 1 rfl) ?_
      refine va_get (D := (dC, dI)) (ci := 12) (v := .ref (r 41)) (C := RX12) (T := TX12) (N := 74) hx hb hts inlX12 hown hK hP 0 rfl rfl 41 (by decide) (hts _ m_244) (fun _ h9 => h9) rfl dX12_image_30 ?_
      refine lv_iload_n hx hb dX12_image_33 rfl (lv_at hl 0 rfl) ?_
      refine va_iald hx hb hK hP 1 0 rfl rfl vi_14_15 dX12_image_34 ?_
      refine W.eq (g2 := F0 m 35 ls [.int 0, .int 14, .ref (r 72)]) rfl ?_
      refine va_iast hx hb hK hP hD hS 2 0 rfl rfl vi_14_45 dX12_image_35 (fun H locs hP hD hS => ?_)
      rw [show upd (fun _ => 0) (Int32.toNatClampNeg 14) 0 = (fun _ => 0) from xa_upd0 rfl] at hP hD
      have hP : va_P (dC, dI) classes [(h0, .inr (12, [.ref (r 0), .ref (r 1), .int 0, .int 0, .int 0, .int (-1), .int 0, .int 0, .int 0, .int 0, .long 0, .ref (r 11), .ref (r 12), .ref (r 13), .ref (r 14), .ref (r 15), .ref (r 16), .ref (r 17), .ref (r 18), .ref (r 19), .ref (r 20), .ref (r 21), .ref (r 22), .ref (r 23), .ref (r 24), .ref (r 25), .ref (r 26), .ref (r 27), .ref (r 28), .ref (r 29), .ref (r 30), .ref (r 31), .ref (r 32), .ref (r 33), .int 0, .int 0, .int 0, .int 0, .int 0, .int 0, .int 0, .ref (r 41), .ref (r 42), .ref (r 43), .ref (r 44), .int 0, .int 0, .int 0, .ref (r 48), .int 0, .int 0, .ref (r 51), .ref (r 52), .ref (r 53), .ref (r 54), .int 0, .ref (r 56), .ref (r 57), .ref (r 58), .int 0, .ref (r 60), .ref (r 61), .ref (r 62), .ref (r 63), .ref (r 64), .ref (r 65), .ref (r 66), .ref (r 67), .ref (r 68), .int 0, .int 0, .int 0, .ref (r 72), .ref (r 73)])), (r 41, .inl (cy 0, 15, .inl (fun _ => 0))), (r 72, .inl (cy 0, 45, .inl (fun _ => 0))), (r 73, .inl (cy 3, 3, .inl (fun _ => 0)))] H := hP
      have hD : va_D A [(h0, .inr (12, [.ref (r 0), .ref (r 1), .int 0, .int 0, .int 0, .int (-1), .int 0, .int 0, .int 0, .int 0, .long 0, .ref (r 11), .ref (r 12), .ref (r 13), .ref (r 14), .ref (r 15), .ref (r 16), .ref (r 17), .ref (r 18), .ref (r 19), .ref (r 20), .ref (r 21), .ref (r 22), .ref (r 23), .ref (r 24), .ref (r 25), .ref (r 26), .ref (r 27), .ref (r 28), .ref (r 29), .ref (r 30), .ref (r 31), .ref (r 32), .ref (r 33), .int 0, .int 0, .int 0, .int 0, .int 0, .int 0, .int 0, .ref (r 41), .ref (r 42), .ref (r 43), .ref (r 44), .int 0, .int 0, .int 0, .ref (r 48), .int 0, .int 0, .ref (r 51), .ref (r 52), .ref (r 53), .ref (r 54), .int 0, .ref (r 56), .ref (r 57), .ref (r 58), .int 0, .ref (r 60), .ref (r 61), .ref (r 62), .ref (r 63), .ref (r 64), .ref (r 65), .ref (r 66), .ref (r 67), .ref (r 68), .int 0, .int 0, .int 0, .ref (r 72), .ref (r 73)])), (r 41, .inl (cy 0, 15, .inl (fun _ => 0))), (r 72, .inl (cy 0, 45, .inl (fun _ => 0))), (r 73, .inl (cy 3, 3, .inl (fun _ => 0)))] := hD
      refine lv_iinc (v := 15) (lv' := [(2, .int 15), (0, .ref h0), (1, .int 0)]) hx hb dX12_image_36 hl (k := 0) rfl (by decide +kernel) (by decide) rfl (fun ls hl => ?_)
      refine lv_goto (tgt := 13) hx hb dX12_image_39 (by decide) ?_
      refine lv_iload_n hx hb dX12_image_13 rfl (lv_at hl 0 rfl) ?_
      refine lv_bipush (v := 15) hx hb dX12_image_14 (by decide +kernel) ?_
      refine lv_icmp_ge (tgt := 42) hx hb dX12_image_16 (by decide) (fun _ => ?_) (fun c_ => absurd (by decide +kernel) c_)
      refine lv_aload_n hx hb dX12_image_42 rfl (lv_at hl 1 rfl) ?_
      refine va_get (D := (dC, dI)) (ci := 12) (v := .ref (r 73)) (C := RX12) (T := TX12) (N := 74) hx hb hts inlX12 hown hK hP 0 rfl rfl 73 (by decide) (hts _ m_266) (fun _ h9 => h9) rfl dX12_image_43 ?_
      refine lv_iload_n hx hb dX12_image_46 rfl (lv_at hl 2 rfl) ?_
      refine lv_iconst (v := 1) hx hb dX12_image_47 (by decide +kernel) ?_
      refine va_zast hx hb hK hP hD hS 3 3 rfl rfl vi_0_3 dX12_image_48 (fun H locs hP hD hS => ?_)
      generalize upd (fun _ => 0) (Int32.toNatClampNeg 0) (vp_nar .boolean 1) = f_38 at hP hD
      have hP : va_P (dC, dI) classes [(h0, .inr (12, [.ref (r 0), .ref (r 1), .int 0, .int 0, .int 0, .int (-1), .int 0, .int 0, .int 0, .int 0, .long 0, .ref (r 11), .ref (r 12), .ref (r 13), .ref (r 14), .ref (r 15), .ref (r 16), .ref (r 17), .ref (r 18), .ref (r 19), .ref (r 20), .ref (r 21), .ref (r 22), .ref (r 23), .ref (r 24), .ref (r 25), .ref (r 26), .ref (r 27), .ref (r 28), .ref (r 29), .ref (r 30), .ref (r 31), .ref (r 32), .ref (r 33), .int 0, .int 0, .int 0, .int 0, .int 0, .int 0, .int 0, .ref (r 41), .ref (r 42), .ref (r 43), .ref (r 44), .int 0, .int 0, .int 0, .ref (r 48), .int 0, .int 0, .ref (r 51), .ref (r 52), .ref (r 53), .ref (r 54), .int 0, .ref (r 56), .ref (r 57), .ref (r 58), .int 0, .ref (r 60), .ref (r 61), .ref (r 62), .ref (r 63), .ref (r 64), .ref (r 65), .ref (r 66), .ref (r 67), .ref (r 68), .int 0, .int 0, .int 0, .ref (r 72), .ref (r 73)])), (r 41, .inl (cy 0, 15, .inl (fun _ => 0))), (r 72, .inl (cy 0, 45, .inl (fun _ => 0))), (r 73, .inl (cy 3, 3, .inl f_38))] H := hP
      have hD : va_D A [(h0, .inr (12, [.ref (r 0), .ref (r 1), .int 0, .int 0, .int 0, .int (-1), .int 0, .int 0, .int 0, .int 0, .long 0, .ref (r 11), .ref (r 12), .ref (r 13), .ref (r 14), .ref (r 15), .ref (r 16), .ref (r 17), .ref (r 18), .ref (r 19), .ref (r 20), .ref (r 21), .ref (r 22), .ref (r 23), .ref (r 24), .ref (r 25), .ref (r 26), .ref (r 27), .ref (r 28), .ref (r 29), .ref (r 30), .ref (r 31), .ref (r 32), .ref (r 33), .int 0, .int 0, .int 0, .int 0, .int 0, .int 0, .int 0, .ref (r 41), .ref (r 42), .ref (r 43), .ref (r 44), .int 0, .int 0, .int 0, .ref (r 48), .int 0, .int 0, .ref (r 51), .ref (r 52), .ref (r 53), .ref (r 54), .int 0, .ref (r 56), .ref (r 57), .ref (r 58), .int 0, .ref (r 60), .ref (r 61), .ref (r 62), .ref (r 63), .ref (r 64), .ref (r 65), .ref (r 66), .ref (r 67), .ref (r 68), .int 0, .int 0, .int 0, .ref (r 72), .ref (r 73)])), (r 41, .inl (cy 0, 15, .inl (fun _ => 0))), (r 72, .inl (cy 0, 45, .inl (fun _ => 0))), (r 73, .inl (cy 3, 3, .inl f_38))] := hD
      refine lv_aload_n hx hb dX12_image_49 rfl (lv_at hl 1 rfl) ?_
      refine va_get (D := (dC, dI)) (ci := 12) (v := .ref (r 41)) (C := RX12) (T := TX12) (N := 74) hx hb hts inlX12 hown hK hP 0 rfl rfl 41 (by decide) (hts _ m_244) (fun _ h9 => h9) rfl dX12_image_50 ?_
      refine lv_bipush (v := 13) hx hb dX12_image_53 (by decide +kernel) ?_
      refine va_iald hx hb hK hP 1 0 rfl rfl vi_13_15 dX12_image_55 ?_
      refine W.eq (g2 := F0 m 56 ls [.int 0]) rfl ?_
      exact W.iret (v := 0) hx hb hr (fun t ht hW => ⟨⟨0, (), rfl, Or.inr (Or.inr (Or.inl ⟨rfl, c_5, c_6, rfl⟩)), trivial⟩, hS.F ht⟩) hS.2.2 dX12_image_56
    · subst c_7
      refine lv_iconst (v := 0) hx hb dX12_image_11 (by decide +kernel) ?_
      refine lv_istore_n (lv' := [(2, .int 0), (0, .ref h0), (1, .int 1)]) hx hb dX12_image_12 rfl hl (by decide) rfl (fun ls hl => ?_)
      refine lv_iload_n hx hb dX12_image_13 rfl (lv_at hl 0 rfl) ?_
      refine lv_bipush (v := 15) hx hb dX12_image_14 (by decide +kernel) ?_
      refine lv_icmp_ge (tgt := 42) hx hb dX12_image_16 (by decide) (fun c_ => absurd c_ (by decide +kernel)) (fun _ => ?_)
      refine lv_aload_n hx hb dX12_image_19 rfl (lv_at hl 1 rfl) ?_
      refine va_get (D := (dC, dI)) (ci := 12) (v := .ref (r 72)) (C := RX12) (T := TX12) (N := 74) hx hb hts inlX12 hown hK hP 0 rfl rfl 72 (by decide) (hts _ m_265) (fun _ h9 => h9) rfl dX12_image_20 ?_
      refine lv_bipush (v := 15) hx hb dX12_image_23 (by decide +kernel) ?_
      refine lv_iload_n hx hb dX12_image_25 rfl (lv_at hl 2 rfl) ?_
      refine lv_imul hx hb dX12_image_26 ?_
      refine lv_topi (fun z_39 ez_39 => ?_)
      obtain rfl : z_39 = 15 := ez_39.trans (by decide +kernel)
      refine lv_iload_n hx hb dX12_image_27 rfl (lv_at hl 0 rfl) ?_
      refine lv_iadd hx hb dX12_image_28 ?_
      refine lv_topi (fun z_40 ez_40 => ?_)
      obtain rfl : z_40 = 15 := ez_40.trans (by decide +kernel)
      refine lv_aload_n hx hb dX12_image_29 rfl (lv_at hl 1 rfl) ?_
      refine va_get (D := (dC, dI)) (ci := 12) (v := .ref (r 41)) (C := RX12) (T := TX12) (N := 74) hx hb hts inlX12 hown hK hP 0 rfl rfl 41 (by decide) (hts _ m_244) (fun _ h9 => h9) rfl dX12_image_30 ?_
      refine lv_iload_n hx hb dX12_image_33 rfl (lv_at hl 0 rfl) ?_
      refine va_iald hx hb hK hP 1 0 rfl rfl vi_0_15 dX12_image_34 ?_
      refine W.eq (g2 := F0 m 35 ls [.int 0, .int 15, .ref (r 72)]) rfl ?_
      refine va_iast hx hb hK hP hD hS 2 0 rfl rfl vi_15_45 dX12_image_35 (fun H locs hP hD hS => ?_)
      rw [show upd (fun _ => 0) (Int32.toNatClampNeg 15) 0 = (fun _ => 0) from xa_upd0 rfl] at hP hD
      have hP : va_P (dC, dI) classes [(h0, .inr (12, [.ref (r 0), .ref (r 1), .int 0, .int 0, .int 0, .int (-1), .int 0, .int 0, .int 0, .int 0, .long 0, .ref (r 11), .ref (r 12), .ref (r 13), .ref (r 14), .ref (r 15), .ref (r 16), .ref (r 17), .ref (r 18), .ref (r 19), .ref (r 20), .ref (r 21), .ref (r 22), .ref (r 23), .ref (r 24), .ref (r 25), .ref (r 26), .ref (r 27), .ref (r 28), .ref (r 29), .ref (r 30), .ref (r 31), .ref (r 32), .ref (r 33), .int 0, .int 0, .int 0, .int 0, .int 0, .int 0, .int 0, .ref (r 41), .ref (r 42), .ref (r 43), .ref (r 44), .int 0, .int 0, .int 0, .ref (r 48), .int 0, .int 0, .ref (r 51), .ref (r 52), .ref (r 53), .ref (r 54), .int 0, .ref (r 56), .ref (r 57), .ref (r 58), .int 0, .ref (r 60), .ref (r 61), .ref (r 62), .ref (r 63), .ref (r 64), .ref (r 65), .ref (r 66), .ref (r 67), .ref (r 68), .int 0, .int 0, .int 0, .ref (r 72), .ref (r 73)])), (r 41, .inl (cy 0, 15, .inl (fun _ => 0))), (r 72, .inl (cy 0, 45, .inl (fun _ => 0))), (r 73, .inl (cy 3, 3, .inl (fun _ => 0)))] H := hP
      have hD : va_D A [(h0, .inr (12, [.ref (r 0), .ref (r 1), .int 0, .int 0, .int 0, .int (-1), .int 0, .int 0, .int 0, .int 0, .long 0, .ref (r 11), .ref (r 12), .ref (r 13), .ref (r 14), .ref (r 15), .ref (r 16), .ref (r 17), .ref (r 18), .ref (r 19), .ref (r 20), .ref (r 21), .ref (r 22), .ref (r 23), .ref (r 24), .ref (r 25), .ref (r 26), .ref (r 27), .ref (r 28), .ref (r 29), .ref (r 30), .ref (r 31), .ref (r 32), .ref (r 33), .int 0, .int 0, .int 0, .int 0, .int 0, .int 0, .int 0, .ref (r 41), .ref (r 42), .ref (r 43), .ref (r 44), .int 0, .int 0, .int 0, .ref (r 48), .int 0, .int 0, .ref (r 51), .ref (r 52), .ref (r 53), .ref (r 54), .int 0, .ref (r 56), .ref (r 57), .ref (r 58), .int 0, .ref (r 60), .ref (r 61), .ref (r 62), .ref (r 63), .ref (r 64), .ref (r 65), .ref (r 66), .ref (r 67), .ref (r 68), .int 0, .int 0, .int 0, .ref (r 72), .ref (r 73)])), (r 41, .inl (cy 0, 15, .inl (fun _ => 0))), (r 72, .inl (cy 0, 45, .inl (fun _ => 0))), (r 73, .inl (cy 3, 3, .inl (fun _ => 0)))] := hD
      refine lv_iinc (v := 1) (lv' := [(2, .int 1), (0, .ref h0), (1, .int 1)]) hx hb dX12_image_36 hl (k := 0) rfl (by decide +kernel) (by decide) rfl (fun ls hl => ?_)
      refine lv_goto (tgt := 13) hx hb dX12_image_39 (by decide) ?_
      refine lv_iload_n hx hb dX12_image_13 rfl (lv_at hl 0 rfl) ?_
      refine lv_bipush (v := 15) hx hb dX12_image_14 (by decide +kernel) ?_
      refine lv_icmp_ge (tgt := 42) hx hb dX12_image_16 (by decide) (fun c_ => absurd c_ (by decide +kernel)) (fun _ => ?_)
      refine lv_aload_n hx hb dX12_image_19 rfl (lv_at hl 1 rfl) ?_
      refine va_get (D := (dC, dI)) (ci := 12) (v := .ref (r 72)) (C := RX12) (T := TX12) (N := 74) hx hb hts inlX12 hown hK hP 0 rfl rfl 72 (by decide) (hts _ m_265) (fun _ h9 => h9) rfl dX12_image_20 ?_
      refine lv_bipush (v := 15) hx hb dX12_image_23 (by decide +kernel) ?_
      refine lv_iload_n hx hb dX12_image_25 rfl (lv_at hl 2 rfl) ?_
      refine lv_imul hx hb dX12_image_26 ?_
      refine lv_topi (fun z_41 ez_41 => ?_)
      obtain rfl : z_41 = 15 := ez_41.trans (by decide +kernel)
      refine lv_iload_n hx hb dX12_image_27 rfl (lv_at hl 0 rfl) ?_
      refine lv_iadd hx hb dX12_image_28 ?_
      refine lv_topi (fun z_42 ez_42 => ?_)
      obtain rfl : z_42 = 16 := ez_42.trans (by decide +kernel)
      refine lv_aload_n hx hb dX12_image_29 rfl (lv_at hl 1 rfl) ?_
      refine va_get (D := (dC, dI)) (ci := 12) (v := .ref (r 41)) (C := RX12) (T := TX12) (N := 74) hx hb hts inlX12 hown hK hP 0 rfl rfl 41 (by decide) (hts _ m_244) (fun _ h9 => h9) rfl dX12_image_30 ?_
      refine lv_iload_n hx hb dX12_image_33 rfl (lv_at hl 0 rfl) ?_
      refine va_iald hx hb hK hP 1 0 rfl rfl vi_1_15 dX12_image_34 ?_
      refine W.eq (g2 := F0 m 35 ls [.int 0, .int 16, .ref (r 72)]) rfl ?_
      refine va_iast hx hb hK hP hD hS 2 0 rfl rfl vi_16_45 dX12_image_35 (fun H locs hP hD hS => ?_)
      rw [show upd (fun _ => 0) (Int32.toNatClampNeg 16) 0 = (fun _ => 0) from xa_upd0 rfl] at hP hD
      have hP : va_P (dC, dI) classes [(h0, .inr (12, [.ref (r 0), .ref (r 1), .int 0, .int 0, .int 0, .int (-1), .int 0, .int 0, .int 0, .int 0, .long 0, .ref (r 11), .ref (r 12), .ref (r 13), .ref (r 14), .ref (r 15), .ref (r 16), .ref (r 17), .ref (r 18), .ref (r 19), .ref (r 20), .ref (r 21), .ref (r 22), .ref (r 23), .ref (r 24), .ref (r 25), .ref (r 26), .ref (r 27), .ref (r 28), .ref (r 29), .ref (r 30), .ref (r 31), .ref (r 32), .ref (r 33), .int 0, .int 0, .int 0, .int 0, .int 0, .int 0, .int 0, .ref (r 41), .ref (r 42), .ref (r 43), .ref (r 44), .int 0, .int 0, .int 0, .ref (r 48), .int 0, .int 0, .ref (r 51), .ref (r 52), .ref (r 53), .ref (r 54), .int 0, .ref (r 56), .ref (r 57), .ref (r 58), .int 0, .ref (r 60), .ref (r 61), .ref (r 62), .ref (r 63), .ref (r 64), .ref (r 65), .ref (r 66), .ref (r 67), .ref (r 68), .int 0, .int 0, .int 0, .ref (r 72), .ref (r 73)])), (r 41, .inl (cy 0, 15, .inl (fun _ => 0))), (r 72, .inl (cy 0, 45, .inl (fun _ => 0))), (r 73, .inl (cy 3, 3, .inl (fun _ => 0)))] H := hP
      have hD : va_D A [(h0, .inr (12, [.ref (r 0), .ref (r 1), .int 0, .int 0, .int 0, .int (-1), .int 0, .int 0, .int 0, .int 0, .long 0, .ref (r 11), .ref (r 12), .ref (r 13), .ref (r 14), .ref (r 15), .ref (r 16), .ref (r 17), .ref (r 18), .ref (r 19), .ref (r 20), .ref (r 21), .ref (r 22), .ref (r 23), .ref (r 24), .ref (r 25), .ref (r 26), .ref (r 27), .ref (r 28), .ref (r 29), .ref (r 30), .ref (r 31), .ref (r 32), .ref (r 33), .int 0, .int 0, .int 0, .int 0, .int 0, .int 0, .int 0, .ref (r 41), .ref (r 42), .ref (r 43), .ref (r 44), .int 0, .int 0, .int 0, .ref (r 48), .int 0, .int 0, .ref (r 51), .ref (r 52), .ref (r 53), .ref (r 54), .int 0, .ref (r 56), .ref (r 57), .ref (r 58), .int 0, .ref (r 60), .ref (r 61), .ref (r 62), .ref (r 63), .ref (r 64), .ref (r 65), .ref (r 66), .ref (r 67), .ref (r 68), .int 0, .int 0, .int 0, .ref (r 72), .ref (r 73)])), (r 41, .inl (cy 0, 15, .inl (fun _ => 0))), (r 72, .inl (cy 0, 45, .inl (fun _ => 0))), (r 73, .inl (cy 3, 3, .inl (fun _ => 0)))] := hD
      refine lv_iinc (v := 2) (lv' := [(2, .int 2), (0, .ref h0), (1, .int 1)]) hx hb dX12_image_36 hl (k := 0) rfl (by decide +kernel) (by decide) rfl (fun ls hl => ?_)
      refine lv_goto (tgt := 13) hx hb dX12_image_39 (by decide) ?_
      refine lv_iload_n hx hb dX12_image_13 rfl (lv_at hl 0 rfl) ?_
      refine lv_bipush (v := 15) hx hb dX12_image_14 (by decide +kernel) ?_
      refine lv_icmp_ge (tgt := 42) hx hb dX12_image_16 (by decide) (fun c_ => absurd c_ (by decide +kernel)) (fun _ => ?_)
      refine lv_aload_n hx hb dX12_image_19 rfl (lv_at hl 1 rfl) ?_
      refine va_get (D := (dC, dI)) (ci := 12) (v := .ref (r 72)) (C := RX12) (T := TX12) (N := 74) hx hb hts inlX12 hown hK hP 0 rfl rfl 72 (by decide) (hts _ m_265) (fun _ h9 => h9) rfl dX12_image_20 ?_
      refine lv_bipush (v := 15) hx hb dX12_image_23 (by decide +kernel) ?_
      refine lv_iload_n hx hb dX12_image_25 rfl (lv_at hl 2 rfl) ?_
      refine lv_imul hx hb dX12_image_26 ?_
      refine lv_topi (fun z_43 ez_43 => ?_)
      obtain rfl : z_43 = 15 := ez_43.trans (by decide +kernel)
      refine lv_iload_n hx hb dX12_image_27 rfl (lv_at hl 0 rfl) ?_
      refine lv_iadd hx hb dX12_image_28 ?_
      refine lv_topi (fun z_44 ez_44 => ?_)
      obtain rfl : z_44 = 17 := ez_44.trans (by decide +kernel)
      refine lv_aload_n hx hb dX12_image_29 rfl (lv_at hl 1 rfl) ?_
      refine va_get (D := (dC, dI)) (ci := 12) (v := .ref (r 41)) (C := RX12) (T := TX12) (N := 74) hx hb hts inlX12 hown hK hP 0 rfl rfl 41 (by decide) (hts _ m_244) (fun _ h9 => h9) rfl dX12_image_30 ?_
      refine lv_iload_n hx hb dX12_image_33 rfl (lv_at hl 0 rfl) ?_
      refine va_iald hx hb hK hP 1 0 rfl rfl vi_2_15 dX12_image_34 ?_
      refine W.eq (g2 := F0 m 35 ls [.int 0, .int 17, .ref (r 72)]) rfl ?_
      refine va_iast hx hb hK hP hD hS 2 0 rfl rfl vi_17_45 dX12_image_35 (fun H locs hP hD hS => ?_)
      rw [show upd (fun _ => 0) (Int32.toNatClampNeg 17) 0 = (fun _ => 0) from xa_upd0 rfl] at hP hD
      have hP : va_P (dC, dI) classes [(h0, .inr (12, [.ref (r 0), .ref (r 1), .int 0, .int 0, .int 0, .int (-1), .int 0, .int 0, .int 0, .int 0, .long 0, .ref (r 11), .ref (r 12), .ref (r 13), .ref (r 14), .ref (r 15), .ref (r 16), .ref (r 17), .ref (r 18), .ref (r 19), .ref (r 20), .ref (r 21), .ref (r 22), .ref (r 23), .ref (r 24), .ref (r 25), .ref (r 26), .ref (r 27), .ref (r 28), .ref (r 29), .ref (r 30), .ref (r 31), .ref (r 32), .ref (r 33), .int 0, .int 0, .int 0, .int 0, .int 0, .int 0, .int 0, .ref (r 41), .ref (r 42), .ref (r 43), .ref (r 44), .int 0, .int 0, .int 0, .ref (r 48), .int 0, .int 0, .ref (r 51), .ref (r 52), .ref (r 53), .ref (r 54), .int 0, .ref (r 56), .ref (r 57), .ref (r 58), .int 0, .ref (r 60), .ref (r 61), .ref (r 62), .ref (r 63), .ref (r 64), .ref (r 65), .ref (r 66), .ref (r 67), .ref (r 68), .int 0, .int 0, .int 0, .ref (r 72), .ref (r 73)])), (r 41, .inl (cy 0, 15, .inl (fun _ => 0))), (r 72, .inl (cy 0, 45, .inl (fun _ => 0))), (r 73, .inl (cy 3, 3, .inl (fun _ => 0)))] H := hP
      have hD : va_D A [(h0, .inr (12, [.ref (r 0), .ref (r 1), .int 0, .int 0, .int 0, .int (-1), .int 0, .int 0, .int 0, .int 0, .long 0, .ref (r 11), .ref (r 12), .ref (r 13), .ref (r 14), .ref (r 15), .ref (r 16), .ref (r 17), .ref (r 18), .ref (r 19), .ref (r 20), .ref (r 21), .ref (r 22), .ref (r 23), .ref (r 24), .ref (r 25), .ref (r 26), .ref (r 27), .ref (r 28), .ref (r 29), .ref (r 30), .ref (r 31), .ref (r 32), .ref (r 33), .int 0, .int 0, .int 0, .int 0, .int 0, .int 0, .int 0, .ref (r 41), .ref (r 42), .ref (r 43), .ref (r 44), .int 0, .int 0, .int 0, .ref (r 48), .int 0, .int 0, .ref (r 51), .ref (r 52), .ref (r 53), .ref (r 54), .int 0, .ref (r 56), .ref (r 57), .ref (r 58), .int 0, .ref (r 60), .ref (r 61), .ref (r 62), .ref (r 63), .ref (r 64), .ref (r 65), .ref (r 66), .ref (r 67), .ref (r 68), .int 0, .int 0, .int 0, .ref (r 72), .ref (r 73)])), (r 41, .inl (cy 0, 15, .inl (fun _ => 0))), (r 72, .inl (cy 0, 45, .inl (fun _ => 0))), (r 73, .inl (cy 3, 3, .inl (fun _ => 0)))] := hD
      refine lv_iinc (v := 3) (lv' := [(2, .int 3), (0, .ref h0), (1, .int 1)]) hx hb dX12_image_36 hl (k := 0) rfl (by decide +kernel) (by decide) rfl (fun ls hl => ?_)
      refine lv_goto (tgt := 13) hx hb dX12_image_39 (by decide) ?_
      refine lv_iload_n hx hb dX12_image_13 rfl (lv_at hl 0 rfl) ?_
      refine lv_bipush (v := 15) hx hb dX12_image_14 (by decide +kernel) ?_
      refine lv_icmp_ge (tgt := 42) hx hb dX12_image_16 (by decide) (fun c_ => absurd c_ (by decide +kernel)) (fun _ => ?_)
      refine lv_aload_n hx hb dX12_image_19 rfl (lv_at hl 1 rfl) ?_
      refine va_get (D := (dC, dI)) (ci := 12) (v := .ref (r 72)) (C := RX12) (T := TX12) (N := 74) hx hb hts inlX12 hown hK hP 0 rfl rfl 72 (by decide) (hts _ m_265) (fun _ h9 => h9) rfl dX12_image_20 ?_
      refine lv_bipush (v := 15) hx hb dX12_image_23 (by decide +kernel) ?_
      refine lv_iload_n hx hb dX12_image_25 rfl (lv_at hl 2 rfl) ?_
      refine lv_imul hx hb dX12_image_26 ?_
      refine lv_topi (fun z_45 ez_45 => ?_)
      obtain rfl : z_45 = 15 := ez_45.trans (by decide +kernel)
      refine lv_iload_n hx hb dX12_image_27 rfl (lv_at hl 0 rfl) ?_
      refine lv_iadd hx hb dX12_image_28 ?_
      refine lv_topi (fun z_46 ez_46 => ?_)
      obtain rfl : z_46 = 18 := ez_46.trans (by decide +kernel)
      refine lv_aload_n hx hb dX12_image_29 rfl (lv_at hl 1 rfl) ?_
      refine va_get (D := (dC, dI)) (ci := 12) (v := .ref (r 41)) (C := RX12) (T := TX12) (N := 74) hx hb hts inlX12 hown hK hP 0 rfl rfl 41 (by decide) (hts _ m_244) (fun _ h9 => h9) rfl dX12_image_30 ?_
      refine lv_iload_n hx hb dX12_image_33 rfl (lv_at hl 0 rfl) ?_
      refine va_iald hx hb hK hP 1 0 rfl rfl vi_3_15 dX12_image_34 ?_
      refine W.eq (g2 := F0 m 35 ls [.int 0, .int 18, .ref (r 72)]) rfl ?_
      refine va_iast hx hb hK hP hD hS 2 0 rfl rfl vi_18_45 dX12_image_35 (fun H locs hP hD hS => ?_)
      rw [show upd (fun _ => 0) (Int32.toNatClampNeg 18) 0 = (fun _ => 0) from xa_upd0 rfl] at hP hD
      have hP : va_P (dC, dI) classes [(h0, .inr (12, [.ref (r 0), .ref (r 1), .int 0, .int 0, .int 0, .int (-1), .int 0, .int 0, .int 0, .int 0, .long 0, .ref (r 11), .ref (r 12), .ref (r 13), .ref (r 14), .ref (r 15), .ref (r 16), .ref (r 17), .ref (r 18), .ref (r 19), .ref (r 20), .ref (r 21), .ref (r 22), .ref (r 23), .ref (r 24), .ref (r 25), .ref (r 26), .ref (r 27), .ref (r 28), .ref (r 29), .ref (r 30), .ref (r 31), .ref (r 32), .ref (r 33), .int 0, .int 0, .int 0, .int 0, .int 0, .int 0, .int 0, .ref (r 41), .ref (r 42), .ref (r 43), .ref (r 44), .int 0, .int 0, .int 0, .ref (r 48), .int 0, .int 0, .ref (r 51), .ref (r 52), .ref (r 53), .ref (r 54), .int 0, .ref (r 56), .ref (r 57), .ref (r 58), .int 0, .ref (r 60), .ref (r 61), .ref (r 62), .ref (r 63), .ref (r 64), .ref (r 65), .ref (r 66), .ref (r 67), .ref (r 68), .int 0, .int 0, .int 0, .ref (r 72), .ref (r 73)])), (r 41, .inl (cy 0, 15, .inl (fun _ => 0))), (r 72, .inl (cy 0, 45, .inl (fun _ => 0))), (r 73, .inl (cy 3, 3, .inl (fun _ => 0)))] H := hP
      have hD : va_D A [(h0, .inr (12, [.ref (r 0), .ref (r 1), .int 0, .int 0, .int 0, .int (-1), .int 0, .int 0, .int 0, .int 0, .long 0, .ref (r 11), .ref (r 12), .ref (r 13), .ref (r 14), .ref (r 15), .ref (r 16), .ref (r 17), .ref (r 18), .ref (r 19), .ref (r 20), .ref (r 21), .ref (r 22), .ref (r 23), .ref (r 24), .ref (r 25), .ref (r 26), .ref (r 27), .ref (r 28), .ref (r 29), .ref (r 30), .ref (r 31), .ref (r 32), .ref (r 33), .int 0, .int 0, .int 0, .int 0, .int 0, .int 0, .int 0, .ref (r 41), .ref (r 42), .ref (r 43), .ref (r 44), .int 0, .int 0, .int 0, .ref (r 48), .int 0, .int 0, .ref (r 51), .ref (r 52), .ref (r 53), .ref (r 54), .int 0, .ref (r 56), .ref (r 57), .ref (r 58), .int 0, .ref (r 60), .ref (r 61), .ref (r 62), .ref (r 63), .ref (r 64), .ref (r 65), .ref (r 66), .ref (r 67), .ref (r 68), .int 0, .int 0, .int 0, .ref (r 72), .ref (r 73)])), (r 41, .inl (cy 0, 15, .inl (fun _ => 0))), (r 72, .inl (cy 0, 45, .inl (fun _ => 0))), (r 73, .inl (cy 3, 3, .inl (fun _ => 0)))] := hD
      refine lv_iinc (v := 4) (lv' := [(2, .int 4), (0, .ref h0), (1, .int 1)]) hx hb dX12_image_36 hl (k := 0) rfl (by decide +kernel) (by decide) rfl (fun ls hl => ?_)
      refine lv_goto (tgt := 13) hx hb dX12_image_39 (by decide) ?_
      refine lv_iload_n hx hb dX12_image_13 rfl (lv_at hl 0 rfl) ?_
      refine lv_bipush (v := 15) hx hb dX12_image_14 (by decide +kernel) ?_
      refine lv_icmp_ge (tgt := 42) hx hb dX12_image_16 (by decide) (fun c_ => absurd c_ (by decide +kernel)) (fun _ => ?_)
      refine lv_aload_n hx hb dX12_image_19 rfl (lv_at hl 1 rfl) ?_
      refine va_get (D := (dC, dI)) (ci := 12) (v := .ref (r 72)) (C := RX12) (T := TX12) (N := 74) hx hb hts inlX12 hown hK hP 0 rfl rfl 72 (by decide) (hts _ m_265) (fun _ h9 => h9) rfl dX12_image_20 ?_
      refine lv_bipush (v := 15) hx hb dX12_image_23 (by decide +kernel) ?_
      refine lv_iload_n hx hb dX12_image_25 rfl (lv_at hl 2 rfl) ?_
      refine lv_imul hx hb dX12_image_26 ?_
      refine lv_topi (fun z_47 ez_47 => ?_)
      obtain rfl : z_47 = 15 := ez_47.trans (by decide +kernel)
      refine lv_iload_n hx hb dX12_image_27 rfl (lv_at hl 0 rfl) ?_
      refine lv_iadd hx hb dX12_image_28 ?_
      refine lv_topi (fun z_48 ez_48 => ?_)
      obtain rfl : z_48 = 19 := ez_48.trans (by decide +kernel)
      refine lv_aload_n hx hb dX12_image_29 rfl (lv_at hl 1 rfl) ?_
      refine va_get (D := (dC, dI)) (ci := 12) (v := .ref (r 41)) (C := RX12) (T := TX12) (N := 74) hx hb hts inlX12 hown hK hP 0 rfl rfl 41 (by decide) (hts _ m_244) (fun _ h9 => h9) rfl dX12_image_30 ?_
      refine lv_iload_n hx hb dX12_image_33 rfl (lv_at hl 0 rfl) ?_
      refine va_iald hx hb hK hP 1 0 rfl rfl vi_4_15 dX12_image_34 ?_
      refine W.eq (g2 := F0 m 35 ls [.int 0, .int 19, .ref (r 72)]) rfl ?_
      refine va_iast hx hb hK hP hD hS 2 0 rfl rfl vi_19_45 dX12_image_35 (fun H locs hP hD hS => ?_)
      rw [show upd (fun _ => 0) (Int32.toNatClampNeg 19) 0 = (fun _ => 0) from xa_upd0 rfl] at hP hD
      have hP : va_P (dC, dI) classes [(h0, .inr (12, [.ref (r 0), .ref (r 1), .int 0, .int 0, .int 0, .int (-1), .int 0, .int 0, .int 0, .int 0, .long 0, .ref (r 11), .ref (r 12), .ref (r 13), .ref (r 14), .ref (r 15), .ref (r 16), .ref (r 17), .ref (r 18), .ref (r 19), .ref (r 20), .ref (r 21), .ref (r 22), .ref (r 23), .ref (r 24), .ref (r 25), .ref (r 26), .ref (r 27), .ref (r 28), .ref (r 29), .ref (r 30), .ref (r 31), .ref (r 32), .ref (r 33), .int 0, .int 0, .int 0, .int 0, .int 0, .int 0, .int 0, .ref (r 41), .ref (r 42), .ref (r 43), .ref (r 44), .int 0, .int 0, .int 0, .ref (r 48), .int 0, .int 0, .ref (r 51), .ref (r 52), .ref (r 53), .ref (r 54), .int 0, .ref (r 56), .ref (r 57), .ref (r 58), .int 0, .ref (r 60), .ref (r 61), .ref (r 62), .ref (r 63), .ref (r 64), .ref (r 65), .ref (r 66), .ref (r 67), .ref (r 68), .int 0, .int 0, .int 0, .ref (r 72), .ref (r 73)])), (r 41, .inl (cy 0, 15, .inl (fun _ => 0))), (r 72, .inl (cy 0, 45, .inl (fun _ => 0))), (r 73, .inl (cy 3, 3, .inl (fun _ => 0)))] H := hP
      have hD : va_D A [(h0, .inr (12, [.ref (r 0), .ref (r 1), .int 0, .int 0, .int 0, .int (-1), .int 0, .int 0, .int 0, .int 0, .long 0, .ref (r 11), .ref (r 12), .ref (r 13), .ref (r 14), .ref (r 15), .ref (r 16), .ref (r 17), .ref (r 18), .ref (r 19), .ref (r 20), .ref (r 21), .ref (r 22), .ref (r 23), .ref (r 24), .ref (r 25), .ref (r 26), .ref (r 27), .ref (r 28), .ref (r 29), .ref (r 30), .ref (r 31), .ref (r 32), .ref (r 33), .int 0, .int 0, .int 0, .int 0, .int 0, .int 0, .int 0, .ref (r 41), .ref (r 42), .ref (r 43), .ref (r 44), .int 0, .int 0, .int 0, .ref (r 48), .int 0, .int 0, .ref (r 51), .ref (r 52), .ref (r 53), .ref (r 54), .int 0, .ref (r 56), .ref (r 57), .ref (r 58), .int 0, .ref (r 60), .ref (r 61), .ref (r 62), .ref (r 63), .ref (r 64), .ref (r 65), .ref (r 66), .ref (r 67), .ref (r 68), .int 0, .int 0, .int 0, .ref (r 72), .ref (r 73)])), (r 41, .inl (cy 0, 15, .inl (fun _ => 0))), (r 72, .inl (cy 0, 45, .inl (fun _ => 0))), (r 73, .inl (cy 3, 3, .inl (fun _ => 0)))] := hD
      refine lv_iinc (v := 5) (lv' := [(2, .int 5), (0, .ref h0), (1, .int 1)]) hx hb dX12_image_36 hl (k := 0) rfl (by decide +kernel) (by decide) rfl (fun ls hl => ?_)
      refine lv_goto (tgt := 13) hx hb dX12_image_39 (by decide) ?_
      refine lv_iload_n hx hb dX12_image_13 rfl (lv_at hl 0 rfl) ?_
      refine lv_bipush (v := 15) hx hb dX12_image_14 (by decide +kernel) ?_
      refine lv_icmp_ge (tgt := 42) hx hb dX12_image_16 (by decide) (fun c_ => absurd c_ (by decide +kernel)) (fun _ => ?_)
      refine lv_aload_n hx hb dX12_image_19 rfl (lv_at hl 1 rfl) ?_
      refine va_get (D := (dC, dI)) (ci := 12) (v := .ref (r 72)) (C := RX12) (T := TX12) (N := 74) hx hb hts inlX12 hown hK hP 0 rfl rfl 72 (by decide) (hts _ m_265) (fun _ h9 => h9) rfl dX12_image_20 ?_
      refine lv_bipush (v := 15) hx hb dX12_image_23 (by decide +kernel) ?_
      refine lv_iload_n hx hb dX12_image_25 rfl (lv_at hl 2 rfl) ?_
      refine lv_imul hx hb dX12_image_26 ?_
      refine lv_topi (fun z_49 ez_49 => ?_)
      obtain rfl : z_49 = 15 := ez_49.trans (by decide +kernel)
      refine lv_iload_n hx hb dX12_image_27 rfl (lv_at hl 0 rfl) ?_
      refine lv_iadd hx hb dX12_image_28 ?_
      refine lv_topi (fun z_50 ez_50 => ?_)
      obtain rfl : z_50 = 20 := ez_50.trans (by decide +kernel)
      refine lv_aload_n hx hb dX12_image_29 rfl (lv_at hl 1 rfl) ?_
      refine va_get (D := (dC, dI)) (ci := 12) (v := .ref (r 41)) (C := RX12) (T := TX12) (N := 74) hx hb hts inlX12 hown hK hP 0 rfl rfl 41 (by decide) (hts _ m_244) (fun _ h9 => h9) rfl dX12_image_30 ?_
      refine lv_iload_n hx hb dX12_image_33 rfl (lv_at hl 0 rfl) ?_
      refine va_iald hx hb hK hP 1 0 rfl rfl vi_5_15 dX12_image_34 ?_
      refine W.eq (g2 := F0 m 35 ls [.int 0, .int 20, .ref (r 72)]) rfl ?_
      refine va_iast hx hb hK hP hD hS 2 0 rfl rfl vi_20_45 dX12_image_35 (fun H locs hP hD hS => ?_)
      rw [show upd (fun _ => 0) (Int32.toNatClampNeg 20) 0 = (fun _ => 0) from xa_upd0 rfl] at hP hD
      have hP : va_P (dC, dI) classes [(h0, .inr (12, [.ref (r 0), .ref (r 1), .int 0, .int 0, .int 0, .int (-1), .int 0, .int 0, .int 0, .int 0, .long 0, .ref (r 11), .ref (r 12), .ref (r 13), .ref (r 14), .ref (r 15), .ref (r 16), .ref (r 17), .ref (r 18), .ref (r 19), .ref (r 20), .ref (r 21), .ref (r 22), .ref (r 23), .ref (r 24), .ref (r 25), .ref (r 26), .ref (r 27), .ref (r 28), .ref (r 29), .ref (r 30), .ref (r 31), .ref (r 32), .ref (r 33), .int 0, .int 0, .int 0, .int 0, .int 0, .int 0, .int 0, .ref (r 41), .ref (r 42), .ref (r 43), .ref (r 44), .int 0, .int 0, .int 0, .ref (r 48), .int 0, .int 0, .ref (r 51), .ref (r 52), .ref (r 53), .ref (r 54), .int 0, .ref (r 56), .ref (r 57), .ref (r 58), .int 0, .ref (r 60), .ref (r 61), .ref (r 62), .ref (r 63), .ref (r 64), .ref (r 65), .ref (r 66), .ref (r 67), .ref (r 68), .int 0, .int 0, .int 0, .ref (r 72), .ref (r 73)])), (r 41, .inl (cy 0, 15, .inl (fun _ => 0))), (r 72, .inl (cy 0, 45, .inl (fun _ => 0))), (r 73, .inl (cy 3, 3, .inl (fun _ => 0)))] H := hP
      have hD : va_D A [(h0, .inr (12, [.ref (r 0), .ref (r 1), .int 0, .int 0, .int 0, .int (-1), .int 0, .int 0, .int 0, .int 0, .long 0, .ref (r 11), .ref (r 12), .ref (r 13), .ref (r 14), .ref (r 15), .ref (r 16), .ref (r 17), .ref (r 18), .ref (r 19), .ref (r 20), .ref (r 21), .ref (r 22), .ref (r 23), .ref (r 24), .ref (r 25), .ref (r 26), .ref (r 27), .ref (r 28), .ref (r 29), .ref (r 30), .ref (r 31), .ref (r 32), .ref (r 33), .int 0, .int 0, .int 0, .int 0, .int 0, .int 0, .int 0, .ref (r 41), .ref (r 42), .ref (r 43), .ref (r 44), .int 0, .int 0, .int 0, .ref (r 48), .int 0, .int 0, .ref (r 51), .ref (r 52), .ref (r 53), .ref (r 54), .int 0, .ref (r 56), .ref (r 57), .ref (r 58), .int 0, .ref (r 60), .ref (r 61), .ref (r 62), .ref (r 63), .ref (r 64), .ref (r 65), .ref (r 66), .ref (r 67), .ref (r 68), .int 0, .int 0, .int 0, .ref (r 72), .ref (r 73)])), (r 41, .inl (cy 0, 15, .inl (fun _ => 0))), (r 72, .inl (cy 0, 45, .inl (fun _ => 0))), (r 73, .inl (cy 3, 3, .inl (fun _ => 0)))] := hD
      refine lv_iinc (v := 6) (lv' := [(2, .int 6), (0, .ref h0), (1, .int 1)]) hx hb dX12_image_36 hl (k := 0) rfl (by decide +kernel) (by decide) rfl (fun ls hl => ?_)
      refine lv_goto (tgt := 13) hx hb dX12_image_39 (by decide) ?_
      refine lv_iload_n hx hb dX12_image_13 rfl (lv_at hl 0 rfl) ?_
      refine lv_bipush (v := 15) hx hb dX12_image_14 (by decide +kernel) ?_
      refine lv_icmp_ge (tgt := 42) hx hb dX12_image_16 (by decide) (fun c_ => absurd c_ (by decide +kernel)) (fun _ => ?_)
      refine lv_aload_n hx hb dX12_image_19 rfl (lv_at hl 1 rfl) ?_
      refine va_get (D := (dC, dI)) (ci := 12) (v := .ref (r 72)) (C := RX12) (T := TX12) (N := 74) hx hb hts inlX12 hown hK hP 0 rfl rfl 72 (by decide) (hts _ m_265) (fun _ h9 => h9) rfl dX12_image_20 ?_
      refine lv_bipush (v := 15) hx hb dX12_image_23 (by decide +kernel) ?_
      refine lv_iload_n hx hb dX12_image_25 rfl (lv_at hl 2 rfl) ?_
      refine lv_imul hx hb dX12_image_26 ?_
      refine lv_topi (fun z_51 ez_51 => ?_)
      obtain rfl : z_51 = 15 := ez_51.trans (by decide +kernel)
      refine lv_iload_n hx hb dX12_image_27 rfl (lv_at hl 0 rfl) ?_
      refine lv_iadd hx hb dX12_image_28 ?_
      refine lv_topi (fun z_52 ez_52 => ?_)
      obtain rfl : z_52 = 21 := ez_52.trans (by decide +kernel)
      refine lv_aload_n hx hb dX12_image_29 rfl (lv_at hl 1 rfl) ?_
      refine va_get (D := (dC, dI)) (ci := 12) (v := .ref (r 41)) (C := RX12) (T := TX12) (N := 74) hx hb hts inlX12 hown hK hP 0 rfl rfl 41 (by decide) (hts _ m_244) (fun _ h9 => h9) rfl dX12_image_30 ?_
      refine lv_iload_n hx hb dX12_image_33 rfl (lv_at hl 0 rfl) ?_
      refine va_iald hx hb hK hP 1 0 rfl rfl vi_6_15 dX12_image_34 ?_
      refine W.eq (g2 := F0 m 35 ls [.int 0, .int 21, .ref (r 72)]) rfl ?_
      refine va_iast hx hb hK hP hD hS 2 0 rfl rfl vi_21_45 dX12_image_35 (fun H locs hP hD hS => ?_)
      rw [show upd (fun _ => 0) (Int32.toNatClampNeg 21) 0 = (fun _ => 0) from xa_upd0 rfl] at hP hD
      have hP : va_P (dC, dI) classes [(h0, .inr (12, [.ref (r 0), .ref (r 1), .int 0, .int 0, .int 0, .int (-1), .int 0, .int 0, .int 0, .int 0, .long 0, .ref (r 11), .ref (r 12), .ref (r 13), .ref (r 14), .ref (r 15), .ref (r 16), .ref (r 17), .ref (r 18), .ref (r 19), .ref (r 20), .ref (r 21), .ref (r 22), .ref (r 23), .ref (r 24), .ref (r 25), .ref (r 26), .ref (r 27), .ref (r 28), .ref (r 29), .ref (r 30), .ref (r 31), .ref (r 32), .ref (r 33), .int 0, .int 0, .int 0, .int 0, .int 0, .int 0, .int 0, .ref (r 41), .ref (r 42), .ref (r 43), .ref (r 44), .int 0, .int 0, .int 0, .ref (r 48), .int 0, .int 0, .ref (r 51), .ref (r 52), .ref (r 53), .ref (r 54), .int 0, .ref (r 56), .ref (r 57), .ref (r 58), .int 0, .ref (r 60), .ref (r 61), .ref (r 62), .ref (r 63), .ref (r 64), .ref (r 65), .ref (r 66), .ref (r 67), .ref (r 68), .int 0, .int 0, .int 0, .ref (r 72), .ref (r 73)])), (r 41, .inl (cy 0, 15, .inl (fun _ => 0))), (r 72, .inl (cy 0, 45, .inl (fun _ => 0))), (r 73, .inl (cy 3, 3, .inl (fun _ => 0)))] H := hP
      have hD : va_D A [(h0, .inr (12, [.ref (r 0), .ref (r 1), .int 0, .int 0, .int 0, .int (-1), .int 0, .int 0, .int 0, .int 0, .long 0, .ref (r 11), .ref (r 12), .ref (r 13), .ref (r 14), .ref (r 15), .ref (r 16), .ref (r 17), .ref (r 18), .ref (r 19), .ref (r 20), .ref (r 21), .ref (r 22), .ref (r 23), .ref (r 24), .ref (r 25), .ref (r 26), .ref (r 27), .ref (r 28), .ref (r 29), .ref (r 30), .ref (r 31), .ref (r 32), .ref (r 33), .int 0, .int 0, .int 0, .int 0, .int 0, .int 0, .int 0, .ref (r 41), .ref (r 42), .ref (r 43), .ref (r 44), .int 0, .int 0, .int 0, .ref (r 48), .int 0, .int 0, .ref (r 51), .ref (r 52), .ref (r 53), .ref (r 54), .int 0, .ref (r 56), .ref (r 57), .ref (r 58), .int 0, .ref (r 60), .ref (r 61), .ref (r 62), .ref (r 63), .ref (r 64), .ref (r 65), .ref (r 66), .ref (r 67), .ref (r 68), .int 0, .int 0, .int 0, .ref (r 72), .ref (r 73)])), (r 41, .inl (cy 0, 15, .inl (fun _ => 0))), (r 72, .inl (cy 0, 45, .inl (fun _ => 0))), (r 73, .inl (cy 3, 3, .inl (fun _ => 0)))] := hD
      refine lv_iinc (v := 7) (lv' := [(2, .int 7), (0, .ref h0), (1, .int 1)]) hx hb dX12_image_36 hl (k := 0) rfl (by decide +kernel) (by decide) rfl (fun ls hl => ?_)
      refine lv_goto (tgt := 13) hx hb dX12_image_39 (by decide) ?_
      refine lv_iload_n hx hb dX12_image_13 rfl (lv_at hl 0 rfl) ?_
      refine lv_bipush (v := 15) hx hb dX12_image_14 (by decide +kernel) ?_
      refine lv_icmp_ge (tgt := 42) hx hb dX12_image_16 (by decide) (fun c_ => absurd c_ (by decide +kernel)) (fun _ => ?_)
      refine lv_aload_n hx hb dX12_image_19 rfl (lv_at hl 1 rfl) ?_
      refine va_get (D := (dC, dI)) (ci := 12) (v := .ref (r 72)) (C := RX12) (T := TX12) (N := 74) hx hb hts inlX12 hown hK hP 0 rfl rfl 72 (by decide) (hts _ m_265) (fun _ h9 => h9) rfl dX12_image_20 ?_
      refine lv_bipush (v := 15) hx hb dX12_image_23 (by decide +kernel) ?_
      refine lv_iload_n hx hb dX12_image_25 rfl (lv_at hl 2 rfl) ?_
      refine lv_imul hx hb dX12_image_26 ?_
      refine lv_topi (fun z_53 ez_53 => ?_)
      obtain rfl : z_53 = 15 := ez_53.trans (by decide +kernel)
      refine lv_iload_n hx hb dX12_image_27 rfl (lv_at hl 0 rfl) ?_
      refine lv_iadd hx hb dX12_image_28 ?_
      refine lv_topi (fun z_54 ez_54 => ?_)
      obtain rfl : z_54 = 22 := ez_54.trans (by decide +kernel)
      refine lv_aload_n hx hb dX12_image_29 rfl (lv_at hl 1 rfl) ?_
      refine va_get (D := (dC, dI)) (ci := 12) (v := .ref (r 41)) (C := RX12) (T := TX12) (N := 74) hx hb hts inlX12 hown hK hP 0 rfl rfl 41 (by decide) (hts _ m_244) (fun _ h9 => h9) rfl dX12_image_30 ?_
      refine lv_iload_n hx hb dX12_image_33 rfl (lv_at hl 0 rfl) ?_
      refine va_iald hx hb hK hP 1 0 rfl rfl vi_7_15 dX12_image_34 ?_
      refine W.eq (g2 := F0 m 35 ls [.int 0, .int 22, .ref (r 72)]) rfl ?_
      refine va_iast hx hb hK hP hD hS 2 0 rfl rfl vi_22_45 dX12_image_35 (fun H locs hP hD hS => ?_)
      rw [show upd (fun _ => 0) (Int32.toNatClampNeg 22) 0 = (fun _ => 0) from xa_upd0 rfl] at hP hD
      have hP : va_P (dC, dI) classes [(h0, .inr (12, [.ref (r 0), .ref (r 1), .int 0, .int 0, .int 0, .int (-1), .int 0, .int 0, .int 0, .int 0, .long 0, .ref (r 11), .ref (r 12), .ref (r 13), .ref (r 14), .ref (r 15), .ref (r 16), .ref (r 17), .ref (r 18), .ref (r 19), .ref (r 20), .ref (r 21), .ref (r 22), .ref (r 23), .ref (r 24), .ref (r 25), .ref (r 26), .ref (r 27), .ref (r 28), .ref (r 29), .ref (r 30), .ref (r 31), .ref (r 32), .ref (r 33), .int 0, .int 0, .int 0, .int 0, .int 0, .int 0, .int 0, .ref (r 41), .ref (r 42), .ref (r 43), .ref (r 44), .int 0, .int 0, .int 0, .ref (r 48), .int 0, .int 0, .ref (r 51), .ref (r 52), .ref (r 53), .ref (r 54), .int 0, .ref (r 56), .ref (r 57), .ref (r 58), .int 0, .ref (r 60), .ref (r 61), .ref (r 62), .ref (r 63), .ref (r 64), .ref (r 65), .ref (r 66), .ref (r 67), .ref (r 68), .int 0, .int 0, .int 0, .ref (r 72), .ref (r 73)])), (r 41, .inl (cy 0, 15, .inl (fun _ => 0))), (r 72, .inl (cy 0, 45, .inl (fun _ => 0))), (r 73, .inl (cy 3, 3, .inl (fun _ => 0)))] H := hP
      have hD : va_D A [(h0, .inr (12, [.ref (r 0), .ref (r 1), .int 0, .int 0, .int 0, .int (-1), .int 0, .int 0, .int 0, .int 0, .long 0, .ref (r 11), .ref (r 12), .ref (r 13), .ref (r 14), .ref (r 15), .ref (r 16), .ref (r 17), .ref (r 18), .ref (r 19), .ref (r 20), .ref (r 21), .ref (r 22), .ref (r 23), .ref (r 24), .ref (r 25), .ref (r 26), .ref (r 27), .ref (r 28), .ref (r 29), .ref (r 30), .ref (r 31), .ref (r 32), .ref (r 33), .int 0, .int 0, .int 0, .int 0, .int 0, .int 0, .int 0, .ref (r 41), .ref (r 42), .ref (r 43), .ref (r 44), .int 0, .int 0, .int 0, .ref (r 48), .int 0, .int 0, .ref (r 51), .ref (r 52), .ref (r 53), .ref (r 54), .int 0, .ref (r 56), .ref (r 57), .ref (r 58), .int 0, .ref (r 60), .ref (r 61), .ref (r 62), .ref (r 63), .ref (r 64), .ref (r 65), .ref (r 66), .ref (r 67), .ref (r 68), .int 0, .int 0, .int 0, .ref (r 72), .ref (r 73)])), (r 41, .inl (cy 0, 15, .inl (fun _ => 0))), (r 72, .inl (cy 0, 45, .inl (fun _ => 0))), (r 73, .inl (cy 3, 3, .inl (fun _ => 0)))] := hD
      refine lv_iinc (v := 8) (lv' := [(2, .int 8), (0, .ref h0), (1, .int 1)]) hx hb dX12_image_36 hl (k := 0) rfl (by decide +kernel) (by decide) rfl (fun ls hl => ?_)
      refine lv_goto (tgt := 13) hx hb dX12_image_39 (by decide) ?_
      refine lv_iload_n hx hb dX12_image_13 rfl (lv_at hl 0 rfl) ?_
      refine lv_bipush (v := 15) hx hb dX12_image_14 (by decide +kernel) ?_
      refine lv_icmp_ge (tgt := 42) hx hb dX12_image_16 (by decide) (fun c_ => absurd c_ (by decide +kernel)) (fun _ => ?_)
      refine lv_aload_n hx hb dX12_image_19 rfl (lv_at hl 1 rfl) ?_
      refine va_get (D := (dC, dI)) (ci := 12) (v := .ref (r 72)) (C := RX12) (T := TX12) (N := 74) hx hb hts inlX12 hown hK hP 0 rfl rfl 72 (by decide) (hts _ m_265) (fun _ h9 => h9) rfl dX12_image_20 ?_
      refine lv_bipush (v := 15) hx hb dX12_image_23 (by decide +kernel) ?_
      refine lv_iload_n hx hb dX12_image_25 rfl (lv_at hl 2 rfl) ?_
      refine lv_imul hx hb dX12_image_26 ?_
      refine lv_topi (fun z_55 ez_55 => ?_)
      obtain rfl : z_55 = 15 := ez_55.trans (by decide +kernel)
      refine lv_iload_n hx hb dX12_image_27 rfl (lv_at hl 0 rfl) ?_
      refine lv_iadd hx hb dX12_image_28 ?_
      refine lv_topi (fun z_56 ez_56 => ?_)
      obtain rfl : z_56 = 23 := ez_56.trans (by decide +kernel)
      refine lv_aload_n hx hb dX12_image_29 rfl (lv_at hl 1 rfl) ?_
      refine va_get (D := (dC, dI)) (ci := 12) (v := .ref (r 41)) (C := RX12) (T := TX12) (N := 74) hx hb hts inlX12 hown hK hP 0 rfl rfl 41 (by decide) (hts _ m_244) (fun _ h9 => h9) rfl dX12_image_30 ?_
      refine lv_iload_n hx hb dX12_image_33 rfl (lv_at hl 0 rfl) ?_
      refine va_iald hx hb hK hP 1 0 rfl rfl vi_8_15 dX12_image_34 ?_
      refine W.eq (g2 := F0 m 35 ls [.int 0, .int 23, .ref (r 72)]) rfl ?_
      refine va_iast hx hb hK hP hD hS 2 0 rfl rfl vi_23_45 dX12_image_35 (fun H locs hP hD hS => ?_)
      rw [show upd (fun _ => 0) (Int32.toNatClampNeg 23) 0 = (fun _ => 0) from xa_upd0 rfl] at hP hD
      have hP : va_P (dC, dI) classes [(h0, .inr (12, [.ref (r 0), .ref (r 1), .int 0, .int 0, .int 0, .int (-1), .int 0, .int 0, .int 0, .int 0, .long 0, .ref (r 11), .ref (r 12), .ref (r 13), .ref (r 14), .ref (r 15), .ref (r 16), .ref (r 17), .ref (r 18), .ref (r 19), .ref (r 20), .ref (r 21), .ref (r 22), .ref (r 23), .ref (r 24), .ref (r 25), .ref (r 26), .ref (r 27), .ref (r 28), .ref (r 29), .ref (r 30), .ref (r 31), .ref (r 32), .ref (r 33), .int 0, .int 0, .int 0, .int 0, .int 0, .int 0, .int 0, .ref (r 41), .ref (r 42), .ref (r 43), .ref (r 44), .int 0, .int 0, .int 0, .ref (r 48), .int 0, .int 0, .ref (r 51), .ref (r 52), .ref (r 53), .ref (r 54), .int 0, .ref (r 56), .ref (r 57), .ref (r 58), .int 0, .ref (r 60), .ref (r 61), .ref (r 62), .ref (r 63), .ref (r 64), .ref (r 65), .ref (r 66), .ref (r 67), .ref (r 68), .int 0, .int 0, .int 0, .ref (r 72), .ref (r 73)])), (r 41, .inl (cy 0, 15, .inl (fun _ => 0))), (r 72, .inl (cy 0, 45, .inl (fun _ => 0))), (r 73, .inl (cy 3, 3, .inl (fun _ => 0)))] H := hP
      have hD : va_D A [(h0, .inr (12, [.ref (r 0), .ref (r 1), .int 0, .int 0, .int 0, .int (-1), .int 0, .int 0, .int 0, .int 0, .long 0, .ref (r 11), .ref (r 12), .ref (r 13), .ref (r 14), .ref (r 15), .ref (r 16), .ref (r 17), .ref (r 18), .ref (r 19), .ref (r 20), .ref (r 21), .ref (r 22), .ref (r 23), .ref (r 24), .ref (r 25), .ref (r 26), .ref (r 27), .ref (r 28), .ref (r 29), .ref (r 30), .ref (r 31), .ref (r 32), .ref (r 33), .int 0, .int 0, .int 0, .int 0, .int 0, .int 0, .int 0, .ref (r 41), .ref (r 42), .ref (r 43), .ref (r 44), .int 0, .int 0, .int 0, .ref (r 48), .int 0, .int 0, .ref (r 51), .ref (r 52), .ref (r 53), .ref (r 54), .int 0, .ref (r 56), .ref (r 57), .ref (r 58), .int 0, .ref (r 60), .ref (r 61), .ref (r 62), .ref (r 63), .ref (r 64), .ref (r 65), .ref (r 66), .ref (r 67), .ref (r 68), .int 0, .int 0, .int 0, .ref (r 72), .ref (r 73)])), (r 41, .inl (cy 0, 15, .inl (fun _ => 0))), (r 72, .inl (cy 0, 45, .inl (fun _ => 0))), (r 73, .inl (cy 3, 3, .inl (fun _ => 0)))] := hD
      refine lv_iinc (v := 9) (lv' := [(2, .int 9), (0, .ref h0), (1, .int 1)]) hx hb dX12_image_36 hl (k := 0) rfl (by decide +kernel) (by decide) rfl (fun ls hl => ?_)
      refine lv_goto (tgt := 13) hx hb dX12_image_39 (by decide) ?_
      refine lv_iload_n hx hb dX12_image_13 rfl (lv_at hl 0 rfl) ?_
      refine lv_bipush (v := 15) hx hb dX12_image_14 (by decide +kernel) ?_
      refine lv_icmp_ge (tgt := 42) hx hb dX12_image_16 (by decide) (fun c_ => absurd c_ (by decide +kernel)) (fun _ => ?_)
      refine lv_aload_n hx hb dX12_image_19 rfl (lv_at hl 1 rfl) ?_
      refine va_get (D := (dC, dI)) (ci := 12) (v := .ref (r 72)) (C := RX12) (T := TX12) (N := 74) hx hb hts inlX12 hown hK hP 0 rfl rfl 72 (by decide) (hts _ m_265) (fun _ h9 => h9) rfl dX12_image_20 ?_
      refine lv_bipush (v := 15) hx hb dX12_image_23 (by decide +kernel) ?_
      refine lv_iload_n hx hb dX12_image_25 rfl (lv_at hl 2 rfl) ?_
      refine lv_imul hx hb dX12_image_26 ?_
      refine lv_topi (fun z_57 ez_57 => ?_)
      obtain rfl : z_57 = 15 := ez_57.trans (by decide +kernel)
      refine lv_iload_n hx hb dX12_image_27 rfl (lv_at hl 0 rfl) ?_
      refine lv_iadd hx hb dX12_image_28 ?_
      refine lv_topi (fun z_58 ez_58 => ?_)
      obtain rfl : z_58 = 24 := ez_58.trans (by decide +kernel)
      refine lv_aload_n hx hb dX12_image_29 rfl (lv_at hl 1 rfl) ?_
      refine va_get (D := (dC, dI)) (ci := 12) (v := .ref (r 41)) (C := RX12) (T := TX12) (N := 74) hx hb hts inlX12 hown hK hP 0 rfl rfl 41 (by decide) (hts _ m_244) (fun _ h9 => h9) rfl dX12_image_30 ?_
      refine lv_iload_n hx hb dX12_image_33 rfl (lv_at hl 0 rfl) ?_
      refine va_iald hx hb hK hP 1 0 rfl rfl vi_9_15 dX12_image_34 ?_
      refine W.eq (g2 := F0 m 35 ls [.int 0, .int 24, .ref (r 72)]) rfl ?_
      refine va_iast hx hb hK hP hD hS 2 0 rfl rfl vi_24_45 dX12_image_35 (fun H locs hP hD hS => ?_)
      rw [show upd (fun _ => 0) (Int32.toNatClampNeg 24) 0 = (fun _ => 0) from xa_upd0 rfl] at hP hD
      have hP : va_P (dC, dI) classes [(h0, .inr (12, [.ref (r 0), .ref (r 1), .int 0, .int 0, .int 0, .int (-1), .int 0, .int 0, .int 0, .int 0, .long 0, .ref (r 11), .ref (r 12), .ref (r 13), .ref (r 14), .ref (r 15), .ref (r 16), .ref (r 17), .ref (r 18), .ref (r 19), .ref (r 20), .ref (r 21), .ref (r 22), .ref (r 23), .ref (r 24), .ref (r 25), .ref (r 26), .ref (r 27), .ref (r 28), .ref (r 29), .ref (r 30), .ref (r 31), .ref (r 32), .ref (r 33), .int 0, .int 0, .int 0, .int 0, .int 0, .int 0, .int 0, .ref (r 41), .ref (r 42), .ref (r 43), .ref (r 44), .int 0, .int 0, .int 0, .ref (r 48), .int 0, .int 0, .ref (r 51), .ref (r 52), .ref (r 53), .ref (r 54), .int 0, .ref (r 56), .ref (r 57), .ref (r 58), .int 0, .ref (r 60), .ref (r 61), .ref (r 62), .ref (r 63), .ref (r 64), .ref (r 65), .ref (r 66), .ref (r 67), .ref (r 68), .int 0, .int 0, .int 0, .ref (r 72), .ref (r 73)])), (r 41, .inl (cy 0, 15, .inl (fun _ => 0))), (r 72, .inl (cy 0, 45, .inl (fun _ => 0))), (r 73, .inl (cy 3, 3, .inl (fun _ => 0)))] H := hP
      have hD : va_D A [(h0, .inr (12, [.ref (r 0), .ref (r 1), .int 0, .int 0, .int 0, .int (-1), .int 0, .int 0, .int 0, .int 0, .long 0, .ref (r 11), .ref (r 12), .ref (r 13), .ref (r 14), .ref (r 15), .ref (r 16), .ref (r 17), .ref (r 18), .ref (r 19), .ref (r 20), .ref (r 21), .ref (r 22), .ref (r 23), .ref (r 24), .ref (r 25), .ref (r 26), .ref (r 27), .ref (r 28), .ref (r 29), .ref (r 30), .ref (r 31), .ref (r 32), .ref (r 33), .int 0, .int 0, .int 0, .int 0, .int 0, .int 0, .int 0, .ref (r 41), .ref (r 42), .ref (r 43), .ref (r 44), .int 0, .int 0, .int 0, .ref (r 48), .int 0, .int 0, .ref (r 51), .ref (r 52), .ref (r 53), .ref (r 54), .int 0, .ref (r 56), .ref (r 57), .ref (r 58), .int 0, .ref (r 60), .ref (r 61), .ref (r 62), .ref (r 63), .ref (r 64), .ref (r 65), .ref (r 66), .ref (r 67), .ref (r 68), .int 0, .int 0, .int 0, .ref (r 72), .ref (r 73)])), (r 41, .inl (cy 0, 15, .inl (fun _ => 0))), (r 72, .inl (cy 0, 45, .inl (fun _ => 0))), (r 73, .inl (cy 3, 3, .inl (fun _ => 0)))] := hD
      refine lv_iinc (v := 10) (lv' := [(2, .int 10), (0, .ref h0), (1, .int 1)]) hx hb dX12_image_36 hl (k := 0) rfl (by decide +kernel) (by decide) rfl (fun ls hl => ?_)
      refine lv_goto (tgt := 13) hx hb dX12_image_39 (by decide) ?_
      refine lv_iload_n hx hb dX12_image_13 rfl (lv_at hl 0 rfl) ?_
      refine lv_bipush (v := 15) hx hb dX12_image_14 (by decide +kernel) ?_
      refine lv_icmp_ge (tgt := 42) hx hb dX12_image_16 (by decide) (fun c_ => absurd c_ (by decide +kernel)) (fun _ => ?_)
      refine lv_aload_n hx hb dX12_image_19 rfl (lv_at hl 1 rfl) ?_
      refine va_get (D := (dC, dI)) (ci := 12) (v := .ref (r 72)) (C := RX12) (T := TX12) (N := 74) hx hb hts inlX12 hown hK hP 0 rfl rfl 72 (by decide) (hts _ m_265) (fun _ h9 => h9) rfl dX12_image_20 ?_
      refine lv_bipush (v := 15) hx hb dX12_image_23 (by decide +kernel) ?_
      refine lv_iload_n hx hb dX12_image_25 rfl (lv_at hl 2 rfl) ?_
      refine lv_imul hx hb dX12_image_26 ?_
      refine lv_topi (fun z_59 ez_59 => ?_)
      obtain rfl : z_59 = 15 := ez_59.trans (by decide +kernel)
      refine lv_iload_n hx hb dX12_image_27 rfl (lv_at hl 0 rfl) ?_
      refine lv_iadd hx hb dX12_image_28 ?_
      refine lv_topi (fun z_60 ez_60 => ?_)
      obtain rfl : z_60 = 25 := ez_60.trans (by decide +kernel)
      refine lv_aload_n hx hb dX12_image_29 rfl (lv_at hl 1 rfl) ?_
      refine va_get (D := (dC, dI)) (ci := 12) (v := .ref (r 41)) (C := RX12) (T := TX12) (N := 74) hx hb hts inlX12 hown hK hP 0 rfl rfl 41 (by decide) (hts _ m_244) (fun _ h9 => h9) rfl dX12_image_30 ?_
      refine lv_iload_n hx hb dX12_image_33 rfl (lv_at hl 0 rfl) ?_
      refine va_iald hx hb hK hP 1 0 rfl rfl vi_10_15 dX12_image_34 ?_
      refine W.eq (g2 := F0 m 35 ls [.int 0, .int 25, .ref (r 72)]) rfl ?_
      refine va_iast hx hb hK hP hD hS 2 0 rfl rfl vi_25_45 dX12_image_35 (fun H locs hP hD hS => ?_)
      rw [show upd (fun _ => 0) (Int32.toNatClampNeg 25) 0 = (fun _ => 0) from xa_upd0 rfl] at hP hD
      have hP : va_P (dC, dI) classes [(h0, .inr (12, [.ref (r 0), .ref (r 1), .int 0, .int 0, .int 0, .int (-1), .int 0, .int 0, .int 0, .int 0, .long 0, .ref (r 11), .ref (r 12), .ref (r 13), .ref (r 14), .ref (r 15), .ref (r 16), .ref (r 17), .ref (r 18), .ref (r 19), .ref (r 20), .ref (r 21), .ref (r 22), .ref (r 23), .ref (r 24), .ref (r 25), .ref (r 26), .ref (r 27), .ref (r 28), .ref (r 29), .ref (r 30), .ref (r 31), .ref (r 32), .ref (r 33), .int 0, .int 0, .int 0, .int 0, .int 0, .int 0, .int 0, .ref (r 41), .ref (r 42), .ref (r 43), .ref (r 44), .int 0, .int 0, .int 0, .ref (r 48), .int 0, .int 0, .ref (r 51), .ref (r 52), .ref (r 53), .ref (r 54), .int 0, .ref (r 56), .ref (r 57), .ref (r 58), .int 0, .ref (r 60), .ref (r 61), .ref (r 62), .ref (r 63), .ref (r 64), .ref (r 65), .ref (r 66), .ref (r 67), .ref (r 68), .int 0, .int 0, .int 0, .ref (r 72), .ref (r 73)])), (r 41, .inl (cy 0, 15, .inl (fun _ => 0))), (r 72, .inl (cy 0, 45, .inl (fun _ => 0))), (r 73, .inl (cy 3, 3, .inl (fun _ => 0)))] H := hP
      have hD : va_D A [(h0, .inr (12, [.ref (r 0), .ref (r 1), .int 0, .int 0, .int 0, .int (-1), .int 0, .int 0, .int 0, .int 0, .long 0, .ref (r 11), .ref (r 12), .ref (r 13), .ref (r 14), .ref (r 15), .ref (r 16), .ref (r 17), .ref (r 18), .ref (r 19), .ref (r 20), .ref (r 21), .ref (r 22), .ref (r 23), .ref (r 24), .ref (r 25), .ref (r 26), .ref (r 27), .ref (r 28), .ref (r 29), .ref (r 30), .ref (r 31), .ref (r 32), .ref (r 33), .int 0, .int 0, .int 0, .int 0, .int 0, .int 0, .int 0, .ref (r 41), .ref (r 42), .ref (r 43), .ref (r 44), .int 0, .int 0, .int 0, .ref (r 48), .int 0, .int 0, .ref (r 51), .ref (r 52), .ref (r 53), .ref (r 54), .int 0, .ref (r 56), .ref (r 57), .ref (r 58), .int 0, .ref (r 60), .ref (r 61), .ref (r 62), .ref (r 63), .ref (r 64), .ref (r 65), .ref (r 66), .ref (r 67), .ref (r 68), .int 0, .int 0, .int 0, .ref (r 72), .ref (r 73)])), (r 41, .inl (cy 0, 15, .inl (fun _ => 0))), (r 72, .inl (cy 0, 45, .inl (fun _ => 0))), (r 73, .inl (cy 3, 3, .inl (fun _ => 0)))] := hD
      refine lv_iinc (v := 11) (lv' := [(2, .int 11), (0, .ref h0), (1, .int 1)]) hx hb dX12_image_36 hl (k := 0) rfl (by decide +kernel) (by decide) rfl (fun ls hl => ?_)
      refine lv_goto (tgt := 13) hx hb dX12_image_39 (by decide) ?_
      refine lv_iload_n hx hb dX12_image_13 rfl (lv_at hl 0 rfl) ?_
      refine lv_bipush (v := 15) hx hb dX12_image_14 (by decide +kernel) ?_
      refine lv_icmp_ge (tgt := 42) hx hb dX12_image_16 (by decide) (fun c_ => absurd c_ (by decide +kernel)) (fun _ => ?_)
      refine lv_aload_n hx hb dX12_image_19 rfl (lv_at hl 1 rfl) ?_
      refine va_get (D := (dC, dI)) (ci := 12) (v := .ref (r 72)) (C := RX12) (T := TX12) (N := 74) hx hb hts inlX12 hown hK hP 0 rfl rfl 72 (by decide) (hts _ m_265) (fun _ h9 => h9) rfl dX12_image_20 ?_
      refine lv_bipush (v := 15) hx hb dX12_image_23 (by decide +kernel) ?_
      refine lv_iload_n hx hb dX12_image_25 rfl (lv_at hl 2 rfl) ?_
      refine lv_imul hx hb dX12_image_26 ?_
      refine lv_topi (fun z_61 ez_61 => ?_)
      obtain rfl : z_61 = 15 := ez_61.trans (by decide +kernel)
      refine lv_iload_n hx hb dX12_image_27 rfl (lv_at hl 0 rfl) ?_
      refine lv_iadd hx hb dX12_image_28 ?_
      refine lv_topi (fun z_62 ez_62 => ?_)
      obtain rfl : z_62 = 26 := ez_62.trans (by decide +kernel)
      refine lv_aload_n hx hb dX12_image_29 rfl (lv_at hl 1 rfl) ?_
      refine va_get (D := (dC, dI)) (ci := 12) (v := .ref (r 41)) (C := RX12) (T := TX12) (N := 74) hx hb hts inlX12 hown hK hP 0 rfl rfl 41 (by decide) (hts _ m_244) (fun _ h9 => h9) rfl dX12_image_30 ?_
      refine lv_iload_n hx hb dX12_image_33 rfl (lv_at hl 0 rfl) ?_
      refine va_iald hx hb hK hP 1 0 rfl rfl vi_11_15 dX12_image_34 ?_
      refine W.eq (g2 := F0 m 35 ls [.int 0, .int 26, .ref (r 72)]) rfl ?_
      refine va_iast hx hb hK hP hD hS 2 0 rfl rfl vi_26_45 dX12_image_35 (fun H locs hP hD hS => ?_)
      rw [show upd (fun _ => 0) (Int32.toNatClampNeg 26) 0 = (fun _ => 0) from xa_upd0 rfl] at hP hD
      have hP : va_P (dC, dI) classes [(h0, .inr (12, [.ref (r 0), .ref (r 1), .int 0, .int 0, .int 0, .int (-1), .int 0, .int 0, .int 0, .int 0, .long 0, .ref (r 11), .ref (r 12), .ref (r 13), .ref (r 14), .ref (r 15), .ref (r 16), .ref (r 17), .ref (r 18), .ref (r 19), .ref (r 20), .ref (r 21), .ref (r 22), .ref (r 23), .ref (r 24), .ref (r 25), .ref (r 26), .ref (r 27), .ref (r 28), .ref (r 29), .ref (r 30), .ref (r 31), .ref (r 32), .ref (r 33), .int 0, .int 0, .int 0, .int 0, .int 0, .int 0, .int 0, .ref (r 41), .ref (r 42), .ref (r 43), .ref (r 44), .int 0, .int 0, .int 0, .ref (r 48), .int 0, .int 0, .ref (r 51), .ref (r 52), .ref (r 53), .ref (r 54), .int 0, .ref (r 56), .ref (r 57), .ref (r 58), .int 0, .ref (r 60), .ref (r 61), .ref (r 62), .ref (r 63), .ref (r 64), .ref (r 65), .ref (r 66), .ref (r 67), .ref (r 68), .int 0, .int 0, .int 0, .ref (r 72), .ref (r 73)])), (r 41, .inl (cy 0, 15, .inl (fun _ => 0))), (r 72, .inl (cy 0, 45, .inl (fun _ => 0))), (r 73, .inl (cy 3, 3, .inl (fun _ => 0)))] H := hP
      have hD : va_D A [(h0, .inr (12, [.ref (r 0), .ref (r 1), .int 0, .int 0, .int 0, .int (-1), .int 0, .int 0, .int 0, .int 0, .long 0, .ref (r 11), .ref (r 12), .ref (r 13), .ref (r 14), .ref (r 15), .ref (r 16), .ref (r 17), .ref (r 18), .ref (r 19), .ref (r 20), .ref (r 21), .ref (r 22), .ref (r 23), .ref (r 24), .ref (r 25), .ref (r 26), .ref (r 27), .ref (r 28), .ref (r 29), .ref (r 30), .ref (r 31), .ref (r 32), .ref (r 33), .int 0, .int 0, .int 0, .int 0, .int 0, .int 0, .int 0, .ref (r 41), .ref (r 42), .ref (r 43), .ref (r 44), .int 0, .int 0, .int 0, .ref (r 48), .int 0, .int 0, .ref (r 51), .ref (r 52), .ref (r 53), .ref (r 54), .int 0, .ref (r 56), .ref (r 57), .ref (r 58), .int 0, .ref (r 60), .ref (r 61), .ref (r 62), .ref (r 63), .ref (r 64), .ref (r 65), .ref (r 66), .ref (r 67), .ref (r 68), .int 0, .int 0, .int 0, .ref (r 72), .ref (r 73)])), (r 41, .inl (cy 0, 15, .inl (fun _ => 0))), (r 72, .inl (cy 0, 45, .inl (fun _ => 0))), (r 73, .inl (cy 3, 3, .inl (fun _ => 0)))] := hD
      refine lv_iinc (v := 12) (lv' := [(2, .int 12), (0, .ref h0), (1, .int 1)]) hx hb dX12_image_36 hl (k := 0) rfl (by decide +kernel) (by decide) rfl (fun ls hl => ?_)
      refine lv_goto (tgt := 13) hx hb dX12_image_39 (by decide) ?_
      refine lv_iload_n hx hb dX12_image_13 rfl (lv_at hl 0 rfl) ?_
      refine lv_bipush (v := 15) hx hb dX12_image_14 (by decide +kernel) ?_
      refine lv_icmp_ge (tgt := 42) hx hb dX12_image_16 (by decide) (fun c_ => absurd c_ (by decide +kernel)) (fun _ => ?_)
      refine lv_aload_n hx hb dX12_image_19 rfl (lv_at hl 1 rfl) ?_
      refine va_get (D := (dC, dI)) (ci := 12) (v := .ref (r 72)) (C := RX12) (T := TX12) (N := 74) hx hb hts inlX12 hown hK hP 0 rfl rfl 72 (by decide) (hts _ m_265) (fun _ h9 => h9) rfl dX12_image_20 ?_
      refine lv_bipush (v := 15) hx hb dX12_image_23 (by decide +kernel) ?_
      refine lv_iload_n hx hb dX12_image_25 rfl (lv_at hl 2 rfl) ?_
      refine lv_imul hx hb dX12_image_26 ?_
      refine lv_topi (fun z_63 ez_63 => ?_)
      obtain rfl : z_63 = 15 := ez_63.trans (by decide +kernel)
      refine lv_iload_n hx hb dX12_image_27 rfl (lv_at hl 0 rfl) ?_
      refine lv_iadd hx hb dX12_image_28 ?_
      refine lv_topi (fun z_64 ez_64 => ?_)
      obtain rfl : z_64 = 27 := ez_64.trans (by decide +kernel)
      refine lv_aload_n hx hb dX12_image_29 rfl (lv_at hl 1 rfl) ?_
      refine va_get (D := (dC, dI)) (ci := 12) (v := .ref (r 41)) (C := RX12) (T := TX12) (N := 74) hx hb hts inlX12 hown hK hP 0 rfl rfl 41 (by decide) (hts _ m_244) (fun _ h9 => h9) rfl dX12_image_30 ?_
      refine lv_iload_n hx hb dX12_image_33 rfl (lv_at hl 0 rfl) ?_
      refine va_iald hx hb hK hP 1 0 rfl rfl vi_12_15 dX12_image_34 ?_
      refine W.eq (g2 := F0 m 35 ls [.int 0, .int 27, .ref (r 72)]) rfl ?_
      refine va_iast hx hb hK hP hD hS 2 0 rfl rfl vi_27_45 dX12_image_35 (fun H locs hP hD hS => ?_)
      rw [show upd (fun _ => 0) (Int32.toNatClampNeg 27) 0 = (fun _ => 0) from xa_upd0 rfl] at hP hD
      have hP : va_P (dC, dI) classes [(h0, .inr (12, [.ref (r 0), .ref (r 1), .int 0, .int 0, .int 0, .int (-1), .int 0, .int 0, .int 0, .int 0, .long 0, .ref (r 11), .ref (r 12), .ref (r 13), .ref (r 14), .ref (r 15), .ref (r 16), .ref (r 17), .ref (r 18), .ref (r 19), .ref (r 20), .ref (r 21), .ref (r 22), .ref (r 23), .ref (r 24), .ref (r 25), .ref (r 26), .ref (r 27), .ref (r 28), .ref (r 29), .ref (r 30), .ref (r 31), .ref (r 32), .ref (r 33), .int 0, .int 0, .int 0, .int 0, .int 0, .int 0, .int 0, .ref (r 41), .ref (r 42), .ref (r 43), .ref (r 44), .int 0, .int 0, .int 0, .ref (r 48), .int 0, .int 0, .ref (r 51), .ref (r 52), .ref (r 53), .ref (r 54), .int 0, .ref (r 56), .ref (r 57), .ref (r 58), .int 0, .ref (r 60), .ref (r 61), .ref (r 62), .ref (r 63), .ref (r 64), .ref (r 65), .ref (r 66), .ref (r 67), .ref (r 68), .int 0, .int 0, .int 0, .ref (r 72), .ref (r 73)])), (r 41, .inl (cy 0, 15, .inl (fun _ => 0))), (r 72, .inl (cy 0, 45, .inl (fun _ => 0))), (r 73, .inl (cy 3, 3, .inl (fun _ => 0)))] H := hP
      have hD : va_D A [(h0, .inr (12, [.ref (r 0), .ref (r 1), .int 0, .int 0, .int 0, .int (-1), .int 0, .int 0, .int 0, .int 0, .long 0, .ref (r 11), .ref (r 12), .ref (r 13), .ref (r 14), .ref (r 15), .ref (r 16), .ref (r 17), .ref (r 18), .ref (r 19), .ref (r 20), .ref (r 21), .ref (r 22), .ref (r 23), .ref (r 24), .ref (r 25), .ref (r 26), .ref (r 27), .ref (r 28), .ref (r 29), .ref (r 30), .ref (r 31), .ref (r 32), .ref (r 33), .int 0, .int 0, .int 0, .int 0, .int 0, .int 0, .int 0, .ref (r 41), .ref (r 42), .ref (r 43), .ref (r 44), .int 0, .int 0, .int 0, .ref (r 48), .int 0, .int 0, .ref (r 51), .ref (r 52), .ref (r 53), .ref (r 54), .int 0, .ref (r 56), .ref (r 57), .ref (r 58), .int 0, .ref (r 60), .ref (r 61), .ref (r 62), .ref (r 63), .ref (r 64), .ref (r 65), .ref (r 66), .ref (r 67), .ref (r 68), .int 0, .int 0, .int 0, .ref (r 72), .ref (r 73)])), (r 41, .inl (cy 0, 15, .inl (fun _ => 0))), (r 72, .inl (cy 0, 45, .inl (fun _ => 0))), (r 73, .inl (cy 3, 3, .inl (fun _ => 0)))] := hD
      refine lv_iinc (v := 13) (lv' := [(2, .int 13), (0, .ref h0), (1, .int 1)]) hx hb dX12_image_36 hl (k := 0) rfl (by decide +kernel) (by decide) rfl (fun ls hl => ?_)
      refine lv_goto (tgt := 13) hx hb dX12_image_39 (by decide) ?_
      refine lv_iload_n hx hb dX12_image_13 rfl (lv_at hl 0 rfl) ?_
      refine lv_bipush (v := 15) hx hb dX12_image_14 (by decide +kernel) ?_
      refine lv_icmp_ge (tgt := 42) hx hb dX12_image_16 (by decide) (fun c_ => absurd c_ (by decide +kernel)) (fun _ => ?_)
      refine lv_aload_n hx hb dX12_image_19 rfl (lv_at hl 1 rfl) ?_
      refine va_get (D := (dC, dI)) (ci := 12) (v := .ref (r 72)) (C := RX12) (T := TX12) (N := 74) hx hb hts inlX12 hown hK hP 0 rfl rfl 72 (by decide) (hts _ m_265) (fun _ h9 => h9) rfl dX12_image_20 ?_
      refine lv_bipush (v := 15) hx hb dX12_image_23 (by decide +kernel) ?_
      refine lv_iload_n hx hb dX12_image_25 rfl (lv_at hl 2 rfl) ?_
      refine lv_imul hx hb dX12_image_26 ?_
      refine lv_topi (fun z_65 ez_65 => ?_)
      obtain rfl : z_65 = 15 := ez_65.trans (by decide +kernel)
      refine lv_iload_n hx hb dX12_image_27 rfl (lv_at hl 0 rfl) ?_
      refine lv_iadd hx hb dX12_image_28 ?_
      refine lv_topi (fun z_66 ez_66 => ?_)
      obtain rfl : z_66 = 28 := ez_66.trans (by decide +kernel)
      refine lv_aload_n hx hb dX12_image_29 rfl (lv_at hl 1 rfl) ?_
      refine va_get (D := (dC, dI)) (ci := 12) (v := .ref (r 41)) (C := RX12) (T := TX12) (N := 74) hx hb hts inlX12 hown hK hP 0 rfl rfl 41 (by decide) (hts _ m_244) (fun _ h9 => h9) rfl dX12_image_30 ?_
      refine lv_iload_n hx hb dX12_image_33 rfl (lv_at hl 0 rfl) ?_
      refine va_iald hx hb hK hP 1 0 rfl rfl vi_13_15 dX12_image_34 ?_
      refine W.eq (g2 := F0 m 35 ls [.int 0, .int 28, .ref (r 72)]) rfl ?_
      refine va_iast hx hb hK hP hD hS 2 0 rfl rfl vi_28_45 dX12_image_35 (fun H locs hP hD hS => ?_)
      rw [show upd (fun _ => 0) (Int32.toNatClampNeg 28) 0 = (fun _ => 0) from xa_upd0 rfl] at hP hD
      have hP : va_P (dC, dI) classes [(h0, .inr (12, [.ref (r 0), .ref (r 1), .int 0, .int 0, .int 0, .int (-1), .int 0, .int 0, .int 0, .int 0, .long 0, .ref (r 11), .ref (r 12), .ref (r 13), .ref (r 14), .ref (r 15), .ref (r 16), .ref (r 17), .ref (r 18), .ref (r 19), .ref (r 20), .ref (r 21), .ref (r 22), .ref (r 23), .ref (r 24), .ref (r 25), .ref (r 26), .ref (r 27), .ref (r 28), .ref (r 29), .ref (r 30), .ref (r 31), .ref (r 32), .ref (r 33), .int 0, .int 0, .int 0, .int 0, .int 0, .int 0, .int 0, .ref (r 41), .ref (r 42), .ref (r 43), .ref (r 44), .int 0, .int 0, .int 0, .ref (r 48), .int 0, .int 0, .ref (r 51), .ref (r 52), .ref (r 53), .ref (r 54), .int 0, .ref (r 56), .ref (r 57), .ref (r 58), .int 0, .ref (r 60), .ref (r 61), .ref (r 62), .ref (r 63), .ref (r 64), .ref (r 65), .ref (r 66), .ref (r 67), .ref (r 68), .int 0, .int 0, .int 0, .ref (r 72), .ref (r 73)])), (r 41, .inl (cy 0, 15, .inl (fun _ => 0))), (r 72, .inl (cy 0, 45, .inl (fun _ => 0))), (r 73, .inl (cy 3, 3, .inl (fun _ => 0)))] H := hP
      have hD : va_D A [(h0, .inr (12, [.ref (r 0), .ref (r 1), .int 0, .int 0, .int 0, .int (-1), .int 0, .int 0, .int 0, .int 0, .long 0, .ref (r 11), .ref (r 12), .ref (r 13), .ref (r 14), .ref (r 15), .ref (r 16), .ref (r 17), .ref (r 18), .ref (r 19), .ref (r 20), .ref (r 21), .ref (r 22), .ref (r 23), .ref (r 24), .ref (r 25), .ref (r 26), .ref (r 27), .ref (r 28), .ref (r 29), .ref (r 30), .ref (r 31), .ref (r 32), .ref (r 33), .int 0, .int 0, .int 0, .int 0, .int 0, .int 0, .int 0, .ref (r 41), .ref (r 42), .ref (r 43), .ref (r 44), .int 0, .int 0, .int 0, .ref (r 48), .int 0, .int 0, .ref (r 51), .ref (r 52), .ref (r 53), .ref (r 54), .int 0, .ref (r 56), .ref (r 57), .ref (r 58), .int 0, .ref (r 60), .ref (r 61), .ref (r 62), .ref (r 63), .ref (r 64), .ref (r 65), .ref (r 66), .ref (r 67), .ref (r 68), .int 0, .int 0, .int 0, .ref (r 72), .ref (r 73)])), (r 41, .inl (cy 0, 15, .inl (fun _ => 0))), (r 72, .inl (cy 0, 45, .inl (fun _ => 0))), (r 73, .inl (cy 3, 3, .inl (fun _ => 0)))] := hD
      refine lv_iinc (v := 14) (lv' := [(2, .int 14), (0, .ref h0), (1, .int 1)]) hx hb dX12_image_36 hl (k := 0) rfl (by decide +kernel) (by decide) rfl (fun ls hl => ?_)
      refine lv_goto (tgt := 13) hx hb dX12_image_39 (by decide) ?_
      refine lv_iload_n hx hb dX12_image_13 rfl (lv_at hl 0 rfl) ?_
      refine lv_bipush (v := 15) hx hb dX12_image_14 (by decide +kernel) ?_
      refine lv_icmp_ge (tgt := 42) hx hb dX12_image_16 (by decide) (fun c_ => absurd c_ (by decide +kernel)) (fun _ => ?_)
      refine lv_aload_n hx hb dX12_image_19 rfl (lv_at hl 1 rfl) ?_
      refine va_get (D := (dC, dI)) (ci := 12) (v := .ref (r 72)) (C := RX12) (T := TX12) (N := 74) hx hb hts inlX12 hown hK hP 0 rfl rfl 72 (by decide) (hts _ m_265) (fun _ h9 => h9) rfl dX12_image_20 ?_
      refine lv_bipush (v := 15) hx hb dX12_image_23 (by decide +kernel) ?_
      refine lv_iload_n hx hb dX12_image_25 rfl (lv_at hl 2 rfl) ?_
      refine lv_imul hx hb dX12_image_26 ?_
      refine lv_topi (fun z_67 ez_67 => ?_)
      obtain rfl : z_67 = 15 := ez_67.trans (by decide +kernel)
      refine lv_iload_n hx hb dX12_image_27 rfl (lv_at hl 0 rfl) ?_
      refine lv_iadd hx hb dX12_image_28 ?_
      refine lv_topi (fun z_68 ez_68 => ?_)
      obtain rfl : z_68 = 29 := ez_68.trans (by decide +kernel)
      refine lv_aload_n hx hb dX12_image_29 rfl (lv_at hl 1 rfl) ?_
      refine va_get (D := (dC, dI)) (ci := 12) (v := .ref (r 41)) (C := RX12) (T := TX12) (N := 74) hx hb hts inlX12 hown hK hP 0 rfl rfl 41 (by decide) (hts _ m_244) (fun _ h9 => h9) rfl dX12_image_30 ?_
      refine lv_iload_n hx hb dX12_image_33 rfl (lv_at hl 0 rfl) ?_
      refine va_iald hx hb hK hP 1 0 rfl rfl vi_14_15 dX12_image_34 ?_
      refine W.eq (g2 := F0 m 35 ls [.int 0, .int 29, .ref (r 72)]) rfl ?_
      refine va_iast hx hb hK hP hD hS 2 0 rfl rfl vi_29_45 dX12_image_35 (fun H locs hP hD hS => ?_)
      rw [show upd (fun _ => 0) (Int32.toNatClampNeg 29) 0 = (fun _ => 0) from xa_upd0 rfl] at hP hD
      have hP : va_P (dC, dI) classes [(h0, .inr (12, [.ref (r 0), .ref (r 1), .int 0, .int 0, .int 0, .int (-1), .int 0, .int 0, .int 0, .int 0, .long 0, .ref (r 11), .ref (r 12), .ref (r 13), .ref (r 14), .ref (r 15), .ref (r 16), .ref (r 17), .ref (r 18), .ref (r 19), .ref (r 20), .ref (r 21), .ref (r 22), .ref (r 23), .ref (r 24), .ref (r 25), .ref (r 26), .ref (r 27), .ref (r 28), .ref (r 29), .ref (r 30), .ref (r 31), .ref (r 32), .ref (r 33), .int 0, .int 0, .int 0, .int 0, .int 0, .int 0, .int 0, .ref (r 41), .ref (r 42), .ref (r 43), .ref (r 44), .int 0, .int 0, .int 0, .ref (r 48), .int 0, .int 0, .ref (r 51), .ref (r 52), .ref (r 53), .ref (r 54), .int 0, .ref (r 56), .ref (r 57), .ref (r 58), .int 0, .ref (r 60), .ref (r 61), .ref (r 62), .ref (r 63), .ref (r 64), .ref (r 65), .ref (r 66), .ref (r 67), .ref (r 68), .int 0, .int 0, .int 0, .ref (r 72), .ref (r 73)])), (r 41, .inl (cy 0, 15, .inl (fun _ => 0))), (r 72, .inl (cy 0, 45, .inl (fun _ => 0))), (r 73, .inl (cy 3, 3, .inl (fun _ => 0)))] H := hP
      have hD : va_D A [(h0, .inr (12, [.ref (r 0), .ref (r 1), .int 0, .int 0, .int 0, .int (-1), .int 0, .int 0, .int 0, .int 0, .long 0, .ref (r 11), .ref (r 12), .ref (r 13), .ref (r 14), .ref (r 15), .ref (r 16), .ref (r 17), .ref (r 18), .ref (r 19), .ref (r 20), .ref (r 21), .ref (r 22), .ref (r 23), .ref (r 24), .ref (r 25), .ref (r 26), .ref (r 27), .ref (r 28), .ref (r 29), .ref (r 30), .ref (r 31), .ref (r 32), .ref (r 33), .int 0, .int 0, .int 0, .int 0, .int 0, .int 0, .int 0, .ref (r 41), .ref (r 42), .ref (r 43), .ref (r 44), .int 0, .int 0, .int 0, .ref (r 48), .int 0, .int 0, .ref (r 51), .ref (r 52), .ref (r 53), .ref (r 54), .int 0, .ref (r 56), .ref (r 57), .ref (r 58), .int 0, .ref (r 60), .ref (r 61), .ref (r 62), .ref (r 63), .ref (r 64), .ref (r 65), .ref (r 66), .ref (r 67), .ref (r 68), .int 0, .int 0, .int 0, .ref (r 72), .ref (r 73)])), (r 41, .inl (cy 0, 15, .inl (fun _ => 0))), (r 72, .inl (cy 0, 45, .inl (fun _ => 0))), (r 73, .inl (cy 3, 3, .inl (fun _ => 0)))] := hD
      refine lv_iinc (v := 15) (lv' := [(2, .int 15), (0, .ref h0), (1, .int 1)]) hx hb dX12_image_36 hl (k := 0) rfl (by decide +kernel) (by decide) rfl (fun ls hl => ?_)
      refine lv_goto (tgt := 13) hx hb dX12_image_39 (by decide) ?_
      refine lv_iload_n hx hb dX12_image_13 rfl (lv_at hl 0 rfl) ?_
      refine lv_bipush (v := 15) hx hb dX12_image_14 (by decide +kernel) ?_
      refine lv_icmp_ge (tgt := 42) hx hb dX12_image_16 (by decide) (fun _ => ?_) (fun c_ => absurd (by decide +kernel) c_)
      refine lv_aload_n hx hb dX12_image_42 rfl (lv_at hl 1 rfl) ?_
      refine va_get (D := (dC, dI)) (ci := 12) (v := .ref (r 73)) (C := RX12) (T := TX12) (N := 74) hx hb hts inlX12 hown hK hP 0 rfl rfl 73 (by decide) (hts _ m_266) (fun _ h9 => h9) rfl dX12_image_43 ?_
      refine lv_iload_n hx hb dX12_image_46 rfl (lv_at hl 2 rfl) ?_
      refine lv_iconst (v := 1) hx hb dX12_image_47 (by decide +kernel) ?_
      refine va_zast hx hb hK hP hD hS 3 3 rfl rfl vi_1_3 dX12_image_48 (fun H locs hP hD hS => ?_)
      generalize upd (fun _ => 0) (Int32.toNatClampNeg 1) (vp_nar .boolean 1) = f_69 at hP hD
      have hP : va_P (dC, dI) classes [(h0, .inr (12, [.ref (r 0), .ref (r 1), .int 0, .int 0, .int 0, .int (-1), .int 0, .int 0, .int 0, .int 0, .long 0, .ref (r 11), .ref (r 12), .ref (r 13), .ref (r 14), .ref (r 15), .ref (r 16), .ref (r 17), .ref (r 18), .ref (r 19), .ref (r 20), .ref (r 21), .ref (r 22), .ref (r 23), .ref (r 24), .ref (r 25), .ref (r 26), .ref (r 27), .ref (r 28), .ref (r 29), .ref (r 30), .ref (r 31), .ref (r 32), .ref (r 33), .int 0, .int 0, .int 0, .int 0, .int 0, .int 0, .int 0, .ref (r 41), .ref (r 42), .ref (r 43), .ref (r 44), .int 0, .int 0, .int 0, .ref (r 48), .int 0, .int 0, .ref (r 51), .ref (r 52), .ref (r 53), .ref (r 54), .int 0, .ref (r 56), .ref (r 57), .ref (r 58), .int 0, .ref (r 60), .ref (r 61), .ref (r 62), .ref (r 63), .ref (r 64), .ref (r 65), .ref (r 66), .ref (r 67), .ref (r 68), .int 0, .int 0, .int 0, .ref (r 72), .ref (r 73)])), (r 41, .inl (cy 0, 15, .inl (fun _ => 0))), (r 72, .inl (cy 0, 45, .inl (fun _ => 0))), (r 73, .inl (cy 3, 3, .inl f_69))] H := hP
      have hD : va_D A [(h0, .inr (12, [.ref (r 0), .ref (r 1), .int 0, .int 0, .int 0, .int (-1), .int 0, .int 0, .int 0, .int 0, .long 0, .ref (r 11), .ref (r 12), .ref (r 13), .ref (r 14), .ref (r 15), .ref (r 16), .ref (r 17), .ref (r 18), .ref (r 19), .ref (r 20), .ref (r 21), .ref (r 22), .ref (r 23), .ref (r 24), .ref (r 25), .ref (r 26), .ref (r 27), .ref (r 28), .ref (r 29), .ref (r 30), .ref (r 31), .ref (r 32), .ref (r 33), .int 0, .int 0, .int 0, .int 0, .int 0, .int 0, .int 0, .ref (r 41), .ref (r 42), .ref (r 43), .ref (r 44), .int 0, .int 0, .int 0, .ref (r 48), .int 0, .int 0, .ref (r 51), .ref (r 52), .ref (r 53), .ref (r 54), .int 0, .ref (r 56), .ref (r 57), .ref (r 58), .int 0, .ref (r 60), .ref (r 61), .ref (r 62), .ref (r 63), .ref (r 64), .ref (r 65), .ref (r 66), .ref (r 67), .ref (r 68), .int 0, .int 0, .int 0, .ref (r 72), .ref (r 73)])), (r 41, .inl (cy 0, 15, .inl (fun _ => 0))), (r 72, .inl (cy 0, 45, .inl (fun _ => 0))), (r 73, .inl (cy 3, 3, .inl f_69))] := hD
      refine lv_aload_n hx hb dX12_image_49 rfl (lv_at hl 1 rfl) ?_
      refine va_get (D := (dC, dI)) (ci := 12) (v := .ref (r 41)) (C := RX12) (T := TX12) (N := 74) hx hb hts inlX12 hown hK hP 0 rfl rfl 41 (by decide) (hts _ m_244) (fun _ h9 => h9) rfl dX12_image_50 ?_
      refine lv_bipush (v := 13) hx hb dX12_image_53 (by decide +kernel) ?_
      refine va_iald hx hb hK hP 1 0 rfl rfl vi_13_15 dX12_image_55 ?_
      refine W.eq (g2 := F0 m 56 ls [.int 0]) rfl ?_
      exact W.iret (v := 0) hx hb hr (fun t ht hW => ⟨⟨0, (), rfl, Or.inr (Or.inr (Or.inr (Or.inl ⟨rfl, c_5, c_6, rfl⟩))), trivial⟩, hS.F ht⟩) hS.2.2 dX12_image_56
    · subst c_7
      refine lv_iconst (v := 0) hx hb dX12_image_11 (by decide +kernel) ?_
      refine lv_istore_n (lv' := [(2, .int 0), (0, .ref h0), (1, .int 2)]) hx hb dX12_image_12 rfl hl (by decide) rfl (fun ls hl => ?_)
      refine lv_iload_n hx hb dX12_image_13 rfl (lv_at hl 0 rfl) ?_
      refine lv_bipush (v := 15) hx hb dX12_image_14 (by decide +kernel) ?_
      refine lv_icmp_ge (tgt := 42) hx hb dX12_image_16 (by decide) (fun c_ => absurd c_ (by decide +kernel)) (fun _ => ?_)
      refine lv_aload_n hx hb dX12_image_19 rfl (lv_at hl 1 rfl) ?_
      refine va_get (D := (dC, dI)) (ci := 12) (v := .ref (r 72)) (C := RX12) (T := TX12) (N := 74) hx hb hts inlX12 hown hK hP 0 rfl rfl 72 (by decide) (hts _ m_265) (fun _ h9 => h9) rfl dX12_image_20 ?_
      refine lv_bipush (v := 15) hx hb dX12_image_23 (by decide +kernel) ?_
      refine lv_iload_n hx hb dX12_image_25 rfl (lv_at hl 2 rfl) ?_
      refine lv_imul hx hb dX12_image_26 ?_
      refine lv_topi (fun z_70 ez_70 => ?_)
      obtain rfl : z_70 = 30 := ez_70.trans (by decide +kernel)
      refine lv_iload_n hx hb dX12_image_27 rfl (lv_at hl 0 rfl) ?_
      refine lv_iadd hx hb dX12_image_28 ?_
      refine lv_topi (fun z_71 ez_71 => ?_)
      obtain rfl : z_71 = 30 := ez_71.trans (by decide +kernel)
      refine lv_aload_n hx hb dX12_image_29 rfl (lv_at hl 1 rfl) ?_
      refine va_get (D := (dC, dI)) (ci := 12) (v := .ref (r 41)) (C := RX12) (T := TX12) (N := 74) hx hb hts inlX12 hown hK hP 0 rfl rfl 41 (by decide) (hts _ m_244) (fun _ h9 => h9) rfl dX12_image_30 ?_
      refine lv_iload_n hx hb dX12_image_33 rfl (lv_at hl 0 rfl) ?_
      refine va_iald hx hb hK hP 1 0 rfl rfl vi_0_15 dX12_image_34 ?_
      refine W.eq (g2 := F0 m 35 ls [.int 0, .int 30, .ref (r 72)]) rfl ?_
      refine va_iast hx hb hK hP hD hS 2 0 rfl rfl vi_30_45 dX12_image_35 (fun H locs hP hD hS => ?_)
      rw [show upd (fun _ => 0) (Int32.toNatClampNeg 30) 0 = (fun _ => 0) from xa_upd0 rfl] at hP hD
      have hP : va_P (dC, dI) classes [(h0, .inr (12, [.ref (r 0), .ref (r 1), .int 0, .int 0, .int 0, .int (-1), .int 0, .int 0, .int 0, .int 0, .long 0, .ref (r 11), .ref (r 12), .ref (r 13), .ref (r 14), .ref (r 15), .ref (r 16), .ref (r 17), .ref (r 18), .ref (r 19), .ref (r 20), .ref (r 21), .ref (r 22), .ref (r 23), .ref (r 24), .ref (r 25), .ref (r 26), .ref (r 27), .ref (r 28), .ref (r 29), .ref (r 30), .ref (r 31), .ref (r 32), .ref (r 33), .int 0, .int 0, .int 0, .int 0, .int 0, .int 0, .int 0, .ref (r 41), .ref (r 42), .ref (r 43), .ref (r 44), .int 0, .int 0, .int 0, .ref (r 48), .int 0, .int 0, .ref (r 51), .ref (r 52), .ref (r 53), .ref (r 54), .int 0, .ref (r 56), .ref (r 57), .ref (r 58), .int 0, .ref (r 60), .ref (r 61), .ref (r 62), .ref (r 63), .ref (r 64), .ref (r 65), .ref (r 66), .ref (r 67), .ref (r 68), .int 0, .int 0, .int 0, .ref (r 72), .ref (r 73)])), (r 41, .inl (cy 0, 15, .inl (fun _ => 0))), (r 72, .inl (cy 0, 45, .inl (fun _ => 0))), (r 73, .inl (cy 3, 3, .inl (fun _ => 0)))] H := hP
      have hD : va_D A [(h0, .inr (12, [.ref (r 0), .ref (r 1), .int 0, .int 0, .int 0, .int (-1), .int 0, .int 0, .int 0, .int 0, .long 0, .ref (r 11), .ref (r 12), .ref (r 13), .ref (r 14), .ref (r 15), .ref (r 16), .ref (r 17), .ref (r 18), .ref (r 19), .ref (r 20), .ref (r 21), .ref (r 22), .ref (r 23), .ref (r 24), .ref (r 25), .ref (r 26), .ref (r 27), .ref (r 28), .ref (r 29), .ref (r 30), .ref (r 31), .ref (r 32), .ref (r 33), .int 0, .int 0, .int 0, .int 0, .int 0, .int 0, .int 0, .ref (r 41), .ref (r 42), .ref (r 43), .ref (r 44), .int 0, .int 0, .int 0, .ref (r 48), .int 0, .int 0, .ref (r 51), .ref (r 52), .ref (r 53), .ref (r 54), .int 0, .ref (r 56), .ref (r 57), .ref (r 58), .int 0, .ref (r 60), .ref (r 61), .ref (r 62), .ref (r 63), .ref (r 64), .ref (r 65), .ref (r 66), .ref (r 67), .ref (r 68), .int 0, .int 0, .int 0, .ref (r 72), .ref (r 73)])), (r 41, .inl (cy 0, 15, .inl (fun _ => 0))), (r 72, .inl (cy 0, 45, .inl (fun _ => 0))), (r 73, .inl (cy 3, 3, .inl (fun _ => 0)))] := hD
      refine lv_iinc (v := 1) (lv' := [(2, .int 1), (0, .ref h0), (1, .int 2)]) hx hb dX12_image_36 hl (k := 0) rfl (by decide +kernel) (by decide) rfl (fun ls hl => ?_)
      refine lv_goto (tgt := 13) hx hb dX12_image_39 (by decide) ?_
      refine lv_iload_n hx hb dX12_image_13 rfl (lv_at hl 0 rfl) ?_
      refine lv_bipush (v := 15) hx hb dX12_image_14 (by decide +kernel) ?_
      refine lv_icmp_ge (tgt := 42) hx hb dX12_image_16 (by decide) (fun c_ => absurd c_ (by decide +kernel)) (fun _ => ?_)
      refine lv_aload_n hx hb dX12_image_19 rfl (lv_at hl 1 rfl) ?_
      refine va_get (D := (dC, dI)) (ci := 12) (v := .ref (r 72)) (C := RX12) (T := TX12) (N := 74) hx hb hts inlX12 hown hK hP 0 rfl rfl 72 (by decide) (hts _ m_265) (fun _ h9 => h9) rfl dX12_image_20 ?_
      refine lv_bipush (v := 15) hx hb dX12_image_23 (by decide +kernel) ?_
      refine lv_iload_n hx hb dX12_image_25 rfl (lv_at hl 2 rfl) ?_
      refine lv_imul hx hb dX12_image_26 ?_
      refine lv_topi (fun z_72 ez_72 => ?_)
      obtain rfl : z_72 = 30 := ez_72.trans (by decide +kernel)
      refine lv_iload_n hx hb dX12_image_27 rfl (lv_at hl 0 rfl) ?_
      refine lv_iadd hx hb dX12_image_28 ?_
      refine lv_topi (fun z_73 ez_73 => ?_)
      obtain rfl : z_73 = 31 := ez_73.trans (by decide +kernel)
      refine lv_aload_n hx hb dX12_image_29 rfl (lv_at hl 1 rfl) ?_
      refine va_get (D := (dC, dI)) (ci := 12) (v := .ref (r 41)) (C := RX12) (T := TX12) (N := 74) hx hb hts inlX12 hown hK hP 0 rfl rfl 41 (by decide) (hts _ m_244) (fun _ h9 => h9) rfl dX12_image_30 ?_
      refine lv_iload_n hx hb dX12_image_33 rfl (lv_at hl 0 rfl) ?_
      refine va_iald hx hb hK hP 1 0 rfl rfl vi_1_15 dX12_image_34 ?_
      refine W.eq (g2 := F0 m 35 ls [.int 0, .int 31, .ref (r 72)]) rfl ?_
      refine va_iast hx hb hK hP hD hS 2 0 rfl rfl vi_31_45 dX12_image_35 (fun H locs hP hD hS => ?_)
      rw [show upd (fun _ => 0) (Int32.toNatClampNeg 31) 0 = (fun _ => 0) from xa_upd0 rfl] at hP hD
      have hP : va_P (dC, dI) classes [(h0, .inr (12, [.ref (r 0), .ref (r 1), .int 0, .int 0, .int 0, .int (-1), .int 0, .int 0, .int 0, .int 0, .long 0, .ref (r 11), .ref (r 12), .ref (r 13), .ref (r 14), .ref (r 15), .ref (r 16), .ref (r 17), .ref (r 18), .ref (r 19), .ref (r 20), .ref (r 21), .ref (r 22), .ref (r 23), .ref (r 24), .ref (r 25), .ref (r 26), .ref (r 27), .ref (r 28), .ref (r 29), .ref (r 30), .ref (r 31), .ref (r 32), .ref (r 33), .int 0, .int 0, .int 0, .int 0, .int 0, .int 0, .int 0, .ref (r 41), .ref (r 42), .ref (r 43), .ref (r 44), .int 0, .int 0, .int 0, .ref (r 48), .int 0, .int 0, .ref (r 51), .ref (r 52), .ref (r 53), .ref (r 54), .int 0, .ref (r 56), .ref (r 57), .ref (r 58), .int 0, .ref (r 60), .ref (r 61), .ref (r 62), .ref (r 63), .ref (r 64), .ref (r 65), .ref (r 66), .ref (r 67), .ref (r 68), .int 0, .int 0, .int 0, .ref (r 72), .ref (r 73)])), (r 41, .inl (cy 0, 15, .inl (fun _ => 0))), (r 72, .inl (cy 0, 45, .inl (fun _ => 0))), (r 73, .inl (cy 3, 3, .inl (fun _ => 0)))] H := hP
      have hD : va_D A [(h0, .inr (12, [.ref (r 0), .ref (r 1), .int 0, .int 0, .int 0, .int (-1), .int 0, .int 0, .int 0, .int 0, .long 0, .ref (r 11), .ref (r 12), .ref (r 13), .ref (r 14), .ref (r 15), .ref (r 16), .ref (r 17), .ref (r 18), .ref (r 19), .ref (r 20), .ref (r 21), .ref (r 22), .ref (r 23), .ref (r 24), .ref (r 25), .ref (r 26), .ref (r 27), .ref (r 28), .ref (r 29), .ref (r 30), .ref (r 31), .ref (r 32), .ref (r 33), .int 0, .int 0, .int 0, .int 0, .int 0, .int 0, .int 0, .ref (r 41), .ref (r 42), .ref (r 43), .ref (r 44), .int 0, .int 0, .int 0, .ref (r 48), .int 0, .int 0, .ref (r 51), .ref (r 52), .ref (r 53), .ref (r 54), .int 0, .ref (r 56), .ref (r 57), .ref (r 58), .int 0, .ref (r 60), .ref (r 61), .ref (r 62), .ref (r 63), .ref (r 64), .ref (r 65), .ref (r 66), .ref (r 67), .ref (r 68), .int 0, .int 0, .int 0, .ref (r 72), .ref (r 73)])), (r 41, .inl (cy 0, 15, .inl (fun _ => 0))), (r 72, .inl (cy 0, 45, .inl (fun _ => 0))), (r 73, .inl (cy 3, 3, .inl (fun _ => 0)))] := hD
      refine lv_iinc (v := 2) (lv' := [(2, .int 2), (0, .ref h0), (1, .int 2)]) hx hb dX12_image_36 hl (k := 0) rfl (by decide +kernel) (by decide) rfl (fun ls hl => ?_)
      refine lv_goto (tgt := 13) hx hb dX12_image_39 (by decide) ?_
      refine lv_iload_n hx hb dX12_image_13 rfl (lv_at hl 0 rfl) ?_
      refine lv_bipush (v := 15) hx hb dX12_image_14 (by decide +kernel) ?_
      refine lv_icmp_ge (tgt := 42) hx hb dX12_image_16 (by decide) (fun c_ => absurd c_ (by decide +kernel)) (fun _ => ?_)
      refine lv_aload_n hx hb dX12_image_19 rfl (lv_at hl 1 rfl) ?_
      refine va_get (D := (dC, dI)) (ci := 12) (v := .ref (r 72)) (C := RX12) (T := TX12) (N := 74) hx hb hts inlX12 hown hK hP 0 rfl rfl 72 (by decide) (hts _ m_265) (fun _ h9 => h9) rfl dX12_image_20 ?_
      refine lv_bipush (v := 15) hx hb dX12_image_23 (by decide +kernel) ?_
      refine lv_iload_n hx hb dX12_image_25 rfl (lv_at hl 2 rfl) ?_
      refine lv_imul hx hb dX12_image_26 ?_
      refine lv_topi (fun z_74 ez_74 => ?_)
      obtain rfl : z_74 = 30 := ez_74.trans (by decide +kernel)
      refine lv_iload_n hx hb dX12_image_27 rfl (lv_at hl 0 rfl) ?_
      refine lv_iadd hx hb dX12_image_28 ?_
      refine lv_topi (fun z_75 ez_75 => ?_)
      obtain rfl : z_75 = 32 := ez_75.trans (by decide +kernel)
      refine lv_aload_n hx hb dX12_image_29 rfl (lv_at hl 1 rfl) ?_
      refine va_get (D := (dC, dI)) (ci := 12) (v := .ref (r 41)) (C := RX12) (T := TX12) (N := 74) hx hb hts inlX12 hown hK hP 0 rfl rfl 41 (by decide) (hts _ m_244) (fun _ h9 => h9) rfl dX12_image_30 ?_
      refine lv_iload_n hx hb dX12_image_33 rfl (lv_at hl 0 rfl) ?_
      refine va_iald hx hb hK hP 1 0 rfl rfl vi_2_15 dX12_image_34 ?_
      refine W.eq (g2 := F0 m 35 ls [.int 0, .int 32, .ref (r 72)]) rfl ?_
      refine va_iast hx hb hK hP hD hS 2 0 rfl rfl vi_32_45 dX12_image_35 (fun H locs hP hD hS => ?_)
      rw [show upd (fun _ => 0) (Int32.toNatClampNeg 32) 0 = (fun _ => 0) from xa_upd0 rfl] at hP hD
      have hP : va_P (dC, dI) classes [(h0, .inr (12, [.ref (r 0), .ref (r 1), .int 0, .int 0, .int 0, .int (-1), .int 0, .int 0, .int 0, .int 0, .long 0, .ref (r 11), .ref (r 12), .ref (r 13), .ref (r 14), .ref (r 15), .ref (r 16), .ref (r 17), .ref (r 18), .ref (r 19), .ref (r 20), .ref (r 21), .ref (r 22), .ref (r 23), .ref (r 24), .ref (r 25), .ref (r 26), .ref (r 27), .ref (r 28), .ref (r 29), .ref (r 30), .ref (r 31), .ref (r 32), .ref (r 33), .int 0, .int 0, .int 0, .int 0, .int 0, .int 0, .int 0, .ref (r 41), .ref (r 42), .ref (r 43), .ref (r 44), .int 0, .int 0, .int 0, .ref (r 48), .int 0, .int 0, .ref (r 51), .ref (r 52), .ref (r 53), .ref (r 54), .int 0, .ref (r 56), .ref (r 57), .ref (r 58), .int 0, .ref (r 60), .ref (r 61), .ref (r 62), .ref (r 63), .ref (r 64), .ref (r 65), .ref (r 66), .ref (r 67), .ref (r 68), .int 0, .int 0, .int 0, .ref (r 72), .ref (r 73)])), (r 41, .inl (cy 0, 15, .inl (fun _ => 0))), (r 72, .inl (cy 0, 45, .inl (fun _ => 0))), (r 73, .inl (cy 3, 3, .inl (fun _ => 0)))] H := hP
      have hD : va_D A [(h0, .inr (12, [.ref (r 0), .ref (r 1), .int 0, .int 0, .int 0, .int (-1), .int 0, .int 0, .int 0, .int 0, .long 0, .ref (r 11), .ref (r 12), .ref (r 13), .ref (r 14), .ref (r 15), .ref (r 16), .ref (r 17), .ref (r 18), .ref (r 19), .ref (r 20), .ref (r 21), .ref (r 22), .ref (r 23), .ref (r 24), .ref (r 25), .ref (r 26), .ref (r 27), .ref (r 28), .ref (r 29), .ref (r 30), .ref (r 31), .ref (r 32), .ref (r 33), .int 0, .int 0, .int 0, .int 0, .int 0, .int 0, .int 0, .ref (r 41), .ref (r 42), .ref (r 43), .ref (r 44), .int 0, .int 0, .int 0, .ref (r 48), .int 0, .int 0, .ref (r 51), .ref (r 52), .ref (r 53), .ref (r 54), .int 0, .ref (r 56), .ref (r 57), .ref (r 58), .int 0, .ref (r 60), .ref (r 61), .ref (r 62), .ref (r 63), .ref (r 64), .ref (r 65), .ref (r 66), .ref (r 67), .ref (r 68), .int 0, .int 0, .int 0, .ref (r 72), .ref (r 73)])), (r 41, .inl (cy 0, 15, .inl (fun _ => 0))), (r 72, .inl (cy 0, 45, .inl (fun _ => 0))), (r 73, .inl (cy 3, 3, .inl (fun _ => 0)))] := hD
      refine lv_iinc (v := 3) (lv' := [(2, .int 3), (0, .ref h0), (1, .int 2)]) hx hb dX12_image_36 hl (k := 0) rfl (by decide +kernel) (by decide) rfl (fun ls hl => ?_)
      refine lv_goto (tgt := 13) hx hb dX12_image_39 (by decide) ?_
      refine lv_iload_n hx hb dX12_image_13 rfl (lv_at hl 0 rfl) ?_
      refine lv_bipush (v := 15) hx hb dX12_image_14 (by decide +kernel) ?_
      refine lv_icmp_ge (tgt := 42) hx hb dX12_image_16 (by decide) (fun c_ => absurd c_ (by decide +kernel)) (fun _ => ?_)
      refine lv_aload_n hx hb dX12_image_19 rfl (lv_at hl 1 rfl) ?_
      refine va_get (D := (dC, dI)) (ci := 12) (v := .ref (r 72)) (C := RX12) (T := TX12) (N := 74) hx hb hts inlX12 hown hK hP 0 rfl rfl 72 (by decide) (hts _ m_265) (fun _ h9 => h9) rfl dX12_image_20 ?_
      refine lv_bipush (v := 15) hx hb dX12_image_23 (by decide +kernel) ?_
      refine lv_iload_n hx hb dX12_image_25 rfl (lv_at hl 2 rfl) ?_
      refine lv_imul hx hb dX12_image_26 ?_
      refine lv_topi (fun z_76 ez_76 => ?_)
      obtain rfl : z_76 = 30 := ez_76.trans (by decide +kernel)
      refine lv_iload_n hx hb dX12_image_27 rfl (lv_at hl 0 rfl) ?_
      refine lv_iadd hx hb dX12_image_28 ?_
      refine lv_topi (fun z_77 ez_77 => ?_)
      obtain rfl : z_77 = 33 := ez_77.trans (by decide +kernel)
      refine lv_aload_n hx hb dX12_image_29 rfl (lv_at hl 1 rfl) ?_
      refine va_get (D := (dC, dI)) (ci := 12) (v := .ref (r 41)) (C := RX12) (T := TX12) (N := 74) hx hb hts inlX12 hown hK hP 0 rfl rfl 41 (by decide) (hts _ m_244) (fun _ h9 => h9) rfl dX12_image_30 ?_
      refine lv_iload_n hx hb dX12_image_33 rfl (lv_at hl 0 rfl) ?_
      refine va_iald hx hb hK hP 1 0 rfl rfl vi_3_15 dX12_image_34 ?_
      refine W.eq (g2 := F0 m 35 ls [.int 0, .int 33, .ref (r 72)]) rfl ?_
      refine va_iast hx hb hK hP hD hS 2 0 rfl rfl vi_33_45 dX12_image_35 (fun H locs hP hD hS => ?_)
      rw [show upd (fun _ => 0) (Int32.toNatClampNeg 33) 0 = (fun _ => 0) from xa_upd0 rfl] at hP hD
      have hP : va_P (dC, dI) classes [(h0, .inr (12, [.ref (r 0), .ref (r 1), .int 0, .int 0, .int 0, .int (-1), .int 0, .int 0, .int 0, .int 0, .long 0, .ref (r 11), .ref (r 12), .ref (r 13), .ref (r 14), .ref (r 15), .ref (r 16), .ref (r 17), .ref (r 18), .ref (r 19), .ref (r 20), .ref (r 21), .ref (r 22), .ref (r 23), .ref (r 24), .ref (r 25), .ref (r 26), .ref (r 27), .ref (r 28), .ref (r 29), .ref (r 30), .ref (r 31), .ref (r 32), .ref (r 33), .int 0, .int 0, .int 0, .int 0, .int 0, .int 0, .int 0, .ref (r 41), .ref (r 42), .ref (r 43), .ref (r 44), .int 0, .int 0, .int 0, .ref (r 48), .int 0, .int 0, .ref (r 51), .ref (r 52), .ref (r 53), .ref (r 54), .int 0, .ref (r 56), .ref (r 57), .ref (r 58), .int 0, .ref (r 60), .ref (r 61), .ref (r 62), .ref (r 63), .ref (r 64), .ref (r 65), .ref (r 66), .ref (r 67), .ref (r 68), .int 0, .int 0, .int 0, .ref (r 72), .ref (r 73)])), (r 41, .inl (cy 0, 15, .inl (fun _ => 0))), (r 72, .inl (cy 0, 45, .inl (fun _ => 0))), (r 73, .inl (cy 3, 3, .inl (fun _ => 0)))] H := hP
      have hD : va_D A [(h0, .inr (12, [.ref (r 0), .ref (r 1), .int 0, .int 0, .int 0, .int (-1), .int 0, .int 0, .int 0, .int 0, .long 0, .ref (r 11), .ref (r 12), .ref (r 13), .ref (r 14), .ref (r 15), .ref (r 16), .ref (r 17), .ref (r 18), .ref (r 19), .ref (r 20), .ref (r 21), .ref (r 22), .ref (r 23), .ref (r 24), .ref (r 25), .ref (r 26), .ref (r 27), .ref (r 28), .ref (r 29), .ref (r 30), .ref (r 31), .ref (r 32), .ref (r 33), .int 0, .int 0, .int 0, .int 0, .int 0, .int 0, .int 0, .ref (r 41), .ref (r 42), .ref (r 43), .ref (r 44), .int 0, .int 0, .int 0, .ref (r 48), .int 0, .int 0, .ref (r 51), .ref (r 52), .ref (r 53), .ref (r 54), .int 0, .ref (r 56), .ref (r 57), .ref (r 58), .int 0, .ref (r 60), .ref (r 61), .ref (r 62), .ref (r 63), .ref (r 64), .ref (r 65), .ref (r 66), .ref (r 67), .ref (r 68), .int 0, .int 0, .int 0, .ref (r 72), .ref (r 73)])), (r 41, .inl (cy 0, 15, .inl (fun _ => 0))), (r 72, .inl (cy 0, 45, .inl (fun _ => 0))), (r 73, .inl (cy 3, 3, .inl (fun _ => 0)))] := hD
      refine lv_iinc (v := 4) (lv' := [(2, .int 4), (0, .ref h0), (1, .int 2)]) hx hb dX12_image_36 hl (k := 0) rfl (by decide +kernel) (by decide) rfl (fun ls hl => ?_)
      refine lv_goto (tgt := 13) hx hb dX12_image_39 (by decide) ?_
      refine lv_iload_n hx hb dX12_image_13 rfl (lv_at hl 0 rfl) ?_
      refine lv_bipush (v := 15) hx hb dX12_image_14 (by decide +kernel) ?_
      refine lv_icmp_ge (tgt := 42) hx hb dX12_image_16 (by decide) (fun c_ => absurd c_ (by decide +kernel)) (fun _ => ?_)
      refine lv_aload_n hx hb dX12_image_19 rfl (lv_at hl 1 rfl) ?_
      refine va_get (D := (dC, dI)) (ci := 12) (v := .ref (r 72)) (C := RX12) (T := TX12) (N := 74) hx hb hts inlX12 hown hK hP 0 rfl rfl 72 (by decide) (hts _ m_265) (fun _ h9 => h9) rfl dX12_image_20 ?_
      refine lv_bipush (v := 15) hx hb dX12_image_23 (by decide +kernel) ?_
      refine lv_iload_n hx hb dX12_image_25 rfl (lv_at hl 2 rfl) ?_
      refine lv_imul hx hb dX12_image_26 ?_
      refine lv_topi (fun z_78 ez_78 => ?_)
      obtain rfl : z_78 = 30 := ez_78.trans (by decide +kernel)
      refine lv_iload_n hx hb dX12_image_27 rfl (lv_at hl 0 rfl) ?_
      refine lv_iadd hx hb dX12_image_28 ?_
      refine lv_topi (fun z_79 ez_79 => ?_)
      obtain rfl : z_79 = 34 := ez_79.trans (by decide +kernel)
      refine lv_aload_n hx hb dX12_image_29 rfl (lv_at hl 1 rfl) ?_
      refine va_get (D := (dC, dI)) (ci := 12) (v := .ref (r 41)) (C := RX12) (T := TX12) (N := 74) hx hb hts inlX12 hown hK hP 0 rfl rfl 41 (by decide) (hts _ m_244) (fun _ h9 => h9) rfl dX12_image_30 ?_
      refine lv_iload_n hx hb dX12_image_33 rfl (lv_at hl 0 rfl) ?_
      refine va_iald hx hb hK hP 1 0 rfl rfl vi_4_15 dX12_image_34 ?_
      refine W.eq (g2 := F0 m 35 ls [.int 0, .int 34, .ref (r 72)]) rfl ?_
      refine va_iast hx hb hK hP hD hS 2 0 rfl rfl vi_34_45 dX12_image_35 (fun H locs hP hD hS => ?_)
      rw [show upd (fun _ => 0) (Int32.toNatClampNeg 34) 0 = (fun _ => 0) from xa_upd0 rfl] at hP hD
      have hP : va_P (dC, dI) classes [(h0, .inr (12, [.ref (r 0), .ref (r 1), .int 0, .int 0, .int 0, .int (-1), .int 0, .int 0, .int 0, .int 0, .long 0, .ref (r 11), .ref (r 12), .ref (r 13), .ref (r 14), .ref (r 15), .ref (r 16), .ref (r 17), .ref (r 18), .ref (r 19), .ref (r 20), .ref (r 21), .ref (r 22), .ref (r 23), .ref (r 24), .ref (r 25), .ref (r 26), .ref (r 27), .ref (r 28), .ref (r 29), .ref (r 30), .ref (r 31), .ref (r 32), .ref (r 33), .int 0, .int 0, .int 0, .int 0, .int 0, .int 0, .int 0, .ref (r 41), .ref (r 42), .ref (r 43), .ref (r 44), .int 0, .int 0, .int 0, .ref (r 48), .int 0, .int 0, .ref (r 51), .ref (r 52), .ref (r 53), .ref (r 54), .int 0, .ref (r 56), .ref (r 57), .ref (r 58), .int 0, .ref (r 60), .ref (r 61), .ref (r 62), .ref (r 63), .ref (r 64), .ref (r 65), .ref (r 66), .ref (r 67), .ref (r 68), .int 0, .int 0, .int 0, .ref (r 72), .ref (r 73)])), (r 41, .inl (cy 0, 15, .inl (fun _ => 0))), (r 72, .inl (cy 0, 45, .inl (fun _ => 0))), (r 73, .inl (cy 3, 3, .inl (fun _ => 0)))] H := hP
      have hD : va_D A [(h0, .inr (12, [.ref (r 0), .ref (r 1), .int 0, .int 0, .int 0, .int (-1), .int 0, .int 0, .int 0, .int 0, .long 0, .ref (r 11), .ref (r 12), .ref (r 13), .ref (r 14), .ref (r 15), .ref (r 16), .ref (r 17), .ref (r 18), .ref (r 19), .ref (r 20), .ref (r 21), .ref (r 22), .ref (r 23), .ref (r 24), .ref (r 25), .ref (r 26), .ref (r 27), .ref (r 28), .ref (r 29), .ref (r 30), .ref (r 31), .ref (r 32), .ref (r 33), .int 0, .int 0, .int 0, .int 0, .int 0, .int 0, .int 0, .ref (r 41), .ref (r 42), .ref (r 43), .ref (r 44), .int 0, .int 0, .int 0, .ref (r 48), .int 0, .int 0, .ref (r 51), .ref (r 52), .ref (r 53), .ref (r 54), .int 0, .ref (r 56), .ref (r 57), .ref (r 58), .int 0, .ref (r 60), .ref (r 61), .ref (r 62), .ref (r 63), .ref (r 64), .ref (r 65), .ref (r 66), .ref (r 67), .ref (r 68), .int 0, .int 0, .int 0, .ref (r 72), .ref (r 73)])), (r 41, .inl (cy 0, 15, .inl (fun _ => 0))), (r 72, .inl (cy 0, 45, .inl (fun _ => 0))), (r 73, .inl (cy 3, 3, .inl (fun _ => 0)))] := hD
      refine lv_iinc (v := 5) (lv' := [(2, .int 5), (0, .ref h0), (1, .int 2)]) hx hb dX12_image_36 hl (k := 0) rfl (by decide +kernel) (by decide) rfl (fun ls hl => ?_)
      refine lv_goto (tgt := 13) hx hb dX12_image_39 (by decide) ?_
      refine lv_iload_n hx hb dX12_image_13 rfl (lv_at hl 0 rfl) ?_
      refine lv_bipush (v := 15) hx hb dX12_image_14 (by decide +kernel) ?_
      refine lv_icmp_ge (tgt := 42) hx hb dX12_image_16 (by decide) (fun c_ => absurd c_ (by decide +kernel)) (fun _ => ?_)
      refine lv_aload_n hx hb dX12_image_19 rfl (lv_at hl 1 rfl) ?_
      refine va_get (D := (dC, dI)) (ci := 12) (v := .ref (r 72)) (C := RX12) (T := TX12) (N := 74) hx hb hts inlX12 hown hK hP 0 rfl rfl 72 (by decide) (hts _ m_265) (fun _ h9 => h9) rfl dX12_image_20 ?_
      refine lv_bipush (v := 15) hx hb dX12_image_23 (by decide +kernel) ?_
      refine lv_iload_n hx hb dX12_image_25 rfl (lv_at hl 2 rfl) ?_
      refine lv_imul hx hb dX12_image_26 ?_
      refine lv_topi (fun z_80 ez_80 => ?_)
      obtain rfl : z_80 = 30 := ez_80.trans (by decide +kernel)
      refine lv_iload_n hx hb dX12_image_27 rfl (lv_at hl 0 rfl) ?_
      refine lv_iadd hx hb dX12_image_28 ?_
      refine lv_topi (fun z_81 ez_81 => ?_)
      obtain rfl : z_81 = 35 := ez_81.trans (by decide +kernel)
      refine lv_aload_n hx hb dX12_image_29 rfl (lv_at hl 1 rfl) ?_
      refine va_get (D := (dC, dI)) (ci := 12) (v := .ref (r 41)) (C := RX12) (T := TX12) (N := 74) hx hb hts inlX12 hown hK hP 0 rfl rfl 41 (by decide) (hts _ m_244) (fun _ h9 => h9) rfl dX12_image_30 ?_
      refine lv_iload_n hx hb dX12_image_33 rfl (lv_at hl 0 rfl) ?_
      refine va_iald hx hb hK hP 1 0 rfl rfl vi_5_15 dX12_image_34 ?_
      refine W.eq (g2 := F0 m 35 ls [.int 0, .int 35, .ref (r 72)]) rfl ?_
      refine va_iast hx hb hK hP hD hS 2 0 rfl rfl vi_35_45 dX12_image_35 (fun H locs hP hD hS => ?_)
      rw [show upd (fun _ => 0) (Int32.toNatClampNeg 35) 0 = (fun _ => 0) from xa_upd0 rfl] at hP hD
      have hP : va_P (dC, dI) classes [(h0, .inr (12, [.ref (r 0), .ref (r 1), .int 0, .int 0, .int 0, .int (-1), .int 0, .int 0, .int 0, .int 0, .long 0, .ref (r 11), .ref (r 12), .ref (r 13), .ref (r 14), .ref (r 15), .ref (r 16), .ref (r 17), .ref (r 18), .ref (r 19), .ref (r 20), .ref (r 21), .ref (r 22), .ref (r 23), .ref (r 24), .ref (r 25), .ref (r 26), .ref (r 27), .ref (r 28), .ref (r 29), .ref (r 30), .ref (r 31), .ref (r 32), .ref (r 33), .int 0, .int 0, .int 0, .int 0, .int 0, .int 0, .int 0, .ref (r 41), .ref (r 42), .ref (r 43), .ref (r 44), .int 0, .int 0, .int 0, .ref (r 48), .int 0, .int 0, .ref (r 51), .ref (r 52), .ref (r 53), .ref (r 54), .int 0, .ref (r 56), .ref (r 57), .ref (r 58), .int 0, .ref (r 60), .ref (r 61), .ref (r 62), .ref (r 63), .ref (r 64), .ref (r 65), .ref (r 66), .ref (r 67), .ref (r 68), .int 0, .int 0, .int 0, .ref (r 72), .ref (r 73)])), (r 41, .inl (cy 0, 15, .inl (fun _ => 0))), (r 72, .inl (cy 0, 45, .inl (fun _ => 0))), (r 73, .inl (cy 3, 3, .inl (fun _ => 0)))] H := hP
      have hD : va_D A [(h0, .inr (12, [.ref (r 0), .ref (r 1), .int 0, .int 0, .int 0, .int (-1), .int 0, .int 0, .int 0, .int 0, .long 0, .ref (r 11), .ref (r 12), .ref (r 13), .ref (r 14), .ref (r 15), .ref (r 16), .ref (r 17), .ref (r 18), .ref (r 19), .ref (r 20), .ref (r 21), .ref (r 22), .ref (r 23), .ref (r 24), .ref (r 25), .ref (r 26), .ref (r 27), .ref (r 28), .ref (r 29), .ref (r 30), .ref (r 31), .ref (r 32), .ref (r 33), .int 0, .int 0, .int 0, .int 0, .int 0, .int 0, .int 0, .ref (r 41), .ref (r 42), .ref (r 43), .ref (r 44), .int 0, .int 0, .int 0, .ref (r 48), .int 0, .int 0, .ref (r 51), .ref (r 52), .ref (r 53), .ref (r 54), .int 0, .ref (r 56), .ref (r 57), .ref (r 58), .int 0, .ref (r 60), .ref (r 61), .ref (r 62), .ref (r 63), .ref (r 64), .ref (r 65), .ref (r 66), .ref (r 67), .ref (r 68), .int 0, .int 0, .int 0, .ref (r 72), .ref (r 73)])), (r 41, .inl (cy 0, 15, .inl (fun _ => 0))), (r 72, .inl (cy 0, 45, .inl (fun _ => 0))), (r 73, .inl (cy 3, 3, .inl (fun _ => 0)))] := hD
      refine lv_iinc (v := 6) (lv' := [(2, .int 6), (0, .ref h0), (1, .int 2)]) hx hb dX12_image_36 hl (k := 0) rfl (by decide +kernel) (by decide) rfl (fun ls hl => ?_)
      refine lv_goto (tgt := 13) hx hb dX12_image_39 (by decide) ?_
      refine lv_iload_n hx hb dX12_image_13 rfl (lv_at hl 0 rfl) ?_
      refine lv_bipush (v := 15) hx hb dX12_image_14 (by decide +kernel) ?_
      refine lv_icmp_ge (tgt := 42) hx hb dX12_image_16 (by decide) (fun c_ => absurd c_ (by decide +kernel)) (fun _ => ?_)
      refine lv_aload_n hx hb dX12_image_19 rfl (lv_at hl 1 rfl) ?_
      refine va_get (D := (dC, dI)) (ci := 12) (v := .ref (r 72)) (C := RX12) (T := TX12) (N := 74) hx hb hts inlX12 hown hK hP 0 rfl rfl 72 (by decide) (hts _ m_265) (fun _ h9 => h9) rfl dX12_image_20 ?_
      refine lv_bipush (v := 15) hx hb dX12_image_23 (by decide +kernel) ?_
      refine lv_iload_n hx hb dX12_image_25 rfl (lv_at hl 2 rfl) ?_
      refine lv_imul hx hb dX12_image_26 ?_
      refine lv_topi (fun z_82 ez_82 => ?_)
      obtain rfl : z_82 = 30 := ez_82.trans (by decide +kernel)
      refine lv_iload_n hx hb dX12_image_27 rfl (lv_at hl 0 rfl) ?_
      refine lv_iadd hx hb dX12_image_28 ?_
      refine lv_topi (fun z_83 ez_83 => ?_)
      obtain rfl : z_83 = 36 := ez_83.trans (by decide +kernel)
      refine lv_aload_n hx hb dX12_image_29 rfl (lv_at hl 1 rfl) ?_
      refine va_get (D := (dC, dI)) (ci := 12) (v := .ref (r 41)) (C := RX12) (T := TX12) (N := 74) hx hb hts inlX12 hown hK hP 0 rfl rfl 41 (by decide) (hts _ m_244) (fun _ h9 => h9) rfl dX12_image_30 ?_
      refine lv_iload_n hx hb dX12_image_33 rfl (lv_at hl 0 rfl) ?_
      refine va_iald hx hb hK hP 1 0 rfl rfl vi_6_15 dX12_image_34 ?_
      refine W.eq (g2 := F0 m 35 ls [.int 0, .int 36, .ref (r 72)]) rfl ?_
      refine va_iast hx hb hK hP hD hS 2 0 rfl rfl vi_36_45 dX12_image_35 (fun H locs hP hD hS => ?_)
      rw [show upd (fun _ => 0) (Int32.toNatClampNeg 36) 0 = (fun _ => 0) from xa_upd0 rfl] at hP hD
      have hP : va_P (dC, dI) classes [(h0, .inr (12, [.ref (r 0), .ref (r 1), .int 0, .int 0, .int 0, .int (-1), .int 0, .int 0, .int 0, .int 0, .long 0, .ref (r 11), .ref (r 12), .ref (r 13), .ref (r 14), .ref (r 15), .ref (r 16), .ref (r 17), .ref (r 18), .ref (r 19), .ref (r 20), .ref (r 21), .ref (r 22), .ref (r 23), .ref (r 24), .ref (r 25), .ref (r 26), .ref (r 27), .ref (r 28), .ref (r 29), .ref (r 30), .ref (r 31), .ref (r 32), .ref (r 33), .int 0, .int 0, .int 0, .int 0, .int 0, .int 0, .int 0, .ref (r 41), .ref (r 42), .ref (r 43), .ref (r 44), .int 0, .int 0, .int 0, .ref (r 48), .int 0, .int 0, .ref (r 51), .ref (r 52), .ref (r 53), .ref (r 54), .int 0, .ref (r 56), .ref (r 57), .ref (r 58), .int 0, .ref (r 60), .ref (r 61), .ref (r 62), .ref (r 63), .ref (r 64), .ref (r 65), .ref (r 66), .ref (r 67), .ref (r 68), .int 0, .int 0, .int 0, .ref (r 72), .ref (r 73)])), (r 41, .inl (cy 0, 15, .inl (fun _ => 0))), (r 72, .inl (cy 0, 45, .inl (fun _ => 0))), (r 73, .inl (cy 3, 3, .inl (fun _ => 0)))] H := hP
      have hD : va_D A [(h0, .inr (12, [.ref (r 0), .ref (r 1), .int 0, .int 0, .int 0, .int (-1), .int 0, .int 0, .int 0, .int 0, .long 0, .ref (r 11), .ref (r 12), .ref (r 13), .ref (r 14), .ref (r 15), .ref (r 16), .ref (r 17), .ref (r 18), .ref (r 19), .ref (r 20), .ref (r 21), .ref (r 22), .ref (r 23), .ref (r 24), .ref (r 25), .ref (r 26), .ref (r 27), .ref (r 28), .ref (r 29), .ref (r 30), .ref (r 31), .ref (r 32), .ref (r 33), .int 0, .int 0, .int 0, .int 0, .int 0, .int 0, .int 0, .ref (r 41), .ref (r 42), .ref (r 43), .ref (r 44), .int 0, .int 0, .int 0, .ref (r 48), .int 0, .int 0, .ref (r 51), .ref (r 52), .ref (r 53), .ref (r 54), .int 0, .ref (r 56), .ref (r 57), .ref (r 58), .int 0, .ref (r 60), .ref (r 61), .ref (r 62), .ref (r 63), .ref (r 64), .ref (r 65), .ref (r 66), .ref (r 67), .ref (r 68), .int 0, .int 0, .int 0, .ref (r 72), .ref (r 73)])), (r 41, .inl (cy 0, 15, .inl (fun _ => 0))), (r 72, .inl (cy 0, 45, .inl (fun _ => 0))), (r 73, .inl (cy 3, 3, .inl (fun _ => 0)))] := hD
      refine lv_iinc (v := 7) (lv' := [(2, .int 7), (0, .ref h0), (1, .int 2)]) hx hb dX12_image_36 hl (k := 0) rfl (by decide +kernel) (by decide) rfl (fun ls hl => ?_)
      refine lv_goto (tgt := 13) hx hb dX12_image_39 (by decide) ?_
      refine lv_iload_n hx hb dX12_image_13 rfl (lv_at hl 0 rfl) ?_
      refine lv_bipush (v := 15) hx hb dX12_image_14 (by decide +kernel) ?_
      refine lv_icmp_ge (tgt := 42) hx hb dX12_image_16 (by decide) (fun c_ => absurd c_ (by decide +kernel)) (fun _ => ?_)
      refine lv_aload_n hx hb dX12_image_19 rfl (lv_at hl 1 rfl) ?_
      refine va_get (D := (dC, dI)) (ci := 12) (v := .ref (r 72)) (C := RX12) (T := TX12) (N := 74) hx hb hts inlX12 hown hK hP 0 rfl rfl 72 (by decide) (hts _ m_265) (fun _ h9 => h9) rfl dX12_image_20 ?_
      refine lv_bipush (v := 15) hx hb dX12_image_23 (by decide +kernel) ?_
      refine lv_iload_n hx hb dX12_image_25 rfl (lv_at hl 2 rfl) ?_
      refine lv_imul hx hb dX12_image_26 ?_
      refine lv_topi (fun z_84 ez_84 => ?_)
      obtain rfl : z_84 = 30 := ez_84.trans (by decide +kernel)
      refine lv_iload_n hx hb dX12_image_27 rfl (lv_at hl 0 rfl) ?_
      refine lv_iadd hx hb dX12_image_28 ?_
      refine lv_topi (fun z_85 ez_85 => ?_)
      obtain rfl : z_85 = 37 := ez_85.trans (by decide +kernel)
      refine lv_aload_n hx hb dX12_image_29 rfl (lv_at hl 1 rfl) ?_
      refine va_get (D := (dC, dI)) (ci := 12) (v := .ref (r 41)) (C := RX12) (T := TX12) (N := 74) hx hb hts inlX12 hown hK hP 0 rfl rfl 41 (by decide) (hts _ m_244) (fun _ h9 => h9) rfl dX12_image_30 ?_
      refine lv_iload_n hx hb dX12_image_33 rfl (lv_at hl 0 rfl) ?_
      refine va_iald hx hb hK hP 1 0 rfl rfl vi_7_15 dX12_image_34 ?_
      refine W.eq (g2 := F0 m 35 ls [.int 0, .int 37, .ref (r 72)]) rfl ?_
      refine va_iast hx hb hK hP hD hS 2 0 rfl rfl vi_37_45 dX12_image_35 (fun H locs hP hD hS => ?_)
      rw [show upd (fun _ => 0) (Int32.toNatClampNeg 37) 0 = (fun _ => 0) from xa_upd0 rfl] at hP hD
      have hP : va_P (dC, dI) classes [(h0, .inr (12, [.ref (r 0), .ref (r 1), .int 0, .int 0, .int 0, .int (-1), .int 0, .int 0, .int 0, .int 0, .long 0, .ref (r 11), .ref (r 12), .ref (r 13), .ref (r 14), .ref (r 15), .ref (r 16), .ref (r 17), .ref (r 18), .ref (r 19), .ref (r 20), .ref (r 21), .ref (r 22), .ref (r 23), .ref (r 24), .ref (r 25), .ref (r 26), .ref (r 27), .ref (r 28), .ref (r 29), .ref (r 30), .ref (r 31), .ref (r 32), .ref (r 33), .int 0, .int 0, .int 0, .int 0, .int 0, .int 0, .int 0, .ref (r 41), .ref (r 42), .ref (r 43), .ref (r 44), .int 0, .int 0, .int 0, .ref (r 48), .int 0, .int 0, .ref (r 51), .ref (r 52), .ref (r 53), .ref (r 54), .int 0, .ref (r 56), .ref (r 57), .ref (r 58), .int 0, .ref (r 60), .ref (r 61), .ref (r 62), .ref (r 63), .ref (r 64), .ref (r 65), .ref (r 66), .ref (r 67), .ref (r 68), .int 0, .int 0, .int 0, .ref (r 72), .ref (r 73)])), (r 41, .inl (cy 0, 15, .inl (fun _ => 0))), (r 72, .inl (cy 0, 45, .inl (fun _ => 0))), (r 73, .inl (cy 3, 3, .inl (fun _ => 0)))] H := hP
      have hD : va_D A [(h0, .inr (12, [.ref (r 0), .ref (r 1), .int 0, .int 0, .int 0, .int (-1), .int 0, .int 0, .int 0, .int 0, .long 0, .ref (r 11), .ref (r 12), .ref (r 13), .ref (r 14), .ref (r 15), .ref (r 16), .ref (r 17), .ref (r 18), .ref (r 19), .ref (r 20), .ref (r 21), .ref (r 22), .ref (r 23), .ref (r 24), .ref (r 25), .ref (r 26), .ref (r 27), .ref (r 28), .ref (r 29), .ref (r 30), .ref (r 31), .ref (r 32), .ref (r 33), .int 0, .int 0, .int 0, .int 0, .int 0, .int 0, .int 0, .ref (r 41), .ref (r 42), .ref (r 43), .ref (r 44), .int 0, .int 0, .int 0, .ref (r 48), .int 0, .int 0, .ref (r 51), .ref (r 52), .ref (r 53), .ref (r 54), .int 0, .ref (r 56), .ref (r 57), .ref (r 58), .int 0, .ref (r 60), .ref (r 61), .ref (r 62), .ref (r 63), .ref (r 64), .ref (r 65), .ref (r 66), .ref (r 67), .ref (r 68), .int 0, .int 0, .int 0, .ref (r 72), .ref (r 73)])), (r 41, .inl (cy 0, 15, .inl (fun _ => 0))), (r 72, .inl (cy 0, 45, .inl (fun _ => 0))), (r 73, .inl (cy 3, 3, .inl (fun _ => 0)))] := hD
      refine lv_iinc (v := 8) (lv' := [(2, .int 8), (0, .ref h0), (1, .int 2)]) hx hb dX12_image_36 hl (k := 0) rfl (by decide +kernel) (by decide) rfl (fun ls hl => ?_)
      refine lv_goto (tgt := 13) hx hb dX12_image_39 (by decide) ?_
      refine lv_iload_n hx hb dX12_image_13 rfl (lv_at hl 0 rfl) ?_
      refine lv_bipush (v := 15) hx hb dX12_image_14 (by decide +kernel) ?_
      refine lv_icmp_ge (tgt := 42) hx hb dX12_image_16 (by decide) (fun c_ => absurd c_ (by decide +kernel)) (fun _ => ?_)
      refine lv_aload_n hx hb dX12_image_19 rfl (lv_at hl 1 rfl) ?_
      refine va_get (D := (dC, dI)) (ci := 12) (v := .ref (r 72)) (C := RX12) (T := TX12) (N := 74) hx hb hts inlX12 hown hK hP 0 rfl rfl 72 (by decide) (hts _ m_265) (fun _ h9 => h9) rfl dX12_image_20 ?_
      refine lv_bipush (v := 15) hx hb dX12_image_23 (by decide +kernel) ?_
      refine lv_iload_n hx hb dX12_image_25 rfl (lv_at hl 2 rfl) ?_
      refine lv_imul hx hb dX12_image_26 ?_
      refine lv_topi (fun z_86 ez_86 => ?_)
      obtain rfl : z_86 = 30 := ez_86.trans (by decide +kernel)
      refine lv_iload_n hx hb dX12_image_27 rfl (lv_at hl 0 rfl) ?_
      refine lv_iadd hx hb dX12_image_28 ?_
      refine lv_topi (fun z_87 ez_87 => ?_)
      obtain rfl : z_87 = 38 := ez_87.trans (by decide +kernel)
      refine lv_aload_n hx hb dX12_image_29 rfl (lv_at hl 1 rfl) ?_
      refine va_get (D := (dC, dI)) (ci := 12) (v := .ref (r 41)) (C := RX12) (T := TX12) (N := 74) hx hb hts inlX12 hown hK hP 0 rfl rfl 41 (by decide) (hts _ m_244) (fun _ h9 => h9) rfl dX12_image_30 ?_
      refine lv_iload_n hx hb dX12_image_33 rfl (lv_at hl 0 rfl) ?_
      refine va_iald hx hb hK hP 1 0 rfl rfl vi_8_15 dX12_image_34 ?_
      refine W.eq (g2 := F0 m 35 ls [.int 0, .int 38, .ref (r 72)]) rfl ?_
      refine va_iast hx hb hK hP hD hS 2 0 rfl rfl vi_38_45 dX12_image_35 (fun H locs hP hD hS => ?_)
      rw [show upd (fun _ => 0) (Int32.toNatClampNeg 38) 0 = (fun _ => 0) from xa_upd0 rfl] at hP hD
      have hP : va_P (dC, dI) classes [(h0, .inr (12, [.ref (r 0), .ref (r 1), .int 0, .int 0, .int 0, .int (-1), .int 0, .int 0, .int 0, .int 0, .long 0, .ref (r 11), .ref (r 12), .ref (r 13), .ref (r 14), .ref (r 15), .ref (r 16), .ref (r 17), .ref (r 18), .ref (r 19), .ref (r 20), .ref (r 21), .ref (r 22), .ref (r 23), .ref (r 24), .ref (r 25), .ref (r 26), .ref (r 27), .ref (r 28), .ref (r 29), .ref (r 30), .ref (r 31), .ref (r 32), .ref (r 33), .int 0, .int 0, .int 0, .int 0, .int 0, .int 0, .int 0, .ref (r 41), .ref (r 42), .ref (r 43), .ref (r 44), .int 0, .int 0, .int 0, .ref (r 48), .int 0, .int 0, .ref (r 51), .ref (r 52), .ref (r 53), .ref (r 54), .int 0, .ref (r 56), .ref (r 57), .ref (r 58), .int 0, .ref (r 60), .ref (r 61), .ref (r 62), .ref (r 63), .ref (r 64), .ref (r 65), .ref (r 66), .ref (r 67), .ref (r 68), .int 0, .int 0, .int 0, .ref (r 72), .ref (r 73)])), (r 41, .inl (cy 0, 15, .inl (fun _ => 0))), (r 72, .inl (cy 0, 45, .inl (fun _ => 0))), (r 73, .inl (cy 3, 3, .inl (fun _ => 0)))] H := hP
      have hD : va_D A [(h0, .inr (12, [.ref (r 0), .ref (r 1), .int 0, .int 0, .int 0, .int (-1), .int 0, .int 0, .int 0, .int 0, .long 0, .ref (r 11), .ref (r 12), .ref (r 13), .ref (r 14), .ref (r 15), .ref (r 16), .ref (r 17), .ref (r 18), .ref (r 19), .ref (r 20), .ref (r 21), .ref (r 22), .ref (r 23), .ref (r 24), .ref (r 25), .ref (r 26), .ref (r 27), .ref (r 28), .ref (r 29), .ref (r 30), .ref (r 31), .ref (r 32), .ref (r 33), .int 0, .int 0, .int 0, .int 0, .int 0, .int 0, .int 0, .ref (r 41), .ref (r 42), .ref (r 43), .ref (r 44), .int 0, .int 0, .int 0, .ref (r 48), .int 0, .int 0, .ref (r 51), .ref (r 52), .ref (r 53), .ref (r 54), .int 0, .ref (r 56), .ref (r 57), .ref (r 58), .int 0, .ref (r 60), .ref (r 61), .ref (r 62), .ref (r 63), .ref (r 64), .ref (r 65), .ref (r 66), .ref (r 67), .ref (r 68), .int 0, .int 0, .int 0, .ref (r 72), .ref (r 73)])), (r 41, .inl (cy 0, 15, .inl (fun _ => 0))), (r 72, .inl (cy 0, 45, .inl (fun _ => 0))), (r 73, .inl (cy 3, 3, .inl (fun _ => 0)))] := hD
      refine lv_iinc (v := 9) (lv' := [(2, .int 9), (0, .ref h0), (1, .int 2)]) hx hb dX12_image_36 hl (k := 0) rfl (by decide +kernel) (by decide) rfl (fun ls hl => ?_)
      refine lv_goto (tgt := 13) hx hb dX12_image_39 (by decide) ?_
      refine lv_iload_n hx hb dX12_image_13 rfl (lv_at hl 0 rfl) ?_
      refine lv_bipush (v := 15) hx hb dX12_image_14 (by decide +kernel) ?_
      refine lv_icmp_ge (tgt := 42) hx hb dX12_image_16 (by decide) (fun c_ => absurd c_ (by decide +kernel)) (fun _ => ?_)
      refine lv_aload_n hx hb dX12_image_19 rfl (lv_at hl 1 rfl) ?_
      refine va_get (D := (dC, dI)) (ci := 12) (v := .ref (r 72)) (C := RX12) (T := TX12) (N := 74) hx hb hts inlX12 hown hK hP 0 rfl rfl 72 (by decide) (hts _ m_265) (fun _ h9 => h9) rfl dX12_image_20 ?_
      refine lv_bipush (v := 15) hx hb dX12_image_23 (by decide +kernel) ?_
      refine lv_iload_n hx hb dX12_image_25 rfl (lv_at hl 2 rfl) ?_
      refine lv_imul hx hb dX12_image_26 ?_
      refine lv_topi (fun z_88 ez_88 => ?_)
      obtain rfl : z_88 = 30 := ez_88.trans (by decide +kernel)
      refine lv_iload_n hx hb dX12_image_27 rfl (lv_at hl 0 rfl) ?_
      refine lv_iadd hx hb dX12_image_28 ?_
      refine lv_topi (fun z_89 ez_89 => ?_)
      obtain rfl : z_89 = 39 := ez_89.trans (by decide +kernel)
      refine lv_aload_n hx hb dX12_image_29 rfl (lv_at hl 1 rfl) ?_
      refine va_get (D := (dC, dI)) (ci := 12) (v := .ref (r 41)) (C := RX12) (T := TX12) (N := 74) hx hb hts inlX12 hown hK hP 0 rfl rfl 41 (by decide) (hts _ m_244) (fun _ h9 => h9) rfl dX12_image_30 ?_
      refine lv_iload_n hx hb dX12_image_33 rfl (lv_at hl 0 rfl) ?_
      refine va_iald hx hb hK hP 1 0 rfl rfl vi_9_15 dX12_image_34 ?_
      refine W.eq (g2 := F0 m 35 ls [.int 0, .int 39, .ref (r 72)]) rfl ?_
      refine va_iast hx hb hK hP hD hS 2 0 rfl rfl vi_39_45 dX12_image_35 (fun H locs hP hD hS => ?_)
      rw [show upd (fun _ => 0) (Int32.toNatClampNeg 39) 0 = (fun _ => 0) from xa_upd0 rfl] at hP hD
      have hP : va_P (dC, dI) classes [(h0, .inr (12, [.ref (r 0), .ref (r 1), .int 0, .int 0, .int 0, .int (-1), .int 0, .int 0, .int 0, .int 0, .long 0, .ref (r 11), .ref (r 12), .ref (r 13), .ref (r 14), .ref (r 15), .ref (r 16), .ref (r 17), .ref (r 18), .ref (r 19), .ref (r 20), .ref (r 21), .ref (r 22), .ref (r 23), .ref (r 24), .ref (r 25), .ref (r 26), .ref (r 27), .ref (r 28), .ref (r 29), .ref (r 30), .ref (r 31), .ref (r 32), .ref (r 33), .int 0, .int 0, .int 0, .int 0, .int 0, .int 0, .int 0, .ref (r 41), .ref (r 42), .ref (r 43), .ref (r 44), .int 0, .int 0, .int 0, .ref (r 48), .int 0, .int 0, .ref (r 51), .ref (r 52), .ref (r 53), .ref (r 54), .int 0, .ref (r 56), .ref (r 57), .ref (r 58), .int 0, .ref (r 60), .ref (r 61), .ref (r 62), .ref (r 63), .ref (r 64), .ref (r 65), .ref (r 66), .ref (r 67), .ref (r 68), .int 0, .int 0, .int 0, .ref (r 72), .ref (r 73)])), (r 41, .inl (cy 0, 15, .inl (fun _ => 0))), (r 72, .inl (cy 0, 45, .inl (fun _ => 0))), (r 73, .inl (cy 3, 3, .inl (fun _ => 0)))] H := hP
      have hD : va_D A [(h0, .inr (12, [.ref (r 0), .ref (r 1), .int 0, .int 0, .int 0, .int (-1), .int 0, .int 0, .int 0, .int 0, .long 0, .ref (r 11), .ref (r 12), .ref (r 13), .ref (r 14), .ref (r 15), .ref (r 16), .ref (r 17), .ref (r 18), .ref (r 19), .ref (r 20), .ref (r 21), .ref (r 22), .ref (r 23), .ref (r 24), .ref (r 25), .ref (r 26), .ref (r 27), .ref (r 28), .ref (r 29), .ref (r 30), .ref (r 31), .ref (r 32), .ref (r 33), .int 0, .int 0, .int 0, .int 0, .int 0, .int 0, .int 0, .ref (r 41), .ref (r 42), .ref (r 43), .ref (r 44), .int 0, .int 0, .int 0, .ref (r 48), .int 0, .int 0, .ref (r 51), .ref (r 52), .ref (r 53), .ref (r 54), .int 0, .ref (r 56), .ref (r 57), .ref (r 58), .int 0, .ref (r 60), .ref (r 61), .ref (r 62), .ref (r 63), .ref (r 64), .ref (r 65), .ref (r 66), .ref (r 67), .ref (r 68), .int 0, .int 0, .int 0, .ref (r 72), .ref (r 73)])), (r 41, .inl (cy 0, 15, .inl (fun _ => 0))), (r 72, .inl (cy 0, 45, .inl (fun _ => 0))), (r 73, .inl (cy 3, 3, .inl (fun _ => 0)))] := hD
      refine lv_iinc (v := 10) (lv' := [(2, .int 10), (0, .ref h0), (1, .int 2)]) hx hb dX12_image_36 hl (k := 0) rfl (by decide +kernel) (by decide) rfl (fun ls hl => ?_)
      refine lv_goto (tgt := 13) hx hb dX12_image_39 (by decide) ?_
      refine lv_iload_n hx hb dX12_image_13 rfl (lv_at hl 0 rfl) ?_
      refine lv_bipush (v := 15) hx hb dX12_image_14 (by decide +kernel) ?_
      refine lv_icmp_ge (tgt := 42) hx hb dX12_image_16 (by decide) (fun c_ => absurd c_ (by decide +kernel)) (fun _ => ?_)
      refine lv_aload_n hx hb dX12_image_19 rfl (lv_at hl 1 rfl) ?_
      refine va_get (D := (dC, dI)) (ci := 12) (v := .ref (r 72)) (C := RX12) (T := TX12) (N := 74) hx hb hts inlX12 hown hK hP 0 rfl rfl 72 (by decide) (hts _ m_265) (fun _ h9 => h9) rfl dX12_image_20 ?_
      refine lv_bipush (v := 15) hx hb dX12_image_23 (by decide +kernel) ?_
      refine lv_iload_n hx hb dX12_image_25 rfl (lv_at hl 2 rfl) ?_
      refine lv_imul hx hb dX12_image_26 ?_
      refine lv_topi (fun z_90 ez_90 => ?_)
      obtain rfl : z_90 = 30 := ez_90.trans (by decide +kernel)
      refine lv_iload_n hx hb dX12_image_27 rfl (lv_at hl 0 rfl) ?_
      refine lv_iadd hx hb dX12_image_28 ?_
      refine lv_topi (fun z_91 ez_91 => ?_)
      obtain rfl : z_91 = 40 := ez_91.trans (by decide +kernel)
      refine lv_aload_n hx hb dX12_image_29 rfl (lv_at hl 1 rfl) ?_
      refine va_get (D := (dC, dI)) (ci := 12) (v := .ref (r 41)) (C := RX12) (T := TX12) (N := 74) hx hb hts inlX12 hown hK hP 0 rfl rfl 41 (by decide) (hts _ m_244) (fun _ h9 => h9) rfl dX12_image_30 ?_
      refine lv_iload_n hx hb dX12_image_33 rfl (lv_at hl 0 rfl) ?_
      refine va_iald hx hb hK hP 1 0 rfl rfl vi_10_15 dX12_image_34 ?_
      refine W.eq (g2 := F0 m 35 ls [.int 0, .int 40, .ref (r 72)]) rfl ?_
      refine va_iast hx hb hK hP hD hS 2 0 rfl rfl vi_40_45 dX12_image_35 (fun H locs hP hD hS => ?_)
      rw [show upd (fun _ => 0) (Int32.toNatClampNeg 40) 0 = (fun _ => 0) from xa_upd0 rfl] at hP hD
      have hP : va_P (dC, dI) classes [(h0, .inr (12, [.ref (r 0), .ref (r 1), .int 0, .int 0, .int 0, .int (-1), .int 0, .int 0, .int 0, .int 0, .long 0, .ref (r 11), .ref (r 12), .ref (r 13), .ref (r 14), .ref (r 15), .ref (r 16), .ref (r 17), .ref (r 18), .ref (r 19), .ref (r 20), .ref (r 21), .ref (r 22), .ref (r 23), .ref (r 24), .ref (r 25), .ref (r 26), .ref (r 27), .ref (r 28), .ref (r 29), .ref (r 30), .ref (r 31), .ref (r 32), .ref (r 33), .int 0, .int 0, .int 0, .int 0, .int 0, .int 0, .int 0, .ref (r 41), .ref (r 42), .ref (r 43), .ref (r 44), .int 0, .int 0, .int 0, .ref (r 48), .int 0, .int 0, .ref (r 51), .ref (r 52), .ref (r 53), .ref (r 54), .int 0, .ref (r 56), .ref (r 57), .ref (r 58), .int 0, .ref (r 60), .ref (r 61), .ref (r 62), .ref (r 63), .ref (r 64), .ref (r 65), .ref (r 66), .ref (r 67), .ref (r 68), .int 0, .int 0, .int 0, .ref (r 72), .ref (r 73)])), (r 41, .inl (cy 0, 15, .inl (fun _ => 0))), (r 72, .inl (cy 0, 45, .inl (fun _ => 0))), (r 73, .inl (cy 3, 3, .inl (fun _ => 0)))] H := hP
      have hD : va_D A [(h0, .inr (12, [.ref (r 0), .ref (r 1), .int 0, .int 0, .int 0, .int (-1), .int 0, .int 0, .int 0, .int 0, .long 0, .ref (r 11), .ref (r 12), .ref (r 13), .ref (r 14), .ref (r 15), .ref (r 16), .ref (r 17), .ref (r 18), .ref (r 19), .ref (r 20), .ref (r 21), .ref (r 22), .ref (r 23), .ref (r 24), .ref (r 25), .ref (r 26), .ref (r 27), .ref (r 28), .ref (r 29), .ref (r 30), .ref (r 31), .ref (r 32), .ref (r 33), .int 0, .int 0, .int 0, .int 0, .int 0, .int 0, .int 0, .ref (r 41), .ref (r 42), .ref (r 43), .ref (r 44), .int 0, .int 0, .int 0, .ref (r 48), .int 0, .int 0, .ref (r 51), .ref (r 52), .ref (r 53), .ref (r 54), .int 0, .ref (r 56), .ref (r 57), .ref (r 58), .int 0, .ref (r 60), .ref (r 61), .ref (r 62), .ref (r 63), .ref (r 64), .ref (r 65), .ref (r 66), .ref (r 67), .ref (r 68), .int 0, .int 0, .int 0, .ref (r 72), .ref (r 73)])), (r 41, .inl (cy 0, 15, .inl (fun _ => 0))), (r 72, .inl (cy 0, 45, .inl (fun _ => 0))), (r 73, .inl (cy 3, 3, .inl (fun _ => 0)))] := hD
      refine lv_iinc (v := 11) (lv' := [(2, .int 11), (0, .ref h0), (1, .int 2)]) hx hb dX12_image_36 hl (k := 0) rfl (by decide +kernel) (by decide) rfl (fun ls hl => ?_)
      refine lv_goto (tgt := 13) hx hb dX12_image_39 (by decide) ?_
      refine lv_iload_n hx hb dX12_image_13 rfl (lv_at hl 0 rfl) ?_
      refine lv_bipush (v := 15) hx hb dX12_image_14 (by decide +kernel) ?_
      refine lv_icmp_ge (tgt := 42) hx hb dX12_image_16 (by decide) (fun c_ => absurd c_ (by decide +kernel)) (fun _ => ?_)
      refine lv_aload_n hx hb dX12_image_19 rfl (lv_at hl 1 rfl) ?_
      refine va_get (D := (dC, dI)) (ci := 12) (v := .ref (r 72)) (C := RX12) (T := TX12) (N := 74) hx hb hts inlX12 hown hK hP 0 rfl rfl 72 (by decide) (hts _ m_265) (fun _ h9 => h9) rfl dX12_image_20 ?_
      refine lv_bipush (v := 15) hx hb dX12_image_23 (by decide +kernel) ?_
      refine lv_iload_n hx hb dX12_image_25 rfl (lv_at hl 2 rfl) ?_
      refine lv_imul hx hb dX12_image_26 ?_
      refine lv_topi (fun z_92 ez_92 => ?_)
      obtain rfl : z_92 = 30 := ez_92.trans (by decide +kernel)
      refine lv_iload_n hx hb dX12_image_27 rfl (lv_at hl 0 rfl) ?_
      refine lv_iadd hx hb dX12_image_28 ?_
      refine lv_topi (fun z_93 ez_93 => ?_)
      obtain rfl : z_93 = 41 := ez_93.trans (by decide +kernel)
      refine lv_aload_n hx hb dX12_image_29 rfl (lv_at hl 1 rfl) ?_
      refine va_get (D := (dC, dI)) (ci := 12) (v := .ref (r 41)) (C := RX12) (T := TX12) (N := 74) hx hb hts inlX12 hown hK hP 0 rfl rfl 41 (by decide) (hts _ m_244) (fun _ h9 => h9) rfl dX12_image_30 ?_
      refine lv_iload_n hx hb dX12_image_33 rfl (lv_at hl 0 rfl) ?_
      refine va_iald hx hb hK hP 1 0 rfl rfl vi_11_15 dX12_image_34 ?_
      refine W.eq (g2 := F0 m 35 ls [.int 0, .int 41, .ref (r 72)]) rfl ?_
      refine va_iast hx hb hK hP hD hS 2 0 rfl rfl vi_41_45 dX12_image_35 (fun H locs hP hD hS => ?_)
      rw [show upd (fun _ => 0) (Int32.toNatClampNeg 41) 0 = (fun _ => 0) from xa_upd0 rfl] at hP hD
      have hP : va_P (dC, dI) classes [(h0, .inr (12, [.ref (r 0), .ref (r 1), .int 0, .int 0, .int 0, .int (-1), .int 0, .int 0, .int 0, .int 0, .long 0, .ref (r 11), .ref (r 12), .ref (r 13), .ref (r 14), .ref (r 15), .ref (r 16), .ref (r 17), .ref (r 18), .ref (r 19), .ref (r 20), .ref (r 21), .ref (r 22), .ref (r 23), .ref (r 24), .ref (r 25), .ref (r 26), .ref (r 27), .ref (r 28), .ref (r 29), .ref (r 30), .ref (r 31), .ref (r 32), .ref (r 33), .int 0, .int 0, .int 0, .int 0, .int 0, .int 0, .int 0, .ref (r 41), .ref (r 42), .ref (r 43), .ref (r 44), .int 0, .int 0, .int 0, .ref (r 48), .int 0, .int 0, .ref (r 51), .ref (r 52), .ref (r 53), .ref (r 54), .int 0, .ref (r 56), .ref (r 57), .ref (r 58), .int 0, .ref (r 60), .ref (r 61), .ref (r 62), .ref (r 63), .ref (r 64), .ref (r 65), .ref (r 66), .ref (r 67), .ref (r 68), .int 0, .int 0, .int 0, .ref (r 72), .ref (r 73)])), (r 41, .inl (cy 0, 15, .inl (fun _ => 0))), (r 72, .inl (cy 0, 45, .inl (fun _ => 0))), (r 73, .inl (cy 3, 3, .inl (fun _ => 0)))] H := hP
      have hD : va_D A [(h0, .inr (12, [.ref (r 0), .ref (r 1), .int 0, .int 0, .int 0, .int (-1), .int 0, .int 0, .int 0, .int 0, .long 0, .ref (r 11), .ref (r 12), .ref (r 13), .ref (r 14), .ref (r 15), .ref (r 16), .ref (r 17), .ref (r 18), .ref (r 19), .ref (r 20), .ref (r 21), .ref (r 22), .ref (r 23), .ref (r 24), .ref (r 25), .ref (r 26), .ref (r 27), .ref (r 28), .ref (r 29), .ref (r 30), .ref (r 31), .ref (r 32), .ref (r 33), .int 0, .int 0, .int 0, .int 0, .int 0, .int 0, .int 0, .ref (r 41), .ref (r 42), .ref (r 43), .ref (r 44), .int 0, .int 0, .int 0, .ref (r 48), .int 0, .int 0, .ref (r 51), .ref (r 52), .ref (r 53), .ref (r 54), .int 0, .ref (r 56), .ref (r 57), .ref (r 58), .int 0, .ref (r 60), .ref (r 61), .ref (r 62), .ref (r 63), .ref (r 64), .ref (r 65), .ref (r 66), .ref (r 67), .ref (r 68), .int 0, .int 0, .int 0, .ref (r 72), .ref (r 73)])), (r 41, .inl (cy 0, 15, .inl (fun _ => 0))), (r 72, .inl (cy 0, 45, .inl (fun _ => 0))), (r 73, .inl (cy 3, 3, .inl (fun _ => 0)))] := hD
      refine lv_iinc (v := 12) (lv' := [(2, .int 12), (0, .ref h0), (1, .int 2)]) hx hb dX12_image_36 hl (k := 0) rfl (by decide +kernel) (by decide) rfl (fun ls hl => ?_)
      refine lv_goto (tgt := 13) hx hb dX12_image_39 (by decide) ?_
      refine lv_iload_n hx hb dX12_image_13 rfl (lv_at hl 0 rfl) ?_
      refine lv_bipush (v := 15) hx hb dX12_image_14 (by decide +kernel) ?_
      refine lv_icmp_ge (tgt := 42) hx hb dX12_image_16 (by decide) (fun c_ => absurd c_ (by decide +kernel)) (fun _ => ?_)
      refine lv_aload_n hx hb dX12_image_19 rfl (lv_at hl 1 rfl) ?_
      refine va_get (D := (dC, dI)) (ci := 12) (v := .ref (r 72)) (C := RX12) (T := TX12) (N := 74) hx hb hts inlX12 hown hK hP 0 rfl rfl 72 (by decide) (hts _ m_265) (fun _ h9 => h9) rfl dX12_image_20 ?_
      refine lv_bipush (v := 15) hx hb dX12_image_23 (by decide +kernel) ?_
      refine lv_iload_n hx hb dX12_image_25 rfl (lv_at hl 2 rfl) ?_
      refine lv_imul hx hb dX12_image_26 ?_
      refine lv_topi (fun z_94 ez_94 => ?_)
      obtain rfl : z_94 = 30 := ez_94.trans (by decide +kernel)
      refine lv_iload_n hx hb dX12_image_27 rfl (lv_at hl 0 rfl) ?_
      refine lv_iadd hx hb dX12_image_28 ?_
      refine lv_topi (fun z_95 ez_95 => ?_)
      obtain rfl : z_95 = 42 := ez_95.trans (by decide +kernel)
      refine lv_aload_n hx hb dX12_image_29 rfl (lv_at hl 1 rfl) ?_
      refine va_get (D := (dC, dI)) (ci := 12) (v := .ref (r 41)) (C := RX12) (T := TX12) (N := 74) hx hb hts inlX12 hown hK hP 0 rfl rfl 41 (by decide) (hts _ m_244) (fun _ h9 => h9) rfl dX12_image_30 ?_
      refine lv_iload_n hx hb dX12_image_33 rfl (lv_at hl 0 rfl) ?_
      refine va_iald hx hb hK hP 1 0 rfl rfl vi_12_15 dX12_image_34 ?_
      refine W.eq (g2 := F0 m 35 ls [.int 0, .int 42, .ref (r 72)]) rfl ?_
      refine va_iast hx hb hK hP hD hS 2 0 rfl rfl vi_42_45 dX12_image_35 (fun H locs hP hD hS => ?_)
      rw [show upd (fun _ => 0) (Int32.toNatClampNeg 42) 0 = (fun _ => 0) from xa_upd0 rfl] at hP hD
      have hP : va_P (dC, dI) classes [(h0, .inr (12, [.ref (r 0), .ref (r 1), .int 0, .int 0, .int 0, .int (-1), .int 0, .int 0, .int 0, .int 0, .long 0, .ref (r 11), .ref (r 12), .ref (r 13), .ref (r 14), .ref (r 15), .ref (r 16), .ref (r 17), .ref (r 18), .ref (r 19), .ref (r 20), .ref (r 21), .ref (r 22), .ref (r 23), .ref (r 24), .ref (r 25), .ref (r 26), .ref (r 27), .ref (r 28), .ref (r 29), .ref (r 30), .ref (r 31), .ref (r 32), .ref (r 33), .int 0, .int 0, .int 0, .int 0, .int 0, .int 0, .int 0, .ref (r 41), .ref (r 42), .ref (r 43), .ref (r 44), .int 0, .int 0, .int 0, .ref (r 48), .int 0, .int 0, .ref (r 51), .ref (r 52), .ref (r 53), .ref (r 54), .int 0, .ref (r 56), .ref (r 57), .ref (r 58), .int 0, .ref (r 60), .ref (r 61), .ref (r 62), .ref (r 63), .ref (r 64), .ref (r 65), .ref (r 66), .ref (r 67), .ref (r 68), .int 0, .int 0, .int 0, .ref (r 72), .ref (r 73)])), (r 41, .inl (cy 0, 15, .inl (fun _ => 0))), (r 72, .inl (cy 0, 45, .inl (fun _ => 0))), (r 73, .inl (cy 3, 3, .inl (fun _ => 0)))] H := hP
      have hD : va_D A [(h0, .inr (12, [.ref (r 0), .ref (r 1), .int 0, .int 0, .int 0, .int (-1), .int 0, .int 0, .int 0, .int 0, .long 0, .ref (r 11), .ref (r 12), .ref (r 13), .ref (r 14), .ref (r 15), .ref (r 16), .ref (r 17), .ref (r 18), .ref (r 19), .ref (r 20), .ref (r 21), .ref (r 22), .ref (r 23), .ref (r 24), .ref (r 25), .ref (r 26), .ref (r 27), .ref (r 28), .ref (r 29), .ref (r 30), .ref (r 31), .ref (r 32), .ref (r 33), .int 0, .int 0, .int 0, .int 0, .int 0, .int 0, .int 0, .ref (r 41), .ref (r 42), .ref (r 43), .ref (r 44), .int 0, .int 0, .int 0, .ref (r 48), .int 0, .int 0, .ref (r 51), .ref (r 52), .ref (r 53), .ref (r 54), .int 0, .ref (r 56), .ref (r 57), .ref (r 58), .int 0, .ref (r 60), .ref (r 61), .ref (r 62), .ref (r 63), .ref (r 64), .ref (r 65), .ref (r 66), .ref (r 67), .ref (r 68), .int 0, .int 0, .int 0, .ref (r 72), .ref (r 73)])), (r 41, .inl (cy 0, 15, .inl (fun _ => 0))), (r 72, .inl (cy 0, 45, .inl (fun _ => 0))), (r 73, .inl (cy 3, 3, .inl (fun _ => 0)))] := hD
      refine lv_iinc (v := 13) (lv' := [(2, .int 13), (0, .ref h0), (1, .int 2)]) hx hb dX12_image_36 hl (k := 0) rfl (by decide +kernel) (by decide) rfl (fun ls hl => ?_)
      refine lv_goto (tgt := 13) hx hb dX12_image_39 (by decide) ?_
      refine lv_iload_n hx hb dX12_image_13 rfl (lv_at hl 0 rfl) ?_
      refine lv_bipush (v := 15) hx hb dX12_image_14 (by decide +kernel) ?_
      refine lv_icmp_ge (tgt := 42) hx hb dX12_image_16 (by decide) (fun c_ => absurd c_ (by decide +kernel)) (fun _ => ?_)
      refine lv_aload_n hx hb dX12_image_19 rfl (lv_at hl 1 rfl) ?_
      refine va_get (D := (dC, dI)) (ci := 12) (v := .ref (r 72)) (C := RX12) (T := TX12) (N := 74) hx hb hts inlX12 hown hK hP 0 rfl rfl 72 (by decide) (hts _ m_265) (fun _ h9 => h9) rfl dX12_image_20 ?_
      refine lv_bipush (v := 15) hx hb dX12_image_23 (by decide +kernel) ?_
      refine lv_iload_n hx hb dX12_image_25 rfl (lv_at hl 2 rfl) ?_
      refine lv_imul hx hb dX12_image_26 ?_
      refine lv_topi (fun z_96 ez_96 => ?_)
      obtain rfl : z_96 = 30 := ez_96.trans (by decide +kernel)
      refine lv_iload_n hx hb dX12_image_27 rfl (lv_at hl 0 rfl) ?_
      refine lv_iadd hx hb dX12_image_28 ?_
      refine lv_topi (fun z_97 ez_97 => ?_)
      obtain rfl : z_97 = 43 := ez_97.trans (by decide +kernel)
      refine lv_aload_n hx hb dX12_image_29 rfl (lv_at hl 1 rfl) ?_
      refine va_get (D := (dC, dI)) (ci := 12) (v := .ref (r 41)) (C := RX12) (T := TX12) (N := 74) hx hb hts inlX12 hown hK hP 0 rfl rfl 41 (by decide) (hts _ m_244) (fun _ h9 => h9) rfl dX12_image_30 ?_
      refine lv_iload_n hx hb dX12_image_33 rfl (lv_at hl 0 rfl) ?_
      refine va_iald hx hb hK hP 1 0 rfl rfl vi_13_15 dX12_image_34 ?_
      refine W.eq (g2 := F0 m 35 ls [.int 0, .int 43, .ref (r 72)]) rfl ?_
      refine va_iast hx hb hK hP hD hS 2 0 rfl rfl vi_43_45 dX12_image_35 (fun H locs hP hD hS => ?_)
      rw [show upd (fun _ => 0) (Int32.toNatClampNeg 43) 0 = (fun _ => 0) from xa_upd0 rfl] at hP hD
      have hP : va_P (dC, dI) classes [(h0, .inr (12, [.ref (r 0), .ref (r 1), .int 0, .int 0, .int 0, .int (-1), .int 0, .int 0, .int 0, .int 0, .long 0, .ref (r 11), .ref (r 12), .ref (r 13), .ref (r 14), .ref (r 15), .ref (r 16), .ref (r 17), .ref (r 18), .ref (r 19), .ref (r 20), .ref (r 21), .ref (r 22), .ref (r 23), .ref (r 24), .ref (r 25), .ref (r 26), .ref (r 27), .ref (r 28), .ref (r 29), .ref (r 30), .ref (r 31), .ref (r 32), .ref (r 33), .int 0, .int 0, .int 0, .int 0, .int 0, .int 0, .int 0, .ref (r 41), .ref (r 42), .ref (r 43), .ref (r 44), .int 0, .int 0, .int 0, .ref (r 48), .int 0, .int 0, .ref (r 51), .ref (r 52), .ref (r 53), .ref (r 54), .int 0, .ref (r 56), .ref (r 57), .ref (r 58), .int 0, .ref (r 60), .ref (r 61), .ref (r 62), .ref (r 63), .ref (r 64), .ref (r 65), .ref (r 66), .ref (r 67), .ref (r 68), .int 0, .int 0, .int 0, .ref (r 72), .ref (r 73)])), (r 41, .inl (cy 0, 15, .inl (fun _ => 0))), (r 72, .inl (cy 0, 45, .inl (fun _ => 0))), (r 73, .inl (cy 3, 3, .inl (fun _ => 0)))] H := hP
      have hD : va_D A [(h0, .inr (12, [.ref (r 0), .ref (r 1), .int 0, .int 0, .int 0, .int (-1), .int 0, .int 0, .int 0, .int 0, .long 0, .ref (r 11), .ref (r 12), .ref (r 13), .ref (r 14), .ref (r 15), .ref (r 16), .ref (r 17), .ref (r 18), .ref (r 19), .ref (r 20), .ref (r 21), .ref (r 22), .ref (r 23), .ref (r 24), .ref (r 25), .ref (r 26), .ref (r 27), .ref (r 28), .ref (r 29), .ref (r 30), .ref (r 31), .ref (r 32), .ref (r 33), .int 0, .int 0, .int 0, .int 0, .int 0, .int 0, .int 0, .ref (r 41), .ref (r 42), .ref (r 43), .ref (r 44), .int 0, .int 0, .int 0, .ref (r 48), .int 0, .int 0, .ref (r 51), .ref (r 52), .ref (r 53), .ref (r 54), .int 0, .ref (r 56), .ref (r 57), .ref (r 58), .int 0, .ref (r 60), .ref (r 61), .ref (r 62), .ref (r 63), .ref (r 64), .ref (r 65), .ref (r 66), .ref (r 67), .ref (r 68), .int 0, .int 0, .int 0, .ref (r 72), .ref (r 73)])), (r 41, .inl (cy 0, 15, .inl (fun _ => 0))), (r 72, .inl (cy 0, 45, .inl (fun _ => 0))), (r 73, .inl (cy 3, 3, .inl (fun _ => 0)))] := hD
      refine lv_iinc (v := 14) (lv' := [(2, .int 14), (0, .ref h0), (1, .int 2)]) hx hb dX12_image_36 hl (k := 0) rfl (by decide +kernel) (by decide) rfl (fun ls hl => ?_)
      refine lv_goto (tgt := 13) hx hb dX12_image_39 (by decide) ?_
      refine lv_iload_n hx hb dX12_image_13 rfl (lv_at hl 0 rfl) ?_
      refine lv_bipush (v := 15) hx hb dX12_image_14 (by decide +kernel) ?_
      refine lv_icmp_ge (tgt := 42) hx hb dX12_image_16 (by decide) (fun c_ => absurd c_ (by decide +kernel)) (fun _ => ?_)
      refine lv_aload_n hx hb dX12_image_19 rfl (lv_at hl 1 rfl) ?_
      refine va_get (D := (dC, dI)) (ci := 12) (v := .ref (r 72)) (C := RX12) (T := TX12) (N := 74) hx hb hts inlX12 hown hK hP 0 rfl rfl 72 (by decide) (hts _ m_265) (fun _ h9 => h9) rfl dX12_image_20 ?_
      refine lv_bipush (v := 15) hx hb dX12_image_23 (by decide +kernel) ?_
      refine lv_iload_n hx hb dX12_image_25 rfl (lv_at hl 2 rfl) ?_
      refine lv_imul hx hb dX12_image_26 ?_
      refine lv_topi (fun z_98 ez_98 => ?_)
      obtain rfl : z_98 = 30 := ez_98.trans (by decide +kernel)
      refine lv_iload_n hx hb dX12_image_27 rfl (lv_at hl 0 rfl) ?_
      refine lv_iadd hx hb dX12_image_28 ?_
      refine lv_topi (fun z_99 ez_99 => ?_)
      obtain rfl : z_99 = 44 := ez_99.trans (by decide +kernel)
      refine lv_aload_n hx hb dX12_image_29 rfl (lv_at hl 1 rfl) ?_
      refine va_get (D := (dC, dI)) (ci := 12) (v := .ref (r 41)) (C := RX12) (T := TX12) (N := 74) hx hb hts inlX12 hown hK hP 0 rfl rfl 41 (by decide) (hts _ m_244) (fun _ h9 => h9) rfl dX12_image_30 ?_
      refine lv_iload_n hx hb dX12_image_33 rfl (lv_at hl 0 rfl) ?_
      refine va_iald hx hb hK hP 1 0 rfl rfl vi_14_15 dX12_image_34 ?_
      refine W.eq (g2 := F0 m 35 ls [.int 0, .int 44, .ref (r 72)]) rfl ?_
      refine va_iast hx hb hK hP hD hS 2 0 rfl rfl vi_44_45 dX12_image_35 (fun H locs hP hD hS => ?_)
      rw [show upd (fun _ => 0) (Int32.toNatClampNeg 44) 0 = (fun _ => 0) from xa_upd0 rfl] at hP hD
      have hP : va_P (dC, dI) classes [(h0, .inr (12, [.ref (r 0), .ref (r 1), .int 0, .int 0, .int 0, .int (-1), .int 0, .int 0, .int 0, .int 0, .long 0, .ref (r 11), .ref (r 12), .ref (r 13), .ref (r 14), .ref (r 15), .ref (r 16), .ref (r 17), .ref (r 18), .ref (r 19), .ref (r 20), .ref (r 21), .ref (r 22), .ref (r 23), .ref (r 24), .ref (r 25), .ref (r 26), .ref (r 27), .ref (r 28), .ref (r 29), .ref (r 30), .ref (r 31), .ref (r 32), .ref (r 33), .int 0, .int 0, .int 0, .int 0, .int 0, .int 0, .int 0, .ref (r 41), .ref (r 42), .ref (r 43), .ref (r 44), .int 0, .int 0, .int 0, .ref (r 48), .int 0, .int 0, .ref (r 51), .ref (r 52), .ref (r 53), .ref (r 54), .int 0, .ref (r 56), .ref (r 57), .ref (r 58), .int 0, .ref (r 60), .ref (r 61), .ref (r 62), .ref (r 63), .ref (r 64), .ref (r 65), .ref (r 66), .ref (r 67), .ref (r 68), .int 0, .int 0, .int 0, .ref (r 72), .ref (r 73)])), (r 41, .inl (cy 0, 15, .inl (fun _ => 0))), (r 72, .inl (cy 0, 45, .inl (fun _ => 0))), (r 73, .inl (cy 3, 3, .inl (fun _ => 0)))] H := hP
      have hD : va_D A [(h0, .inr (12, [.ref (r 0), .ref (r 1), .int 0, .int 0, .int 0, .int (-1), .int 0, .int 0, .int 0, .int 0, .long 0, .ref (r 11), .ref (r 12), .ref (r 13), .ref (r 14), .ref (r 15), .ref (r 16), .ref (r 17), .ref (r 18), .ref (r 19), .ref (r 20), .ref (r 21), .ref (r 22), .ref (r 23), .ref (r 24), .ref (r 25), .ref (r 26), .ref (r 27), .ref (r 28), .ref (r 29), .ref (r 30), .ref (r 31), .ref (r 32), .ref (r 33), .int 0, .int 0, .int 0, .int 0, .int 0, .int 0, .int 0, .ref (r 41), .ref (r 42), .ref (r 43), .ref (r 44), .int 0, .int 0, .int 0, .ref (r 48), .int 0, .int 0, .ref (r 51), .ref (r 52), .ref (r 53), .ref (r 54), .int 0, .ref (r 56), .ref (r 57), .ref (r 58), .int 0, .ref (r 60), .ref (r 61), .ref (r 62), .ref (r 63), .ref (r 64), .ref (r 65), .ref (r 66), .ref (r 67), .ref (r 68), .int 0, .int 0, .int 0, .ref (r 72), .ref (r 73)])), (r 41, .inl (cy 0, 15, .inl (fun _ => 0))), (r 72, .inl (cy 0, 45, .inl (fun _ => 0))), (r 73, .inl (cy 3, 3, .inl (fun _ => 0)))] := hD
      refine lv_iinc (v := 15) (lv' := [(2, .int 15), (0, .ref h0), (1, .int 2)]) hx hb dX12_image_36 hl (k := 0) rfl (by decide +kernel) (by decide) rfl (fun ls hl => ?_)
      refine lv_goto (tgt := 13) hx hb dX12_image_39 (by decide) ?_
      refine lv_iload_n hx hb dX12_image_13 rfl (lv_at hl 0 rfl) ?_
      refine lv_bipush (v := 15) hx hb dX12_image_14 (by decide +kernel) ?_
      refine lv_icmp_ge (tgt := 42) hx hb dX12_image_16 (by decide) (fun _ => ?_) (fun c_ => absurd (by decide +kernel) c_)
      refine lv_aload_n hx hb dX12_image_42 rfl (lv_at hl 1 rfl) ?_
      refine va_get (D := (dC, dI)) (ci := 12) (v := .ref (r 73)) (C := RX12) (T := TX12) (N := 74) hx hb hts inlX12 hown hK hP 0 rfl rfl 73 (by decide) (hts _ m_266) (fun _ h9 => h9) rfl dX12_image_43 ?_
      refine lv_iload_n hx hb dX12_image_46 rfl (lv_at hl 2 rfl) ?_
      refine lv_iconst (v := 1) hx hb dX12_image_47 (by decide +kernel) ?_
      refine va_zast hx hb hK hP hD hS 3 3 rfl rfl vi_2_3 dX12_image_48 (fun H locs hP hD hS => ?_)
      generalize upd (fun _ => 0) (Int32.toNatClampNeg 2) (vp_nar .boolean 1) = f_100 at hP hD
      have hP : va_P (dC, dI) classes [(h0, .inr (12, [.ref (r 0), .ref (r 1), .int 0, .int 0, .int 0, .int (-1), .int 0, .int 0, .int 0, .int 0, .long 0, .ref (r 11), .ref (r 12), .ref (r 13), .ref (r 14), .ref (r 15), .ref (r 16), .ref (r 17), .ref (r 18), .ref (r 19), .ref (r 20), .ref (r 21), .ref (r 22), .ref (r 23), .ref (r 24), .ref (r 25), .ref (r 26), .ref (r 27), .ref (r 28), .ref (r 29), .ref (r 30), .ref (r 31), .ref (r 32), .ref (r 33), .int 0, .int 0, .int 0, .int 0, .int 0, .int 0, .int 0, .ref (r 41), .ref (r 42), .ref (r 43), .ref (r 44), .int 0, .int 0, .int 0, .ref (r 48), .int 0, .int 0, .ref (r 51), .ref (r 52), .ref (r 53), .ref (r 54), .int 0, .ref (r 56), .ref (r 57), .ref (r 58), .int 0, .ref (r 60), .ref (r 61), .ref (r 62), .ref (r 63), .ref (r 64), .ref (r 65), .ref (r 66), .ref (r 67), .ref (r 68), .int 0, .int 0, .int 0, .ref (r 72), .ref (r 73)])), (r 41, .inl (cy 0, 15, .inl (fun _ => 0))), (r 72, .inl (cy 0, 45, .inl (fun _ => 0))), (r 73, .inl (cy 3, 3, .inl f_100))] H := hP
      have hD : va_D A [(h0, .inr (12, [.ref (r 0), .ref (r 1), .int 0, .int 0, .int 0, .int (-1), .int 0, .int 0, .int 0, .int 0, .long 0, .ref (r 11), .ref (r 12), .ref (r 13), .ref (r 14), .ref (r 15), .ref (r 16), .ref (r 17), .ref (r 18), .ref (r 19), .ref (r 20), .ref (r 21), .ref (r 22), .ref (r 23), .ref (r 24), .ref (r 25), .ref (r 26), .ref (r 27), .ref (r 28), .ref (r 29), .ref (r 30), .ref (r 31), .ref (r 32), .ref (r 33), .int 0, .int 0, .int 0, .int 0, .int 0, .int 0, .int 0, .ref (r 41), .ref (r 42), .ref (r 43), .ref (r 44), .int 0, .int 0, .int 0, .ref (r 48), .int 0, .int 0, .ref (r 51), .ref (r 52), .ref (r 53), .ref (r 54), .int 0, .ref (r 56), .ref (r 57), .ref (r 58), .int 0, .ref (r 60), .ref (r 61), .ref (r 62), .ref (r 63), .ref (r 64), .ref (r 65), .ref (r 66), .ref (r 67), .ref (r 68), .int 0, .int 0, .int 0, .ref (r 72), .ref (r 73)])), (r 41, .inl (cy 0, 15, .inl (fun _ => 0))), (r 72, .inl (cy 0, 45, .inl (fun _ => 0))), (r 73, .inl (cy 3, 3, .inl f_100))] := hD
      refine lv_aload_n hx hb dX12_image_49 rfl (lv_at hl 1 rfl) ?_
      refine va_get (D := (dC, dI)) (ci := 12) (v := .ref (r 41)) (C := RX12) (T := TX12) (N := 74) hx hb hts inlX12 hown hK hP 0 rfl rfl 41 (by decide) (hts _ m_244) (fun _ h9 => h9) rfl dX12_image_50 ?_
      refine lv_bipush (v := 13) hx hb dX12_image_53 (by decide +kernel) ?_
      refine va_iald hx hb hK hP 1 0 rfl rfl vi_13_15 dX12_image_55 ?_
      refine W.eq (g2 := F0 m 56 ls [.int 0]) rfl ?_
      exact W.iret (v := 0) hx hb hr (fun t ht hW => ⟨⟨0, (), rfl, Or.inr (Or.inr (Or.inr (Or.inr (⟨rfl, c_5, c_6, rfl⟩)))), trivial⟩, hS.F ht⟩) hS.2.2 dX12_image_56
set_option maxHeartbeats 4000000 in
set_option maxRecDepth 100000 in
theorem kX5_bringBack_1 (l : Launch) (dC : Nat → ClassId) (dI : Nat → Nat → Nat) (cy : Nat → ClassId) (h0 h1 h2 h3 h4 h5 : Nat) (p0 : Int32) : Met l yX5_bringBack wmX5_bringBack ({ frames := 1, cells := 0, slots := 0, locals := 20 }) (va_Pc [.ref h0, .int p0] (fun U => va_P (dC, dI) classes [(h0, .inr (5, [.ref h1, .ref h2, .ref h3, .ref h4, .ref h5, .int 0, .int 0])), (h5, .inl (cy 3, 3, .inl (fun _ => 0)))] U.heap ∧ EV dC dI cy U)) (vp_Si (fun r_ => r_ = (-1))) 0 0 (fun _ => False) := by
  refine Met.ofW (cc := cX5_bringBack) (maxL := 2) (ret := (some .int)) (by decide +kernel) rfl ?_
  intro p e s m args below meth c s₁ B hml hv
  obtain ⟨rfl, hP, hE⟩ := hv
  have hK := hE.1
  have hN := hE.2.1
  have hx := B.exec
  have hb := B.bytes
  have hr := B.returns
  have hts0 := atoms_spec (ws := wmX5_bringBack) B.pre
  have hts : ∀ w ∈ wsL_law, w.before _ s = true := fun w h => hts0 w (List.mem_cons_of_mem _ h)
  have hown : s.vm.findClass RX5 = some m.cls := findClass_of_methodNamed B.named
  have hlocks := B.notSynchronized
  have hl := lv_entry ([.ref h0, .int p0]) (n := 2) (Nat.le_of_ble_eq_true rfl)
  rw [lg_entry_eq]
  generalize (lg_sl ([.ref h0, .int p0]) ++ List.replicate (2 - (lg_sl ([.ref h0, .int p0])).length) Slot.unset).toArray = ls at hl ⊢
  have hl : lv_has ls 2 [(0, .ref h0), (1, .int p0)] := hl
  refine lv_iload_n hx hb dX5_bringBack_0 rfl (lv_at hl 1 rfl) ?_
  have hPc := hP.sub (ws' := []) [] rfl
  refine vp_callSi (W.runS (As := [.int p0]) (rest := []) ⟨hx, hb, hml, hown, hts⟩ (kX5_hasBox_1 l dC dI cy p0) (va_cwS 1 hts (gdS m_1700 m_1701 m_18 m_1702) rfl rfl rfl (by decide +kernel) ⟨Nat.le_of_ble_eq_true rfl, Nat.le_of_ble_eq_true rfl⟩) ⟨fun a U g mk q => by obtain ⟨q0, qP, qE⟩ := q; exact ⟨q0, qP, qE.call⟩, fun U hU hW => ⟨rfl, by rw [hU]; exact hPc, hE.moved hW⟩⟩ rfl rfl hl.1 rfl (lv_room (Nat.le_of_ble_eq_true rfl)) dX5_bringBack_1 ⟨(show 0 + 0 ≤ 0 from by decide +kernel), (show 0 + 0 ≤ 0 from by decide +kernel)⟩) (fun r_1 hw => ?_)
  rcases hw with ⟨hr1, c_2⟩ | ⟨hr1, c_3, c_4⟩ | ⟨hr1, c_5, c_6⟩
  · subst r_1
    refine lv_if_eq (tgt := 16) hx hb dX5_bringBack_4 (by decide) (fun _ => ?_) (fun c_ => absurd (by decide +kernel) c_)
    refine lv_iconst (v := (-1)) hx hb dX5_bringBack_16 (by decide +kernel) ?_
    exact W.iret (v := (-1)) hx hb hr (fun t ht hW => ⟨(-1), rfl, rfl, ht⟩) (fun _ h_ => (List.not_mem_nil h_).elim) dX5_bringBack_17
  · subst r_1
    refine lv_if_eq (tgt := 16) hx hb dX5_bringBack_4 (by decide) (fun _ => ?_) (fun c_ => absurd (by decide +kernel) c_)
    refine lv_iconst (v := (-1)) hx hb dX5_bringBack_16 (by decide +kernel) ?_
    exact W.iret (v := (-1)) hx hb hr (fun t ht hW => ⟨(-1), rfl, rfl, ht⟩) (fun _ h_ => (List.not_mem_nil h_).elim) dX5_bringBack_17
  · subst r_1
    refine lv_if_eq (tgt := 16) hx hb dX5_bringBack_4 (by decide) (fun c_ => absurd c_ (by decide +kernel)) (fun _ => ?_)
    refine lv_aload_n hx hb dX5_bringBack_7 rfl (lv_at hl 0 rfl) ?_
    refine va_get (D := (dC, dI)) (ci := 5) (v := .ref h5) (C := RX5) (T := TX5) (N := 7) hx hb hts inlX5 hown hK hP 0 rfl rfl 4 (by decide) (hts _ m_160) (fun _ h9 => h9) rfl dX5_bringBack_8 ?_
    refine lv_iload_n hx hb dX5_bringBack_11 rfl (lv_at hl 1 rfl) ?_
    refine va_zald hx hb hK hP 1 3 rfl rfl (nn_18 c_5 c_6) dX5_bringBack_12 ?_
    refine W.eq (g2 := F0 m 13 ls [.int 0]) rfl ?_
    refine lv_if_ne (tgt := 18) hx hb dX5_bringBack_13 (by decide) (fun c_ => absurd (by decide +kernel) c_) (fun _ => ?_)
    refine lv_iconst (v := (-1)) hx hb dX5_bringBack_16 (by decide +kernel) ?_
    exact W.iret (v := (-1)) hx hb hr (fun t ht hW => ⟨(-1), rfl, rfl, ht⟩) (fun _ h_ => (List.not_mem_nil h_).elim) dX5_bringBack_17
set_option maxHeartbeats 4000000 in
set_option maxRecDepth 100000 in
theorem kX11_back_1 (l : Launch) (dC : Nat → ClassId) (dI : Nat → Nat → Nat) (cy : Nat → ClassId) (h0 h1 h2 h3 h4 h5 h6 h7 h8 h9 h10 h11 h12 h13 h14 : Nat) (p0 : Int32) : Met l yX11_back wmX11_back ({ frames := 2, cells := 0, slots := 0, locals := 41 }) (va_Pc [.ref h0, .int p0] (fun U => va_P (dC, dI) classes [(h0, .inr (11, [.ref h1, .ref h2, .ref h3, .ref h4, .ref h5, .ref h6, .ref h7, .ref h8, .ref h9])), (h2, .inr (5, [.ref h10, .ref h11, .ref h12, .ref h13, .ref h14, .int 0, .int 0])), (h14, .inl (cy 3, 3, .inl (fun _ => 0)))] U.heap ∧ EV dC dI cy U)) (vp_Si (fun r_ => r_ = (-1))) 0 0 (fun _ => False) := by
  refine Met.ofW (cc := cX11_back) (maxL := 2) (ret := (some .int)) (by decide +kernel) rfl ?_
  intro p e s m args below meth c s₁ B hml hv
  obtain ⟨rfl, hP, hE⟩ := hv
  have hK := hE.1
  have hN := hE.2.1
  have hx := B.exec
  have hb := B.bytes
  have hr := B.returns
  have hts0 := atoms_spec (ws := wmX11_back) B.pre
  have hts : ∀ w ∈ wsL_law, w.before _ s = true := fun w h => hts0 w (List.mem_cons_of_mem _ h)
  have hown : s.vm.findClass RX11 = some m.cls := findClass_of_methodNamed B.named
  have hlocks := B.notSynchronized
  have hl := lv_entry ([.ref h0, .int p0]) (n := 2) (Nat.le_of_ble_eq_true rfl)
  rw [lg_entry_eq]
  generalize (lg_sl ([.ref h0, .int p0]) ++ List.replicate (2 - (lg_sl ([.ref h0, .int p0])).length) Slot.unset).toArray = ls at hl ⊢
  have hl : lv_has ls 2 [(0, .ref h0), (1, .int p0)] := hl
  refine lv_aload_n hx hb dX11_back_0 rfl (lv_at hl 0 rfl) ?_
  refine va_get (D := (dC, dI)) (ci := 11) (v := .ref h2) (C := RX11) (T := TX11) (N := 9) hx hb hts inlX11 hown hK hP 0 rfl rfl 1 (by decide) (hts _ m_19) (fun _ h9 => h9) rfl dX11_back_1 ?_
  refine lv_iload_n hx hb dX11_back_4 rfl (lv_at hl 1 rfl) ?_
  have hPc := hP.sub (ws' := [(h2, .inr (5, [.ref h10, .ref h11, .ref h12, .ref h13, .ref h14, .int 0, .int 0])), (h14, .inl (cy 3, 3, .inl (fun _ => 0)))]) [1, 2] rfl
  refine vp_callSi (W.runV (As := [.int p0]) (rest := []) ⟨hx, hb, hml, hown, hts⟩ (kX5_bringBack_1 l dC dI cy h2 h10 h11 h12 h13 h14 p0) (cwV 1 hts (gdV m_1711 m_1712 m_1713 m_18 m_1714) rfl rfl rfl (by decide +kernel) ⟨Nat.le_of_ble_eq_true rfl, Nat.le_of_ble_eq_true rfl⟩) ⟨fun a U g mk q => by obtain ⟨q0, qP, qE⟩ := q; exact ⟨q0, qP, qE.call⟩, va_recv hK hP (ci := 5) (q0 := 1) rfl rfl, fun U hU hW => ⟨rfl, by rw [hU]; exact hPc, hE.moved hW⟩⟩ rfl rfl hl.1 rfl (lv_room (Nat.le_of_ble_eq_true rfl)) dX11_back_5 ⟨(show 0 + 0 ≤ 0 from by decide +kernel), (show 0 + 0 ≤ 0 from by decide +kernel)⟩) (fun r_1 hw => ?_)
  subst r_1
  exact W.iret (v := (-1)) hx hb hr (fun t ht hW => ⟨(-1), rfl, rfl, ht⟩) (fun _ h_ => (List.not_mem_nil h_).elim) dX11_back_8
set_option maxHeartbeats 4000000 in
set_option maxRecDepth 100000 in
theorem kX12_back_1 (l : Launch) (dC : Nat → ClassId) (dI : Nat → Nat → Nat) (cy : Nat → ClassId) (h0 : Nat) (r : Nat → Nat) (p0 : Int32) : Met l yX12_back wmX12_back ({ frames := 1, cells := 0, slots := 0, locals := 22 }) (va_Pc [.ref h0, .int p0] (fun U => va_P (dC, dI) classes [(h0, .inr (12, [.ref (r 0), .ref (r 1), .int 0, .int 0, .int 0, .int (-1), .int 0, .int 0, .int 0, .int 0, .long 0, .ref (r 11), .ref (r 12), .ref (r 13), .ref (r 14), .ref (r 15), .ref (r 16), .ref (r 17), .ref (r 18), .ref (r 19), .ref (r 20), .ref (r 21), .ref (r 22), .ref (r 23), .ref (r 24), .ref (r 25), .ref (r 26), .ref (r 27), .ref (r 28), .ref (r 29), .ref (r 30), .ref (r 31), .ref (r 32), .ref (r 33), .int 0, .int 0, .int 0, .int 0, .int 0, .int 0, .int 0, .ref (r 41), .ref (r 42), .ref (r 43), .ref (r 44), .int 0, .int 0, .int 0, .ref (r 48), .int 0, .int 0, .ref (r 51), .ref (r 52), .ref (r 53), .ref (r 54), .int 0, .ref (r 56), .ref (r 57), .ref (r 58), .int 0, .ref (r 60), .ref (r 61), .ref (r 62), .ref (r 63), .ref (r 64), .ref (r 65), .ref (r 66), .ref (r 67), .ref (r 68), .int 0, .int 0, .int 0, .ref (r 72), .ref (r 73)])), (r 73, .inl (cy 3, 3, .inl (fun _ => 0)))] U.heap ∧ EV dC dI cy U)) (vp_Si (fun r_ => r_ = (-1))) 0 0 (fun _ => False) := by
  refine Met.ofW (cc := cX12_back) (maxL := 3) (ret := (some .int)) (by decide +kernel) rfl ?_
  intro p e s m args below meth c s₁ B hml hv
  obtain ⟨rfl, hP, hE⟩ := hv
  have hK := hE.1
  have hN := hE.2.1
  have hx := B.exec
  have hb := B.bytes
  have hr := B.returns
  have hts0 := atoms_spec (ws := wmX12_back) B.pre
  have hts : ∀ w ∈ wsL_law, w.before _ s = true := fun w h => hts0 w (List.mem_cons_of_mem _ h)
  have hown : s.vm.findClass RX12 = some m.cls := findClass_of_methodNamed B.named
  have hlocks := B.notSynchronized
  have hl := lv_entry ([.ref h0, .int p0]) (n := 3) (Nat.le_of_ble_eq_true rfl)
  rw [lg_entry_eq]
  generalize (lg_sl ([.ref h0, .int p0]) ++ List.replicate (3 - (lg_sl ([.ref h0, .int p0])).length) Slot.unset).toArray = ls at hl ⊢
  have hl : lv_has ls 3 [(0, .ref h0), (1, .int p0)] := hl
  refine lv_iload_n hx hb dX12_back_0 rfl (lv_at hl 1 rfl) ?_
  refine lv_iconst (v := 0) hx hb dX12_back_1 (by decide +kernel) ?_
  refine lv_iconst (v := 2) hx hb dX12_back_2 (by decide +kernel) ?_
  have hPc := hP.sub (ws' := []) [] rfl
  refine vp_callSi (W.runS (As := [.int p0, .int 0, .int 2]) (rest := []) ⟨hx, hb, hml, hown, hts⟩ (kX12_isIn_8 l dC dI cy p0) (va_cwS 3 hts (gdS m_775 m_776 m_5 m_777) rfl rfl rfl (by decide +kernel) ⟨Nat.le_of_ble_eq_true rfl, Nat.le_of_ble_eq_true rfl⟩) ⟨fun a U g mk q => by obtain ⟨q0, qP, qE⟩ := q; exact ⟨q0, qP, qE.call⟩, fun U hU hW => ⟨rfl, by rw [hU]; exact hPc, hE.moved hW⟩⟩ rfl rfl hl.1 rfl (lv_room (Nat.le_of_ble_eq_true rfl)) dX12_back_3 ⟨(show 0 + 0 ≤ 0 from by decide +kernel), (show 0 + 0 ≤ 0 from by decide +kernel)⟩) (fun r_1 hw => ?_)
  rcases hw with ⟨hr1, c_2⟩ | ⟨hr1, c_3, c_4⟩ | ⟨hr1, c_5, c_6⟩
  · subst r_1
    refine lv_if_eq (tgt := 18) hx hb dX12_back_6 (by decide) (fun _ => ?_) (fun c_ => absurd (by decide +kernel) c_)
    refine lv_iconst (v := (-1)) hx hb dX12_back_18 (by decide +kernel) ?_
    exact W.iret (v := (-1)) hx hb hr (fun t ht hW => ⟨(-1), rfl, rfl, ht⟩) (fun _ h_ => (List.not_mem_nil h_).elim) dX12_back_19
  · subst r_1
    refine lv_if_eq (tgt := 18) hx hb dX12_back_6 (by decide) (fun _ => ?_) (fun c_ => absurd (by decide +kernel) c_)
    refine lv_iconst (v := (-1)) hx hb dX12_back_18 (by decide +kernel) ?_
    exact W.iret (v := (-1)) hx hb hr (fun t ht hW => ⟨(-1), rfl, rfl, ht⟩) (fun _ h_ => (List.not_mem_nil h_).elim) dX12_back_19
  · subst r_1
    refine lv_if_eq (tgt := 18) hx hb dX12_back_6 (by decide) (fun c_ => absurd c_ (by decide +kernel)) (fun _ => ?_)
    refine lv_aload_n hx hb dX12_back_9 rfl (lv_at hl 0 rfl) ?_
    refine va_get (D := (dC, dI)) (ci := 12) (v := .ref (r 73)) (C := RX12) (T := TX12) (N := 74) hx hb hts inlX12 hown hK hP 0 rfl rfl 73 (by decide) (hts _ m_266) (fun _ h9 => h9) rfl dX12_back_10 ?_
    refine lv_iload_n hx hb dX12_back_13 rfl (lv_at hl 1 rfl) ?_
    refine va_zald hx hb hK hP 1 3 rfl rfl (nn_19 c_5 c_6) dX12_back_14 ?_
    refine W.eq (g2 := F0 m 15 ls [.int 0]) rfl ?_
    refine lv_if_ne (tgt := 20) hx hb dX12_back_15 (by decide) (fun c_ => absurd (by decide +kernel) c_) (fun _ => ?_)
    refine lv_iconst (v := (-1)) hx hb dX12_back_18 (by decide +kernel) ?_
    exact W.iret (v := (-1)) hx hb hr (fun t ht hW => ⟨(-1), rfl, rfl, ht⟩) (fun _ h_ => (List.not_mem_nil h_).elim) dX12_back_19
set_option maxHeartbeats 4000000 in
set_option maxRecDepth 100000 in
theorem kX5_actsDone_1 (l : Launch) (dC : Nat → ClassId) (dI : Nat → Nat → Nat) (cy : Nat → ClassId) (h0 h1 h2 h3 h4 h5 : Nat) : Met l yX5_actsDone wmX5_actsDone ({ frames := 0, cells := 0, slots := 0, locals := 0 }) (va_Pc [.ref h0] (fun U => va_P (dC, dI) classes [(h0, .inr (5, [.ref h1, .ref h2, .ref h3, .ref h4, .ref h5, .int 0, .int 0]))] U.heap ∧ EV dC dI cy U)) (vp_Si (fun r_ => r_ = 0)) 0 0 (fun _ => False) := by
  refine Met.ofW (cc := cX5_actsDone) (maxL := 1) (ret := (some .int)) (by decide +kernel) rfl ?_
  intro p e s m args below meth c s₁ B hml hv
  obtain ⟨rfl, hP, hE⟩ := hv
  have hK := hE.1
  have hN := hE.2.1
  have hx := B.exec
  have hb := B.bytes
  have hr := B.returns
  have hts0 := atoms_spec (ws := wmX5_actsDone) B.pre
  have hts : ∀ w ∈ wsL_law, w.before _ s = true := fun w h => hts0 w (List.mem_cons_of_mem _ h)
  have hown : s.vm.findClass RX5 = some m.cls := findClass_of_methodNamed B.named
  have hlocks := B.notSynchronized
  have hl := lv_entry ([.ref h0]) (n := 1) (Nat.le_of_ble_eq_true rfl)
  rw [lg_entry_eq]
  generalize (lg_sl ([.ref h0]) ++ List.replicate (1 - (lg_sl ([.ref h0])).length) Slot.unset).toArray = ls at hl ⊢
  have hl : lv_has ls 1 [(0, .ref h0)] := hl
  refine lv_aload_n hx hb dX5_actsDone_0 rfl (lv_at hl 0 rfl) ?_
  refine va_get (D := (dC, dI)) (ci := 5) (v := .int 0) (C := RX5) (T := TX5) (N := 7) hx hb hts inlX5 hown hK hP 0 rfl rfl 5 (by decide) (hts _ m_582) (fun _ h9 => h9) rfl dX5_actsDone_1 ?_
  exact W.iret (v := 0) hx hb hr (fun t ht hW => ⟨0, rfl, rfl, ht⟩) (fun _ h_ => (List.not_mem_nil h_).elim) dX5_actsDone_4
set_option maxHeartbeats 4000000 in
set_option maxRecDepth 100000 in
theorem kX5_actsTakenBack_1 (l : Launch) (dC : Nat → ClassId) (dI : Nat → Nat → Nat) (cy : Nat → ClassId) (h0 h1 h2 h3 h4 h5 : Nat) : Met l yX5_actsTakenBack wmX5_actsTakenBack ({ frames := 0, cells := 0, slots := 0, locals := 0 }) (va_Pc [.ref h0] (fun U => va_P (dC, dI) classes [(h0, .inr (5, [.ref h1, .ref h2, .ref h3, .ref h4, .ref h5, .int 0, .int 0]))] U.heap ∧ EV dC dI cy U)) (vp_Si (fun r_ => r_ = 0)) 0 0 (fun _ => False) := by
  refine Met.ofW (cc := cX5_actsTakenBack) (maxL := 1) (ret := (some .int)) (by decide +kernel) rfl ?_
  intro p e s m args below meth c s₁ B hml hv
  obtain ⟨rfl, hP, hE⟩ := hv
  have hK := hE.1
  have hN := hE.2.1
  have hx := B.exec
  have hb := B.bytes
  have hr := B.returns
  have hts0 := atoms_spec (ws := wmX5_actsTakenBack) B.pre
  have hts : ∀ w ∈ wsL_law, w.before _ s = true := fun w h => hts0 w (List.mem_cons_of_mem _ h)
  have hown : s.vm.findClass RX5 = some m.cls := findClass_of_methodNamed B.named
  have hlocks := B.notSynchronized
  have hl := lv_entry ([.ref h0]) (n := 1) (Nat.le_of_ble_eq_true rfl)
  rw [lg_entry_eq]
  generalize (lg_sl ([.ref h0]) ++ List.replicate (1 - (lg_sl ([.ref h0])).length) Slot.unset).toArray = ls at hl ⊢
  have hl : lv_has ls 1 [(0, .ref h0)] := hl
  refine lv_aload_n hx hb dX5_actsTakenBack_0 rfl (lv_at hl 0 rfl) ?_
  refine va_get (D := (dC, dI)) (ci := 5) (v := .int 0) (C := RX5) (T := TX5) (N := 7) hx hb hts inlX5 hown hK hP 0 rfl rfl 6 (by decide) (hts _ m_583) (fun _ h9 => h9) rfl dX5_actsTakenBack_1 ?_
  refine lv_aload_n hx hb dX5_actsTakenBack_4 rfl (lv_at hl 0 rfl) ?_
  refine va_get (D := (dC, dI)) (ci := 5) (v := .int 0) (C := RX5) (T := TX5) (N := 7) hx hb hts inlX5 hown hK hP 0 rfl rfl 5 (by decide) (hts _ m_582) (fun _ h9 => h9) rfl dX5_actsTakenBack_5 ?_
  refine lv_isub hx hb dX5_actsTakenBack_8 ?_
  refine lv_topi (fun z_1 ez_1 => ?_)
  obtain rfl : z_1 = 0 := ez_1.trans (by decide +kernel)
  exact W.iret (v := 0) hx hb hr (fun t ht hW => ⟨0, rfl, rfl, ht⟩) (fun _ h_ => (List.not_mem_nil h_).elim) dX5_actsTakenBack_9
set_option maxHeartbeats 4000000 in
set_option maxRecDepth 100000 in
theorem kX11_about_1 (l : Launch) (dC : Nat → ClassId) (dI : Nat → Nat → Nat) (cy : Nat → ClassId) (h0 h1 h2 h3 h4 h5 h6 h7 h8 h9 h10 h11 h12 h13 h14 h15 h16 h17 h18 h19 h20 h21 h22 h23 h24 h25 h26 h27 h28 h29 h30 h31 h32 h33 h34 h35 h36 h37 h38 h39 h40 h41 : Nat) (p0 : Int32) : Met l yX11_about wmX11_about ({ frames := 1, cells := 0, slots := 0, locals := 20 }) (va_Pc [.ref h0, .int p0] (fun U => va_P (dC, dI) classes [(h0, .inr (11, [.ref h1, .ref h2, .ref h3, .ref h4, .ref h5, .ref h6, .ref h7, .ref h8, .ref h9])), (h9, .inr (10, [.ref h10, .ref h11, .ref h12, .ref h13, .ref h14, .ref h15, .ref h16, .int 0, .int 0, .int 0, .int 0, .int 0])), (h2, .inr (5, [.ref h17, .ref h18, .ref h19, .ref h20, .ref h21, .int 0, .int 0])), (h17, .inr (8, [.ref h22, .int 0, .int 0])), (h22, .inr (1, [.ref h23, .int 0])), (h6, .inr (7, [.ref h24, .ref h25, .ref h26, .ref h27, .ref h28, .ref h29, .ref h30, .ref h31, .ref h32, .int 0, .int 0, .int 0, .int 0])), (h1, .inr (6, [.ref h33, .ref h34, .int 0, .int (-1)])), (h33, .inr (9, [.ref h35, .ref h36, .int 0, .int 0, .int 0, .int 0, .int 0, .long 0])), (h16, .inr (0, [.ref h37, .ref h38, .ref h39, .ref h40, .int 0, .int 0, .int 0, .int 0])), (h7, .inr (1, [.ref h41, .int 0]))] U.heap ∧ EV dC dI cy U)) (vp_Si (fun r_ => (r_ = 0 ∧ p0 = 0) ∨ (r_ = 0 ∧ p0 = 1) ∨ (r_ = 0 ∧ p0 = 2) ∨ (r_ = 0 ∧ p0 = 3) ∨ (r_ = 0 ∧ p0 = 4) ∨ (r_ = 0 ∧ p0 = 5) ∨ (r_ = 0 ∧ p0 = 6) ∨ (r_ = 0 ∧ p0 = 7) ∨ (r_ = 0 ∧ p0 = 8) ∨ (r_ = 0 ∧ p0 = 9) ∨ (r_ = 0 ∧ p0 = 10) ∨ (r_ = 0 ∧ p0 = 11) ∨ (r_ = 0 ∧ p0 = 12) ∨ (r_ = (-1) ∧ (p0.toInt < 0 ∨ 12 < p0.toInt)))) 0 0 (fun _ => False) := by
  refine Met.ofW (cc := cX11_about) (maxL := 2) (ret := (some .int)) (by decide +kernel) rfl ?_
  intro p e s m args below meth c s₁ B hml hv
  obtain ⟨rfl, hP, hE⟩ := hv
  have hK := hE.1
  have hN := hE.2.1
  have hx := B.exec
  have hb := B.bytes
  have hr := B.returns
  have hts0 := atoms_spec (ws := wmX11_about) B.pre
  have hts : ∀ w ∈ wsL_law, w.before _ s = true := fun w h => hts0 w (List.mem_cons_of_mem _ h)
  have hown : s.vm.findClass RX11 = some m.cls := findClass_of_methodNamed B.named
  have hlocks := B.notSynchronized
  have hl := lv_entry ([.ref h0, .int p0]) (n := 2) (Nat.le_of_ble_eq_true rfl)
  rw [lg_entry_eq]
  generalize (lg_sl ([.ref h0, .int p0]) ++ List.replicate (2 - (lg_sl ([.ref h0, .int p0])).length) Slot.unset).toArray = ls at hl ⊢
  have hl : lv_has ls 2 [(0, .ref h0), (1, .int p0)] := hl
  refine lv_iload_n hx hb dX11_about_0 rfl (lv_at hl 1 rfl) ?_
  rcases tsw_0_12 p0 with c_1 | c_1 | c_1 | c_1 | c_1 | c_1 | c_1 | c_1 | c_1 | c_1 | c_1 | c_1 | c_1 | c_1
  · refine lv_tableIn (off := 67) (tgt := 68) hx hb dX11_about_1 (by rw [c_1]; decide +kernel) (by rw [c_1]; decide +kernel) (by rw [c_1]; decide +kernel) (by decide) ?_
    refine lv_aload_n hx hb dX11_about_68 rfl (lv_at hl 0 rfl) ?_
    refine va_get (D := (dC, dI)) (ci := 11) (v := .ref h9) (C := RX11) (T := TX11) (N := 9) hx hb hts inlX11 hown hK hP 0 rfl rfl 8 (by decide) (hts _ m_44) (fun _ h9 => h9) rfl dX11_about_69 ?_
    refine va_getN (D := (dC, dI)) (ci := 10) (v := .int 0) (C := RX10) (T := TX10) (N := 12) hx hb hts inlX10 hown hK hP 1 rfl rfl 9 (by decide) (va_Nw.use rfl (hN _ nw_25)) (fun _ h9 => h9) rfl dX11_about_72 ?_
    exact W.iret (v := 0) hx hb hr (fun t ht hW => ⟨0, rfl, Or.inl ⟨rfl, c_1⟩, ht⟩) (fun _ h_ => (List.not_mem_nil h_).elim) dX11_about_75
  · refine lv_tableIn (off := 75) (tgt := 76) hx hb dX11_about_1 (by rw [c_1]; decide +kernel) (by rw [c_1]; decide +kernel) (by rw [c_1]; decide +kernel) (by decide) ?_
    refine lv_aload_n hx hb dX11_about_76 rfl (lv_at hl 0 rfl) ?_
    refine va_get (D := (dC, dI)) (ci := 11) (v := .ref h9) (C := RX11) (T := TX11) (N := 9) hx hb hts inlX11 hown hK hP 0 rfl rfl 8 (by decide) (hts _ m_44) (fun _ h9 => h9) rfl dX11_about_77 ?_
    refine va_getN (D := (dC, dI)) (ci := 10) (v := .int 0) (C := RX10) (T := TX10) (N := 12) hx hb hts inlX10 hown hK hP 1 rfl rfl 7 (by decide) (va_Nw.use rfl (hN _ nw_21)) (fun _ h9 => h9) rfl dX11_about_80 ?_
    exact W.iret (v := 0) hx hb hr (fun t ht hW => ⟨0, rfl, Or.inr (Or.inl ⟨rfl, c_1⟩), ht⟩) (fun _ h_ => (List.not_mem_nil h_).elim) dX11_about_83
  · refine lv_tableIn (off := 83) (tgt := 84) hx hb dX11_about_1 (by rw [c_1]; decide +kernel) (by rw [c_1]; decide +kernel) (by rw [c_1]; decide +kernel) (by decide) ?_
    refine lv_aload_n hx hb dX11_about_84 rfl (lv_at hl 0 rfl) ?_
    refine va_get (D := (dC, dI)) (ci := 11) (v := .ref h2) (C := RX11) (T := TX11) (N := 9) hx hb hts inlX11 hown hK hP 0 rfl rfl 1 (by decide) (hts _ m_19) (fun _ h9 => h9) rfl dX11_about_85 ?_
    refine va_getN (D := (dC, dI)) (ci := 5) (v := .ref h17) (C := RX5) (T := TX5) (N := 7) hx hb hts inlX5 hown hK hP 2 rfl rfl 0 (by decide) (va_Nw.use rfl (hN _ nw_38)) (fun _ h9 => h9) rfl dX11_about_88 ?_
    refine va_getN (D := (dC, dI)) (ci := 8) (v := .ref h22) (C := RX8) (T := TX8) (N := 3) hx hb hts inlX8 hown hK hP 3 rfl rfl 0 (by decide) (va_Nw.use rfl (hN _ nw_33)) (fun _ h9 => h9) rfl dX11_about_91 ?_
    refine va_getN (D := (dC, dI)) (ci := 1) (v := .int 0) (C := RX1) (T := TX1) (N := 2) hx hb hts inlX1 hown hK hP 4 rfl rfl 1 (by decide) (va_Nw.use rfl (hN _ nw_11)) (fun _ h9 => h9) rfl dX11_about_94 ?_
    exact W.iret (v := 0) hx hb hr (fun t ht hW => ⟨0, rfl, Or.inr (Or.inr (Or.inl ⟨rfl, c_1⟩)), ht⟩) (fun _ h_ => (List.not_mem_nil h_).elim) dX11_about_97
  · refine lv_tableIn (off := 97) (tgt := 98) hx hb dX11_about_1 (by rw [c_1]; decide +kernel) (by rw [c_1]; decide +kernel) (by rw [c_1]; decide +kernel) (by decide) ?_
    refine lv_aload_n hx hb dX11_about_98 rfl (lv_at hl 0 rfl) ?_
    refine va_get (D := (dC, dI)) (ci := 11) (v := .ref h2) (C := RX11) (T := TX11) (N := 9) hx hb hts inlX11 hown hK hP 0 rfl rfl 1 (by decide) (hts _ m_19) (fun _ h9 => h9) rfl dX11_about_99 ?_
    refine va_getN (D := (dC, dI)) (ci := 5) (v := .ref h17) (C := RX5) (T := TX5) (N := 7) hx hb hts inlX5 hown hK hP 2 rfl rfl 0 (by decide) (va_Nw.use rfl (hN _ nw_38)) (fun _ h9 => h9) rfl dX11_about_102 ?_
    refine va_getN (D := (dC, dI)) (ci := 8) (v := .int 0) (C := RX8) (T := TX8) (N := 3) hx hb hts inlX8 hown hK hP 3 rfl rfl 1 (by decide) (va_Nw.use rfl (hN _ nw_35)) (fun _ h9 => h9) rfl dX11_about_105 ?_
    exact W.iret (v := 0) hx hb hr (fun t ht hW => ⟨0, rfl, Or.inr (Or.inr (Or.inr (Or.inl ⟨rfl, c_1⟩))), ht⟩) (fun _ h_ => (List.not_mem_nil h_).elim) dX11_about_108
  · refine lv_tableIn (off := 108) (tgt := 109) hx hb dX11_about_1 (by rw [c_1]; decide +kernel) (by rw [c_1]; decide +kernel) (by rw [c_1]; decide +kernel) (by decide) ?_
    refine lv_aload_n hx hb dX11_about_109 rfl (lv_at hl 0 rfl) ?_
    refine va_get (D := (dC, dI)) (ci := 11) (v := .ref h2) (C := RX11) (T := TX11) (N := 9) hx hb hts inlX11 hown hK hP 0 rfl rfl 1 (by decide) (hts _ m_19) (fun _ h9 => h9) rfl dX11_about_110 ?_
    refine va_getN (D := (dC, dI)) (ci := 5) (v := .ref h17) (C := RX5) (T := TX5) (N := 7) hx hb hts inlX5 hown hK hP 2 rfl rfl 0 (by decide) (va_Nw.use rfl (hN _ nw_38)) (fun _ h9 => h9) rfl dX11_about_113 ?_
    refine va_getN (D := (dC, dI)) (ci := 8) (v := .int 0) (C := RX8) (T := TX8) (N := 3) hx hb hts inlX8 hown hK hP 3 rfl rfl 2 (by decide) (va_Nw.use rfl (hN _ nw_37)) (fun _ h9 => h9) rfl dX11_about_116 ?_
    exact W.iret (v := 0) hx hb hr (fun t ht hW => ⟨0, rfl, Or.inr (Or.inr (Or.inr (Or.inr (Or.inl ⟨rfl, c_1⟩)))), ht⟩) (fun _ h_ => (List.not_mem_nil h_).elim) dX11_about_119
  · refine lv_tableIn (off := 119) (tgt := 120) hx hb dX11_about_1 (by rw [c_1]; decide +kernel) (by rw [c_1]; decide +kernel) (by rw [c_1]; decide +kernel) (by decide) ?_
    refine lv_aload_n hx hb dX11_about_120 rfl (lv_at hl 0 rfl) ?_
    refine va_get (D := (dC, dI)) (ci := 11) (v := .ref h9) (C := RX11) (T := TX11) (N := 9) hx hb hts inlX11 hown hK hP 0 rfl rfl 8 (by decide) (hts _ m_44) (fun _ h9 => h9) rfl dX11_about_121 ?_
    refine va_getN (D := (dC, dI)) (ci := 10) (v := .int 0) (C := RX10) (T := TX10) (N := 12) hx hb hts inlX10 hown hK hP 1 rfl rfl 8 (by decide) (va_Nw.use rfl (hN _ nw_23)) (fun _ h9 => h9) rfl dX11_about_124 ?_
    exact W.iret (v := 0) hx hb hr (fun t ht hW => ⟨0, rfl, Or.inr (Or.inr (Or.inr (Or.inr (Or.inr (Or.inl ⟨rfl, c_1⟩))))), ht⟩) (fun _ h_ => (List.not_mem_nil h_).elim) dX11_about_127
  · refine lv_tableIn (off := 127) (tgt := 128) hx hb dX11_about_1 (by rw [c_1]; decide +kernel) (by rw [c_1]; decide +kernel) (by rw [c_1]; decide +kernel) (by decide) ?_
    refine lv_aload_n hx hb dX11_about_128 rfl (lv_at hl 0 rfl) ?_
    refine va_get (D := (dC, dI)) (ci := 11) (v := .ref h2) (C := RX11) (T := TX11) (N := 9) hx hb hts inlX11 hown hK hP 0 rfl rfl 1 (by decide) (hts _ m_19) (fun _ h9 => h9) rfl dX11_about_129 ?_
    have hPc := hP.sub (ws' := [(h2, .inr (5, [.ref h17, .ref h18, .ref h19, .ref h20, .ref h21, .int 0, .int 0]))]) [2] rfl
    refine vp_callSi (W.runV (As := []) (rest := []) ⟨hx, hb, hml, hown, hts⟩ (kX5_actsDone_1 l dC dI cy h2 h17 h18 h19 h20 h21) (cwV 0 hts (gdV m_1723 m_1724 m_1725 m_18 m_1726) rfl rfl rfl (by decide +kernel) ⟨Nat.le_of_ble_eq_true rfl, Nat.le_of_ble_eq_true rfl⟩) ⟨fun a U g mk q => by obtain ⟨q0, qP, qE⟩ := q; exact ⟨q0, qP, qE.call⟩, va_recv hK hP (ci := 5) (q0 := 2) rfl rfl, fun U hU hW => ⟨rfl, by rw [hU]; exact hPc, hE.moved hW⟩⟩ rfl rfl hl.1 rfl (lv_room (Nat.le_of_ble_eq_true rfl)) dX11_about_132 ⟨(show 0 + 0 ≤ 0 from by decide +kernel), (show 0 + 0 ≤ 0 from by decide +kernel)⟩) (fun r_2 hw => ?_)
    subst r_2
    exact W.iret (v := 0) hx hb hr (fun t ht hW => ⟨0, rfl, Or.inr (Or.inr (Or.inr (Or.inr (Or.inr (Or.inr (Or.inl ⟨rfl, c_1⟩)))))), ht⟩) (fun _ h_ => (List.not_mem_nil h_).elim) dX11_about_135
  · refine lv_tableIn (off := 135) (tgt := 136) hx hb dX11_about_1 (by rw [c_1]; decide +kernel) (by rw [c_1]; decide +kernel) (by rw [c_1]; decide +kernel) (by decide) ?_
    refine lv_aload_n hx hb dX11_about_136 rfl (lv_at hl 0 rfl) ?_
    refine va_get (D := (dC, dI)) (ci := 11) (v := .ref h2) (C := RX11) (T := TX11) (N := 9) hx hb hts inlX11 hown hK hP 0 rfl rfl 1 (by decide) (hts _ m_19) (fun _ h9 => h9) rfl dX11_about_137 ?_
    have hPc := hP.sub (ws' := [(h2, .inr (5, [.ref h17, .ref h18, .ref h19, .ref h20, .ref h21, .int 0, .int 0]))]) [2] rfl
    refine vp_callSi (W.runV (As := []) (rest := []) ⟨hx, hb, hml, hown, hts⟩ (kX5_actsTakenBack_1 l dC dI cy h2 h17 h18 h19 h20 h21) (cwV 0 hts (gdV m_1727 m_1728 m_1729 m_18 m_1730) rfl rfl rfl (by decide +kernel) ⟨Nat.le_of_ble_eq_true rfl, Nat.le_of_ble_eq_true rfl⟩) ⟨fun a U g mk q => by obtain ⟨q0, qP, qE⟩ := q; exact ⟨q0, qP, qE.call⟩, va_recv hK hP (ci := 5) (q0 := 2) rfl rfl, fun U hU hW => ⟨rfl, by rw [hU]; exact hPc, hE.moved hW⟩⟩ rfl rfl hl.1 rfl (lv_room (Nat.le_of_ble_eq_true rfl)) dX11_about_140 ⟨(show 0 + 0 ≤ 0 from by decide +kernel), (show 0 + 0 ≤ 0 from by decide +kernel)⟩) (fun r_3 hw => ?_)
    subst r_3
    exact W.iret (v := 0) hx hb hr (fun t ht hW => ⟨0, rfl, Or.inr (Or.inr (Or.inr (Or.inr (Or.inr (Or.inr (Or.inr (Or.inl ⟨rfl, c_1⟩))))))), ht⟩) (fun _ h_ => (List.not_mem_nil h_).elim) dX11_about_143
  · refine lv_tableIn (off := 143) (tgt := 144) hx hb dX11_about_1 (by rw [c_1]; decide +kernel) (by rw [c_1]; decide +kernel) (by rw [c_1]; decide +kernel) (by decide) ?_
    refine lv_aload_n hx hb dX11_about_144 rfl (lv_at hl 0 rfl) ?_
    refine va_get (D := (dC, dI)) (ci := 11) (v := .ref h6) (C := RX11) (T := TX11) (N := 9) hx hb hts inlX11 hown hK hP 0 rfl rfl 5 (by decide) (hts _ m_35) (fun _ h9 => h9) rfl dX11_about_145 ?_
    refine va_getN (D := (dC, dI)) (ci := 7) (v := .int 0) (C := RX7) (T := TX7) (N := 13) hx hb hts inlX7 hown hK hP 5 rfl rfl 10 (by decide) (va_Nw.use rfl (hN _ nw_40)) (fun _ h9 => h9) rfl dX11_about_148 ?_
    exact W.iret (v := 0) hx hb hr (fun t ht hW => ⟨0, rfl, Or.inr (Or.inr (Or.inr (Or.inr (Or.inr (Or.inr (Or.inr (Or.inr (Or.inl ⟨rfl, c_1⟩)))))))), ht⟩) (fun _ h_ => (List.not_mem_nil h_).elim) dX11_about_151
  · refine lv_tableIn (off := 151) (tgt := 152) hx hb dX11_about_1 (by rw [c_1]; decide +kernel) (by rw [c_1]; decide +kernel) (by rw [c_1]; decide +kernel) (by decide) ?_
    refine lv_aload_n hx hb dX11_about_152 rfl (lv_at hl 0 rfl) ?_
    refine va_get (D := (dC, dI)) (ci := 11) (v := .ref h6) (C := RX11) (T := TX11) (N := 9) hx hb hts inlX11 hown hK hP 0 rfl rfl 5 (by decide) (hts _ m_35) (fun _ h9 => h9) rfl dX11_about_153 ?_
    refine va_getN (D := (dC, dI)) (ci := 7) (v := .int 0) (C := RX7) (T := TX7) (N := 13) hx hb hts inlX7 hown hK hP 5 rfl rfl 11 (by decide) (va_Nw.use rfl (hN _ nw_41)) (fun _ h9 => h9) rfl dX11_about_156 ?_
    exact W.iret (v := 0) hx hb hr (fun t ht hW => ⟨0, rfl, Or.inr (Or.inr (Or.inr (Or.inr (Or.inr (Or.inr (Or.inr (Or.inr (Or.inr (Or.inl ⟨rfl, c_1⟩))))))))), ht⟩) (fun _ h_ => (List.not_mem_nil h_).elim) dX11_about_159
  · refine lv_tableIn (off := 159) (tgt := 160) hx hb dX11_about_1 (by rw [c_1]; decide +kernel) (by rw [c_1]; decide +kernel) (by rw [c_1]; decide +kernel) (by decide) ?_
    refine lv_aload_n hx hb dX11_about_160 rfl (lv_at hl 0 rfl) ?_
    refine va_get (D := (dC, dI)) (ci := 11) (v := .ref h1) (C := RX11) (T := TX11) (N := 9) hx hb hts inlX11 hown hK hP 0 rfl rfl 0 (by decide) (hts _ m_15) (fun _ h9 => h9) rfl dX11_about_161 ?_
    refine va_getN (D := (dC, dI)) (ci := 6) (v := .ref h33) (C := RX6) (T := TX6) (N := 4) hx hb hts inlX6 hown hK hP 6 rfl rfl 0 (by decide) (va_Nw.use rfl (hN _ nw_29)) (fun _ h9 => h9) rfl dX11_about_164 ?_
    refine va_getN (D := (dC, dI)) (ci := 9) (v := .int 0) (C := RX9) (T := TX9) (N := 8) hx hb hts inlX9 hown hK hP 7 rfl rfl 2 (by decide) (va_Nw.use rfl (hN _ nw_0)) (fun _ h9 => h9) rfl dX11_about_167 ?_
    exact W.iret (v := 0) hx hb hr (fun t ht hW => ⟨0, rfl, Or.inr (Or.inr (Or.inr (Or.inr (Or.inr (Or.inr (Or.inr (Or.inr (Or.inr (Or.inr (Or.inl ⟨rfl, c_1⟩)))))))))), ht⟩) (fun _ h_ => (List.not_mem_nil h_).elim) dX11_about_170
  · refine lv_tableIn (off := 170) (tgt := 171) hx hb dX11_about_1 (by rw [c_1]; decide +kernel) (by rw [c_1]; decide +kernel) (by rw [c_1]; decide +kernel) (by decide) ?_
    refine lv_aload_n hx hb dX11_about_171 rfl (lv_at hl 0 rfl) ?_
    refine va_get (D := (dC, dI)) (ci := 11) (v := .ref h9) (C := RX11) (T := TX11) (N := 9) hx hb hts inlX11 hown hK hP 0 rfl rfl 8 (by decide) (hts _ m_44) (fun _ h9 => h9) rfl dX11_about_172 ?_
    refine va_getN (D := (dC, dI)) (ci := 10) (v := .ref h16) (C := RX10) (T := TX10) (N := 12) hx hb hts inlX10 hown hK hP 1 rfl rfl 6 (by decide) (va_Nw.use rfl (hN _ nw_18)) (fun _ h9 => h9) rfl dX11_about_175 ?_
    refine va_getN (D := (dC, dI)) (ci := 0) (v := .int 0) (C := RX0) (T := TX0) (N := 8) hx hb hts inlX0 hown hK hP 8 rfl rfl 6 (by decide) (va_Nw.use rfl (hN _ nw_13)) (fun _ h9 => h9) rfl dX11_about_178 ?_
    exact W.iret (v := 0) hx hb hr (fun t ht hW => ⟨0, rfl, Or.inr (Or.inr (Or.inr (Or.inr (Or.inr (Or.inr (Or.inr (Or.inr (Or.inr (Or.inr (Or.inr (Or.inl ⟨rfl, c_1⟩))))))))))), ht⟩) (fun _ h_ => (List.not_mem_nil h_).elim) dX11_about_181
  · refine lv_tableIn (off := 181) (tgt := 182) hx hb dX11_about_1 (by rw [c_1]; decide +kernel) (by rw [c_1]; decide +kernel) (by rw [c_1]; decide +kernel) (by decide) ?_
    refine lv_aload_n hx hb dX11_about_182 rfl (lv_at hl 0 rfl) ?_
    refine va_get (D := (dC, dI)) (ci := 11) (v := .ref h7) (C := RX11) (T := TX11) (N := 9) hx hb hts inlX11 hown hK hP 0 rfl rfl 6 (by decide) (hts _ m_39) (fun _ h9 => h9) rfl dX11_about_183 ?_
    refine va_getN (D := (dC, dI)) (ci := 1) (v := .int 0) (C := RX1) (T := TX1) (N := 2) hx hb hts inlX1 hown hK hP 9 rfl rfl 1 (by decide) (va_Nw.use rfl (hN _ nw_11)) (fun _ h9 => h9) rfl dX11_about_186 ?_
    exact W.iret (v := 0) hx hb hr (fun t ht hW => ⟨0, rfl, Or.inr (Or.inr (Or.inr (Or.inr (Or.inr (Or.inr (Or.inr (Or.inr (Or.inr (Or.inr (Or.inr (Or.inr (Or.inl ⟨rfl, c_1⟩)))))))))))), ht⟩) (fun _ h_ => (List.not_mem_nil h_).elim) dX11_about_189
  · refine lv_tableOut (tgt := 190) hx hb dX11_about_1 c_1 (by decide) ?_
    refine lv_iconst (v := (-1)) hx hb dX11_about_190 (by decide +kernel) ?_
    exact W.iret (v := (-1)) hx hb hr (fun t ht hW => ⟨(-1), rfl, Or.inr (Or.inr (Or.inr (Or.inr (Or.inr (Or.inr (Or.inr (Or.inr (Or.inr (Or.inr (Or.inr (Or.inr (Or.inr (⟨rfl, c_1⟩))))))))))))), ht⟩) (fun _ h_ => (List.not_mem_nil h_).elim) dX11_about_191
set_option maxHeartbeats 4000000 in
set_option maxRecDepth 100000 in
theorem kX12_about_1 (l : Launch) (dC : Nat → ClassId) (dI : Nat → Nat → Nat) (cy : Nat → ClassId) (h0 : Nat) (r : Nat → Nat) (p0 : Int32) : Met l yX12_about wmX12_about ({ frames := 0, cells := 0, slots := 0, locals := 0 }) (va_Pc [.ref h0, .int p0] (fun U => va_P (dC, dI) classes [(h0, .inr (12, [.ref (r 0), .ref (r 1), .int 0, .int 0, .int 0, .int (-1), .int 0, .int 0, .int 0, .int 0, .long 0, .ref (r 11), .ref (r 12), .ref (r 13), .ref (r 14), .ref (r 15), .ref (r 16), .ref (r 17), .ref (r 18), .ref (r 19), .ref (r 20), .ref (r 21), .ref (r 22), .ref (r 23), .ref (r 24), .ref (r 25), .ref (r 26), .ref (r 27), .ref (r 28), .ref (r 29), .ref (r 30), .ref (r 31), .ref (r 32), .ref (r 33), .int 0, .int 0, .int 0, .int 0, .int 0, .int 0, .int 0, .ref (r 41), .ref (r 42), .ref (r 43), .ref (r 44), .int 0, .int 0, .int 0, .ref (r 48), .int 0, .int 0, .ref (r 51), .ref (r 52), .ref (r 53), .ref (r 54), .int 0, .ref (r 56), .ref (r 57), .ref (r 58), .int 0, .ref (r 60), .ref (r 61), .ref (r 62), .ref (r 63), .ref (r 64), .ref (r 65), .ref (r 66), .ref (r 67), .ref (r 68), .int 0, .int 0, .int 0, .ref (r 72), .ref (r 73)])), (r 13, .inl (cy 0, 2, .inl (fun _ => 0))), (r 11, .inl (cy 0, 2, .inl (fun _ => 0))), (r 41, .inl (cy 0, 15, .inl (fun _ => 0))), (r 12, .inl (cy 0, 2, .inl (fun _ => 0))), (r 14, .inl (cy 0, 2, .inl (fun _ => 0)))] U.heap ∧ EV dC dI cy U)) (vp_Si (fun r_ => (r_ = 0 ∧ p0 = 0) ∨ (r_ = 0 ∧ p0 = 1) ∨ (r_ = 0 ∧ p0 = 2) ∨ (r_ = 0 ∧ p0 = 3) ∨ (r_ = 0 ∧ p0 = 4) ∨ (r_ = 0 ∧ p0 = 5) ∨ (r_ = 0 ∧ p0 = 6) ∨ (r_ = 0 ∧ p0 = 7) ∨ (r_ = 0 ∧ p0 = 8) ∨ (r_ = 0 ∧ p0 = 9) ∨ (r_ = 0 ∧ p0 = 10) ∨ (r_ = 0 ∧ p0 = 11) ∨ (r_ = 0 ∧ p0 = 12) ∨ (r_ = (-1) ∧ (p0.toInt < 0 ∨ 12 < p0.toInt)))) 0 0 (fun _ => False) := by
  refine Met.ofW (cc := cX12_about) (maxL := 2) (ret := (some .int)) (by decide +kernel) rfl ?_
  intro p e s m args below meth c s₁ B hml hv
  obtain ⟨rfl, hP, hE⟩ := hv
  have hK := hE.1
  have hN := hE.2.1
  have hx := B.exec
  have hb := B.bytes
  have hr := B.returns
  have hts0 := atoms_spec (ws := wmX12_about) B.pre
  have hts : ∀ w ∈ wsL_law, w.before _ s = true := fun w h => hts0 w (List.mem_cons_of_mem _ h)
  have hown : s.vm.findClass RX12 = some m.cls := findClass_of_methodNamed B.named
  have hlocks := B.notSynchronized
  have hl := lv_entry ([.ref h0, .int p0]) (n := 2) (Nat.le_of_ble_eq_true rfl)
  rw [lg_entry_eq]
  generalize (lg_sl ([.ref h0, .int p0]) ++ List.replicate (2 - (lg_sl ([.ref h0, .int p0])).length) Slot.unset).toArray = ls at hl ⊢
  have hl : lv_has ls 2 [(0, .ref h0), (1, .int p0)] := hl
  refine lv_iload_n hx hb dX12_about_0 rfl (lv_at hl 1 rfl) ?_
  rcases tsw_0_12 p0 with c_1 | c_1 | c_1 | c_1 | c_1 | c_1 | c_1 | c_1 | c_1 | c_1 | c_1 | c_1 | c_1 | c_1
  · refine lv_tableIn (off := 67) (tgt := 68) hx hb dX12_about_1 (by rw [c_1]; decide +kernel) (by rw [c_1]; decide +kernel) (by rw [c_1]; decide +kernel) (by decide) ?_
    refine lv_aload_n hx hb dX12_about_68 rfl (lv_at hl 0 rfl) ?_
    refine va_get (D := (dC, dI)) (ci := 12) (v := .ref (r 13)) (C := RX12) (T := TX12) (N := 74) hx hb hts inlX12 hown hK hP 0 rfl rfl 13 (by decide) (hts _ m_223) (fun _ h9 => h9) rfl dX12_about_69 ?_
    refine lv_aload_n hx hb dX12_about_72 rfl (lv_at hl 0 rfl) ?_
    refine va_get (D := (dC, dI)) (ci := 12) (v := .int 0) (C := RX12) (T := TX12) (N := 74) hx hb hts inlX12 hown hK hP 0 rfl rfl 34 (by decide) (hts _ m_277) (fun _ h9 => h9) rfl dX12_about_73 ?_
    refine va_iald hx hb hK hP 1 0 rfl rfl vi_0_2 dX12_about_76 ?_
    refine W.eq (g2 := F0 m 77 ls [.int 0]) rfl ?_
    exact W.iret (v := 0) hx hb hr (fun t ht hW => ⟨0, rfl, Or.inl ⟨rfl, c_1⟩, ht⟩) (fun _ h_ => (List.not_mem_nil h_).elim) dX12_about_77
  · refine lv_tableIn (off := 77) (tgt := 78) hx hb dX12_about_1 (by rw [c_1]; decide +kernel) (by rw [c_1]; decide +kernel) (by rw [c_1]; decide +kernel) (by decide) ?_
    refine lv_aload_n hx hb dX12_about_78 rfl (lv_at hl 0 rfl) ?_
    refine va_get (D := (dC, dI)) (ci := 12) (v := .ref (r 11)) (C := RX12) (T := TX12) (N := 74) hx hb hts inlX12 hown hK hP 0 rfl rfl 11 (by decide) (hts _ m_221) (fun _ h9 => h9) rfl dX12_about_79 ?_
    refine lv_aload_n hx hb dX12_about_82 rfl (lv_at hl 0 rfl) ?_
    refine va_get (D := (dC, dI)) (ci := 12) (v := .int 0) (C := RX12) (T := TX12) (N := 74) hx hb hts inlX12 hown hK hP 0 rfl rfl 34 (by decide) (hts _ m_277) (fun _ h9 => h9) rfl dX12_about_83 ?_
    refine va_iald hx hb hK hP 2 0 rfl rfl vi_0_2 dX12_about_86 ?_
    refine W.eq (g2 := F0 m 87 ls [.int 0]) rfl ?_
    exact W.iret (v := 0) hx hb hr (fun t ht hW => ⟨0, rfl, Or.inr (Or.inl ⟨rfl, c_1⟩), ht⟩) (fun _ h_ => (List.not_mem_nil h_).elim) dX12_about_87
  · refine lv_tableIn (off := 87) (tgt := 88) hx hb dX12_about_1 (by rw [c_1]; decide +kernel) (by rw [c_1]; decide +kernel) (by rw [c_1]; decide +kernel) (by decide) ?_
    refine lv_aload_n hx hb dX12_about_88 rfl (lv_at hl 0 rfl) ?_
    refine va_get (D := (dC, dI)) (ci := 12) (v := .ref (r 41)) (C := RX12) (T := TX12) (N := 74) hx hb hts inlX12 hown hK hP 0 rfl rfl 41 (by decide) (hts _ m_244) (fun _ h9 => h9) rfl dX12_about_89 ?_
    refine lv_bipush (v := 12) hx hb dX12_about_92 (by decide +kernel) ?_
    refine va_iald hx hb hK hP 3 0 rfl rfl vi_12_15 dX12_about_94 ?_
    refine W.eq (g2 := F0 m 95 ls [.int 0]) rfl ?_
    exact W.iret (v := 0) hx hb hr (fun t ht hW => ⟨0, rfl, Or.inr (Or.inr (Or.inl ⟨rfl, c_1⟩)), ht⟩) (fun _ h_ => (List.not_mem_nil h_).elim) dX12_about_95
  · refine lv_tableIn (off := 95) (tgt := 96) hx hb dX12_about_1 (by rw [c_1]; decide +kernel) (by rw [c_1]; decide +kernel) (by rw [c_1]; decide +kernel) (by decide) ?_
    refine lv_aload_n hx hb dX12_about_96 rfl (lv_at hl 0 rfl) ?_
    refine va_get (D := (dC, dI)) (ci := 12) (v := .ref (r 41)) (C := RX12) (T := TX12) (N := 74) hx hb hts inlX12 hown hK hP 0 rfl rfl 41 (by decide) (hts _ m_244) (fun _ h9 => h9) rfl dX12_about_97 ?_
    refine lv_bipush (v := 13) hx hb dX12_about_100 (by decide +kernel) ?_
    refine va_iald hx hb hK hP 3 0 rfl rfl vi_13_15 dX12_about_102 ?_
    refine W.eq (g2 := F0 m 103 ls [.int 0]) rfl ?_
    exact W.iret (v := 0) hx hb hr (fun t ht hW => ⟨0, rfl, Or.inr (Or.inr (Or.inr (Or.inl ⟨rfl, c_1⟩))), ht⟩) (fun _ h_ => (List.not_mem_nil h_).elim) dX12_about_103
  · refine lv_tableIn (off := 103) (tgt := 104) hx hb dX12_about_1 (by rw [c_1]; decide +kernel) (by rw [c_1]; decide +kernel) (by rw [c_1]; decide +kernel) (by decide) ?_
    refine lv_aload_n hx hb dX12_about_104 rfl (lv_at hl 0 rfl) ?_
    refine va_get (D := (dC, dI)) (ci := 12) (v := .ref (r 41)) (C := RX12) (T := TX12) (N := 74) hx hb hts inlX12 hown hK hP 0 rfl rfl 41 (by decide) (hts _ m_244) (fun _ h9 => h9) rfl dX12_about_105 ?_
    refine lv_bipush (v := 14) hx hb dX12_about_108 (by decide +kernel) ?_
    refine va_iald hx hb hK hP 3 0 rfl rfl vi_14_15 dX12_about_110 ?_
    refine W.eq (g2 := F0 m 111 ls [.int 0]) rfl ?_
    exact W.iret (v := 0) hx hb hr (fun t ht hW => ⟨0, rfl, Or.inr (Or.inr (Or.inr (Or.inr (Or.inl ⟨rfl, c_1⟩)))), ht⟩) (fun _ h_ => (List.not_mem_nil h_).elim) dX12_about_111
  · refine lv_tableIn (off := 111) (tgt := 112) hx hb dX12_about_1 (by rw [c_1]; decide +kernel) (by rw [c_1]; decide +kernel) (by rw [c_1]; decide +kernel) (by decide) ?_
    refine lv_aload_n hx hb dX12_about_112 rfl (lv_at hl 0 rfl) ?_
    refine va_get (D := (dC, dI)) (ci := 12) (v := .ref (r 12)) (C := RX12) (T := TX12) (N := 74) hx hb hts inlX12 hown hK hP 0 rfl rfl 12 (by decide) (hts _ m_222) (fun _ h9 => h9) rfl dX12_about_113 ?_
    refine lv_aload_n hx hb dX12_about_116 rfl (lv_at hl 0 rfl) ?_
    refine va_get (D := (dC, dI)) (ci := 12) (v := .int 0) (C := RX12) (T := TX12) (N := 74) hx hb hts inlX12 hown hK hP 0 rfl rfl 34 (by decide) (hts _ m_277) (fun _ h9 => h9) rfl dX12_about_117 ?_
    refine va_iald hx hb hK hP 4 0 rfl rfl vi_0_2 dX12_about_120 ?_
    refine W.eq (g2 := F0 m 121 ls [.int 0]) rfl ?_
    exact W.iret (v := 0) hx hb hr (fun t ht hW => ⟨0, rfl, Or.inr (Or.inr (Or.inr (Or.inr (Or.inr (Or.inl ⟨rfl, c_1⟩))))), ht⟩) (fun _ h_ => (List.not_mem_nil h_).elim) dX12_about_121
  · refine lv_tableIn (off := 121) (tgt := 122) hx hb dX12_about_1 (by rw [c_1]; decide +kernel) (by rw [c_1]; decide +kernel) (by rw [c_1]; decide +kernel) (by decide) ?_
    refine lv_aload_n hx hb dX12_about_122 rfl (lv_at hl 0 rfl) ?_
    refine va_get (D := (dC, dI)) (ci := 12) (v := .int 0) (C := RX12) (T := TX12) (N := 74) hx hb hts inlX12 hown hK hP 0 rfl rfl 49 (by decide) (hts _ m_278) (fun _ h9 => h9) rfl dX12_about_123 ?_
    exact W.iret (v := 0) hx hb hr (fun t ht hW => ⟨0, rfl, Or.inr (Or.inr (Or.inr (Or.inr (Or.inr (Or.inr (Or.inl ⟨rfl, c_1⟩)))))), ht⟩) (fun _ h_ => (List.not_mem_nil h_).elim) dX12_about_126
  · refine lv_tableIn (off := 126) (tgt := 127) hx hb dX12_about_1 (by rw [c_1]; decide +kernel) (by rw [c_1]; decide +kernel) (by rw [c_1]; decide +kernel) (by decide) ?_
    refine lv_aload_n hx hb dX12_about_127 rfl (lv_at hl 0 rfl) ?_
    refine va_get (D := (dC, dI)) (ci := 12) (v := .int 0) (C := RX12) (T := TX12) (N := 74) hx hb hts inlX12 hown hK hP 0 rfl rfl 50 (by decide) (hts _ m_279) (fun _ h9 => h9) rfl dX12_about_128 ?_
    exact W.iret (v := 0) hx hb hr (fun t ht hW => ⟨0, rfl, Or.inr (Or.inr (Or.inr (Or.inr (Or.inr (Or.inr (Or.inr (Or.inl ⟨rfl, c_1⟩))))))), ht⟩) (fun _ h_ => (List.not_mem_nil h_).elim) dX12_about_131
  · refine lv_tableIn (off := 131) (tgt := 132) hx hb dX12_about_1 (by rw [c_1]; decide +kernel) (by rw [c_1]; decide +kernel) (by rw [c_1]; decide +kernel) (by decide) ?_
    refine lv_aload_n hx hb dX12_about_132 rfl (lv_at hl 0 rfl) ?_
    refine va_get (D := (dC, dI)) (ci := 12) (v := .int 0) (C := RX12) (T := TX12) (N := 74) hx hb hts inlX12 hown hK hP 0 rfl rfl 69 (by decide) (hts _ m_280) (fun _ h9 => h9) rfl dX12_about_133 ?_
    exact W.iret (v := 0) hx hb hr (fun t ht hW => ⟨0, rfl, Or.inr (Or.inr (Or.inr (Or.inr (Or.inr (Or.inr (Or.inr (Or.inr (Or.inl ⟨rfl, c_1⟩)))))))), ht⟩) (fun _ h_ => (List.not_mem_nil h_).elim) dX12_about_136
  · refine lv_tableIn (off := 136) (tgt := 137) hx hb dX12_about_1 (by rw [c_1]; decide +kernel) (by rw [c_1]; decide +kernel) (by rw [c_1]; decide +kernel) (by decide) ?_
    refine lv_aload_n hx hb dX12_about_137 rfl (lv_at hl 0 rfl) ?_
    refine va_get (D := (dC, dI)) (ci := 12) (v := .int 0) (C := RX12) (T := TX12) (N := 74) hx hb hts inlX12 hown hK hP 0 rfl rfl 70 (by decide) (hts _ m_1613) (fun _ h9 => h9) rfl dX12_about_138 ?_
    exact W.iret (v := 0) hx hb hr (fun t ht hW => ⟨0, rfl, Or.inr (Or.inr (Or.inr (Or.inr (Or.inr (Or.inr (Or.inr (Or.inr (Or.inr (Or.inl ⟨rfl, c_1⟩))))))))), ht⟩) (fun _ h_ => (List.not_mem_nil h_).elim) dX12_about_141
  · refine lv_tableIn (off := 141) (tgt := 142) hx hb dX12_about_1 (by rw [c_1]; decide +kernel) (by rw [c_1]; decide +kernel) (by rw [c_1]; decide +kernel) (by decide) ?_
    refine lv_aload_n hx hb dX12_about_142 rfl (lv_at hl 0 rfl) ?_
    refine va_get (D := (dC, dI)) (ci := 12) (v := .int 0) (C := RX12) (T := TX12) (N := 74) hx hb hts inlX12 hown hK hP 0 rfl rfl 2 (by decide) (hts _ m_299) (fun _ h9 => h9) rfl dX12_about_143 ?_
    exact W.iret (v := 0) hx hb hr (fun t ht hW => ⟨0, rfl, Or.inr (Or.inr (Or.inr (Or.inr (Or.inr (Or.inr (Or.inr (Or.inr (Or.inr (Or.inr (Or.inl ⟨rfl, c_1⟩)))))))))), ht⟩) (fun _ h_ => (List.not_mem_nil h_).elim) dX12_about_146
  · refine lv_tableIn (off := 146) (tgt := 147) hx hb dX12_about_1 (by rw [c_1]; decide +kernel) (by rw [c_1]; decide +kernel) (by rw [c_1]; decide +kernel) (by decide) ?_
    refine lv_aload_n hx hb dX12_about_147 rfl (lv_at hl 0 rfl) ?_
    refine va_get (D := (dC, dI)) (ci := 12) (v := .ref (r 14)) (C := RX12) (T := TX12) (N := 74) hx hb hts inlX12 hown hK hP 0 rfl rfl 14 (by decide) (hts _ m_224) (fun _ h9 => h9) rfl dX12_about_148 ?_
    refine lv_aload_n hx hb dX12_about_151 rfl (lv_at hl 0 rfl) ?_
    refine va_get (D := (dC, dI)) (ci := 12) (v := .int 0) (C := RX12) (T := TX12) (N := 74) hx hb hts inlX12 hown hK hP 0 rfl rfl 34 (by decide) (hts _ m_277) (fun _ h9 => h9) rfl dX12_about_152 ?_
    refine va_iald hx hb hK hP 5 0 rfl rfl vi_0_2 dX12_about_155 ?_
    refine W.eq (g2 := F0 m 156 ls [.int 0]) rfl ?_
    exact W.iret (v := 0) hx hb hr (fun t ht hW => ⟨0, rfl, Or.inr (Or.inr (Or.inr (Or.inr (Or.inr (Or.inr (Or.inr (Or.inr (Or.inr (Or.inr (Or.inr (Or.inl ⟨rfl, c_1⟩))))))))))), ht⟩) (fun _ h_ => (List.not_mem_nil h_).elim) dX12_about_156
  · refine lv_tableIn (off := 156) (tgt := 157) hx hb dX12_about_1 (by rw [c_1]; decide +kernel) (by rw [c_1]; decide +kernel) (by rw [c_1]; decide +kernel) (by decide) ?_
    refine lv_aload_n hx hb dX12_about_157 rfl (lv_at hl 0 rfl) ?_
    refine va_get (D := (dC, dI)) (ci := 12) (v := .int 0) (C := RX12) (T := TX12) (N := 74) hx hb hts inlX12 hown hK hP 0 rfl rfl 55 (by decide) (hts _ m_281) (fun _ h9 => h9) rfl dX12_about_158 ?_
    exact W.iret (v := 0) hx hb hr (fun t ht hW => ⟨0, rfl, Or.inr (Or.inr (Or.inr (Or.inr (Or.inr (Or.inr (Or.inr (Or.inr (Or.inr (Or.inr (Or.inr (Or.inr (Or.inl ⟨rfl, c_1⟩)))))))))))), ht⟩) (fun _ h_ => (List.not_mem_nil h_).elim) dX12_about_161
  · refine lv_tableOut (tgt := 162) hx hb dX12_about_1 c_1 (by decide) ?_
    refine lv_iconst (v := (-1)) hx hb dX12_about_162 (by decide +kernel) ?_
    exact W.iret (v := (-1)) hx hb hr (fun t ht hW => ⟨(-1), rfl, Or.inr (Or.inr (Or.inr (Or.inr (Or.inr (Or.inr (Or.inr (Or.inr (Or.inr (Or.inr (Or.inr (Or.inr (Or.inr (⟨rfl, c_1⟩))))))))))))), ht⟩) (fun _ h_ => (List.not_mem_nil h_).elim) dX12_about_163
set_option maxHeartbeats 4000000 in
set_option maxRecDepth 100000 in
theorem kX12_fault_2 (l : Launch) (dC : Nat → ClassId) (dI : Nat → Nat → Nat) (cy : Nat → ClassId) (h0 : Nat) (r : Nat → Nat) : Met l yX12_fault wmX12_fault ({ frames := 0, cells := 0, slots := 0, locals := 0 }) (va_Pc [.ref h0, .int 0] (fun U => va_P (dC, dI) classes [(h0, .inr (12, [.ref (r 0), .ref (r 1), .int 0, .int 0, .int 0, .int (-1), .int 0, .int 0, .int 0, .int 0, .long 0, .ref (r 11), .ref (r 12), .ref (r 13), .ref (r 14), .ref (r 15), .ref (r 16), .ref (r 17), .ref (r 18), .ref (r 19), .ref (r 20), .ref (r 21), .ref (r 22), .ref (r 23), .ref (r 24), .ref (r 25), .ref (r 26), .ref (r 27), .ref (r 28), .ref (r 29), .ref (r 30), .ref (r 31), .ref (r 32), .ref (r 33), .int 0, .int 0, .int 0, .int 0, .int 0, .int 0, .int 0, .ref (r 41), .ref (r 42), .ref (r 43), .ref (r 44), .int 0, .int 0, .int 0, .ref (r 48), .int 0, .int 0, .ref (r 51), .ref (r 52), .ref (r 53), .ref (r 54), .int 0, .ref (r 56), .ref (r 57), .ref (r 58), .int 0, .ref (r 60), .ref (r 61), .ref (r 62), .ref (r 63), .ref (r 64), .ref (r 65), .ref (r 66), .ref (r 67), .ref (r 68), .int 0, .int 0, .int 0, .ref (r 72), .ref (r 73)]))] U.heap ∧ EV dC dI cy U)) (vp_Si (fun r_ => r_ = 0)) 0 0 (fun _ => False) := by
  refine Met.ofW (cc := cX12_fault) (maxL := 2) (ret := (some .int)) (by decide +kernel) rfl ?_
  intro p e s m args below meth c s₁ B hml hv
  obtain ⟨rfl, hP, hE⟩ := hv
  have hK := hE.1
  have hN := hE.2.1
  have hx := B.exec
  have hb := B.bytes
  have hr := B.returns
  have hts0 := atoms_spec (ws := wmX12_fault) B.pre
  have hts : ∀ w ∈ wsL_law, w.before _ s = true := fun w h => hts0 w (List.mem_cons_of_mem _ h)
  have hown : s.vm.findClass RX12 = some m.cls := findClass_of_methodNamed B.named
  have hlocks := B.notSynchronized
  have hl := lv_entry ([.ref h0, .int 0]) (n := 2) (Nat.le_of_ble_eq_true rfl)
  rw [lg_entry_eq]
  generalize (lg_sl ([.ref h0, .int 0]) ++ List.replicate (2 - (lg_sl ([.ref h0, .int 0])).length) Slot.unset).toArray = ls at hl ⊢
  have hl : lv_has ls 2 [(0, .ref h0), (1, .int 0)] := hl
  refine lv_iload_n hx hb dX12_fault_0 rfl (lv_at hl 1 rfl) ?_
  refine lv_if_ne (tgt := 11) hx hb dX12_fault_1 (by decide) (fun c_ => absurd (by decide +kernel) c_) (fun _ => ?_)
  refine lv_aload_n hx hb dX12_fault_4 rfl (lv_at hl 0 rfl) ?_
  refine va_get (D := (dC, dI)) (ci := 12) (v := .int 0) (C := RX12) (T := TX12) (N := 74) hx hb hts inlX12 hown hK hP 0 rfl rfl 4 (by decide) (hts _ m_609) (fun _ h9 => h9) rfl dX12_fault_5 ?_
  refine lv_goto (tgt := 24) hx hb dX12_fault_8 (by decide) ?_
  exact W.iret (v := 0) hx hb hr (fun t ht hW => ⟨0, rfl, rfl, ht⟩) (fun _ h_ => (List.not_mem_nil h_).elim) dX12_fault_24
set_option maxHeartbeats 4000000 in
set_option maxRecDepth 100000 in
theorem kX12_fault_3 (l : Launch) (dC : Nat → ClassId) (dI : Nat → Nat → Nat) (cy : Nat → ClassId) (h0 : Nat) (r : Nat → Nat) : Met l yX12_fault wmX12_fault ({ frames := 0, cells := 0, slots := 0, locals := 0 }) (va_Pc [.ref h0, .int 1] (fun U => va_P (dC, dI) classes [(h0, .inr (12, [.ref (r 0), .ref (r 1), .int 0, .int 0, .int 0, .int (-1), .int 0, .int 0, .int 0, .int 0, .long 0, .ref (r 11), .ref (r 12), .ref (r 13), .ref (r 14), .ref (r 15), .ref (r 16), .ref (r 17), .ref (r 18), .ref (r 19), .ref (r 20), .ref (r 21), .ref (r 22), .ref (r 23), .ref (r 24), .ref (r 25), .ref (r 26), .ref (r 27), .ref (r 28), .ref (r 29), .ref (r 30), .ref (r 31), .ref (r 32), .ref (r 33), .int 0, .int 0, .int 0, .int 0, .int 0, .int 0, .int 0, .ref (r 41), .ref (r 42), .ref (r 43), .ref (r 44), .int 0, .int 0, .int 0, .ref (r 48), .int 0, .int 0, .ref (r 51), .ref (r 52), .ref (r 53), .ref (r 54), .int 0, .ref (r 56), .ref (r 57), .ref (r 58), .int 0, .ref (r 60), .ref (r 61), .ref (r 62), .ref (r 63), .ref (r 64), .ref (r 65), .ref (r 66), .ref (r 67), .ref (r 68), .int 0, .int 0, .int 0, .ref (r 72), .ref (r 73)]))] U.heap ∧ EV dC dI cy U)) (vp_Si (fun r_ => r_ = (-1))) 0 0 (fun _ => False) := by
  refine Met.ofW (cc := cX12_fault) (maxL := 2) (ret := (some .int)) (by decide +kernel) rfl ?_
  intro p e s m args below meth c s₁ B hml hv
  obtain ⟨rfl, hP, hE⟩ := hv
  have hK := hE.1
  have hN := hE.2.1
  have hx := B.exec
  have hb := B.bytes
  have hr := B.returns
  have hts0 := atoms_spec (ws := wmX12_fault) B.pre
  have hts : ∀ w ∈ wsL_law, w.before _ s = true := fun w h => hts0 w (List.mem_cons_of_mem _ h)
  have hown : s.vm.findClass RX12 = some m.cls := findClass_of_methodNamed B.named
  have hlocks := B.notSynchronized
  have hl := lv_entry ([.ref h0, .int 1]) (n := 2) (Nat.le_of_ble_eq_true rfl)
  rw [lg_entry_eq]
  generalize (lg_sl ([.ref h0, .int 1]) ++ List.replicate (2 - (lg_sl ([.ref h0, .int 1])).length) Slot.unset).toArray = ls at hl ⊢
  have hl : lv_has ls 2 [(0, .ref h0), (1, .int 1)] := hl
  refine lv_iload_n hx hb dX12_fault_0 rfl (lv_at hl 1 rfl) ?_
  refine lv_if_ne (tgt := 11) hx hb dX12_fault_1 (by decide) (fun _ => ?_) (fun c_ => absurd c_ (by decide +kernel))
  refine lv_iload_n hx hb dX12_fault_11 rfl (lv_at hl 1 rfl) ?_
  refine lv_iconst (v := 1) hx hb dX12_fault_12 (by decide +kernel) ?_
  refine lv_icmp_ne (tgt := 23) hx hb dX12_fault_13 (by decide) (fun c_ => absurd (by decide +kernel) c_) (fun _ => ?_)
  refine lv_aload_n hx hb dX12_fault_16 rfl (lv_at hl 0 rfl) ?_
  refine va_get (D := (dC, dI)) (ci := 12) (v := .int (-1)) (C := RX12) (T := TX12) (N := 74) hx hb hts inlX12 hown hK hP 0 rfl rfl 5 (by decide) (hts _ m_220) (fun _ h9 => h9) rfl dX12_fault_17 ?_
  refine lv_goto (tgt := 24) hx hb dX12_fault_20 (by decide) ?_
  exact W.iret (v := (-1)) hx hb hr (fun t ht hW => ⟨(-1), rfl, rfl, ht⟩) (fun _ h_ => (List.not_mem_nil h_).elim) dX12_fault_24
set_option maxHeartbeats 4000000 in
set_option maxRecDepth 100000 in
theorem kX12_isSlipOrRow_2 (l : Launch) (dC : Nat → ClassId) (dI : Nat → Nat → Nat) (cy : Nat → ClassId) (h0 : Nat) : Met l yX12_isSlipOrRow wmX12_isSlipOrRow ({ frames := 0, cells := 0, slots := 0, locals := 0 }) (va_Pc [.ref h0, .int (-1)] (fun U => va_P (dC, dI) classes [] U.heap ∧ EV dC dI cy U)) (vp_Si (fun r_ => r_ = 1)) 0 0 (fun _ => False) := by
  refine Met.ofW (cc := cX12_isSlipOrRow) (maxL := 2) (ret := (some .boolean)) (by decide +kernel) rfl ?_
  intro p e s m args below meth c s₁ B hml hv
  obtain ⟨rfl, hP, hE⟩ := hv
  have hK := hE.1
  have hN := hE.2.1
  have hx := B.exec
  have hb := B.bytes
  have hr := B.returns
  have hts0 := atoms_spec (ws := wmX12_isSlipOrRow) B.pre
  have hts : ∀ w ∈ wsL_law, w.before _ s = true := fun w h => hts0 w (List.mem_cons_of_mem _ h)
  have hown : s.vm.findClass RX12 = some m.cls := findClass_of_methodNamed B.named
  have hlocks := B.notSynchronized
  have hl := lv_entry ([.ref h0, .int (-1)]) (n := 2) (Nat.le_of_ble_eq_true rfl)
  rw [lg_entry_eq]
  generalize (lg_sl ([.ref h0, .int (-1)]) ++ List.replicate (2 - (lg_sl ([.ref h0, .int (-1)])).length) Slot.unset).toArray = ls at hl ⊢
  have hl : lv_has ls 2 [(0, .ref h0), (1, .int (-1))] := hl
  refine lv_iload_n hx hb dX12_isSlipOrRow_0 rfl (lv_at hl 1 rfl) ?_
  refine lv_iconst (v := (-1)) hx hb dX12_isSlipOrRow_1 (by decide +kernel) ?_
  refine lv_icmp_eq (tgt := 13) hx hb dX12_isSlipOrRow_2 (by decide) (fun _ => ?_) (fun c_ => absurd (by decide +kernel) c_)
  refine lv_iconst (v := 1) hx hb dX12_isSlipOrRow_13 (by decide +kernel) ?_
  refine lv_goto (tgt := 18) hx hb dX12_isSlipOrRow_14 (by decide) ?_
  exact W.zret (v := 1) hx hb hr (by decide +kernel) (fun t ht hW => ⟨1, rfl, rfl, ht⟩) (fun _ h_ => (List.not_mem_nil h_).elim) dX12_isSlipOrRow_18
set_option maxHeartbeats 4000000 in
set_option maxRecDepth 100000 in
theorem kX12_size_2 (l : Launch) (dC : Nat → ClassId) (dI : Nat → Nat → Nat) (cy : Nat → ClassId) (h0 : Nat) (r : Nat → Nat) : Met l yX12_size wmX12_size ({ frames := 1, cells := 0, slots := 0, locals := 21 }) (va_Pc [.ref h0, .int (-1)] (fun U => va_P (dC, dI) classes [(h0, .inr (12, [.ref (r 0), .ref (r 1), .int 0, .int 0, .int 0, .int (-1), .int 0, .int 0, .int 0, .int 0, .long 0, .ref (r 11), .ref (r 12), .ref (r 13), .ref (r 14), .ref (r 15), .ref (r 16), .ref (r 17), .ref (r 18), .ref (r 19), .ref (r 20), .ref (r 21), .ref (r 22), .ref (r 23), .ref (r 24), .ref (r 25), .ref (r 26), .ref (r 27), .ref (r 28), .ref (r 29), .ref (r 30), .ref (r 31), .ref (r 32), .ref (r 33), .int 0, .int 0, .int 0, .int 0, .int 0, .int 0, .int 0, .ref (r 41), .ref (r 42), .ref (r 43), .ref (r 44), .int 0, .int 0, .int 0, .ref (r 48), .int 0, .int 0, .ref (r 51), .ref (r 52), .ref (r 53), .ref (r 54), .int 0, .ref (r 56), .ref (r 57), .ref (r 58), .int 0, .ref (r 60), .ref (r 61), .ref (r 62), .ref (r 63), .ref (r 64), .ref (r 65), .ref (r 66), .ref (r 67), .ref (r 68), .int 0, .int 0, .int 0, .ref (r 72), .ref (r 73)])), (r 41, .inl (cy 0, 15, .inl (fun _ => 0)))] U.heap ∧ EV dC dI cy U)) (vp_Si (fun r_ => r_ = 0)) 0 0 (fun _ => False) := by
  refine Met.ofW (cc := cX12_size) (maxL := 2) (ret := (some .int)) (by decide +kernel) rfl ?_
  intro p e s m args below meth c s₁ B hml hv
  obtain ⟨rfl, hP, hE⟩ := hv
  have hK := hE.1
  have hN := hE.2.1
  have hx := B.exec
  have hb := B.bytes
  have hr := B.returns
  have hts0 := atoms_spec (ws := wmX12_size) B.pre
  have hts : ∀ w ∈ wsL_law, w.before _ s = true := fun w h => hts0 w (List.mem_cons_of_mem _ h)
  have hown : s.vm.findClass RX12 = some m.cls := findClass_of_methodNamed B.named
  have hlocks := B.notSynchronized
  have hl := lv_entry ([.ref h0, .int (-1)]) (n := 2) (Nat.le_of_ble_eq_true rfl)
  rw [lg_entry_eq]
  generalize (lg_sl ([.ref h0, .int (-1)]) ++ List.replicate (2 - (lg_sl ([.ref h0, .int (-1)])).length) Slot.unset).toArray = ls at hl ⊢
  have hl : lv_has ls 2 [(0, .ref h0), (1, .int (-1))] := hl
  refine lv_aload_n hx hb dX12_size_0 rfl (lv_at hl 0 rfl) ?_
  refine lv_iload_n hx hb dX12_size_1 rfl (lv_at hl 1 rfl) ?_
  have hPc := hP.sub (ws' := []) [] rfl
  refine vp_callSi (W.runV (As := [.int (-1)]) (rest := []) ⟨hx, hb, hml, hown, hts⟩ (kX12_isSlipOrRow_2 l dC dI cy h0) (cwV 1 hts (gdV m_815 m_816 m_817 m_5 m_818) rfl rfl rfl (by decide +kernel) ⟨Nat.le_of_ble_eq_true rfl, Nat.le_of_ble_eq_true rfl⟩) ⟨fun a U g mk q => by obtain ⟨q0, qP, qE⟩ := q; exact ⟨q0, qP, qE.call⟩, va_recv hK hP (ci := 12) (q0 := 0) rfl rfl, fun U hU hW => ⟨rfl, by rw [hU]; exact hPc, hE.moved hW⟩⟩ rfl rfl hl.1 rfl (lv_room (Nat.le_of_ble_eq_true rfl)) dX12_size_2 ⟨(show 0 + 0 ≤ 0 from by decide +kernel), (show 0 + 0 ≤ 0 from by decide +kernel)⟩) (fun r_1 hw => ?_)
  subst r_1
  refine lv_if_eq (tgt := 16) hx hb dX12_size_5 (by decide) (fun c_ => absurd c_ (by decide +kernel)) (fun _ => ?_)
  refine lv_aload_n hx hb dX12_size_8 rfl (lv_at hl 0 rfl) ?_
  refine lv_iload_n hx hb dX12_size_9 rfl (lv_at hl 1 rfl) ?_
  have hPc := hP.sub (ws' := [(h0, .inr (12, [.ref (r 0), .ref (r 1), .int 0, .int 0, .int 0, .int (-1), .int 0, .int 0, .int 0, .int 0, .long 0, .ref (r 11), .ref (r 12), .ref (r 13), .ref (r 14), .ref (r 15), .ref (r 16), .ref (r 17), .ref (r 18), .ref (r 19), .ref (r 20), .ref (r 21), .ref (r 22), .ref (r 23), .ref (r 24), .ref (r 25), .ref (r 26), .ref (r 27), .ref (r 28), .ref (r 29), .ref (r 30), .ref (r 31), .ref (r 32), .ref (r 33), .int 0, .int 0, .int 0, .int 0, .int 0, .int 0, .int 0, .ref (r 41), .ref (r 42), .ref (r 43), .ref (r 44), .int 0, .int 0, .int 0, .ref (r 48), .int 0, .int 0, .ref (r 51), .ref (r 52), .ref (r 53), .ref (r 54), .int 0, .ref (r 56), .ref (r 57), .ref (r 58), .int 0, .ref (r 60), .ref (r 61), .ref (r 62), .ref (r 63), .ref (r 64), .ref (r 65), .ref (r 66), .ref (r 67), .ref (r 68), .int 0, .int 0, .int 0, .ref (r 72), .ref (r 73)])), (r 41, .inl (cy 0, 15, .inl (fun _ => 0)))]) [0, 1] rfl
  refine vp_callSi (W.runV (As := [.int (-1)]) (rest := []) ⟨hx, hb, hml, hown, hts⟩ (kX12_longOf_1 l dC dI cy h0 r) (cwV 1 hts (gdV m_795 m_796 m_797 m_5 m_798) rfl rfl rfl (by decide +kernel) ⟨Nat.le_of_ble_eq_true rfl, Nat.le_of_ble_eq_true rfl⟩) ⟨fun a U g mk q => by obtain ⟨q0, qP, qE⟩ := q; exact ⟨q0, qP, qE.call⟩, va_recv hK hP (ci := 12) (q0 := 0) rfl rfl, fun U hU hW => ⟨rfl, by rw [hU]; exact hPc, hE.moved hW⟩⟩ rfl rfl hl.1 rfl (lv_room (Nat.le_of_ble_eq_true rfl)) dX12_size_10 ⟨(show 0 + 0 ≤ 0 from by decide +kernel), (show 0 + 0 ≤ 0 from by decide +kernel)⟩) (fun r_2 hw => ?_)
  subst r_2
  refine lv_goto (tgt := 17) hx hb dX12_size_13 (by decide) ?_
  exact W.iret (v := 0) hx hb hr (fun t ht hW => ⟨0, rfl, rfl, ht⟩) (fun _ h_ => (List.not_mem_nil h_).elim) dX12_size_17
