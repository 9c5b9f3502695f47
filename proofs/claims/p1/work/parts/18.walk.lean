set_option maxHeartbeats 4000000 in
set_option maxRecDepth 100000 in
theorem kX12_layBoth_1 (l : Launch) (dC : Nat → ClassId) (dI : Nat → Nat → Nat) (cy : Nat → ClassId) (h0 : Nat) (r : Nat → Nat) (p0 p1 : Int32) : Met l yX12_layBoth wmX12_layBoth ({ frames := 2, cells := 0, slots := 0, locals := 43 }) (va_Pc [.ref h0, .int p0, .int p1] (fun U => va_P (dC, dI) classes [(h0, .inr (12, [.ref (r 0), .ref (r 1), .int 0, .int 0, .int 0, .int (-1), .int 0, .int 0, .int 0, .int 0, .long 0, .ref (r 11), .ref (r 12), .ref (r 13), .ref (r 14), .ref (r 15), .ref (r 16), .ref (r 17), .ref (r 18), .ref (r 19), .ref (r 20), .ref (r 21), .ref (r 22), .ref (r 23), .ref (r 24), .ref (r 25), .ref (r 26), .ref (r 27), .ref (r 28), .ref (r 29), .ref (r 30), .ref (r 31), .ref (r 32), .ref (r 33), .int 0, .int 0, .int 0, .int 0, .int 0, .int 0, .int 0, .ref (r 41), .ref (r 42), .ref (r 43), .ref (r 44), .int 0, .int 0, .int 0, .ref (r 48), .int 0, .int 0, .ref (r 51), .ref (r 52), .ref (r 53), .ref (r 54), .int 0, .ref (r 56), .ref (r 57), .ref (r 58), .int 0, .ref (r 60), .ref (r 61), .ref (r 62), .ref (r 63), .ref (r 64), .ref (r 65), .ref (r 66), .ref (r 67), .ref (r 68), .int 0, .int 0, .int 0, .ref (r 72), .ref (r 73)])), (r 13, .inl (cy 0, 2, .inl (fun _ => 0)))] U.heap ∧ EV dC dI cy U)) (vp_Si (fun r_ => r_ = 0)) 0 0 (fun _ => False) := by
  refine Met.ofW (cc := cX12_layBoth) (maxL := 3) (ret := (some .boolean)) (by decide +kernel) rfl ?_
  intro p e s m args below meth c s₁ B hml hv
  obtain ⟨rfl, hP, hE⟩ := hv
  have hK := hE.1
  have hN := hE.2.1
  have hx := B.exec
  have hb := B.bytes
  have hr := B.returns
  have hts0 := atoms_spec (ws := wmX12_layBoth) B.pre
  have hts : ∀ w ∈ wsL_law, w.before _ s = true := fun w h => hts0 w (List.mem_cons_of_mem _ h)
  have hown : s.vm.findClass RX12 = some m.cls := findClass_of_methodNamed B.named
  have hlocks := B.notSynchronized
  have hl := lv_entry ([.ref h0, .int p0, .int p1]) (n := 3) (Nat.le_of_ble_eq_true rfl)
  rw [lg_entry_eq]
  generalize (lg_sl ([.ref h0, .int p0, .int p1]) ++ List.replicate (3 - (lg_sl ([.ref h0, .int p0, .int p1])).length) Slot.unset).toArray = ls at hl ⊢
  have hl : lv_has ls 3 [(0, .ref h0), (1, .int p0), (2, .int p1)] := hl
  refine lv_aload_n hx hb dX12_layBoth_0 rfl (lv_at hl 0 rfl) ?_
  refine lv_iload_n hx hb dX12_layBoth_1 rfl (lv_at hl 1 rfl) ?_
  have hPc := hP.sub (ws' := [(h0, .inr (12, [.ref (r 0), .ref (r 1), .int 0, .int 0, .int 0, .int (-1), .int 0, .int 0, .int 0, .int 0, .long 0, .ref (r 11), .ref (r 12), .ref (r 13), .ref (r 14), .ref (r 15), .ref (r 16), .ref (r 17), .ref (r 18), .ref (r 19), .ref (r 20), .ref (r 21), .ref (r 22), .ref (r 23), .ref (r 24), .ref (r 25), .ref (r 26), .ref (r 27), .ref (r 28), .ref (r 29), .ref (r 30), .ref (r 31), .ref (r 32), .ref (r 33), .int 0, .int 0, .int 0, .int 0, .int 0, .int 0, .int 0, .ref (r 41), .ref (r 42), .ref (r 43), .ref (r 44), .int 0, .int 0, .int 0, .ref (r 48), .int 0, .int 0, .ref (r 51), .ref (r 52), .ref (r 53), .ref (r 54), .int 0, .ref (r 56), .ref (r 57), .ref (r 58), .int 0, .ref (r 60), .ref (r 61), .ref (r 62), .ref (r 63), .ref (r 64), .ref (r 65), .ref (r 66), .ref (r 67), .ref (r 68), .int 0, .int 0, .int 0, .ref (r 72), .ref (r 73)])), (r 13, .inl (cy 0, 2, .inl (fun _ => 0)))]) [0, 1] rfl
  refine vp_callSi (W.runV (As := [.int p0]) (rest := []) ⟨hx, hb, hml, hown, hts⟩ (kX12_isSlip_1 l dC dI cy h0 r p0) (cwV 1 hts (gdV m_791 m_792 m_793 m_5 m_794) rfl rfl rfl (by decide +kernel) ⟨Nat.le_of_ble_eq_true rfl, Nat.le_of_ble_eq_true rfl⟩) ⟨fun a U g mk q => by obtain ⟨q0, qP, qE⟩ := q; exact ⟨q0, qP, qE.call⟩, va_recv hK hP (ci := 12) (q0 := 0) rfl rfl, fun U hU hW => ⟨rfl, by rw [hU]; exact hPc, hE.moved hW⟩⟩ rfl rfl hl.1 rfl (lv_room (Nat.le_of_ble_eq_true rfl)) dX12_layBoth_2 ⟨(show 0 + 0 ≤ 0 from by decide +kernel), (show 0 + 0 ≤ 0 from by decide +kernel)⟩) (fun r_1 hw => ?_)
  subst r_1
  refine lv_if_eq (tgt := 16) hx hb dX12_layBoth_5 (by decide) (fun _ => ?_) (fun c_ => absurd (by decide +kernel) c_)
  refine lv_iconst (v := 0) hx hb dX12_layBoth_16 (by decide +kernel) ?_
  exact W.zret (v := 0) hx hb hr (by decide +kernel) (fun t ht hW => ⟨0, rfl, rfl, ht⟩) (fun _ h_ => (List.not_mem_nil h_).elim) dX12_layBoth_17
set_option maxHeartbeats 4000000 in
set_option maxRecDepth 100000 in
theorem kX12_source_1 (l : Launch) (dC : Nat → ClassId) (dI : Nat → Nat → Nat) (cy : Nat → ClassId) (h0 : Nat) (r : Nat → Nat) (p0 p1 : Int32) (sz : Nat) : Met l yX12_source wmX12_source ({ frames := 3, cells := 0, slots := 0, locals := 65 }) (va_Pc [.ref h0, .int p0, .int p1] (fun U => U.heap.size = sz ∧ va_P (dC, dI) classes [(h0, .inr (12, [.ref (r 0), .ref (r 1), .int 0, .int 0, .int 0, .int (-1), .int 0, .int 0, .int 0, .int 0, .long 0, .ref (r 11), .ref (r 12), .ref (r 13), .ref (r 14), .ref (r 15), .ref (r 16), .ref (r 17), .ref (r 18), .ref (r 19), .ref (r 20), .ref (r 21), .ref (r 22), .ref (r 23), .ref (r 24), .ref (r 25), .ref (r 26), .ref (r 27), .ref (r 28), .ref (r 29), .ref (r 30), .ref (r 31), .ref (r 32), .ref (r 33), .int 0, .int 0, .int 0, .int 0, .int 0, .int 0, .int 0, .ref (r 41), .ref (r 42), .ref (r 43), .ref (r 44), .int 0, .int 0, .int 0, .ref (r 48), .int 0, .int 0, .ref (r 51), .ref (r 52), .ref (r 53), .ref (r 54), .int 0, .ref (r 56), .ref (r 57), .ref (r 58), .int 0, .ref (r 60), .ref (r 61), .ref (r 62), .ref (r 63), .ref (r 64), .ref (r 65), .ref (r 66), .ref (r 67), .ref (r 68), .int 0, .int 0, .int 0, .ref (r 72), .ref (r 73)])), (r 13, .inl (cy 0, 2, .inl (fun _ => 0)))] U.heap ∧ EV dC dI cy U ∧ va_D (fun _ => True) [(h0, .inr (12, [.ref (r 0), .ref (r 1), .int 0, .int 0, .int 0, .int (-1), .int 0, .int 0, .int 0, .int 0, .long 0, .ref (r 11), .ref (r 12), .ref (r 13), .ref (r 14), .ref (r 15), .ref (r 16), .ref (r 17), .ref (r 18), .ref (r 19), .ref (r 20), .ref (r 21), .ref (r 22), .ref (r 23), .ref (r 24), .ref (r 25), .ref (r 26), .ref (r 27), .ref (r 28), .ref (r 29), .ref (r 30), .ref (r 31), .ref (r 32), .ref (r 33), .int 0, .int 0, .int 0, .int 0, .int 0, .int 0, .int 0, .ref (r 41), .ref (r 42), .ref (r 43), .ref (r 44), .int 0, .int 0, .int 0, .ref (r 48), .int 0, .int 0, .ref (r 51), .ref (r 52), .ref (r 53), .ref (r 54), .int 0, .ref (r 56), .ref (r 57), .ref (r 58), .int 0, .ref (r 60), .ref (r 61), .ref (r 62), .ref (r 63), .ref (r 64), .ref (r 65), .ref (r 66), .ref (r 67), .ref (r 68), .int 0, .int 0, .int 0, .ref (r 72), .ref (r 73)])), (r 13, .inl (cy 0, 2, .inl (fun _ => 0)))])) (va_Qi (S := Unit) (fun r_ _ => r_ = (-1)) (fun _ _ => True) (va_A [(h0, .inr (12, [.ref (r 0), .ref (r 1), .int 0, .int 0, .int 0, .int (-1), .int 0, .int 0, .int 0, .int 0, .long 0, .ref (r 11), .ref (r 12), .ref (r 13), .ref (r 14), .ref (r 15), .ref (r 16), .ref (r 17), .ref (r 18), .ref (r 19), .ref (r 20), .ref (r 21), .ref (r 22), .ref (r 23), .ref (r 24), .ref (r 25), .ref (r 26), .ref (r 27), .ref (r 28), .ref (r 29), .ref (r 30), .ref (r 31), .ref (r 32), .ref (r 33), .int 0, .int 0, .int 0, .int 0, .int 0, .int 0, .int 0, .ref (r 41), .ref (r 42), .ref (r 43), .ref (r 44), .int 0, .int 0, .int 0, .ref (r 48), .int 0, .int 0, .ref (r 51), .ref (r 52), .ref (r 53), .ref (r 54), .int 0, .ref (r 56), .ref (r 57), .ref (r 58), .int 0, .ref (r 60), .ref (r 61), .ref (r 62), .ref (r 63), .ref (r 64), .ref (r 65), .ref (r 66), .ref (r 67), .ref (r 68), .int 0, .int 0, .int 0, .ref (r 72), .ref (r 73)])), (r 13, .inl (cy 0, 2, .inl (fun _ => 0)))] sz)) 0 0 (va_A [(h0, .inr (12, [.ref (r 0), .ref (r 1), .int 0, .int 0, .int 0, .int (-1), .int 0, .int 0, .int 0, .int 0, .long 0, .ref (r 11), .ref (r 12), .ref (r 13), .ref (r 14), .ref (r 15), .ref (r 16), .ref (r 17), .ref (r 18), .ref (r 19), .ref (r 20), .ref (r 21), .ref (r 22), .ref (r 23), .ref (r 24), .ref (r 25), .ref (r 26), .ref (r 27), .ref (r 28), .ref (r 29), .ref (r 30), .ref (r 31), .ref (r 32), .ref (r 33), .int 0, .int 0, .int 0, .int 0, .int 0, .int 0, .int 0, .ref (r 41), .ref (r 42), .ref (r 43), .ref (r 44), .int 0, .int 0, .int 0, .ref (r 48), .int 0, .int 0, .ref (r 51), .ref (r 52), .ref (r 53), .ref (r 54), .int 0, .ref (r 56), .ref (r 57), .ref (r 58), .int 0, .ref (r 60), .ref (r 61), .ref (r 62), .ref (r 63), .ref (r 64), .ref (r 65), .ref (r 66), .ref (r 67), .ref (r 68), .int 0, .int 0, .int 0, .ref (r 72), .ref (r 73)])), (r 13, .inl (cy 0, 2, .inl (fun _ => 0)))] sz) := by
  refine Met.ofW (cc := cX12_source) (maxL := 3) (ret := (some .int)) (by decide +kernel) rfl ?_
  intro p e s m args below meth c s₁ B hml hv
  obtain ⟨rfl, hsz, hP, hE, hD0⟩ := hv
  have hK := hE.1
  have hN := hE.2.1
  have hx := B.exec
  have hb := B.bytes
  have hr := B.returns
  have hts0 := atoms_spec (ws := wmX12_source) B.pre
  have hts : ∀ w ∈ wsL_law, w.before _ s = true := fun w h => hts0 w (List.mem_cons_of_mem _ h)
  have hown : s.vm.findClass RX12 = some m.cls := findClass_of_methodNamed B.named
  have hlocks := B.notSynchronized
  subst hsz
  have hD := hD0.self (sz := s.heap.size)
  generalize hAe : va_A [(h0, .inr (12, [.ref (r 0), .ref (r 1), .int 0, .int 0, .int 0, .int (-1), .int 0, .int 0, .int 0, .int 0, .long 0, .ref (r 11), .ref (r 12), .ref (r 13), .ref (r 14), .ref (r 15), .ref (r 16), .ref (r 17), .ref (r 18), .ref (r 19), .ref (r 20), .ref (r 21), .ref (r 22), .ref (r 23), .ref (r 24), .ref (r 25), .ref (r 26), .ref (r 27), .ref (r 28), .ref (r 29), .ref (r 30), .ref (r 31), .ref (r 32), .ref (r 33), .int 0, .int 0, .int 0, .int 0, .int 0, .int 0, .int 0, .ref (r 41), .ref (r 42), .ref (r 43), .ref (r 44), .int 0, .int 0, .int 0, .ref (r 48), .int 0, .int 0, .ref (r 51), .ref (r 52), .ref (r 53), .ref (r 54), .int 0, .ref (r 56), .ref (r 57), .ref (r 58), .int 0, .ref (r 60), .ref (r 61), .ref (r 62), .ref (r 63), .ref (r 64), .ref (r 65), .ref (r 66), .ref (r 67), .ref (r 68), .int 0, .int 0, .int 0, .ref (r 72), .ref (r 73)])), (r 13, .inl (cy 0, 2, .inl (fun _ => 0)))] s.heap.size = A at hD ⊢
  have hA : ∀ q : Nat, s.heap.size ≤ q → A q := fun q h => by rw [← hAe]; exact Or.inr h
  have hS : va_S A s.heap s.heap [] := va_S.rf
  have hP : va_P (dC, dI) classes [(h0, .inr (12, [.ref (r 0), .ref (r 1), .int 0, .int 0, .int 0, .int (-1), .int 0, .int 0, .int 0, .int 0, .long 0, .ref (r 11), .ref (r 12), .ref (r 13), .ref (r 14), .ref (r 15), .ref (r 16), .ref (r 17), .ref (r 18), .ref (r 19), .ref (r 20), .ref (r 21), .ref (r 22), .ref (r 23), .ref (r 24), .ref (r 25), .ref (r 26), .ref (r 27), .ref (r 28), .ref (r 29), .ref (r 30), .ref (r 31), .ref (r 32), .ref (r 33), .int 0, .int 0, .int 0, .int 0, .int 0, .int 0, .int 0, .ref (r 41), .ref (r 42), .ref (r 43), .ref (r 44), .int 0, .int 0, .int 0, .ref (r 48), .int 0, .int 0, .ref (r 51), .ref (r 52), .ref (r 53), .ref (r 54), .int 0, .ref (r 56), .ref (r 57), .ref (r 58), .int 0, .ref (r 60), .ref (r 61), .ref (r 62), .ref (r 63), .ref (r 64), .ref (r 65), .ref (r 66), .ref (r 67), .ref (r 68), .int 0, .int 0, .int 0, .ref (r 72), .ref (r 73)])), (r 13, .inl (cy 0, 2, .inl (fun _ => 0)))] s.heap := hP
  have hl := lv_entry ([.ref h0, .int p0, .int p1]) (n := 3) (Nat.le_of_ble_eq_true rfl)
  rw [lg_entry_eq]
  generalize (lg_sl ([.ref h0, .int p0, .int p1]) ++ List.replicate (3 - (lg_sl ([.ref h0, .int p0, .int p1])).length) Slot.unset).toArray = ls at hl ⊢
  have hl : lv_has ls 3 [(0, .ref h0), (1, .int p0), (2, .int p1)] := hl
  refine lv_aload_n hx hb dX12_source_0 rfl (lv_at hl 0 rfl) ?_
  refine lv_iconst (v := 0) hx hb dX12_source_1 (by decide +kernel) ?_
  refine va_put (D := (dC, dI)) (ci := 12) (v := .int 0) (ty := .int) (C := RX12) (T := TX12) (N := 74) hx hb hts inlX12 tyX12 tyX12_ok nmX12 hown hK hP hD hS 0 rfl rfl 55 (by decide) (hts _ m_281) (fun _ h9 => h9) rfl (by decide +kernel) rfl rfl (Nat.le_of_ble_eq_true rfl) dX12_source_2 (fun H locs hP hD hS => ?_)
  have hP : va_P (dC, dI) classes [(h0, .inr (12, [.ref (r 0), .ref (r 1), .int 0, .int 0, .int 0, .int (-1), .int 0, .int 0, .int 0, .int 0, .long 0, .ref (r 11), .ref (r 12), .ref (r 13), .ref (r 14), .ref (r 15), .ref (r 16), .ref (r 17), .ref (r 18), .ref (r 19), .ref (r 20), .ref (r 21), .ref (r 22), .ref (r 23), .ref (r 24), .ref (r 25), .ref (r 26), .ref (r 27), .ref (r 28), .ref (r 29), .ref (r 30), .ref (r 31), .ref (r 32), .ref (r 33), .int 0, .int 0, .int 0, .int 0, .int 0, .int 0, .int 0, .ref (r 41), .ref (r 42), .ref (r 43), .ref (r 44), .int 0, .int 0, .int 0, .ref (r 48), .int 0, .int 0, .ref (r 51), .ref (r 52), .ref (r 53), .ref (r 54), .int 0, .ref (r 56), .ref (r 57), .ref (r 58), .int 0, .ref (r 60), .ref (r 61), .ref (r 62), .ref (r 63), .ref (r 64), .ref (r 65), .ref (r 66), .ref (r 67), .ref (r 68), .int 0, .int 0, .int 0, .ref (r 72), .ref (r 73)])), (r 13, .inl (cy 0, 2, .inl (fun _ => 0)))] H := hP
  have hD : va_D A [(h0, .inr (12, [.ref (r 0), .ref (r 1), .int 0, .int 0, .int 0, .int (-1), .int 0, .int 0, .int 0, .int 0, .long 0, .ref (r 11), .ref (r 12), .ref (r 13), .ref (r 14), .ref (r 15), .ref (r 16), .ref (r 17), .ref (r 18), .ref (r 19), .ref (r 20), .ref (r 21), .ref (r 22), .ref (r 23), .ref (r 24), .ref (r 25), .ref (r 26), .ref (r 27), .ref (r 28), .ref (r 29), .ref (r 30), .ref (r 31), .ref (r 32), .ref (r 33), .int 0, .int 0, .int 0, .int 0, .int 0, .int 0, .int 0, .ref (r 41), .ref (r 42), .ref (r 43), .ref (r 44), .int 0, .int 0, .int 0, .ref (r 48), .int 0, .int 0, .ref (r 51), .ref (r 52), .ref (r 53), .ref (r 54), .int 0, .ref (r 56), .ref (r 57), .ref (r 58), .int 0, .ref (r 60), .ref (r 61), .ref (r 62), .ref (r 63), .ref (r 64), .ref (r 65), .ref (r 66), .ref (r 67), .ref (r 68), .int 0, .int 0, .int 0, .ref (r 72), .ref (r 73)])), (r 13, .inl (cy 0, 2, .inl (fun _ => 0)))] := hD
  refine lv_aload_n hx hb dX12_source_5 rfl (lv_at hl 0 rfl) ?_
  refine lv_iload_n hx hb dX12_source_6 rfl (lv_at hl 1 rfl) ?_
  refine lv_iload_n hx hb dX12_source_7 rfl (lv_at hl 2 rfl) ?_
  have hPc := hP.sub (ws' := [(h0, .inr (12, [.ref (r 0), .ref (r 1), .int 0, .int 0, .int 0, .int (-1), .int 0, .int 0, .int 0, .int 0, .long 0, .ref (r 11), .ref (r 12), .ref (r 13), .ref (r 14), .ref (r 15), .ref (r 16), .ref (r 17), .ref (r 18), .ref (r 19), .ref (r 20), .ref (r 21), .ref (r 22), .ref (r 23), .ref (r 24), .ref (r 25), .ref (r 26), .ref (r 27), .ref (r 28), .ref (r 29), .ref (r 30), .ref (r 31), .ref (r 32), .ref (r 33), .int 0, .int 0, .int 0, .int 0, .int 0, .int 0, .int 0, .ref (r 41), .ref (r 42), .ref (r 43), .ref (r 44), .int 0, .int 0, .int 0, .ref (r 48), .int 0, .int 0, .ref (r 51), .ref (r 52), .ref (r 53), .ref (r 54), .int 0, .ref (r 56), .ref (r 57), .ref (r 58), .int 0, .ref (r 60), .ref (r 61), .ref (r 62), .ref (r 63), .ref (r 64), .ref (r 65), .ref (r 66), .ref (r 67), .ref (r 68), .int 0, .int 0, .int 0, .ref (r 72), .ref (r 73)])), (r 13, .inl (cy 0, 2, .inl (fun _ => 0)))]) [0, 1] rfl
  refine vp_callSi (W.runV (As := [.int p0, .int p1]) (rest := []) ⟨hx, hb, hml, hown, hts⟩ (kX12_layBoth_1 l dC dI cy h0 r p0 p1) (cwV 2 hts (gdV m_1193 m_1194 m_1195 m_5 m_1196) rfl rfl rfl (by decide +kernel) ⟨Nat.le_of_ble_eq_true rfl, Nat.le_of_ble_eq_true rfl⟩) ⟨fun a U g mk q => by obtain ⟨q0, qP, qE⟩ := q; exact ⟨q0, qP, qE.call⟩, va_recv hK hP (ci := 12) (q0 := 0) rfl rfl, fun U hU hW => ⟨rfl, by rw [hU]; exact hPc, hE.moved hW⟩⟩ rfl rfl hl.1 rfl (lv_room (Nat.le_of_ble_eq_true rfl)) dX12_source_8 ⟨(show 0 + 0 ≤ 0 from by decide +kernel), (show 0 + 0 ≤ 0 from by decide +kernel)⟩) (fun r_1 hw => ?_)
  subst r_1
  refine lv_if_eq (tgt := 21) hx hb dX12_source_11 (by decide) (fun _ => ?_) (fun c_ => absurd (by decide +kernel) c_)
  refine lv_iconst (v := (-1)) hx hb dX12_source_21 (by decide +kernel) ?_
  exact W.iret (v := (-1)) hx hb hr (fun t ht hW => ⟨⟨(-1), (), rfl, rfl, trivial⟩, hS.F ht⟩) hS.2.2 dX12_source_22
set_option maxHeartbeats 4000000 in
set_option maxRecDepth 100000 in
theorem kX11_sources_1 (l : Launch) (dC : Nat → ClassId) (dI : Nat → Nat → Nat) (cy : Nat → ClassId) (h0 h1 h2 h3 h4 h5 h6 h7 h8 h9 h10 h11 h12 h13 h14 h15 h16 : Nat) (p0 p1 : Int32) : Met l yX11_sources wmX11_sources ({ frames := 2, cells := 0, slots := 0, locals := 42 }) (va_Pc [.ref h0, .int p0, .int p1] (fun U => va_P (dC, dI) classes [(h0, .inr (11, [.ref h1, .ref h2, .ref h3, .ref h4, .ref h5, .ref h6, .ref h7, .ref h8, .ref h9])), (h9, .inr (10, [.ref h10, .ref h11, .ref h12, .ref h13, .ref h14, .ref h15, .ref h16, .int 0, .int 0, .int 0, .int 0, .int 0]))] U.heap ∧ EV dC dI cy U)) (vp_Si (fun r_ => r_ = (-1))) 0 0 (fun _ => False) := by
  refine Met.ofW (cc := cX11_sources) (maxL := 5) (ret := (some .int)) (by decide +kernel) rfl ?_
  intro p e s m args below meth c s₁ B hml hv
  obtain ⟨rfl, hP, hE⟩ := hv
  have hK := hE.1
  have hN := hE.2.1
  have hx := B.exec
  have hb := B.bytes
  have hr := B.returns
  have hts0 := atoms_spec (ws := wmX11_sources) B.pre
  have hts : ∀ w ∈ wsL_law, w.before _ s = true := fun w h => hts0 w (List.mem_cons_of_mem _ h)
  have hown : s.vm.findClass RX11 = some m.cls := findClass_of_methodNamed B.named
  have hlocks := B.notSynchronized
  have hl := lv_entry ([.ref h0, .int p0, .int p1]) (n := 5) (Nat.le_of_ble_eq_true rfl)
  rw [lg_entry_eq]
  generalize (lg_sl ([.ref h0, .int p0, .int p1]) ++ List.replicate (5 - (lg_sl ([.ref h0, .int p0, .int p1])).length) Slot.unset).toArray = ls at hl ⊢
  have hl : lv_has ls 5 [(0, .ref h0), (1, .int p0), (2, .int p1)] := hl
  refine lv_aload_n hx hb dX11_sources_0 rfl (lv_at hl 0 rfl) ?_
  refine lv_iload_n hx hb dX11_sources_1 rfl (lv_at hl 1 rfl) ?_
  have hPc := hP.sub (ws' := [(h0, .inr (11, [.ref h1, .ref h2, .ref h3, .ref h4, .ref h5, .ref h6, .ref h7, .ref h8, .ref h9])), (h9, .inr (10, [.ref h10, .ref h11, .ref h12, .ref h13, .ref h14, .ref h15, .ref h16, .int 0, .int 0, .int 0, .int 0, .int 0]))]) [0, 1] rfl
  refine va_csq (W.runV (As := [.int p0]) (rest := []) ⟨hx, hb, hml, hown, hts⟩ (kX11_slipOf_1 l dC dI cy h0 h1 h2 h3 h4 h5 h6 h7 h8 h9 h10 h11 h12 h13 h14 h15 h16 p0) (cwV 1 hts (gdV m_782 m_783 m_784 m_2 m_785) rfl rfl rfl (by decide +kernel) ⟨Nat.le_of_ble_eq_true rfl, Nat.le_of_ble_eq_true rfl⟩) ⟨fun a U g mk q => by obtain ⟨q0, qP, qE⟩ := q; exact ⟨q0, qP, qE.call⟩, va_recv hK hP (ci := 11) (q0 := 0) rfl rfl, fun U hU hW => ⟨rfl, by rw [hU]; exact hPc, hE.moved hW⟩⟩ rfl rfl hl.1 rfl (lv_room (Nat.le_of_ble_eq_true rfl)) dX11_sources_2 ⟨(show 0 + 0 ≤ 0 from by decide +kernel), (show 0 + 0 ≤ 0 from by decide +kernel)⟩) (fun r_1 hw => ?_)
  subst r_1
  refine W.eq (g2 := F0 m 5 ls [.null]) rfl ?_
  refine lv_astore_nN (lv' := [(3, .null), (0, .ref h0), (1, .int p0), (2, .int p1)]) hx hb dX11_sources_5 rfl hl (by decide) rfl (fun ls hl => ?_)
  refine lv_aload_n hx hb dX11_sources_6 rfl (lv_at hl 1 rfl) ?_
  refine lv_iload_n hx hb dX11_sources_7 rfl (lv_at hl 3 rfl) ?_
  have hPc := hP.sub (ws' := [(h0, .inr (11, [.ref h1, .ref h2, .ref h3, .ref h4, .ref h5, .ref h6, .ref h7, .ref h8, .ref h9])), (h9, .inr (10, [.ref h10, .ref h11, .ref h12, .ref h13, .ref h14, .ref h15, .ref h16, .int 0, .int 0, .int 0, .int 0, .int 0]))]) [0, 1] rfl
  refine va_csq (W.runV (As := [.int p1]) (rest := []) ⟨hx, hb, hml, hown, hts⟩ (kX11_slipOf_1 l dC dI cy h0 h1 h2 h3 h4 h5 h6 h7 h8 h9 h10 h11 h12 h13 h14 h15 h16 p1) (cwV 1 hts (gdV m_782 m_783 m_784 m_2 m_785) rfl rfl rfl (by decide +kernel) ⟨Nat.le_of_ble_eq_true rfl, Nat.le_of_ble_eq_true rfl⟩) ⟨fun a U g mk q => by obtain ⟨q0, qP, qE⟩ := q; exact ⟨q0, qP, qE.call⟩, va_recv hK hP (ci := 11) (q0 := 0) rfl rfl, fun U hU hW => ⟨rfl, by rw [hU]; exact hPc, hE.moved hW⟩⟩ rfl rfl hl.1 rfl (lv_room (Nat.le_of_ble_eq_true rfl)) dX11_sources_8 ⟨(show 0 + 0 ≤ 0 from by decide +kernel), (show 0 + 0 ≤ 0 from by decide +kernel)⟩) (fun r_2 hw => ?_)
  subst r_2
  refine W.eq (g2 := F0 m 11 ls [.null]) rfl ?_
  refine lv_astoreN (lv' := [(4, .null), (3, .null), (0, .ref h0), (1, .int p0), (2, .int p1)]) hx hb dX11_sources_11 hl (by decide) rfl (fun ls hl => ?_)
  refine lv_aload_nN hx hb dX11_sources_13 rfl (lv_at hl 1 rfl) ?_
  refine lv_ifnullN (tgt := 22) hx hb dX11_sources_14 (by decide) ?_
  refine lv_iconst (v := (-1)) hx hb dX11_sources_22 (by decide +kernel) ?_
  refine lv_goto (tgt := 40) hx hb dX11_sources_23 (by decide) ?_
  exact W.iret (v := (-1)) hx hb hr (fun t ht hW => ⟨(-1), rfl, rfl, ht⟩) (fun _ h_ => (List.not_mem_nil h_).elim) dX11_sources_40
set_option maxHeartbeats 4000000 in
set_option maxRecDepth 100000 in
theorem kX12_sources_1 (l : Launch) (dC : Nat → ClassId) (dI : Nat → Nat → Nat) (cy : Nat → ClassId) (h0 : Nat) (r : Nat → Nat) (p0 p1 : Int32) : Met l yX12_sources wmX12_sources ({ frames := 3, cells := 0, slots := 0, locals := 65 }) (va_Pc [.ref h0, .int p0, .int p1] (fun U => va_P (dC, dI) classes [(h0, .inr (12, [.ref (r 0), .ref (r 1), .int 0, .int 0, .int 0, .int (-1), .int 0, .int 0, .int 0, .int 0, .long 0, .ref (r 11), .ref (r 12), .ref (r 13), .ref (r 14), .ref (r 15), .ref (r 16), .ref (r 17), .ref (r 18), .ref (r 19), .ref (r 20), .ref (r 21), .ref (r 22), .ref (r 23), .ref (r 24), .ref (r 25), .ref (r 26), .ref (r 27), .ref (r 28), .ref (r 29), .ref (r 30), .ref (r 31), .ref (r 32), .ref (r 33), .int 0, .int 0, .int 0, .int 0, .int 0, .int 0, .int 0, .ref (r 41), .ref (r 42), .ref (r 43), .ref (r 44), .int 0, .int 0, .int 0, .ref (r 48), .int 0, .int 0, .ref (r 51), .ref (r 52), .ref (r 53), .ref (r 54), .int 0, .ref (r 56), .ref (r 57), .ref (r 58), .int 0, .ref (r 60), .ref (r 61), .ref (r 62), .ref (r 63), .ref (r 64), .ref (r 65), .ref (r 66), .ref (r 67), .ref (r 68), .int 0, .int 0, .int 0, .ref (r 72), .ref (r 73)])), (r 13, .inl (cy 0, 2, .inl (fun _ => 0)))] U.heap ∧ EV dC dI cy U)) (vp_Si (fun r_ => r_ = (-1))) 0 0 (fun _ => False) := by
  refine Met.ofW (cc := cX12_sources) (maxL := 3) (ret := (some .int)) (by decide +kernel) rfl ?_
  intro p e s m args below meth c s₁ B hml hv
  obtain ⟨rfl, hP, hE⟩ := hv
  have hK := hE.1
  have hN := hE.2.1
  have hx := B.exec
  have hb := B.bytes
  have hr := B.returns
  have hts0 := atoms_spec (ws := wmX12_sources) B.pre
  have hts : ∀ w ∈ wsL_law, w.before _ s = true := fun w h => hts0 w (List.mem_cons_of_mem _ h)
  have hown : s.vm.findClass RX12 = some m.cls := findClass_of_methodNamed B.named
  have hlocks := B.notSynchronized
  have hl := lv_entry ([.ref h0, .int p0, .int p1]) (n := 3) (Nat.le_of_ble_eq_true rfl)
  rw [lg_entry_eq]
  generalize (lg_sl ([.ref h0, .int p0, .int p1]) ++ List.replicate (3 - (lg_sl ([.ref h0, .int p0, .int p1])).length) Slot.unset).toArray = ls at hl ⊢
  have hl : lv_has ls 3 [(0, .ref h0), (1, .int p0), (2, .int p1)] := hl
  refine lv_aload_n hx hb dX12_sources_0 rfl (lv_at hl 0 rfl) ?_
  refine lv_iload_n hx hb dX12_sources_1 rfl (lv_at hl 1 rfl) ?_
  refine lv_iload_n hx hb dX12_sources_2 rfl (lv_at hl 2 rfl) ?_
  have hPc := hP.sub (ws' := [(h0, .inr (12, [.ref (r 0), .ref (r 1), .int 0, .int 0, .int 0, .int (-1), .int 0, .int 0, .int 0, .int 0, .long 0, .ref (r 11), .ref (r 12), .ref (r 13), .ref (r 14), .ref (r 15), .ref (r 16), .ref (r 17), .ref (r 18), .ref (r 19), .ref (r 20), .ref (r 21), .ref (r 22), .ref (r 23), .ref (r 24), .ref (r 25), .ref (r 26), .ref (r 27), .ref (r 28), .ref (r 29), .ref (r 30), .ref (r 31), .ref (r 32), .ref (r 33), .int 0, .int 0, .int 0, .int 0, .int 0, .int 0, .int 0, .ref (r 41), .ref (r 42), .ref (r 43), .ref (r 44), .int 0, .int 0, .int 0, .ref (r 48), .int 0, .int 0, .ref (r 51), .ref (r 52), .ref (r 53), .ref (r 54), .int 0, .ref (r 56), .ref (r 57), .ref (r 58), .int 0, .ref (r 60), .ref (r 61), .ref (r 62), .ref (r 63), .ref (r 64), .ref (r 65), .ref (r 66), .ref (r 67), .ref (r 68), .int 0, .int 0, .int 0, .ref (r 72), .ref (r 73)])), (r 13, .inl (cy 0, 2, .inl (fun _ => 0)))]) [0, 1] rfl
  refine vp_callSi (W.runV (As := [.int p0, .int p1]) (rest := []) ⟨hx, hb, hml, hown, hts⟩ (kX12_layBoth_1 l dC dI cy h0 r p0 p1) (cwV 2 hts (gdV m_1193 m_1194 m_1195 m_5 m_1196) rfl rfl rfl (by decide +kernel) ⟨Nat.le_of_ble_eq_true rfl, Nat.le_of_ble_eq_true rfl⟩) ⟨fun a U g mk q => by obtain ⟨q0, qP, qE⟩ := q; exact ⟨q0, qP, qE.call⟩, va_recv hK hP (ci := 12) (q0 := 0) rfl rfl, fun U hU hW => ⟨rfl, by rw [hU]; exact hPc, hE.moved hW⟩⟩ rfl rfl hl.1 rfl (lv_room (Nat.le_of_ble_eq_true rfl)) dX12_sources_3 ⟨(show 0 + 0 ≤ 0 from by decide +kernel), (show 0 + 0 ≤ 0 from by decide +kernel)⟩) (fun r_1 hw => ?_)
  subst r_1
  refine lv_if_ne (tgt := 11) hx hb dX12_sources_6 (by decide) (fun c_ => absurd (by decide +kernel) c_) (fun _ => ?_)
  refine lv_iconst (v := (-1)) hx hb dX12_sources_9 (by decide +kernel) ?_
  exact W.iret (v := (-1)) hx hb hr (fun t ht hW => ⟨(-1), rfl, rfl, ht⟩) (fun _ h_ => (List.not_mem_nil h_).elim) dX12_sources_10
set_option maxHeartbeats 4000000 in
set_option maxRecDepth 100000 in
theorem kX11_layShortest_2 (l : Launch) (dC : Nat → ClassId) (dI : Nat → Nat → Nat) (cy : Nat → ClassId) (h0 h1 h2 h3 h4 h5 h6 h7 h8 h9 h10 : Nat) (sz : Nat) : Met l yX11_layShortest wmX11_layShortest ({ frames := 1, cells := 0, slots := 0, locals := 20 }) (va_Pc [.ref h0, .null, .null, .null] (fun U => U.heap.size = sz ∧ va_P (dC, dI) classes [(h0, .inr (11, [.ref h1, .ref h2, .ref h3, .ref h4, .ref h5, .ref h6, .ref h7, .ref h8, .ref h9])), (h7, .inr (1, [.ref h10, .int 0]))] U.heap ∧ EV dC dI cy U ∧ va_D (fun _ => True) [(h0, .inr (11, [.ref h1, .ref h2, .ref h3, .ref h4, .ref h5, .ref h6, .ref h7, .ref h8, .ref h9])), (h7, .inr (1, [.ref h10, .int 0]))])) (va_Qi (S := Unit) (fun r_ _ => r_ = (-1)) (fun _ t => va_P (dC, dI) classes [(h0, .inr (11, [.ref h1, .ref h2, .ref h3, .ref h4, .ref h5, .ref h6, .ref h7, .ref h8, .ref h9])), (h7, .inr (1, [.ref h10, .int 0]))] t.heap ∧ va_D (va_A [(h0, .inr (11, [.ref h1, .ref h2, .ref h3, .ref h4, .ref h5, .ref h6, .ref h7, .ref h8, .ref h9])), (h7, .inr (1, [.ref h10, .int 0]))] sz) [(h0, .inr (11, [.ref h1, .ref h2, .ref h3, .ref h4, .ref h5, .ref h6, .ref h7, .ref h8, .ref h9])), (h7, .inr (1, [.ref h10, .int 0]))]) (va_A [(h0, .inr (11, [.ref h1, .ref h2, .ref h3, .ref h4, .ref h5, .ref h6, .ref h7, .ref h8, .ref h9])), (h7, .inr (1, [.ref h10, .int 0]))] sz)) 0 0 (va_A [(h0, .inr (11, [.ref h1, .ref h2, .ref h3, .ref h4, .ref h5, .ref h6, .ref h7, .ref h8, .ref h9])), (h7, .inr (1, [.ref h10, .int 0]))] sz) := by
  refine Met.ofW (cc := cX11_layShortest) (maxL := 4) (ret := (some .int)) (by decide +kernel) rfl ?_
  intro p e s m args below meth c s₁ B hml hv
  obtain ⟨rfl, hsz, hP, hE, hD0⟩ := hv
  have hK := hE.1
  have hN := hE.2.1
  have hx := B.exec
  have hb := B.bytes
  have hr := B.returns
  have hts0 := atoms_spec (ws := wmX11_layShortest) B.pre
  have hts : ∀ w ∈ wsL_law, w.before _ s = true := fun w h => hts0 w (List.mem_cons_of_mem _ h)
  have hown : s.vm.findClass RX11 = some m.cls := findClass_of_methodNamed B.named
  have hlocks := B.notSynchronized
  subst hsz
  have hD := hD0.self (sz := s.heap.size)
  generalize hAe : va_A [(h0, .inr (11, [.ref h1, .ref h2, .ref h3, .ref h4, .ref h5, .ref h6, .ref h7, .ref h8, .ref h9])), (h7, .inr (1, [.ref h10, .int 0]))] s.heap.size = A at hD ⊢
  have hA : ∀ q : Nat, s.heap.size ≤ q → A q := fun q h => by rw [← hAe]; exact Or.inr h
  have hS : va_S A s.heap s.heap [] := va_S.rf
  have hP : va_P (dC, dI) classes [(h0, .inr (11, [.ref h1, .ref h2, .ref h3, .ref h4, .ref h5, .ref h6, .ref h7, .ref h8, .ref h9])), (h7, .inr (1, [.ref h10, .int 0]))] s.heap := hP
  have hl := lv_entry ([.ref h0, .null, .null, .null]) (n := 4) (Nat.le_of_ble_eq_true rfl)
  rw [lg_entry_eq]
  generalize (lg_sl ([.ref h0, .null, .null, .null]) ++ List.replicate (4 - (lg_sl ([.ref h0, .null, .null, .null])).length) Slot.unset).toArray = ls at hl ⊢
  have hl : lv_has ls 4 [(0, .ref h0), (1, .null), (2, .null), (3, .null)] := hl
  refine lv_aload_n hx hb dX11_layShortest_0 rfl (lv_at hl 0 rfl) ?_
  refine va_get (D := (dC, dI)) (ci := 11) (v := .ref h7) (C := RX11) (T := TX11) (N := 9) hx hb hts inlX11 hown hK hP 0 rfl rfl 6 (by decide) (hts _ m_39) (fun _ h9 => h9) rfl dX11_layShortest_1 ?_
  have hPc := hP.sub (ws' := [(h7, .inr (1, [.ref h10, .int 0]))]) [1] rfl
  have hDc := hD.sub (ws' := [(h7, .inr (1, [.ref h10, .int 0]))]) [1] (by decide) rfl
  have hFc := va_free (wc := [(h7, .inr (1, [.ref h10, .int 0]))]) hD hS hA [1] rfl
  refine va_callv (va_runV (As := []) (rest := []) ⟨hx, hb, hml, hown, hts⟩ (kX1_clear_1 l dC dI cy h7 h10 s.heap.size) (cwV 0 hts (gdV m_563 m_326 m_327 m_38 m_328) rfl rfl rfl (by decide +kernel) ⟨Nat.le_of_ble_eq_true rfl, Nat.le_of_ble_eq_true rfl⟩) ⟨fun a U g mk q => by obtain ⟨q0, q1, qP, qE, qD⟩ := q; exact ⟨q0, q1, qP, qE.call, qD⟩, va_recv hK hP (ci := 1) (q0 := 1) rfl rfl, fun U hU hW => ⟨rfl, by rw [hU], by rw [hU]; exact hPc, hE.moved hW, hDc.weaken (fun _ _ _ _ => trivial)⟩⟩ rfl rfl hl.1 rfl (lv_room (Nat.le_of_ble_eq_true rfl)) dX11_layShortest_4 ⟨(show 0 + 0 ≤ 0 from by decide +kernel), (show 0 + 0 ≤ 0 from by decide +kernel)⟩) hS (fun q _ h => hFc q h) hFc (fun u t H1 locs ht hvm hw hB hz1 hk1 hS => ?_)
  obtain ⟨hP1, hD1⟩ := hB
  rw [ht] at hP1
  obtain ⟨hP, hD⟩ := va_join (wr := [(h0, .inr (11, [.ref h1, .ref h2, .ref h3, .ref h4, .ref h5, .ref h6, .ref h7, .ref h8, .ref h9]))]) (w1 := [(h7, .inr (1, [.ref h10, .int 0]))]) hP hD [1] [0] rfl rfl (by decide) (by decide) hk1 hFc hP1 hD1
  generalize H1 = H at hP hS ⊢
  have hP : va_P (dC, dI) classes [(h0, .inr (11, [.ref h1, .ref h2, .ref h3, .ref h4, .ref h5, .ref h6, .ref h7, .ref h8, .ref h9])), (h7, .inr (1, [.ref h10, .int 0]))] H := hP
  have hD : va_D A [(h0, .inr (11, [.ref h1, .ref h2, .ref h3, .ref h4, .ref h5, .ref h6, .ref h7, .ref h8, .ref h9])), (h7, .inr (1, [.ref h10, .int 0]))] := hD
  refine W.widen (k := 0) (n := 0) (by decide +kernel) (by decide +kernel) ?_
  refine lv_aload_nN hx hb dX11_layShortest_7 rfl (lv_at hl 1 rfl) ?_
  refine lv_ifnullN (tgt := 19) hx hb dX11_layShortest_8 (by decide) ?_
  refine lv_iconst (v := (-1)) hx hb dX11_layShortest_19 (by decide +kernel) ?_
  have hP9 := hP.sub (ws' := [(h0, .inr (11, [.ref h1, .ref h2, .ref h3, .ref h4, .ref h5, .ref h6, .ref h7, .ref h8, .ref h9])), (h7, .inr (1, [.ref h10, .int 0]))]) [0, 1] rfl
  have hD9 := hD.sub (ws' := [(h0, .inr (11, [.ref h1, .ref h2, .ref h3, .ref h4, .ref h5, .ref h6, .ref h7, .ref h8, .ref h9])), (h7, .inr (1, [.ref h10, .int 0]))]) [0, 1] (by decide) rfl
  exact W.iret (v := (-1)) hx hb hr (fun t ht hW => ⟨⟨(-1), (), rfl, rfl, by rw [ht]; exact hP9, hD9⟩, hS.F ht⟩) hS.2.2 dX11_layShortest_20
set_option maxHeartbeats 4000000 in
set_option maxRecDepth 100000 in
theorem kX11_three_1 (l : Launch) (dC : Nat → ClassId) (dI : Nat → Nat → Nat) (cy : Nat → ClassId) (h0 h1 h2 h3 h4 h5 h6 h7 h8 h9 h10 h11 h12 h13 h14 h15 h16 h17 : Nat) (p0 p1 p2 : Int32) (sz : Nat) : Met l yX11_three wmX11_three ({ frames := 2, cells := 0, slots := 0, locals := 43 }) (va_Pc [.ref h0, .int p0, .int p1, .int p2] (fun U => U.heap.size = sz ∧ va_P (dC, dI) classes [(h0, .inr (11, [.ref h1, .ref h2, .ref h3, .ref h4, .ref h5, .ref h6, .ref h7, .ref h8, .ref h9])), (h9, .inr (10, [.ref h10, .ref h11, .ref h12, .ref h13, .ref h14, .ref h15, .ref h16, .int 0, .int 0, .int 0, .int 0, .int 0])), (h7, .inr (1, [.ref h17, .int 0]))] U.heap ∧ EV dC dI cy U ∧ va_D (fun _ => True) [(h0, .inr (11, [.ref h1, .ref h2, .ref h3, .ref h4, .ref h5, .ref h6, .ref h7, .ref h8, .ref h9])), (h9, .inr (10, [.ref h10, .ref h11, .ref h12, .ref h13, .ref h14, .ref h15, .ref h16, .int 0, .int 0, .int 0, .int 0, .int 0])), (h7, .inr (1, [.ref h17, .int 0]))])) (va_Qi (S := Unit) (fun r_ _ => r_ = (-1)) (fun _ _ => True) (va_A [(h0, .inr (11, [.ref h1, .ref h2, .ref h3, .ref h4, .ref h5, .ref h6, .ref h7, .ref h8, .ref h9])), (h9, .inr (10, [.ref h10, .ref h11, .ref h12, .ref h13, .ref h14, .ref h15, .ref h16, .int 0, .int 0, .int 0, .int 0, .int 0])), (h7, .inr (1, [.ref h17, .int 0]))] sz)) 0 0 (va_A [(h0, .inr (11, [.ref h1, .ref h2, .ref h3, .ref h4, .ref h5, .ref h6, .ref h7, .ref h8, .ref h9])), (h9, .inr (10, [.ref h10, .ref h11, .ref h12, .ref h13, .ref h14, .ref h15, .ref h16, .int 0, .int 0, .int 0, .int 0, .int 0])), (h7, .inr (1, [.ref h17, .int 0]))] sz) := by
  refine Met.ofW (cc := cX11_three) (maxL := 4) (ret := (some .int)) (by decide +kernel) rfl ?_
  intro p e s m args below meth c s₁ B hml hv
  obtain ⟨rfl, hsz, hP, hE, hD0⟩ := hv
  have hK := hE.1
  have hN := hE.2.1
  have hx := B.exec
  have hb := B.bytes
  have hr := B.returns
  have hts0 := atoms_spec (ws := wmX11_three) B.pre
  have hts : ∀ w ∈ wsL_law, w.before _ s = true := fun w h => hts0 w (List.mem_cons_of_mem _ h)
  have hown : s.vm.findClass RX11 = some m.cls := findClass_of_methodNamed B.named
  have hlocks := B.notSynchronized
  subst hsz
  have hD := hD0.self (sz := s.heap.size)
  generalize hAe : va_A [(h0, .inr (11, [.ref h1, .ref h2, .ref h3, .ref h4, .ref h5, .ref h6, .ref h7, .ref h8, .ref h9])), (h9, .inr (10, [.ref h10, .ref h11, .ref h12, .ref h13, .ref h14, .ref h15, .ref h16, .int 0, .int 0, .int 0, .int 0, .int 0])), (h7, .inr (1, [.ref h17, .int 0]))] s.heap.size = A at hD ⊢
  have hA : ∀ q : Nat, s.heap.size ≤ q → A q := fun q h => by rw [← hAe]; exact Or.inr h
  have hS : va_S A s.heap s.heap [] := va_S.rf
  have hP : va_P (dC, dI) classes [(h0, .inr (11, [.ref h1, .ref h2, .ref h3, .ref h4, .ref h5, .ref h6, .ref h7, .ref h8, .ref h9])), (h9, .inr (10, [.ref h10, .ref h11, .ref h12, .ref h13, .ref h14, .ref h15, .ref h16, .int 0, .int 0, .int 0, .int 0, .int 0])), (h7, .inr (1, [.ref h17, .int 0]))] s.heap := hP
  have hl := lv_entry ([.ref h0, .int p0, .int p1, .int p2]) (n := 4) (Nat.le_of_ble_eq_true rfl)
  rw [lg_entry_eq]
  generalize (lg_sl ([.ref h0, .int p0, .int p1, .int p2]) ++ List.replicate (4 - (lg_sl ([.ref h0, .int p0, .int p1, .int p2])).length) Slot.unset).toArray = ls at hl ⊢
  have hl : lv_has ls 4 [(0, .ref h0), (1, .int p0), (2, .int p1), (3, .int p2)] := hl
  refine lv_aload_n hx hb dX11_three_0 rfl (lv_at hl 0 rfl) ?_
  refine lv_aload_n hx hb dX11_three_1 rfl (lv_at hl 0 rfl) ?_
  refine lv_iload_n hx hb dX11_three_2 rfl (lv_at hl 1 rfl) ?_
  have hPc := hP.sub (ws' := [(h0, .inr (11, [.ref h1, .ref h2, .ref h3, .ref h4, .ref h5, .ref h6, .ref h7, .ref h8, .ref h9])), (h9, .inr (10, [.ref h10, .ref h11, .ref h12, .ref h13, .ref h14, .ref h15, .ref h16, .int 0, .int 0, .int 0, .int 0, .int 0]))]) [0, 1] rfl
  refine va_csq (W.runV (As := [.int p0]) (rest := [.ref h0]) ⟨hx, hb, hml, hown, hts⟩ (kX11_slipOf_1 l dC dI cy h0 h1 h2 h3 h4 h5 h6 h7 h8 h9 h10 h11 h12 h13 h14 h15 h16 p0) (cwV 1 hts (gdV m_782 m_783 m_784 m_2 m_785) rfl rfl rfl (by decide +kernel) ⟨Nat.le_of_ble_eq_true rfl, Nat.le_of_ble_eq_true rfl⟩) ⟨fun a U g mk q => by obtain ⟨q0, qP, qE⟩ := q; exact ⟨q0, qP, qE.call⟩, va_recv hK hP (ci := 11) (q0 := 0) rfl rfl, fun U hU hW => ⟨rfl, by rw [hU]; exact hPc, hE.moved hW⟩⟩ rfl rfl hl.1 rfl (lv_room (Nat.le_of_ble_eq_true rfl)) dX11_three_3 ⟨(show 0 + 0 ≤ 0 from by decide +kernel), (show 0 + 0 ≤ 0 from by decide +kernel)⟩) (fun r_1 hw => ?_)
  subst r_1
  refine W.eq (g2 := F0 m 6 ls [.null, .ref h0]) rfl ?_
  refine lv_aload_n hx hb dX11_three_6 rfl (lv_at hl 0 rfl) ?_
  refine lv_iload_n hx hb dX11_three_7 rfl (lv_at hl 2 rfl) ?_
  have hPc := hP.sub (ws' := [(h0, .inr (11, [.ref h1, .ref h2, .ref h3, .ref h4, .ref h5, .ref h6, .ref h7, .ref h8, .ref h9])), (h9, .inr (10, [.ref h10, .ref h11, .ref h12, .ref h13, .ref h14, .ref h15, .ref h16, .int 0, .int 0, .int 0, .int 0, .int 0]))]) [0, 1] rfl
  refine va_csq (W.runV (As := [.int p1]) (rest := [.null, .ref h0]) ⟨hx, hb, hml, hown, hts⟩ (kX11_slipOf_1 l dC dI cy h0 h1 h2 h3 h4 h5 h6 h7 h8 h9 h10 h11 h12 h13 h14 h15 h16 p1) (cwV 1 hts (gdV m_782 m_783 m_784 m_2 m_785) rfl rfl rfl (by decide +kernel) ⟨Nat.le_of_ble_eq_true rfl, Nat.le_of_ble_eq_true rfl⟩) ⟨fun a U g mk q => by obtain ⟨q0, qP, qE⟩ := q; exact ⟨q0, qP, qE.call⟩, va_recv hK hP (ci := 11) (q0 := 0) rfl rfl, fun U hU hW => ⟨rfl, by rw [hU]; exact hPc, hE.moved hW⟩⟩ rfl rfl hl.1 rfl (lv_room (Nat.le_of_ble_eq_true rfl)) dX11_three_8 ⟨(show 0 + 0 ≤ 0 from by decide +kernel), (show 0 + 0 ≤ 0 from by decide +kernel)⟩) (fun r_2 hw => ?_)
  subst r_2
  refine W.eq (g2 := F0 m 11 ls [.null, .null, .ref h0]) rfl ?_
  refine lv_aload_n hx hb dX11_three_11 rfl (lv_at hl 0 rfl) ?_
  refine lv_iload_n hx hb dX11_three_12 rfl (lv_at hl 3 rfl) ?_
  have hPc := hP.sub (ws' := [(h0, .inr (11, [.ref h1, .ref h2, .ref h3, .ref h4, .ref h5, .ref h6, .ref h7, .ref h8, .ref h9])), (h9, .inr (10, [.ref h10, .ref h11, .ref h12, .ref h13, .ref h14, .ref h15, .ref h16, .int 0, .int 0, .int 0, .int 0, .int 0]))]) [0, 1] rfl
  refine va_csq (W.runV (As := [.int p2]) (rest := [.null, .null, .ref h0]) ⟨hx, hb, hml, hown, hts⟩ (kX11_slipOf_1 l dC dI cy h0 h1 h2 h3 h4 h5 h6 h7 h8 h9 h10 h11 h12 h13 h14 h15 h16 p2) (cwV 1 hts (gdV m_782 m_783 m_784 m_2 m_785) rfl rfl rfl (by decide +kernel) ⟨Nat.le_of_ble_eq_true rfl, Nat.le_of_ble_eq_true rfl⟩) ⟨fun a U g mk q => by obtain ⟨q0, qP, qE⟩ := q; exact ⟨q0, qP, qE.call⟩, va_recv hK hP (ci := 11) (q0 := 0) rfl rfl, fun U hU hW => ⟨rfl, by rw [hU]; exact hPc, hE.moved hW⟩⟩ rfl rfl hl.1 rfl (lv_room (Nat.le_of_ble_eq_true rfl)) dX11_three_13 ⟨(show 0 + 0 ≤ 0 from by decide +kernel), (show 0 + 0 ≤ 0 from by decide +kernel)⟩) (fun r_3 hw => ?_)
  subst r_3
  refine W.eq (g2 := F0 m 16 ls [.null, .null, .null, .ref h0]) rfl ?_
  have hPc := hP.sub (ws' := [(h0, .inr (11, [.ref h1, .ref h2, .ref h3, .ref h4, .ref h5, .ref h6, .ref h7, .ref h8, .ref h9])), (h7, .inr (1, [.ref h17, .int 0]))]) [0, 2] rfl
  have hDc := hD.sub (ws' := [(h0, .inr (11, [.ref h1, .ref h2, .ref h3, .ref h4, .ref h5, .ref h6, .ref h7, .ref h8, .ref h9])), (h7, .inr (1, [.ref h17, .int 0]))]) [0, 2] (by decide) rfl
  have hFc := va_free (wc := [(h0, .inr (11, [.ref h1, .ref h2, .ref h3, .ref h4, .ref h5, .ref h6, .ref h7, .ref h8, .ref h9])), (h7, .inr (1, [.ref h17, .int 0]))]) hD hS hA [0, 2] rfl
  refine va_calli (va_runV (As := [.null, .null, .null]) (rest := []) ⟨hx, hb, hml, hown, hts⟩ (kX11_layShortest_2 l dC dI cy h0 h1 h2 h3 h4 h5 h6 h7 h8 h9 h17 s.heap.size) (cwV 3 hts (gdV m_1155 m_1156 m_1157 m_2 m_1158) rfl rfl rfl (by decide +kernel) ⟨Nat.le_of_ble_eq_true rfl, Nat.le_of_ble_eq_true rfl⟩) ⟨fun a U g mk q => by obtain ⟨q0, q1, qP, qE, qD⟩ := q; exact ⟨q0, q1, qP, qE.call, qD⟩, va_recv hK hP (ci := 11) (q0 := 0) rfl rfl, fun U hU hW => ⟨rfl, by rw [hU], by rw [hU]; exact hPc, hE.moved hW, hDc.weaken (fun _ _ _ _ => trivial)⟩⟩ rfl rfl hl.1 rfl (lv_room (Nat.le_of_ble_eq_true rfl)) dX11_three_16 ⟨(show 0 + 0 ≤ 0 from by decide +kernel), (show 0 + 0 ≤ 0 from by decide +kernel)⟩) hS (fun q _ h => hFc q h) hFc (fun r_4 u t H1 locs ht hvm hw hB hz1 hk1 hS => ?_)
  obtain ⟨hP1, hD1⟩ := hB
  rw [ht] at hP1
  obtain ⟨hP, hD⟩ := va_join (wr := [(h9, .inr (10, [.ref h10, .ref h11, .ref h12, .ref h13, .ref h14, .ref h15, .ref h16, .int 0, .int 0, .int 0, .int 0, .int 0]))]) (w1 := [(h0, .inr (11, [.ref h1, .ref h2, .ref h3, .ref h4, .ref h5, .ref h6, .ref h7, .ref h8, .ref h9])), (h7, .inr (1, [.ref h17, .int 0]))]) hP hD [0, 2] [1] rfl rfl (by decide) (by decide) hk1 hFc hP1 hD1
  generalize H1 = H at hP hS ⊢
  have hP : va_P (dC, dI) classes [(h9, .inr (10, [.ref h10, .ref h11, .ref h12, .ref h13, .ref h14, .ref h15, .ref h16, .int 0, .int 0, .int 0, .int 0, .int 0])), (h0, .inr (11, [.ref h1, .ref h2, .ref h3, .ref h4, .ref h5, .ref h6, .ref h7, .ref h8, .ref h9])), (h7, .inr (1, [.ref h17, .int 0]))] H := hP
  have hD : va_D A [(h9, .inr (10, [.ref h10, .ref h11, .ref h12, .ref h13, .ref h14, .ref h15, .ref h16, .int 0, .int 0, .int 0, .int 0, .int 0])), (h0, .inr (11, [.ref h1, .ref h2, .ref h3, .ref h4, .ref h5, .ref h6, .ref h7, .ref h8, .ref h9])), (h7, .inr (1, [.ref h17, .int 0]))] := hD
  refine W.widen (k := 0) (n := 0) (by decide +kernel) (by decide +kernel) ?_
  subst r_4
  exact W.iret (v := (-1)) hx hb hr (fun t ht hW => ⟨⟨(-1), (), rfl, rfl, trivial⟩, hS.F ht⟩) hS.2.2 dX11_three_19
set_option maxHeartbeats 4000000 in
set_option maxRecDepth 100000 in
theorem kX12_three_1 (l : Launch) (dC : Nat → ClassId) (dI : Nat → Nat → Nat) (cy : Nat → ClassId) (h0 : Nat) (r : Nat → Nat) (p0 p1 p2 : Int32) (sz : Nat) : Met l yX12_three wmX12_three ({ frames := 2, cells := 0, slots := 0, locals := 43 }) (va_Pc [.ref h0, .int p0, .int p1, .int p2] (fun U => U.heap.size = sz ∧ va_P (dC, dI) classes [(h0, .inr (12, [.ref (r 0), .ref (r 1), .int 0, .int 0, .int 0, .int (-1), .int 0, .int 0, .int 0, .int 0, .long 0, .ref (r 11), .ref (r 12), .ref (r 13), .ref (r 14), .ref (r 15), .ref (r 16), .ref (r 17), .ref (r 18), .ref (r 19), .ref (r 20), .ref (r 21), .ref (r 22), .ref (r 23), .ref (r 24), .ref (r 25), .ref (r 26), .ref (r 27), .ref (r 28), .ref (r 29), .ref (r 30), .ref (r 31), .ref (r 32), .ref (r 33), .int 0, .int 0, .int 0, .int 0, .int 0, .int 0, .int 0, .ref (r 41), .ref (r 42), .ref (r 43), .ref (r 44), .int 0, .int 0, .int 0, .ref (r 48), .int 0, .int 0, .ref (r 51), .ref (r 52), .ref (r 53), .ref (r 54), .int 0, .ref (r 56), .ref (r 57), .ref (r 58), .int 0, .ref (r 60), .ref (r 61), .ref (r 62), .ref (r 63), .ref (r 64), .ref (r 65), .ref (r 66), .ref (r 67), .ref (r 68), .int 0, .int 0, .int 0, .ref (r 72), .ref (r 73)])), (r 13, .inl (cy 0, 2, .inl (fun _ => 0)))] U.heap ∧ EV dC dI cy U ∧ va_D (fun _ => True) [(h0, .inr (12, [.ref (r 0), .ref (r 1), .int 0, .int 0, .int 0, .int (-1), .int 0, .int 0, .int 0, .int 0, .long 0, .ref (r 11), .ref (r 12), .ref (r 13), .ref (r 14), .ref (r 15), .ref (r 16), .ref (r 17), .ref (r 18), .ref (r 19), .ref (r 20), .ref (r 21), .ref (r 22), .ref (r 23), .ref (r 24), .ref (r 25), .ref (r 26), .ref (r 27), .ref (r 28), .ref (r 29), .ref (r 30), .ref (r 31), .ref (r 32), .ref (r 33), .int 0, .int 0, .int 0, .int 0, .int 0, .int 0, .int 0, .ref (r 41), .ref (r 42), .ref (r 43), .ref (r 44), .int 0, .int 0, .int 0, .ref (r 48), .int 0, .int 0, .ref (r 51), .ref (r 52), .ref (r 53), .ref (r 54), .int 0, .ref (r 56), .ref (r 57), .ref (r 58), .int 0, .ref (r 60), .ref (r 61), .ref (r 62), .ref (r 63), .ref (r 64), .ref (r 65), .ref (r 66), .ref (r 67), .ref (r 68), .int 0, .int 0, .int 0, .ref (r 72), .ref (r 73)])), (r 13, .inl (cy 0, 2, .inl (fun _ => 0)))])) (va_Qi (S := Unit) (fun r_ _ => r_ = (-1)) (fun _ _ => True) (va_A [(h0, .inr (12, [.ref (r 0), .ref (r 1), .int 0, .int 0, .int 0, .int (-1), .int 0, .int 0, .int 0, .int 0, .long 0, .ref (r 11), .ref (r 12), .ref (r 13), .ref (r 14), .ref (r 15), .ref (r 16), .ref (r 17), .ref (r 18), .ref (r 19), .ref (r 20), .ref (r 21), .ref (r 22), .ref (r 23), .ref (r 24), .ref (r 25), .ref (r 26), .ref (r 27), .ref (r 28), .ref (r 29), .ref (r 30), .ref (r 31), .ref (r 32), .ref (r 33), .int 0, .int 0, .int 0, .int 0, .int 0, .int 0, .int 0, .ref (r 41), .ref (r 42), .ref (r 43), .ref (r 44), .int 0, .int 0, .int 0, .ref (r 48), .int 0, .int 0, .ref (r 51), .ref (r 52), .ref (r 53), .ref (r 54), .int 0, .ref (r 56), .ref (r 57), .ref (r 58), .int 0, .ref (r 60), .ref (r 61), .ref (r 62), .ref (r 63), .ref (r 64), .ref (r 65), .ref (r 66), .ref (r 67), .ref (r 68), .int 0, .int 0, .int 0, .ref (r 72), .ref (r 73)])), (r 13, .inl (cy 0, 2, .inl (fun _ => 0)))] sz)) 0 0 (va_A [(h0, .inr (12, [.ref (r 0), .ref (r 1), .int 0, .int 0, .int 0, .int (-1), .int 0, .int 0, .int 0, .int 0, .long 0, .ref (r 11), .ref (r 12), .ref (r 13), .ref (r 14), .ref (r 15), .ref (r 16), .ref (r 17), .ref (r 18), .ref (r 19), .ref (r 20), .ref (r 21), .ref (r 22), .ref (r 23), .ref (r 24), .ref (r 25), .ref (r 26), .ref (r 27), .ref (r 28), .ref (r 29), .ref (r 30), .ref (r 31), .ref (r 32), .ref (r 33), .int 0, .int 0, .int 0, .int 0, .int 0, .int 0, .int 0, .ref (r 41), .ref (r 42), .ref (r 43), .ref (r 44), .int 0, .int 0, .int 0, .ref (r 48), .int 0, .int 0, .ref (r 51), .ref (r 52), .ref (r 53), .ref (r 54), .int 0, .ref (r 56), .ref (r 57), .ref (r 58), .int 0, .ref (r 60), .ref (r 61), .ref (r 62), .ref (r 63), .ref (r 64), .ref (r 65), .ref (r 66), .ref (r 67), .ref (r 68), .int 0, .int 0, .int 0, .ref (r 72), .ref (r 73)])), (r 13, .inl (cy 0, 2, .inl (fun _ => 0)))] sz) := by
  refine Met.ofW (cc := cX12_three) (maxL := 5) (ret := (some .int)) (by decide +kernel) rfl ?_
  intro p e s m args below meth c s₁ B hml hv
  obtain ⟨rfl, hsz, hP, hE, hD0⟩ := hv
  have hK := hE.1
  have hN := hE.2.1
  have hx := B.exec
  have hb := B.bytes
  have hr := B.returns
  have hts0 := atoms_spec (ws := wmX12_three) B.pre
  have hts : ∀ w ∈ wsL_law, w.before _ s = true := fun w h => hts0 w (List.mem_cons_of_mem _ h)
  have hown : s.vm.findClass RX12 = some m.cls := findClass_of_methodNamed B.named
  have hlocks := B.notSynchronized
  subst hsz
  have hD := hD0.self (sz := s.heap.size)
  generalize hAe : va_A [(h0, .inr (12, [.ref (r 0), .ref (r 1), .int 0, .int 0, .int 0, .int (-1), .int 0, .int 0, .int 0, .int 0, .long 0, .ref (r 11), .ref (r 12), .ref (r 13), .ref (r 14), .ref (r 15), .ref (r 16), .ref (r 17), .ref (r 18), .ref (r 19), .ref (r 20), .ref (r 21), .ref (r 22), .ref (r 23), .ref (r 24), .ref (r 25), .ref (r 26), .ref (r 27), .ref (r 28), .ref (r 29), .ref (r 30), .ref (r 31), .ref (r 32), .ref (r 33), .int 0, .int 0, .int 0, .int 0, .int 0, .int 0, .int 0, .ref (r 41), .ref (r 42), .ref (r 43), .ref (r 44), .int 0, .int 0, .int 0, .ref (r 48), .int 0, .int 0, .ref (r 51), .ref (r 52), .ref (r 53), .ref (r 54), .int 0, .ref (r 56), .ref (r 57), .ref (r 58), .int 0, .ref (r 60), .ref (r 61), .ref (r 62), .ref (r 63), .ref (r 64), .ref (r 65), .ref (r 66), .ref (r 67), .ref (r 68), .int 0, .int 0, .int 0, .ref (r 72), .ref (r 73)])), (r 13, .inl (cy 0, 2, .inl (fun _ => 0)))] s.heap.size = A at hD ⊢
  have hA : ∀ q : Nat, s.heap.size ≤ q → A q := fun q h => by rw [← hAe]; exact Or.inr h
  have hS : va_S A s.heap s.heap [] := va_S.rf
  have hP : va_P (dC, dI) classes [(h0, .inr (12, [.ref (r 0), .ref (r 1), .int 0, .int 0, .int 0, .int (-1), .int 0, .int 0, .int 0, .int 0, .long 0, .ref (r 11), .ref (r 12), .ref (r 13), .ref (r 14), .ref (r 15), .ref (r 16), .ref (r 17), .ref (r 18), .ref (r 19), .ref (r 20), .ref (r 21), .ref (r 22), .ref (r 23), .ref (r 24), .ref (r 25), .ref (r 26), .ref (r 27), .ref (r 28), .ref (r 29), .ref (r 30), .ref (r 31), .ref (r 32), .ref (r 33), .int 0, .int 0, .int 0, .int 0, .int 0, .int 0, .int 0, .ref (r 41), .ref (r 42), .ref (r 43), .ref (r 44), .int 0, .int 0, .int 0, .ref (r 48), .int 0, .int 0, .ref (r 51), .ref (r 52), .ref (r 53), .ref (r 54), .int 0, .ref (r 56), .ref (r 57), .ref (r 58), .int 0, .ref (r 60), .ref (r 61), .ref (r 62), .ref (r 63), .ref (r 64), .ref (r 65), .ref (r 66), .ref (r 67), .ref (r 68), .int 0, .int 0, .int 0, .ref (r 72), .ref (r 73)])), (r 13, .inl (cy 0, 2, .inl (fun _ => 0)))] s.heap := hP
  have hl := lv_entry ([.ref h0, .int p0, .int p1, .int p2]) (n := 5) (Nat.le_of_ble_eq_true rfl)
  rw [lg_entry_eq]
  generalize (lg_sl ([.ref h0, .int p0, .int p1, .int p2]) ++ List.replicate (5 - (lg_sl ([.ref h0, .int p0, .int p1, .int p2])).length) Slot.unset).toArray = ls at hl ⊢
  have hl : lv_has ls 5 [(0, .ref h0), (1, .int p0), (2, .int p1), (3, .int p2)] := hl
  refine lv_aload_n hx hb dX12_three_0 rfl (lv_at hl 0 rfl) ?_
  refine lv_iconst (v := 0) hx hb dX12_three_1 (by decide +kernel) ?_
  refine va_put (D := (dC, dI)) (ci := 12) (v := .int 0) (ty := .int) (C := RX12) (T := TX12) (N := 74) hx hb hts inlX12 tyX12 tyX12_ok nmX12 hown hK hP hD hS 0 rfl rfl 55 (by decide) (hts _ m_281) (fun _ h9 => h9) rfl (by decide +kernel) rfl rfl (Nat.le_of_ble_eq_true rfl) dX12_three_2 (fun H locs hP hD hS => ?_)
  have hP : va_P (dC, dI) classes [(h0, .inr (12, [.ref (r 0), .ref (r 1), .int 0, .int 0, .int 0, .int (-1), .int 0, .int 0, .int 0, .int 0, .long 0, .ref (r 11), .ref (r 12), .ref (r 13), .ref (r 14), .ref (r 15), .ref (r 16), .ref (r 17), .ref (r 18), .ref (r 19), .ref (r 20), .ref (r 21), .ref (r 22), .ref (r 23), .ref (r 24), .ref (r 25), .ref (r 26), .ref (r 27), .ref (r 28), .ref (r 29), .ref (r 30), .ref (r 31), .ref (r 32), .ref (r 33), .int 0, .int 0, .int 0, .int 0, .int 0, .int 0, .int 0, .ref (r 41), .ref (r 42), .ref (r 43), .ref (r 44), .int 0, .int 0, .int 0, .ref (r 48), .int 0, .int 0, .ref (r 51), .ref (r 52), .ref (r 53), .ref (r 54), .int 0, .ref (r 56), .ref (r 57), .ref (r 58), .int 0, .ref (r 60), .ref (r 61), .ref (r 62), .ref (r 63), .ref (r 64), .ref (r 65), .ref (r 66), .ref (r 67), .ref (r 68), .int 0, .int 0, .int 0, .ref (r 72), .ref (r 73)])), (r 13, .inl (cy 0, 2, .inl (fun _ => 0)))] H := hP
  have hD : va_D A [(h0, .inr (12, [.ref (r 0), .ref (r 1), .int 0, .int 0, .int 0, .int (-1), .int 0, .int 0, .int 0, .int 0, .long 0, .ref (r 11), .ref (r 12), .ref (r 13), .ref (r 14), .ref (r 15), .ref (r 16), .ref (r 17), .ref (r 18), .ref (r 19), .ref (r 20), .ref (r 21), .ref (r 22), .ref (r 23), .ref (r 24), .ref (r 25), .ref (r 26), .ref (r 27), .ref (r 28), .ref (r 29), .ref (r 30), .ref (r 31), .ref (r 32), .ref (r 33), .int 0, .int 0, .int 0, .int 0, .int 0, .int 0, .int 0, .ref (r 41), .ref (r 42), .ref (r 43), .ref (r 44), .int 0, .int 0, .int 0, .ref (r 48), .int 0, .int 0, .ref (r 51), .ref (r 52), .ref (r 53), .ref (r 54), .int 0, .ref (r 56), .ref (r 57), .ref (r 58), .int 0, .ref (r 60), .ref (r 61), .ref (r 62), .ref (r 63), .ref (r 64), .ref (r 65), .ref (r 66), .ref (r 67), .ref (r 68), .int 0, .int 0, .int 0, .ref (r 72), .ref (r 73)])), (r 13, .inl (cy 0, 2, .inl (fun _ => 0)))] := hD
  refine lv_aload_n hx hb dX12_three_5 rfl (lv_at hl 0 rfl) ?_
  refine lv_iload_n hx hb dX12_three_6 rfl (lv_at hl 3 rfl) ?_
  have hPc := hP.sub (ws' := [(h0, .inr (12, [.ref (r 0), .ref (r 1), .int 0, .int 0, .int 0, .int (-1), .int 0, .int 0, .int 0, .int 0, .long 0, .ref (r 11), .ref (r 12), .ref (r 13), .ref (r 14), .ref (r 15), .ref (r 16), .ref (r 17), .ref (r 18), .ref (r 19), .ref (r 20), .ref (r 21), .ref (r 22), .ref (r 23), .ref (r 24), .ref (r 25), .ref (r 26), .ref (r 27), .ref (r 28), .ref (r 29), .ref (r 30), .ref (r 31), .ref (r 32), .ref (r 33), .int 0, .int 0, .int 0, .int 0, .int 0, .int 0, .int 0, .ref (r 41), .ref (r 42), .ref (r 43), .ref (r 44), .int 0, .int 0, .int 0, .ref (r 48), .int 0, .int 0, .ref (r 51), .ref (r 52), .ref (r 53), .ref (r 54), .int 0, .ref (r 56), .ref (r 57), .ref (r 58), .int 0, .ref (r 60), .ref (r 61), .ref (r 62), .ref (r 63), .ref (r 64), .ref (r 65), .ref (r 66), .ref (r 67), .ref (r 68), .int 0, .int 0, .int 0, .ref (r 72), .ref (r 73)])), (r 13, .inl (cy 0, 2, .inl (fun _ => 0)))]) [0, 1] rfl
  refine vp_callSi (W.runV (As := [.int p2]) (rest := []) ⟨hx, hb, hml, hown, hts⟩ (kX12_isSlip_1 l dC dI cy h0 r p2) (cwV 1 hts (gdV m_791 m_792 m_793 m_5 m_794) rfl rfl rfl (by decide +kernel) ⟨Nat.le_of_ble_eq_true rfl, Nat.le_of_ble_eq_true rfl⟩) ⟨fun a U g mk q => by obtain ⟨q0, qP, qE⟩ := q; exact ⟨q0, qP, qE.call⟩, va_recv hK hP (ci := 12) (q0 := 0) rfl rfl, fun U hU hW => ⟨rfl, by rw [hU]; exact hPc, hE.moved hW⟩⟩ rfl rfl hl.1 rfl (lv_room (Nat.le_of_ble_eq_true rfl)) dX12_three_7 ⟨(show 0 + 0 ≤ 0 from by decide +kernel), (show 0 + 0 ≤ 0 from by decide +kernel)⟩) (fun r_1 hw => ?_)
  subst r_1
  refine lv_if_eq (tgt := 22) hx hb dX12_three_10 (by decide) (fun _ => ?_) (fun c_ => absurd (by decide +kernel) c_)
  refine lv_iconst (v := (-1)) hx hb dX12_three_22 (by decide +kernel) ?_
  exact W.iret (v := (-1)) hx hb hr (fun t ht hW => ⟨⟨(-1), (), rfl, rfl, trivial⟩, hS.F ht⟩) hS.2.2 dX12_three_23
set_option maxHeartbeats 4000000 in
set_option maxRecDepth 100000 in
theorem kX11_common_1 (l : Launch) (dC : Nat → ClassId) (dI : Nat → Nat → Nat) (cy : Nat → ClassId) (h0 h1 h2 h3 h4 h5 h6 h7 h8 h9 h10 h11 h12 h13 h14 h15 h16 h17 : Nat) (p0 p1 : Int32) (sz : Nat) : Met l yX11_common wmX11_common ({ frames := 2, cells := 0, slots := 0, locals := 42 }) (va_Pc [.ref h0, .int p0, .int p1] (fun U => U.heap.size = sz ∧ va_P (dC, dI) classes [(h0, .inr (11, [.ref h1, .ref h2, .ref h3, .ref h4, .ref h5, .ref h6, .ref h7, .ref h8, .ref h9])), (h7, .inr (1, [.ref h10, .int 0])), (h9, .inr (10, [.ref h11, .ref h12, .ref h13, .ref h14, .ref h15, .ref h16, .ref h17, .int 0, .int 0, .int 0, .int 0, .int 0]))] U.heap ∧ EV dC dI cy U ∧ va_D (fun _ => True) [(h0, .inr (11, [.ref h1, .ref h2, .ref h3, .ref h4, .ref h5, .ref h6, .ref h7, .ref h8, .ref h9])), (h7, .inr (1, [.ref h10, .int 0])), (h9, .inr (10, [.ref h11, .ref h12, .ref h13, .ref h14, .ref h15, .ref h16, .ref h17, .int 0, .int 0, .int 0, .int 0, .int 0]))])) (va_Qi (S := Unit) (fun r_ _ => r_ = (-1)) (fun _ _ => True) (va_A [(h0, .inr (11, [.ref h1, .ref h2, .ref h3, .ref h4, .ref h5, .ref h6, .ref h7, .ref h8, .ref h9])), (h7, .inr (1, [.ref h10, .int 0])), (h9, .inr (10, [.ref h11, .ref h12, .ref h13, .ref h14, .ref h15, .ref h16, .ref h17, .int 0, .int 0, .int 0, .int 0, .int 0]))] sz)) 0 0 (va_A [(h0, .inr (11, [.ref h1, .ref h2, .ref h3, .ref h4, .ref h5, .ref h6, .ref h7, .ref h8, .ref h9])), (h7, .inr (1, [.ref h10, .int 0])), (h9, .inr (10, [.ref h11, .ref h12, .ref h13, .ref h14, .ref h15, .ref h16, .ref h17, .int 0, .int 0, .int 0, .int 0, .int 0]))] sz) := by
  refine Met.ofW (cc := cX11_common) (maxL := 5) (ret := (some .int)) (by decide +kernel) rfl ?_
  intro p e s m args below meth c s₁ B hml hv
  obtain ⟨rfl, hsz, hP, hE, hD0⟩ := hv
  have hK := hE.1
  have hN := hE.2.1
  have hx := B.exec
  have hb := B.bytes
  have hr := B.returns
  have hts0 := atoms_spec (ws := wmX11_common) B.pre
  have hts : ∀ w ∈ wsL_law, w.before _ s = true := fun w h => hts0 w (List.mem_cons_of_mem _ h)
  have hown : s.vm.findClass RX11 = some m.cls := findClass_of_methodNamed B.named
  have hlocks := B.notSynchronized
  subst hsz
  have hD := hD0.self (sz := s.heap.size)
  generalize hAe : va_A [(h0, .inr (11, [.ref h1, .ref h2, .ref h3, .ref h4, .ref h5, .ref h6, .ref h7, .ref h8, .ref h9])), (h7, .inr (1, [.ref h10, .int 0])), (h9, .inr (10, [.ref h11, .ref h12, .ref h13, .ref h14, .ref h15, .ref h16, .ref h17, .int 0, .int 0, .int 0, .int 0, .int 0]))] s.heap.size = A at hD ⊢
  have hA : ∀ q : Nat, s.heap.size ≤ q → A q := fun q h => by rw [← hAe]; exact Or.inr h
  have hS : va_S A s.heap s.heap [] := va_S.rf
  have hP : va_P (dC, dI) classes [(h0, .inr (11, [.ref h1, .ref h2, .ref h3, .ref h4, .ref h5, .ref h6, .ref h7, .ref h8, .ref h9])), (h7, .inr (1, [.ref h10, .int 0])), (h9, .inr (10, [.ref h11, .ref h12, .ref h13, .ref h14, .ref h15, .ref h16, .ref h17, .int 0, .int 0, .int 0, .int 0, .int 0]))] s.heap := hP
  have hl := lv_entry ([.ref h0, .int p0, .int p1]) (n := 5) (Nat.le_of_ble_eq_true rfl)
  rw [lg_entry_eq]
  generalize (lg_sl ([.ref h0, .int p0, .int p1]) ++ List.replicate (5 - (lg_sl ([.ref h0, .int p0, .int p1])).length) Slot.unset).toArray = ls at hl ⊢
  have hl : lv_has ls 5 [(0, .ref h0), (1, .int p0), (2, .int p1)] := hl
  refine lv_aload_n hx hb dX11_common_0 rfl (lv_at hl 0 rfl) ?_
  refine va_get (D := (dC, dI)) (ci := 11) (v := .ref h7) (C := RX11) (T := TX11) (N := 9) hx hb hts inlX11 hown hK hP 0 rfl rfl 6 (by decide) (hts _ m_39) (fun _ h9 => h9) rfl dX11_common_1 ?_
  have hPc := hP.sub (ws' := [(h7, .inr (1, [.ref h10, .int 0]))]) [1] rfl
  have hDc := hD.sub (ws' := [(h7, .inr (1, [.ref h10, .int 0]))]) [1] (by decide) rfl
  have hFc := va_free (wc := [(h7, .inr (1, [.ref h10, .int 0]))]) hD hS hA [1] rfl
  refine va_callv (va_runV (As := []) (rest := []) ⟨hx, hb, hml, hown, hts⟩ (kX1_clear_1 l dC dI cy h7 h10 s.heap.size) (cwV 0 hts (gdV m_563 m_326 m_327 m_38 m_328) rfl rfl rfl (by decide +kernel) ⟨Nat.le_of_ble_eq_true rfl, Nat.le_of_ble_eq_true rfl⟩) ⟨fun a U g mk q => by obtain ⟨q0, q1, qP, qE, qD⟩ := q; exact ⟨q0, q1, qP, qE.call, qD⟩, va_recv hK hP (ci := 1) (q0 := 1) rfl rfl, fun U hU hW => ⟨rfl, by rw [hU], by rw [hU]; exact hPc, hE.moved hW, hDc.weaken (fun _ _ _ _ => trivial)⟩⟩ rfl rfl hl.1 rfl (lv_room (Nat.le_of_ble_eq_true rfl)) dX11_common_4 ⟨(show 0 + 0 ≤ 0 from by decide +kernel), (show 0 + 0 ≤ 0 from by decide +kernel)⟩) hS (fun q _ h => hFc q h) hFc (fun u t H1 locs ht hvm hw hB hz1 hk1 hS => ?_)
  obtain ⟨hP1, hD1⟩ := hB
  rw [ht] at hP1
  obtain ⟨hP, hD⟩ := va_join (wr := [(h0, .inr (11, [.ref h1, .ref h2, .ref h3, .ref h4, .ref h5, .ref h6, .ref h7, .ref h8, .ref h9])), (h9, .inr (10, [.ref h11, .ref h12, .ref h13, .ref h14, .ref h15, .ref h16, .ref h17, .int 0, .int 0, .int 0, .int 0, .int 0]))]) (w1 := [(h7, .inr (1, [.ref h10, .int 0]))]) hP hD [1] [0, 2] rfl rfl (by decide) (by decide) hk1 hFc hP1 hD1
  generalize H1 = H at hP hS ⊢
  have hP : va_P (dC, dI) classes [(h0, .inr (11, [.ref h1, .ref h2, .ref h3, .ref h4, .ref h5, .ref h6, .ref h7, .ref h8, .ref h9])), (h9, .inr (10, [.ref h11, .ref h12, .ref h13, .ref h14, .ref h15, .ref h16, .ref h17, .int 0, .int 0, .int 0, .int 0, .int 0])), (h7, .inr (1, [.ref h10, .int 0]))] H := hP
  have hD : va_D A [(h0, .inr (11, [.ref h1, .ref h2, .ref h3, .ref h4, .ref h5, .ref h6, .ref h7, .ref h8, .ref h9])), (h9, .inr (10, [.ref h11, .ref h12, .ref h13, .ref h14, .ref h15, .ref h16, .ref h17, .int 0, .int 0, .int 0, .int 0, .int 0])), (h7, .inr (1, [.ref h10, .int 0]))] := hD
  refine W.widen (k := 0) (n := 0) (by decide +kernel) (by decide +kernel) ?_
  refine lv_aload_n hx hb dX11_common_7 rfl (lv_at hl 0 rfl) ?_
  refine lv_iload_n hx hb dX11_common_8 rfl (lv_at hl 1 rfl) ?_
  have hPc := hP.sub (ws' := [(h0, .inr (11, [.ref h1, .ref h2, .ref h3, .ref h4, .ref h5, .ref h6, .ref h7, .ref h8, .ref h9])), (h9, .inr (10, [.ref h11, .ref h12, .ref h13, .ref h14, .ref h15, .ref h16, .ref h17, .int 0, .int 0, .int 0, .int 0, .int 0]))]) [0, 1] rfl
  refine va_csq (W.runV (As := [.int p0]) (rest := []) ⟨hx, hb, hml, hown, hts⟩ (kX11_slipOf_1 l dC dI cy h0 h1 h2 h3 h4 h5 h6 h7 h8 h9 h11 h12 h13 h14 h15 h16 h17 p0) (cwV 1 hts (gdV m_782 m_783 m_784 m_2 m_785) rfl rfl rfl (by decide +kernel) ⟨Nat.le_of_ble_eq_true rfl, Nat.le_of_ble_eq_true rfl⟩) ⟨fun a U g mk q => by obtain ⟨q0, qP, qE⟩ := q; exact ⟨q0, qP, qE.call⟩, va_recv hK hP (ci := 11) (q0 := 0) rfl rfl, fun U hU hW => ⟨rfl, by rw [hU]; exact hPc, hE.moved hW⟩⟩ rfl rfl hl.1 rfl (lv_room (Nat.le_of_ble_eq_true rfl)) dX11_common_9 ⟨(show 0 + 0 ≤ 0 from by decide +kernel), (show 0 + 0 ≤ 0 from by decide +kernel)⟩) (fun r_2 hw => ?_)
  subst r_2
  refine W.eq (g2 := F0 m 12 ls [.null]) rfl ?_
  refine lv_astore_nN (lv' := [(3, .null), (0, .ref h0), (1, .int p0), (2, .int p1)]) hx hb dX11_common_12 rfl hl (by decide) rfl (fun ls hl => ?_)
  refine lv_aload_n hx hb dX11_common_13 rfl (lv_at hl 1 rfl) ?_
  refine lv_iload_n hx hb dX11_common_14 rfl (lv_at hl 3 rfl) ?_
  have hPc := hP.sub (ws' := [(h0, .inr (11, [.ref h1, .ref h2, .ref h3, .ref h4, .ref h5, .ref h6, .ref h7, .ref h8, .ref h9])), (h9, .inr (10, [.ref h11, .ref h12, .ref h13, .ref h14, .ref h15, .ref h16, .ref h17, .int 0, .int 0, .int 0, .int 0, .int 0]))]) [0, 1] rfl
  refine va_csq (W.runV (As := [.int p1]) (rest := []) ⟨hx, hb, hml, hown, hts⟩ (kX11_slipOf_1 l dC dI cy h0 h1 h2 h3 h4 h5 h6 h7 h8 h9 h11 h12 h13 h14 h15 h16 h17 p1) (cwV 1 hts (gdV m_782 m_783 m_784 m_2 m_785) rfl rfl rfl (by decide +kernel) ⟨Nat.le_of_ble_eq_true rfl, Nat.le_of_ble_eq_true rfl⟩) ⟨fun a U g mk q => by obtain ⟨q0, qP, qE⟩ := q; exact ⟨q0, qP, qE.call⟩, va_recv hK hP (ci := 11) (q0 := 0) rfl rfl, fun U hU hW => ⟨rfl, by rw [hU]; exact hPc, hE.moved hW⟩⟩ rfl rfl hl.1 rfl (lv_room (Nat.le_of_ble_eq_true rfl)) dX11_common_15 ⟨(show 0 + 0 ≤ 0 from by decide +kernel), (show 0 + 0 ≤ 0 from by decide +kernel)⟩) (fun r_3 hw => ?_)
  subst r_3
  refine W.eq (g2 := F0 m 18 ls [.null]) rfl ?_
  refine lv_astoreN (lv' := [(4, .null), (3, .null), (0, .ref h0), (1, .int p0), (2, .int p1)]) hx hb dX11_common_18 hl (by decide) rfl (fun ls hl => ?_)
  refine lv_aload_nN hx hb dX11_common_20 rfl (lv_at hl 1 rfl) ?_
  refine lv_ifnullN (tgt := 29) hx hb dX11_common_21 (by decide) ?_
  refine lv_iconst (v := (-1)) hx hb dX11_common_29 (by decide +kernel) ?_
  exact W.iret (v := (-1)) hx hb hr (fun t ht hW => ⟨⟨(-1), (), rfl, rfl, trivial⟩, hS.F ht⟩) hS.2.2 dX11_common_30
set_option maxHeartbeats 4000000 in
set_option maxRecDepth 100000 in
theorem kX12_common_1 (l : Launch) (dC : Nat → ClassId) (dI : Nat → Nat → Nat) (cy : Nat → ClassId) (h0 : Nat) (r : Nat → Nat) (p0 p1 : Int32) (sz : Nat) : Met l yX12_common wmX12_common ({ frames := 3, cells := 0, slots := 0, locals := 65 }) (va_Pc [.ref h0, .int p0, .int p1] (fun U => U.heap.size = sz ∧ va_P (dC, dI) classes [(h0, .inr (12, [.ref (r 0), .ref (r 1), .int 0, .int 0, .int 0, .int (-1), .int 0, .int 0, .int 0, .int 0, .long 0, .ref (r 11), .ref (r 12), .ref (r 13), .ref (r 14), .ref (r 15), .ref (r 16), .ref (r 17), .ref (r 18), .ref (r 19), .ref (r 20), .ref (r 21), .ref (r 22), .ref (r 23), .ref (r 24), .ref (r 25), .ref (r 26), .ref (r 27), .ref (r 28), .ref (r 29), .ref (r 30), .ref (r 31), .ref (r 32), .ref (r 33), .int 0, .int 0, .int 0, .int 0, .int 0, .int 0, .int 0, .ref (r 41), .ref (r 42), .ref (r 43), .ref (r 44), .int 0, .int 0, .int 0, .ref (r 48), .int 0, .int 0, .ref (r 51), .ref (r 52), .ref (r 53), .ref (r 54), .int 0, .ref (r 56), .ref (r 57), .ref (r 58), .int 0, .ref (r 60), .ref (r 61), .ref (r 62), .ref (r 63), .ref (r 64), .ref (r 65), .ref (r 66), .ref (r 67), .ref (r 68), .int 0, .int 0, .int 0, .ref (r 72), .ref (r 73)])), (r 13, .inl (cy 0, 2, .inl (fun _ => 0)))] U.heap ∧ EV dC dI cy U ∧ va_D (fun _ => True) [(h0, .inr (12, [.ref (r 0), .ref (r 1), .int 0, .int 0, .int 0, .int (-1), .int 0, .int 0, .int 0, .int 0, .long 0, .ref (r 11), .ref (r 12), .ref (r 13), .ref (r 14), .ref (r 15), .ref (r 16), .ref (r 17), .ref (r 18), .ref (r 19), .ref (r 20), .ref (r 21), .ref (r 22), .ref (r 23), .ref (r 24), .ref (r 25), .ref (r 26), .ref (r 27), .ref (r 28), .ref (r 29), .ref (r 30), .ref (r 31), .ref (r 32), .ref (r 33), .int 0, .int 0, .int 0, .int 0, .int 0, .int 0, .int 0, .ref (r 41), .ref (r 42), .ref (r 43), .ref (r 44), .int 0, .int 0, .int 0, .ref (r 48), .int 0, .int 0, .ref (r 51), .ref (r 52), .ref (r 53), .ref (r 54), .int 0, .ref (r 56), .ref (r 57), .ref (r 58), .int 0, .ref (r 60), .ref (r 61), .ref (r 62), .ref (r 63), .ref (r 64), .ref (r 65), .ref (r 66), .ref (r 67), .ref (r 68), .int 0, .int 0, .int 0, .ref (r 72), .ref (r 73)])), (r 13, .inl (cy 0, 2, .inl (fun _ => 0)))])) (va_Qi (S := Unit) (fun r_ _ => r_ = (-1)) (fun _ _ => True) (va_A [(h0, .inr (12, [.ref (r 0), .ref (r 1), .int 0, .int 0, .int 0, .int (-1), .int 0, .int 0, .int 0, .int 0, .long 0, .ref (r 11), .ref (r 12), .ref (r 13), .ref (r 14), .ref (r 15), .ref (r 16), .ref (r 17), .ref (r 18), .ref (r 19), .ref (r 20), .ref (r 21), .ref (r 22), .ref (r 23), .ref (r 24), .ref (r 25), .ref (r 26), .ref (r 27), .ref (r 28), .ref (r 29), .ref (r 30), .ref (r 31), .ref (r 32), .ref (r 33), .int 0, .int 0, .int 0, .int 0, .int 0, .int 0, .int 0, .ref (r 41), .ref (r 42), .ref (r 43), .ref (r 44), .int 0, .int 0, .int 0, .ref (r 48), .int 0, .int 0, .ref (r 51), .ref (r 52), .ref (r 53), .ref (r 54), .int 0, .ref (r 56), .ref (r 57), .ref (r 58), .int 0, .ref (r 60), .ref (r 61), .ref (r 62), .ref (r 63), .ref (r 64), .ref (r 65), .ref (r 66), .ref (r 67), .ref (r 68), .int 0, .int 0, .int 0, .ref (r 72), .ref (r 73)])), (r 13, .inl (cy 0, 2, .inl (fun _ => 0)))] sz)) 0 0 (va_A [(h0, .inr (12, [.ref (r 0), .ref (r 1), .int 0, .int 0, .int 0, .int (-1), .int 0, .int 0, .int 0, .int 0, .long 0, .ref (r 11), .ref (r 12), .ref (r 13), .ref (r 14), .ref (r 15), .ref (r 16), .ref (r 17), .ref (r 18), .ref (r 19), .ref (r 20), .ref (r 21), .ref (r 22), .ref (r 23), .ref (r 24), .ref (r 25), .ref (r 26), .ref (r 27), .ref (r 28), .ref (r 29), .ref (r 30), .ref (r 31), .ref (r 32), .ref (r 33), .int 0, .int 0, .int 0, .int 0, .int 0, .int 0, .int 0, .ref (r 41), .ref (r 42), .ref (r 43), .ref (r 44), .int 0, .int 0, .int 0, .ref (r 48), .int 0, .int 0, .ref (r 51), .ref (r 52), .ref (r 53), .ref (r 54), .int 0, .ref (r 56), .ref (r 57), .ref (r 58), .int 0, .ref (r 60), .ref (r 61), .ref (r 62), .ref (r 63), .ref (r 64), .ref (r 65), .ref (r 66), .ref (r 67), .ref (r 68), .int 0, .int 0, .int 0, .ref (r 72), .ref (r 73)])), (r 13, .inl (cy 0, 2, .inl (fun _ => 0)))] sz) := by
  refine Met.ofW (cc := cX12_common) (maxL := 9) (ret := (some .int)) (by decide +kernel) rfl ?_
  intro p e s m args below meth c s₁ B hml hv
  obtain ⟨rfl, hsz, hP, hE, hD0⟩ := hv
  have hK := hE.1
  have hN := hE.2.1
  have hx := B.exec
  have hb := B.bytes
  have hr := B.returns
  have hts0 := atoms_spec (ws := wmX12_common) B.pre
  have hts : ∀ w ∈ wsL_law, w.before _ s = true := fun w h => hts0 w (List.mem_cons_of_mem _ h)
  have hown : s.vm.findClass RX12 = some m.cls := findClass_of_methodNamed B.named
  have hlocks := B.notSynchronized
  subst hsz
  have hD := hD0.self (sz := s.heap.size)
  generalize hAe : va_A [(h0, .inr (12, [.ref (r 0), .ref (r 1), .int 0, .int 0, .int 0, .int (-1), .int 0, .int 0, .int 0, .int 0, .long 0, .ref (r 11), .ref (r 12), .ref (r 13), .ref (r 14), .ref (r 15), .ref (r 16), .ref (r 17), .ref (r 18), .ref (r 19), .ref (r 20), .ref (r 21), .ref (r 22), .ref (r 23), .ref (r 24), .ref (r 25), .ref (r 26), .ref (r 27), .ref (r 28), .ref (r 29), .ref (r 30), .ref (r 31), .ref (r 32), .ref (r 33), .int 0, .int 0, .int 0, .int 0, .int 0, .int 0, .int 0, .ref (r 41), .ref (r 42), .ref (r 43), .ref (r 44), .int 0, .int 0, .int 0, .ref (r 48), .int 0, .int 0, .ref (r 51), .ref (r 52), .ref (r 53), .ref (r 54), .int 0, .ref (r 56), .ref (r 57), .ref (r 58), .int 0, .ref (r 60), .ref (r 61), .ref (r 62), .ref (r 63), .ref (r 64), .ref (r 65), .ref (r 66), .ref (r 67), .ref (r 68), .int 0, .int 0, .int 0, .ref (r 72), .ref (r 73)])), (r 13, .inl (cy 0, 2, .inl (fun _ => 0)))] s.heap.size = A at hD ⊢
  have hA : ∀ q : Nat, s.heap.size ≤ q → A q := fun q h => by rw [← hAe]; exact Or.inr h
  have hS : va_S A s.heap s.heap [] := va_S.rf
  have hP : va_P (dC, dI) classes [(h0, .inr (12, [.ref (r 0), .ref (r 1), .int 0, .int 0, .int 0, .int (-1), .int 0, .int 0, .int 0, .int 0, .long 0, .ref (r 11), .ref (r 12), .ref (r 13), .ref (r 14), .ref (r 15), .ref (r 16), .ref (r 17), .ref (r 18), .ref (r 19), .ref (r 20), .ref (r 21), .ref (r 22), .ref (r 23), .ref (r 24), .ref (r 25), .ref (r 26), .ref (r 27), .ref (r 28), .ref (r 29), .ref (r 30), .ref (r 31), .ref (r 32), .ref (r 33), .int 0, .int 0, .int 0, .int 0, .int 0, .int 0, .int 0, .ref (r 41), .ref (r 42), .ref (r 43), .ref (r 44), .int 0, .int 0, .int 0, .ref (r 48), .int 0, .int 0, .ref (r 51), .ref (r 52), .ref (r 53), .ref (r 54), .int 0, .ref (r 56), .ref (r 57), .ref (r 58), .int 0, .ref (r 60), .ref (r 61), .ref (r 62), .ref (r 63), .ref (r 64), .ref (r 65), .ref (r 66), .ref (r 67), .ref (r 68), .int 0, .int 0, .int 0, .ref (r 72), .ref (r 73)])), (r 13, .inl (cy 0, 2, .inl (fun _ => 0)))] s.heap := hP
  have hl := lv_entry ([.ref h0, .int p0, .int p1]) (n := 9) (Nat.le_of_ble_eq_true rfl)
  rw [lg_entry_eq]
  generalize (lg_sl ([.ref h0, .int p0, .int p1]) ++ List.replicate (9 - (lg_sl ([.ref h0, .int p0, .int p1])).length) Slot.unset).toArray = ls at hl ⊢
  have hl : lv_has ls 9 [(0, .ref h0), (1, .int p0), (2, .int p1)] := hl
  refine lv_aload_n hx hb dX12_common_0 rfl (lv_at hl 0 rfl) ?_
  refine lv_iconst (v := 0) hx hb dX12_common_1 (by decide +kernel) ?_
  refine va_put (D := (dC, dI)) (ci := 12) (v := .int 0) (ty := .int) (C := RX12) (T := TX12) (N := 74) hx hb hts inlX12 tyX12 tyX12_ok nmX12 hown hK hP hD hS 0 rfl rfl 55 (by decide) (hts _ m_281) (fun _ h9 => h9) rfl (by decide +kernel) rfl rfl (Nat.le_of_ble_eq_true rfl) dX12_common_2 (fun H locs hP hD hS => ?_)
  have hP : va_P (dC, dI) classes [(h0, .inr (12, [.ref (r 0), .ref (r 1), .int 0, .int 0, .int 0, .int (-1), .int 0, .int 0, .int 0, .int 0, .long 0, .ref (r 11), .ref (r 12), .ref (r 13), .ref (r 14), .ref (r 15), .ref (r 16), .ref (r 17), .ref (r 18), .ref (r 19), .ref (r 20), .ref (r 21), .ref (r 22), .ref (r 23), .ref (r 24), .ref (r 25), .ref (r 26), .ref (r 27), .ref (r 28), .ref (r 29), .ref (r 30), .ref (r 31), .ref (r 32), .ref (r 33), .int 0, .int 0, .int 0, .int 0, .int 0, .int 0, .int 0, .ref (r 41), .ref (r 42), .ref (r 43), .ref (r 44), .int 0, .int 0, .int 0, .ref (r 48), .int 0, .int 0, .ref (r 51), .ref (r 52), .ref (r 53), .ref (r 54), .int 0, .ref (r 56), .ref (r 57), .ref (r 58), .int 0, .ref (r 60), .ref (r 61), .ref (r 62), .ref (r 63), .ref (r 64), .ref (r 65), .ref (r 66), .ref (r 67), .ref (r 68), .int 0, .int 0, .int 0, .ref (r 72), .ref (r 73)])), (r 13, .inl (cy 0, 2, .inl (fun _ => 0)))] H := hP
  have hD : va_D A [(h0, .inr (12, [.ref (r 0), .ref (r 1), .int 0, .int 0, .int 0, .int (-1), .int 0, .int 0, .int 0, .int 0, .long 0, .ref (r 11), .ref (r 12), .ref (r 13), .ref (r 14), .ref (r 15), .ref (r 16), .ref (r 17), .ref (r 18), .ref (r 19), .ref (r 20), .ref (r 21), .ref (r 22), .ref (r 23), .ref (r 24), .ref (r 25), .ref (r 26), .ref (r 27), .ref (r 28), .ref (r 29), .ref (r 30), .ref (r 31), .ref (r 32), .ref (r 33), .int 0, .int 0, .int 0, .int 0, .int 0, .int 0, .int 0, .ref (r 41), .ref (r 42), .ref (r 43), .ref (r 44), .int 0, .int 0, .int 0, .ref (r 48), .int 0, .int 0, .ref (r 51), .ref (r 52), .ref (r 53), .ref (r 54), .int 0, .ref (r 56), .ref (r 57), .ref (r 58), .int 0, .ref (r 60), .ref (r 61), .ref (r 62), .ref (r 63), .ref (r 64), .ref (r 65), .ref (r 66), .ref (r 67), .ref (r 68), .int 0, .int 0, .int 0, .ref (r 72), .ref (r 73)])), (r 13, .inl (cy 0, 2, .inl (fun _ => 0)))] := hD
  refine lv_aload_n hx hb dX12_common_5 rfl (lv_at hl 0 rfl) ?_
  refine lv_iload_n hx hb dX12_common_6 rfl (lv_at hl 1 rfl) ?_
  refine lv_iload_n hx hb dX12_common_7 rfl (lv_at hl 2 rfl) ?_
  have hPc := hP.sub (ws' := [(h0, .inr (12, [.ref (r 0), .ref (r 1), .int 0, .int 0, .int 0, .int (-1), .int 0, .int 0, .int 0, .int 0, .long 0, .ref (r 11), .ref (r 12), .ref (r 13), .ref (r 14), .ref (r 15), .ref (r 16), .ref (r 17), .ref (r 18), .ref (r 19), .ref (r 20), .ref (r 21), .ref (r 22), .ref (r 23), .ref (r 24), .ref (r 25), .ref (r 26), .ref (r 27), .ref (r 28), .ref (r 29), .ref (r 30), .ref (r 31), .ref (r 32), .ref (r 33), .int 0, .int 0, .int 0, .int 0, .int 0, .int 0, .int 0, .ref (r 41), .ref (r 42), .ref (r 43), .ref (r 44), .int 0, .int 0, .int 0, .ref (r 48), .int 0, .int 0, .ref (r 51), .ref (r 52), .ref (r 53), .ref (r 54), .int 0, .ref (r 56), .ref (r 57), .ref (r 58), .int 0, .ref (r 60), .ref (r 61), .ref (r 62), .ref (r 63), .ref (r 64), .ref (r 65), .ref (r 66), .ref (r 67), .ref (r 68), .int 0, .int 0, .int 0, .ref (r 72), .ref (r 73)])), (r 13, .inl (cy 0, 2, .inl (fun _ => 0)))]) [0, 1] rfl
  refine vp_callSi (W.runV (As := [.int p0, .int p1]) (rest := []) ⟨hx, hb, hml, hown, hts⟩ (kX12_layBoth_1 l dC dI cy h0 r p0 p1) (cwV 2 hts (gdV m_1193 m_1194 m_1195 m_5 m_1196) rfl rfl rfl (by decide +kernel) ⟨Nat.le_of_ble_eq_true rfl, Nat.le_of_ble_eq_true rfl⟩) ⟨fun a U g mk q => by obtain ⟨q0, qP, qE⟩ := q; exact ⟨q0, qP, qE.call⟩, va_recv hK hP (ci := 12) (q0 := 0) rfl rfl, fun U hU hW => ⟨rfl, by rw [hU]; exact hPc, hE.moved hW⟩⟩ rfl rfl hl.1 rfl (lv_room (Nat.le_of_ble_eq_true rfl)) dX12_common_8 ⟨(show 0 + 0 ≤ 0 from by decide +kernel), (show 0 + 0 ≤ 0 from by decide +kernel)⟩) (fun r_1 hw => ?_)
  subst r_1
  refine lv_if_ne (tgt := 16) hx hb dX12_common_11 (by decide) (fun c_ => absurd (by decide +kernel) c_) (fun _ => ?_)
  refine lv_iconst (v := (-1)) hx hb dX12_common_14 (by decide +kernel) ?_
  exact W.iret (v := (-1)) hx hb hr (fun t ht hW => ⟨⟨(-1), (), rfl, rfl, trivial⟩, hS.F ht⟩) hS.2.2 dX12_common_15
set_option maxHeartbeats 4000000 in
set_option maxRecDepth 100000 in
theorem kX11_canLeaveOut_1 (l : Launch) (dC : Nat → ClassId) (dI : Nat → Nat → Nat) (cy : Nat → ClassId) (h0 h1 h2 h3 h4 h5 h6 h7 h8 h9 h10 h11 h12 h13 h14 h15 h16 : Nat) (p0 : Int32) : Met l yX11_canLeaveOut wmX11_canLeaveOut ({ frames := 0, cells := 0, slots := 0, locals := 0 }) (va_Pc [.ref h0, .int p0] (fun U => va_P (dC, dI) classes [(h0, .inr (11, [.ref h1, .ref h2, .ref h3, .ref h4, .ref h5, .ref h6, .ref h7, .ref h8, .ref h9])), (h2, .inr (5, [.ref h10, .ref h11, .ref h12, .ref h13, .ref h14, .int 0, .int 0])), (h10, .inr (8, [.ref h15, .int 0, .int 0])), (h15, .inr (1, [.ref h16, .int 0]))] U.heap ∧ EV dC dI cy U)) (vp_Si (fun r_ => r_ = 0)) 0 0 (fun _ => False) := by
  refine Met.ofW (cc := cX11_canLeaveOut) (maxL := 2) (ret := (some .boolean)) (by decide +kernel) rfl ?_
  intro p e s m args below meth c s₁ B hml hv
  obtain ⟨rfl, hP, hE⟩ := hv
  have hK := hE.1
  have hN := hE.2.1
  have hx := B.exec
  have hb := B.bytes
  have hr := B.returns
  have hts0 := atoms_spec (ws := wmX11_canLeaveOut) B.pre
  have hts : ∀ w ∈ wsL_law, w.before _ s = true := fun w h => hts0 w (List.mem_cons_of_mem _ h)
  have hown : s.vm.findClass RX11 = some m.cls := findClass_of_methodNamed B.named
  have hlocks := B.notSynchronized
  have hl := lv_entry ([.ref h0, .int p0]) (n := 2) (Nat.le_of_ble_eq_true rfl)
  rw [lg_entry_eq]
  generalize (lg_sl ([.ref h0, .int p0]) ++ List.replicate (2 - (lg_sl ([.ref h0, .int p0])).length) Slot.unset).toArray = ls at hl ⊢
  have hl : lv_has ls 2 [(0, .ref h0), (1, .int p0)] := hl
  refine lv_iload_n hx hb dX11_canLeaveOut_0 rfl (lv_at hl 1 rfl) ?_
  refine lv_if_lt (tgt := 30) hx hb dX11_canLeaveOut_1 (by decide) (fun c_1 => ?_) (fun c_1 => ?_)
  · refine lv_iconst (v := 0) hx hb dX11_canLeaveOut_30 (by decide +kernel) ?_
    exact W.zret (v := 0) hx hb hr (by decide +kernel) (fun t ht hW => ⟨0, rfl, rfl, ht⟩) (fun _ h_ => (List.not_mem_nil h_).elim) dX11_canLeaveOut_31
  · refine lv_iload_n hx hb dX11_canLeaveOut_4 rfl (lv_at hl 1 rfl) ?_
    refine lv_iconst (v := 4) hx hb dX11_canLeaveOut_5 (by decide +kernel) ?_
    refine lv_icmp_gt (tgt := 30) hx hb dX11_canLeaveOut_6 (by decide) (fun c_2 => ?_) (fun c_2 => ?_)
    · refine lv_iconst (v := 0) hx hb dX11_canLeaveOut_30 (by decide +kernel) ?_
      exact W.zret (v := 0) hx hb hr (by decide +kernel) (fun t ht hW => ⟨0, rfl, rfl, ht⟩) (fun _ h_ => (List.not_mem_nil h_).elim) dX11_canLeaveOut_31
    · refine lv_iload_n hx hb dX11_canLeaveOut_9 rfl (lv_at hl 1 rfl) ?_
      refine lv_aload_n hx hb dX11_canLeaveOut_10 rfl (lv_at hl 0 rfl) ?_
      refine va_get (D := (dC, dI)) (ci := 11) (v := .ref h2) (C := RX11) (T := TX11) (N := 9) hx hb hts inlX11 hown hK hP 0 rfl rfl 1 (by decide) (hts _ m_19) (fun _ h9 => h9) rfl dX11_canLeaveOut_11 ?_
      refine va_getN (D := (dC, dI)) (ci := 5) (v := .ref h10) (C := RX5) (T := TX5) (N := 7) hx hb hts inlX5 hown hK hP 1 rfl rfl 0 (by decide) (va_Nw.use rfl (hN _ nw_38)) (fun _ h9 => h9) rfl dX11_canLeaveOut_14 ?_
      refine va_getN (D := (dC, dI)) (ci := 8) (v := .ref h15) (C := RX8) (T := TX8) (N := 3) hx hb hts inlX8 hown hK hP 2 rfl rfl 0 (by decide) (va_Nw.use rfl (hN _ nw_33)) (fun _ h9 => h9) rfl dX11_canLeaveOut_17 ?_
      refine va_getN (D := (dC, dI)) (ci := 1) (v := .int 0) (C := RX1) (T := TX1) (N := 2) hx hb hts inlX1 hown hK hP 3 rfl rfl 1 (by decide) (va_Nw.use rfl (hN _ nw_11)) (fun _ h9 => h9) rfl dX11_canLeaveOut_20 ?_
      refine lv_icmp_ge (tgt := 30) hx hb dX11_canLeaveOut_23 (by decide) (fun c_3 => ?_) (fun c_3 => (nn_10 c_1 c_2 c_3).elim)
      refine lv_iconst (v := 0) hx hb dX11_canLeaveOut_30 (by decide +kernel) ?_
      exact W.zret (v := 0) hx hb hr (by decide +kernel) (fun t ht hW => ⟨0, rfl, rfl, ht⟩) (fun _ h_ => (List.not_mem_nil h_).elim) dX11_canLeaveOut_31
set_option maxHeartbeats 4000000 in
set_option maxRecDepth 100000 in
theorem kX11_keep_1 (l : Launch) (dC : Nat → ClassId) (dI : Nat → Nat → Nat) (cy : Nat → ClassId) (h0 h1 h2 h3 h4 h5 h6 h7 h8 h9 h10 h11 h12 h13 h14 h15 h16 h17 : Nat) (p0 p1 : Int32) (sz : Nat) : Met l yX11_keep wmX11_keep ({ frames := 1, cells := 0, slots := 0, locals := 21 }) (va_Pc [.ref h0, .int p0, .int p1] (fun U => U.heap.size = sz ∧ va_P (dC, dI) classes [(h0, .inr (11, [.ref h1, .ref h2, .ref h3, .ref h4, .ref h5, .ref h6, .ref h7, .ref h8, .ref h9])), (h7, .inr (1, [.ref h10, .int 0])), (h2, .inr (5, [.ref h11, .ref h12, .ref h13, .ref h14, .ref h15, .int 0, .int 0])), (h11, .inr (8, [.ref h16, .int 0, .int 0])), (h16, .inr (1, [.ref h17, .int 0]))] U.heap ∧ EV dC dI cy U ∧ va_D (fun _ => True) [(h0, .inr (11, [.ref h1, .ref h2, .ref h3, .ref h4, .ref h5, .ref h6, .ref h7, .ref h8, .ref h9])), (h7, .inr (1, [.ref h10, .int 0])), (h2, .inr (5, [.ref h11, .ref h12, .ref h13, .ref h14, .ref h15, .int 0, .int 0])), (h11, .inr (8, [.ref h16, .int 0, .int 0])), (h16, .inr (1, [.ref h17, .int 0]))])) (va_Qi (S := Unit) (fun r_ _ => r_ = (-1000000)) (fun _ _ => True) (va_A [(h0, .inr (11, [.ref h1, .ref h2, .ref h3, .ref h4, .ref h5, .ref h6, .ref h7, .ref h8, .ref h9])), (h7, .inr (1, [.ref h10, .int 0])), (h2, .inr (5, [.ref h11, .ref h12, .ref h13, .ref h14, .ref h15, .int 0, .int 0])), (h11, .inr (8, [.ref h16, .int 0, .int 0])), (h16, .inr (1, [.ref h17, .int 0]))] sz)) 0 0 (va_A [(h0, .inr (11, [.ref h1, .ref h2, .ref h3, .ref h4, .ref h5, .ref h6, .ref h7, .ref h8, .ref h9])), (h7, .inr (1, [.ref h10, .int 0])), (h2, .inr (5, [.ref h11, .ref h12, .ref h13, .ref h14, .ref h15, .int 0, .int 0])), (h11, .inr (8, [.ref h16, .int 0, .int 0])), (h16, .inr (1, [.ref h17, .int 0]))] sz) := by
  refine Met.ofW (cc := cX11_keep) (maxL := 3) (ret := (some .int)) (by decide +kernel) rfl ?_
  intro p e s m args below meth c s₁ B hml hv
  obtain ⟨rfl, hsz, hP, hE, hD0⟩ := hv
  have hK := hE.1
  have hN := hE.2.1
  have hx := B.exec
  have hb := B.bytes
  have hr := B.returns
  have hts0 := atoms_spec (ws := wmX11_keep) B.pre
  have hts : ∀ w ∈ wsL_law, w.before _ s = true := fun w h => hts0 w (List.mem_cons_of_mem _ h)
  have hown : s.vm.findClass RX11 = some m.cls := findClass_of_methodNamed B.named
  have hlocks := B.notSynchronized
  subst hsz
  have hD := hD0.self (sz := s.heap.size)
  generalize hAe : va_A [(h0, .inr (11, [.ref h1, .ref h2, .ref h3, .ref h4, .ref h5, .ref h6, .ref h7, .ref h8, .ref h9])), (h7, .inr (1, [.ref h10, .int 0])), (h2, .inr (5, [.ref h11, .ref h12, .ref h13, .ref h14, .ref h15, .int 0, .int 0])), (h11, .inr (8, [.ref h16, .int 0, .int 0])), (h16, .inr (1, [.ref h17, .int 0]))] s.heap.size = A at hD ⊢
  have hA : ∀ q : Nat, s.heap.size ≤ q → A q := fun q h => by rw [← hAe]; exact Or.inr h
  have hS : va_S A s.heap s.heap [] := va_S.rf
  have hP : va_P (dC, dI) classes [(h0, .inr (11, [.ref h1, .ref h2, .ref h3, .ref h4, .ref h5, .ref h6, .ref h7, .ref h8, .ref h9])), (h7, .inr (1, [.ref h10, .int 0])), (h2, .inr (5, [.ref h11, .ref h12, .ref h13, .ref h14, .ref h15, .int 0, .int 0])), (h11, .inr (8, [.ref h16, .int 0, .int 0])), (h16, .inr (1, [.ref h17, .int 0]))] s.heap := hP
  have hl := lv_entry ([.ref h0, .int p0, .int p1]) (n := 3) (Nat.le_of_ble_eq_true rfl)
  rw [lg_entry_eq]
  generalize (lg_sl ([.ref h0, .int p0, .int p1]) ++ List.replicate (3 - (lg_sl ([.ref h0, .int p0, .int p1])).length) Slot.unset).toArray = ls at hl ⊢
  have hl : lv_has ls 3 [(0, .ref h0), (1, .int p0), (2, .int p1)] := hl
  refine lv_aload_n hx hb dX11_keep_0 rfl (lv_at hl 0 rfl) ?_
  refine va_get (D := (dC, dI)) (ci := 11) (v := .ref h7) (C := RX11) (T := TX11) (N := 9) hx hb hts inlX11 hown hK hP 0 rfl rfl 6 (by decide) (hts _ m_39) (fun _ h9 => h9) rfl dX11_keep_1 ?_
  have hPc := hP.sub (ws' := [(h7, .inr (1, [.ref h10, .int 0]))]) [1] rfl
  have hDc := hD.sub (ws' := [(h7, .inr (1, [.ref h10, .int 0]))]) [1] (by decide) rfl
  have hFc := va_free (wc := [(h7, .inr (1, [.ref h10, .int 0]))]) hD hS hA [1] rfl
  refine va_callv (va_runV (As := []) (rest := []) ⟨hx, hb, hml, hown, hts⟩ (kX1_clear_1 l dC dI cy h7 h10 s.heap.size) (cwV 0 hts (gdV m_563 m_326 m_327 m_38 m_328) rfl rfl rfl (by decide +kernel) ⟨Nat.le_of_ble_eq_true rfl, Nat.le_of_ble_eq_true rfl⟩) ⟨fun a U g mk q => by obtain ⟨q0, q1, qP, qE, qD⟩ := q; exact ⟨q0, q1, qP, qE.call, qD⟩, va_recv hK hP (ci := 1) (q0 := 1) rfl rfl, fun U hU hW => ⟨rfl, by rw [hU], by rw [hU]; exact hPc, hE.moved hW, hDc.weaken (fun _ _ _ _ => trivial)⟩⟩ rfl rfl hl.1 rfl (lv_room (Nat.le_of_ble_eq_true rfl)) dX11_keep_4 ⟨(show 0 + 0 ≤ 0 from by decide +kernel), (show 0 + 0 ≤ 0 from by decide +kernel)⟩) hS (fun q _ h => hFc q h) hFc (fun u t H1 locs ht hvm hw hB hz1 hk1 hS => ?_)
  obtain ⟨hP1, hD1⟩ := hB
  rw [ht] at hP1
  obtain ⟨hP, hD⟩ := va_join (wr := [(h0, .inr (11, [.ref h1, .ref h2, .ref h3, .ref h4, .ref h5, .ref h6, .ref h7, .ref h8, .ref h9])), (h2, .inr (5, [.ref h11, .ref h12, .ref h13, .ref h14, .ref h15, .int 0, .int 0])), (h11, .inr (8, [.ref h16, .int 0, .int 0])), (h16, .inr (1, [.ref h17, .int 0]))]) (w1 := [(h7, .inr (1, [.ref h10, .int 0]))]) hP hD [1] [0, 2, 3, 4] rfl rfl (by decide) (by decide) hk1 hFc hP1 hD1
  generalize H1 = H at hP hS ⊢
  have hP : va_P (dC, dI) classes [(h0, .inr (11, [.ref h1, .ref h2, .ref h3, .ref h4, .ref h5, .ref h6, .ref h7, .ref h8, .ref h9])), (h2, .inr (5, [.ref h11, .ref h12, .ref h13, .ref h14, .ref h15, .int 0, .int 0])), (h11, .inr (8, [.ref h16, .int 0, .int 0])), (h16, .inr (1, [.ref h17, .int 0])), (h7, .inr (1, [.ref h10, .int 0]))] H := hP
  have hD : va_D A [(h0, .inr (11, [.ref h1, .ref h2, .ref h3, .ref h4, .ref h5, .ref h6, .ref h7, .ref h8, .ref h9])), (h2, .inr (5, [.ref h11, .ref h12, .ref h13, .ref h14, .ref h15, .int 0, .int 0])), (h11, .inr (8, [.ref h16, .int 0, .int 0])), (h16, .inr (1, [.ref h17, .int 0])), (h7, .inr (1, [.ref h10, .int 0]))] := hD
  refine W.widen (k := 0) (n := 0) (by decide +kernel) (by decide +kernel) ?_
  refine lv_aload_n hx hb dX11_keep_7 rfl (lv_at hl 0 rfl) ?_
  refine lv_iload_n hx hb dX11_keep_8 rfl (lv_at hl 1 rfl) ?_
  have hPc := hP.sub (ws' := [(h0, .inr (11, [.ref h1, .ref h2, .ref h3, .ref h4, .ref h5, .ref h6, .ref h7, .ref h8, .ref h9])), (h2, .inr (5, [.ref h11, .ref h12, .ref h13, .ref h14, .ref h15, .int 0, .int 0])), (h11, .inr (8, [.ref h16, .int 0, .int 0])), (h16, .inr (1, [.ref h17, .int 0]))]) [0, 1, 2, 3] rfl
  refine vp_callSi (W.runV (As := [.int p0]) (rest := []) ⟨hx, hb, hml, hown, hts⟩ (kX11_canLeaveOut_1 l dC dI cy h0 h1 h2 h3 h4 h5 h6 h7 h8 h9 h11 h12 h13 h14 h15 h16 h17 p0) (cwV 1 hts (gdV m_1285 m_1286 m_1287 m_2 m_1288) rfl rfl rfl (by decide +kernel) ⟨Nat.le_of_ble_eq_true rfl, Nat.le_of_ble_eq_true rfl⟩) ⟨fun a U g mk q => by obtain ⟨q0, qP, qE⟩ := q; exact ⟨q0, qP, qE.call⟩, va_recv hK hP (ci := 11) (q0 := 0) rfl rfl, fun U hU hW => ⟨rfl, by rw [hU]; exact hPc, hE.moved hW⟩⟩ rfl rfl hl.1 rfl (lv_room (Nat.le_of_ble_eq_true rfl)) dX11_keep_9 ⟨(show 0 + 0 ≤ 0 from by decide +kernel), (show 0 + 0 ≤ 0 from by decide +kernel)⟩) (fun r_2 hw => ?_)
  subst r_2
  refine lv_if_eq (tgt := 22) hx hb dX11_keep_12 (by decide) (fun _ => ?_) (fun c_ => absurd (by decide +kernel) c_)
  refine lv_ldc (v := (-1000000)) hx hb hown (hts _ m_840) dX11_keep_22 ?_
  exact W.iret (v := (-1000000)) hx hb hr (fun t ht hW => ⟨⟨(-1000000), (), rfl, rfl, trivial⟩, hS.F ht⟩) hS.2.2 dX11_keep_24
set_option maxHeartbeats 4000000 in
set_option maxRecDepth 100000 in
theorem kX12_isIn_4 (l : Launch) (dC : Nat → ClassId) (dI : Nat → Nat → Nat) (cy : Nat → ClassId) (p0 : Int32) : Met l yX12_isIn wmX12_isIn ({ frames := 0, cells := 0, slots := 0, locals := 0 }) (va_Pc [.int p0, .int 0, .int 4] (fun U => va_P (dC, dI) classes [] U.heap ∧ EV dC dI cy U)) (vp_Si (fun r_ => (r_ = 0 ∧ p0 < 0) ∨ (r_ = 0 ∧ ¬ p0 < 0 ∧ 4 < p0) ∨ (r_ = 1 ∧ ¬ p0 < 0 ∧ ¬ 4 < p0))) 0 0 (fun _ => False) := by
  refine Met.ofW (cc := cX12_isIn) (maxL := 3) (ret := (some .boolean)) (by decide +kernel) rfl ?_
  intro p e s m args below meth c s₁ B hml hv
  obtain ⟨rfl, hP, hE⟩ := hv
  have hK := hE.1
  have hN := hE.2.1
  have hx := B.exec
  have hb := B.bytes
  have hr := B.returns
  have hts0 := atoms_spec (ws := wmX12_isIn) B.pre
  have hts : ∀ w ∈ wsL_law, w.before _ s = true := fun w h => hts0 w (List.mem_cons_of_mem _ h)
  have hown : s.vm.findClass RX12 = some m.cls := findClass_of_methodNamed B.named
  have hlocks := B.notSynchronized
  have hl := lv_entry ([.int p0, .int 0, .int 4]) (n := 3) (Nat.le_of_ble_eq_true rfl)
  rw [lg_entry_eq]
  generalize (lg_sl ([.int p0, .int 0, .int 4]) ++ List.replicate (3 - (lg_sl ([.int p0, .int 0, .int 4])).length) Slot.unset).toArray = ls at hl ⊢
  have hl : lv_has ls 3 [(0, .int p0), (1, .int 0), (2, .int 4)] := hl
  refine lv_iload_n hx hb dX12_isIn_0 rfl (lv_at hl 0 rfl) ?_
  refine lv_iload_n hx hb dX12_isIn_1 rfl (lv_at hl 1 rfl) ?_
  refine lv_icmp_lt (tgt := 14) hx hb dX12_isIn_2 (by decide) (fun c_1 => ?_) (fun c_1 => ?_)
  · refine lv_iconst (v := 0) hx hb dX12_isIn_14 (by decide +kernel) ?_
    exact W.zret (v := 0) hx hb hr (by decide +kernel) (fun t ht hW => ⟨0, rfl, Or.inl ⟨rfl, c_1⟩, ht⟩) (fun _ h_ => (List.not_mem_nil h_).elim) dX12_isIn_15
  · refine lv_iload_n hx hb dX12_isIn_5 rfl (lv_at hl 0 rfl) ?_
    refine lv_iload_n hx hb dX12_isIn_6 rfl (lv_at hl 2 rfl) ?_
    refine lv_icmp_gt (tgt := 14) hx hb dX12_isIn_7 (by decide) (fun c_2 => ?_) (fun c_2 => ?_)
    · refine lv_iconst (v := 0) hx hb dX12_isIn_14 (by decide +kernel) ?_
      exact W.zret (v := 0) hx hb hr (by decide +kernel) (fun t ht hW => ⟨0, rfl, Or.inr (Or.inl ⟨rfl, c_1, c_2⟩), ht⟩) (fun _ h_ => (List.not_mem_nil h_).elim) dX12_isIn_15
    · refine lv_iconst (v := 1) hx hb dX12_isIn_10 (by decide +kernel) ?_
      refine lv_goto (tgt := 15) hx hb dX12_isIn_11 (by decide) ?_
      exact W.zret (v := 1) hx hb hr (by decide +kernel) (fun t ht hW => ⟨1, rfl, Or.inr (Or.inr (⟨rfl, c_1, c_2⟩)), ht⟩) (fun _ h_ => (List.not_mem_nil h_).elim) dX12_isIn_15
set_option maxHeartbeats 4000000 in
set_option maxRecDepth 100000 in
theorem kX12_canLeave_1 (l : Launch) (dC : Nat → ClassId) (dI : Nat → Nat → Nat) (cy : Nat → ClassId) (h0 : Nat) (r : Nat → Nat) (p0 : Int32) : Met l yX12_canLeave wmX12_canLeave ({ frames := 1, cells := 0, slots := 0, locals := 22 }) (va_Pc [.ref h0, .int p0] (fun U => va_P (dC, dI) classes [(h0, .inr (12, [.ref (r 0), .ref (r 1), .int 0, .int 0, .int 0, .int (-1), .int 0, .int 0, .int 0, .int 0, .long 0, .ref (r 11), .ref (r 12), .ref (r 13), .ref (r 14), .ref (r 15), .ref (r 16), .ref (r 17), .ref (r 18), .ref (r 19), .ref (r 20), .ref (r 21), .ref (r 22), .ref (r 23), .ref (r 24), .ref (r 25), .ref (r 26), .ref (r 27), .ref (r 28), .ref (r 29), .ref (r 30), .ref (r 31), .ref (r 32), .ref (r 33), .int 0, .int 0, .int 0, .int 0, .int 0, .int 0, .int 0, .ref (r 41), .ref (r 42), .ref (r 43), .ref (r 44), .int 0, .int 0, .int 0, .ref (r 48), .int 0, .int 0, .ref (r 51), .ref (r 52), .ref (r 53), .ref (r 54), .int 0, .ref (r 56), .ref (r 57), .ref (r 58), .int 0, .ref (r 60), .ref (r 61), .ref (r 62), .ref (r 63), .ref (r 64), .ref (r 65), .ref (r 66), .ref (r 67), .ref (r 68), .int 0, .int 0, .int 0, .ref (r 72), .ref (r 73)])), (r 41, .inl (cy 0, 15, .inl (fun _ => 0)))] U.heap ∧ EV dC dI cy U)) (vp_Si (fun r_ => r_ = 0)) 0 0 (fun _ => False) := by
  refine Met.ofW (cc := cX12_canLeave) (maxL := 2) (ret := (some .boolean)) (by decide +kernel) rfl ?_
  intro p e s m args below meth c s₁ B hml hv
  obtain ⟨rfl, hP, hE⟩ := hv
  have hK := hE.1
  have hN := hE.2.1
  have hx := B.exec
  have hb := B.bytes
  have hr := B.returns
  have hts0 := atoms_spec (ws := wmX12_canLeave) B.pre
  have hts : ∀ w ∈ wsL_law, w.before _ s = true := fun w h => hts0 w (List.mem_cons_of_mem _ h)
  have hown : s.vm.findClass RX12 = some m.cls := findClass_of_methodNamed B.named
  have hlocks := B.notSynchronized
  have hl := lv_entry ([.ref h0, .int p0]) (n := 2) (Nat.le_of_ble_eq_true rfl)
  rw [lg_entry_eq]
  generalize (lg_sl ([.ref h0, .int p0]) ++ List.replicate (2 - (lg_sl ([.ref h0, .int p0])).length) Slot.unset).toArray = ls at hl ⊢
  have hl : lv_has ls 2 [(0, .ref h0), (1, .int p0)] := hl
  refine lv_iload_n hx hb dX12_canLeave_0 rfl (lv_at hl 1 rfl) ?_
  refine lv_iconst (v := 0) hx hb dX12_canLeave_1 (by decide +kernel) ?_
  refine lv_iconst (v := 4) hx hb dX12_canLeave_2 (by decide +kernel) ?_
  have hPc := hP.sub (ws' := []) [] rfl
  refine vp_callSi (W.runS (As := [.int p0, .int 0, .int 4]) (rest := []) ⟨hx, hb, hml, hown, hts⟩ (kX12_isIn_4 l dC dI cy p0) (va_cwS 3 hts (gdS m_775 m_776 m_5 m_777) rfl rfl rfl (by decide +kernel) ⟨Nat.le_of_ble_eq_true rfl, Nat.le_of_ble_eq_true rfl⟩) ⟨fun a U g mk q => by obtain ⟨q0, qP, qE⟩ := q; exact ⟨q0, qP, qE.call⟩, fun U hU hW => ⟨rfl, by rw [hU]; exact hPc, hE.moved hW⟩⟩ rfl rfl hl.1 rfl (lv_room (Nat.le_of_ble_eq_true rfl)) dX12_canLeave_3 ⟨(show 0 + 0 ≤ 0 from by decide +kernel), (show 0 + 0 ≤ 0 from by decide +kernel)⟩) (fun r_1 hw => ?_)
  rcases hw with ⟨hr1, c_2⟩ | ⟨hr1, c_3, c_4⟩ | ⟨hr1, c_5, c_6⟩
  · subst r_1
    refine lv_if_eq (tgt := 24) hx hb dX12_canLeave_6 (by decide) (fun _ => ?_) (fun c_ => absurd (by decide +kernel) c_)
    refine lv_iconst (v := 0) hx hb dX12_canLeave_24 (by decide +kernel) ?_
    exact W.zret (v := 0) hx hb hr (by decide +kernel) (fun t ht hW => ⟨0, rfl, rfl, ht⟩) (fun _ h_ => (List.not_mem_nil h_).elim) dX12_canLeave_25
  · subst r_1
    refine lv_if_eq (tgt := 24) hx hb dX12_canLeave_6 (by decide) (fun _ => ?_) (fun c_ => absurd (by decide +kernel) c_)
    refine lv_iconst (v := 0) hx hb dX12_canLeave_24 (by decide +kernel) ?_
    exact W.zret (v := 0) hx hb hr (by decide +kernel) (fun t ht hW => ⟨0, rfl, rfl, ht⟩) (fun _ h_ => (List.not_mem_nil h_).elim) dX12_canLeave_25
  · subst r_1
    refine lv_if_eq (tgt := 24) hx hb dX12_canLeave_6 (by decide) (fun c_ => absurd c_ (by decide +kernel)) (fun _ => ?_)
    refine lv_iload_n hx hb dX12_canLeave_9 rfl (lv_at hl 1 rfl) ?_
    refine lv_aload_n hx hb dX12_canLeave_10 rfl (lv_at hl 0 rfl) ?_
    refine va_get (D := (dC, dI)) (ci := 12) (v := .ref (r 41)) (C := RX12) (T := TX12) (N := 74) hx hb hts inlX12 hown hK hP 0 rfl rfl 41 (by decide) (hts _ m_244) (fun _ h9 => h9) rfl dX12_canLeave_11 ?_
    refine lv_bipush (v := 12) hx hb dX12_canLeave_14 (by decide +kernel) ?_
    refine va_iald hx hb hK hP 1 0 rfl rfl vi_12_15 dX12_canLeave_16 ?_
    refine W.eq (g2 := F0 m 17 ls [.int 0, .int p0]) rfl ?_
    refine lv_icmp_ge (tgt := 24) hx hb dX12_canLeave_17 (by decide) (fun c_7 => ?_) (fun c_7 => (nn_10 c_5 c_6 c_7).elim)
    refine lv_iconst (v := 0) hx hb dX12_canLeave_24 (by decide +kernel) ?_
    exact W.zret (v := 0) hx hb hr (by decide +kernel) (fun t ht hW => ⟨0, rfl, rfl, ht⟩) (fun _ h_ => (List.not_mem_nil h_).elim) dX12_canLeave_25
set_option maxHeartbeats 4000000 in
set_option maxRecDepth 100000 in
theorem kX12_keep_1 (l : Launch) (dC : Nat → ClassId) (dI : Nat → Nat → Nat) (cy : Nat → ClassId) (h0 : Nat) (r : Nat → Nat) (p0 p1 : Int32) (sz : Nat) : Met l yX12_keep wmX12_keep ({ frames := 2, cells := 0, slots := 0, locals := 43 }) (va_Pc [.ref h0, .int p0, .int p1] (fun U => U.heap.size = sz ∧ va_P (dC, dI) classes [(h0, .inr (12, [.ref (r 0), .ref (r 1), .int 0, .int 0, .int 0, .int (-1), .int 0, .int 0, .int 0, .int 0, .long 0, .ref (r 11), .ref (r 12), .ref (r 13), .ref (r 14), .ref (r 15), .ref (r 16), .ref (r 17), .ref (r 18), .ref (r 19), .ref (r 20), .ref (r 21), .ref (r 22), .ref (r 23), .ref (r 24), .ref (r 25), .ref (r 26), .ref (r 27), .ref (r 28), .ref (r 29), .ref (r 30), .ref (r 31), .ref (r 32), .ref (r 33), .int 0, .int 0, .int 0, .int 0, .int 0, .int 0, .int 0, .ref (r 41), .ref (r 42), .ref (r 43), .ref (r 44), .int 0, .int 0, .int 0, .ref (r 48), .int 0, .int 0, .ref (r 51), .ref (r 52), .ref (r 53), .ref (r 54), .int 0, .ref (r 56), .ref (r 57), .ref (r 58), .int 0, .ref (r 60), .ref (r 61), .ref (r 62), .ref (r 63), .ref (r 64), .ref (r 65), .ref (r 66), .ref (r 67), .ref (r 68), .int 0, .int 0, .int 0, .ref (r 72), .ref (r 73)])), (r 41, .inl (cy 0, 15, .inl (fun _ => 0)))] U.heap ∧ EV dC dI cy U ∧ va_D (fun _ => True) [(h0, .inr (12, [.ref (r 0), .ref (r 1), .int 0, .int 0, .int 0, .int (-1), .int 0, .int 0, .int 0, .int 0, .long 0, .ref (r 11), .ref (r 12), .ref (r 13), .ref (r 14), .ref (r 15), .ref (r 16), .ref (r 17), .ref (r 18), .ref (r 19), .ref (r 20), .ref (r 21), .ref (r 22), .ref (r 23), .ref (r 24), .ref (r 25), .ref (r 26), .ref (r 27), .ref (r 28), .ref (r 29), .ref (r 30), .ref (r 31), .ref (r 32), .ref (r 33), .int 0, .int 0, .int 0, .int 0, .int 0, .int 0, .int 0, .ref (r 41), .ref (r 42), .ref (r 43), .ref (r 44), .int 0, .int 0, .int 0, .ref (r 48), .int 0, .int 0, .ref (r 51), .ref (r 52), .ref (r 53), .ref (r 54), .int 0, .ref (r 56), .ref (r 57), .ref (r 58), .int 0, .ref (r 60), .ref (r 61), .ref (r 62), .ref (r 63), .ref (r 64), .ref (r 65), .ref (r 66), .ref (r 67), .ref (r 68), .int 0, .int 0, .int 0, .ref (r 72), .ref (r 73)])), (r 41, .inl (cy 0, 15, .inl (fun _ => 0)))])) (va_Qi (S := Unit) (fun r_ _ => r_ = (-1000000)) (fun _ _ => True) (va_A [(h0, .inr (12, [.ref (r 0), .ref (r 1), .int 0, .int 0, .int 0, .int (-1), .int 0, .int 0, .int 0, .int 0, .long 0, .ref (r 11), .ref (r 12), .ref (r 13), .ref (r 14), .ref (r 15), .ref (r 16), .ref (r 17), .ref (r 18), .ref (r 19), .ref (r 20), .ref (r 21), .ref (r 22), .ref (r 23), .ref (r 24), .ref (r 25), .ref (r 26), .ref (r 27), .ref (r 28), .ref (r 29), .ref (r 30), .ref (r 31), .ref (r 32), .ref (r 33), .int 0, .int 0, .int 0, .int 0, .int 0, .int 0, .int 0, .ref (r 41), .ref (r 42), .ref (r 43), .ref (r 44), .int 0, .int 0, .int 0, .ref (r 48), .int 0, .int 0, .ref (r 51), .ref (r 52), .ref (r 53), .ref (r 54), .int 0, .ref (r 56), .ref (r 57), .ref (r 58), .int 0, .ref (r 60), .ref (r 61), .ref (r 62), .ref (r 63), .ref (r 64), .ref (r 65), .ref (r 66), .ref (r 67), .ref (r 68), .int 0, .int 0, .int 0, .ref (r 72), .ref (r 73)])), (r 41, .inl (cy 0, 15, .inl (fun _ => 0)))] sz)) 0 0 (va_A [(h0, .inr (12, [.ref (r 0), .ref (r 1), .int 0, .int 0, .int 0, .int (-1), .int 0, .int 0, .int 0, .int 0, .long 0, .ref (r 11), .ref (r 12), .ref (r 13), .ref (r 14), .ref (r 15), .ref (r 16), .ref (r 17), .ref (r 18), .ref (r 19), .ref (r 20), .ref (r 21), .ref (r 22), .ref (r 23), .ref (r 24), .ref (r 25), .ref (r 26), .ref (r 27), .ref (r 28), .ref (r 29), .ref (r 30), .ref (r 31), .ref (r 32), .ref (r 33), .int 0, .int 0, .int 0, .int 0, .int 0, .int 0, .int 0, .ref (r 41), .ref (r 42), .ref (r 43), .ref (r 44), .int 0, .int 0, .int 0, .ref (r 48), .int 0, .int 0, .ref (r 51), .ref (r 52), .ref (r 53), .ref (r 54), .int 0, .ref (r 56), .ref (r 57), .ref (r 58), .int 0, .ref (r 60), .ref (r 61), .ref (r 62), .ref (r 63), .ref (r 64), .ref (r 65), .ref (r 66), .ref (r 67), .ref (r 68), .int 0, .int 0, .int 0, .ref (r 72), .ref (r 73)])), (r 41, .inl (cy 0, 15, .inl (fun _ => 0)))] sz) := by
  refine Met.ofW (cc := cX12_keep) (maxL := 7) (ret := (some .int)) (by decide +kernel) rfl ?_
  intro p e s m args below meth c s₁ B hml hv
  obtain ⟨rfl, hsz, hP, hE, hD0⟩ := hv
  have hK := hE.1
  have hN := hE.2.1
  have hx := B.exec
  have hb := B.bytes
  have hr := B.returns
  have hts0 := atoms_spec (ws := wmX12_keep) B.pre
  have hts : ∀ w ∈ wsL_law, w.before _ s = true := fun w h => hts0 w (List.mem_cons_of_mem _ h)
  have hown : s.vm.findClass RX12 = some m.cls := findClass_of_methodNamed B.named
  have hlocks := B.notSynchronized
  subst hsz
  have hD := hD0.self (sz := s.heap.size)
  generalize hAe : va_A [(h0, .inr (12, [.ref (r 0), .ref (r 1), .int 0, .int 0, .int 0, .int (-1), .int 0, .int 0, .int 0, .int 0, .long 0, .ref (r 11), .ref (r 12), .ref (r 13), .ref (r 14), .ref (r 15), .ref (r 16), .ref (r 17), .ref (r 18), .ref (r 19), .ref (r 20), .ref (r 21), .ref (r 22), .ref (r 23), .ref (r 24), .ref (r 25), .ref (r 26), .ref (r 27), .ref (r 28), .ref (r 29), .ref (r 30), .ref (r 31), .ref (r 32), .ref (r 33), .int 0, .int 0, .int 0, .int 0, .int 0, .int 0, .int 0, .ref (r 41), .ref (r 42), .ref (r 43), .ref (r 44), .int 0, .int 0, .int 0, .ref (r 48), .int 0, .int 0, .ref (r 51), .ref (r 52), .ref (r 53), .ref (r 54), .int 0, .ref (r 56), .ref (r 57), .ref (r 58), .int 0, .ref (r 60), .ref (r 61), .ref (r 62), .ref (r 63), .ref (r 64), .ref (r 65), .ref (r 66), .ref (r 67), .ref (r 68), .int 0, .int 0, .int 0, .ref (r 72), .ref (r 73)])), (r 41, .inl (cy 0, 15, .inl (fun _ => 0)))] s.heap.size = A at hD ⊢
  have hA : ∀ q : Nat, s.heap.size ≤ q → A q := fun q h => by rw [← hAe]; exact Or.inr h
  have hS : va_S A s.heap s.heap [] := va_S.rf
  have hP : va_P (dC, dI) classes [(h0, .inr (12, [.ref (r 0), .ref (r 1), .int 0, .int 0, .int 0, .int (-1), .int 0, .int 0, .int 0, .int 0, .long 0, .ref (r 11), .ref (r 12), .ref (r 13), .ref (r 14), .ref (r 15), .ref (r 16), .ref (r 17), .ref (r 18), .ref (r 19), .ref (r 20), .ref (r 21), .ref (r 22), .ref (r 23), .ref (r 24), .ref (r 25), .ref (r 26), .ref (r 27), .ref (r 28), .ref (r 29), .ref (r 30), .ref (r 31), .ref (r 32), .ref (r 33), .int 0, .int 0, .int 0, .int 0, .int 0, .int 0, .int 0, .ref (r 41), .ref (r 42), .ref (r 43), .ref (r 44), .int 0, .int 0, .int 0, .ref (r 48), .int 0, .int 0, .ref (r 51), .ref (r 52), .ref (r 53), .ref (r 54), .int 0, .ref (r 56), .ref (r 57), .ref (r 58), .int 0, .ref (r 60), .ref (r 61), .ref (r 62), .ref (r 63), .ref (r 64), .ref (r 65), .ref (r 66), .ref (r 67), .ref (r 68), .int 0, .int 0, .int 0, .ref (r 72), .ref (r 73)])), (r 41, .inl (cy 0, 15, .inl (fun _ => 0)))] s.heap := hP
  have hl := lv_entry ([.ref h0, .int p0, .int p1]) (n := 7) (Nat.le_of_ble_eq_true rfl)
  rw [lg_entry_eq]
  generalize (lg_sl ([.ref h0, .int p0, .int p1]) ++ List.replicate (7 - (lg_sl ([.ref h0, .int p0, .int p1])).length) Slot.unset).toArray = ls at hl ⊢
  have hl : lv_has ls 7 [(0, .ref h0), (1, .int p0), (2, .int p1)] := hl
  refine lv_aload_n hx hb dX12_keep_0 rfl (lv_at hl 0 rfl) ?_
  refine lv_iconst (v := 0) hx hb dX12_keep_1 (by decide +kernel) ?_
  refine va_put (D := (dC, dI)) (ci := 12) (v := .int 0) (ty := .int) (C := RX12) (T := TX12) (N := 74) hx hb hts inlX12 tyX12 tyX12_ok nmX12 hown hK hP hD hS 0 rfl rfl 55 (by decide) (hts _ m_281) (fun _ h9 => h9) rfl (by decide +kernel) rfl rfl (Nat.le_of_ble_eq_true rfl) dX12_keep_2 (fun H locs hP hD hS => ?_)
  have hP : va_P (dC, dI) classes [(h0, .inr (12, [.ref (r 0), .ref (r 1), .int 0, .int 0, .int 0, .int (-1), .int 0, .int 0, .int 0, .int 0, .long 0, .ref (r 11), .ref (r 12), .ref (r 13), .ref (r 14), .ref (r 15), .ref (r 16), .ref (r 17), .ref (r 18), .ref (r 19), .ref (r 20), .ref (r 21), .ref (r 22), .ref (r 23), .ref (r 24), .ref (r 25), .ref (r 26), .ref (r 27), .ref (r 28), .ref (r 29), .ref (r 30), .ref (r 31), .ref (r 32), .ref (r 33), .int 0, .int 0, .int 0, .int 0, .int 0, .int 0, .int 0, .ref (r 41), .ref (r 42), .ref (r 43), .ref (r 44), .int 0, .int 0, .int 0, .ref (r 48), .int 0, .int 0, .ref (r 51), .ref (r 52), .ref (r 53), .ref (r 54), .int 0, .ref (r 56), .ref (r 57), .ref (r 58), .int 0, .ref (r 60), .ref (r 61), .ref (r 62), .ref (r 63), .ref (r 64), .ref (r 65), .ref (r 66), .ref (r 67), .ref (r 68), .int 0, .int 0, .int 0, .ref (r 72), .ref (r 73)])), (r 41, .inl (cy 0, 15, .inl (fun _ => 0)))] H := hP
  have hD : va_D A [(h0, .inr (12, [.ref (r 0), .ref (r 1), .int 0, .int 0, .int 0, .int (-1), .int 0, .int 0, .int 0, .int 0, .long 0, .ref (r 11), .ref (r 12), .ref (r 13), .ref (r 14), .ref (r 15), .ref (r 16), .ref (r 17), .ref (r 18), .ref (r 19), .ref (r 20), .ref (r 21), .ref (r 22), .ref (r 23), .ref (r 24), .ref (r 25), .ref (r 26), .ref (r 27), .ref (r 28), .ref (r 29), .ref (r 30), .ref (r 31), .ref (r 32), .ref (r 33), .int 0, .int 0, .int 0, .int 0, .int 0, .int 0, .int 0, .ref (r 41), .ref (r 42), .ref (r 43), .ref (r 44), .int 0, .int 0, .int 0, .ref (r 48), .int 0, .int 0, .ref (r 51), .ref (r 52), .ref (r 53), .ref (r 54), .int 0, .ref (r 56), .ref (r 57), .ref (r 58), .int 0, .ref (r 60), .ref (r 61), .ref (r 62), .ref (r 63), .ref (r 64), .ref (r 65), .ref (r 66), .ref (r 67), .ref (r 68), .int 0, .int 0, .int 0, .ref (r 72), .ref (r 73)])), (r 41, .inl (cy 0, 15, .inl (fun _ => 0)))] := hD
  refine lv_aload_n hx hb dX12_keep_5 rfl (lv_at hl 0 rfl) ?_
  refine lv_iload_n hx hb dX12_keep_6 rfl (lv_at hl 1 rfl) ?_
  have hPc := hP.sub (ws' := [(h0, .inr (12, [.ref (r 0), .ref (r 1), .int 0, .int 0, .int 0, .int (-1), .int 0, .int 0, .int 0, .int 0, .long 0, .ref (r 11), .ref (r 12), .ref (r 13), .ref (r 14), .ref (r 15), .ref (r 16), .ref (r 17), .ref (r 18), .ref (r 19), .ref (r 20), .ref (r 21), .ref (r 22), .ref (r 23), .ref (r 24), .ref (r 25), .ref (r 26), .ref (r 27), .ref (r 28), .ref (r 29), .ref (r 30), .ref (r 31), .ref (r 32), .ref (r 33), .int 0, .int 0, .int 0, .int 0, .int 0, .int 0, .int 0, .ref (r 41), .ref (r 42), .ref (r 43), .ref (r 44), .int 0, .int 0, .int 0, .ref (r 48), .int 0, .int 0, .ref (r 51), .ref (r 52), .ref (r 53), .ref (r 54), .int 0, .ref (r 56), .ref (r 57), .ref (r 58), .int 0, .ref (r 60), .ref (r 61), .ref (r 62), .ref (r 63), .ref (r 64), .ref (r 65), .ref (r 66), .ref (r 67), .ref (r 68), .int 0, .int 0, .int 0, .ref (r 72), .ref (r 73)])), (r 41, .inl (cy 0, 15, .inl (fun _ => 0)))]) [0, 1] rfl
  refine vp_callSi (W.runV (As := [.int p0]) (rest := []) ⟨hx, hb, hml, hown, hts⟩ (kX12_canLeave_1 l dC dI cy h0 r p0) (cwV 1 hts (gdV m_1322 m_1323 m_1324 m_5 m_1325) rfl rfl rfl (by decide +kernel) ⟨Nat.le_of_ble_eq_true rfl, Nat.le_of_ble_eq_true rfl⟩) ⟨fun a U g mk q => by obtain ⟨q0, qP, qE⟩ := q; exact ⟨q0, qP, qE.call⟩, va_recv hK hP (ci := 12) (q0 := 0) rfl rfl, fun U hU hW => ⟨rfl, by rw [hU]; exact hPc, hE.moved hW⟩⟩ rfl rfl hl.1 rfl (lv_room (Nat.le_of_ble_eq_true rfl)) dX12_keep_7 ⟨(show 0 + 0 ≤ 0 from by decide +kernel), (show 0 + 0 ≤ 0 from by decide +kernel)⟩) (fun r_1 hw => ?_)
  subst r_1
  refine lv_if_eq (tgt := 22) hx hb dX12_keep_10 (by decide) (fun _ => ?_) (fun c_ => absurd (by decide +kernel) c_)
  refine lv_ldcw (v := (-1000000)) hx hb hown (hts _ m_849) dX12_keep_22 ?_
  exact W.iret (v := (-1000000)) hx hb hr (fun t ht hW => ⟨⟨(-1000000), (), rfl, rfl, trivial⟩, hS.F ht⟩) hS.2.2 dX12_keep_25
set_option maxHeartbeats 4000000 in
set_option maxRecDepth 100000 in
theorem kX11_mean_1 (l : Launch) (dC : Nat → ClassId) (dI : Nat → Nat → Nat) (cy : Nat → ClassId) (h0 h1 h2 h3 h4 h5 h6 h7 h8 h9 h10 h11 h12 h13 h14 h15 h16 : Nat) (p0 p1 : Int32) : Met l yX11_mean wmX11_mean ({ frames := 1, cells := 0, slots := 0, locals := 21 }) (va_Pc [.ref h0, .int p0, .int p1] (fun U => va_P (dC, dI) classes [(h0, .inr (11, [.ref h1, .ref h2, .ref h3, .ref h4, .ref h5, .ref h6, .ref h7, .ref h8, .ref h9])), (h2, .inr (5, [.ref h10, .ref h11, .ref h12, .ref h13, .ref h14, .int 0, .int 0])), (h10, .inr (8, [.ref h15, .int 0, .int 0])), (h15, .inr (1, [.ref h16, .int 0]))] U.heap ∧ EV dC dI cy U)) (vp_Si (fun r_ => r_ = (-1000000))) 0 0 (fun _ => False) := by
  refine Met.ofW (cc := cX11_mean) (maxL := 4) (ret := (some .int)) (by decide +kernel) rfl ?_
  intro p e s m args below meth c s₁ B hml hv
  obtain ⟨rfl, hP, hE⟩ := hv
  have hK := hE.1
  have hN := hE.2.1
  have hx := B.exec
  have hb := B.bytes
  have hr := B.returns
  have hts0 := atoms_spec (ws := wmX11_mean) B.pre
  have hts : ∀ w ∈ wsL_law, w.before _ s = true := fun w h => hts0 w (List.mem_cons_of_mem _ h)
  have hown : s.vm.findClass RX11 = some m.cls := findClass_of_methodNamed B.named
  have hlocks := B.notSynchronized
  have hl := lv_entry ([.ref h0, .int p0, .int p1]) (n := 4) (Nat.le_of_ble_eq_true rfl)
  rw [lg_entry_eq]
  generalize (lg_sl ([.ref h0, .int p0, .int p1]) ++ List.replicate (4 - (lg_sl ([.ref h0, .int p0, .int p1])).length) Slot.unset).toArray = ls at hl ⊢
  have hl : lv_has ls 4 [(0, .ref h0), (1, .int p0), (2, .int p1)] := hl
  refine lv_aload_n hx hb dX11_mean_0 rfl (lv_at hl 0 rfl) ?_
  refine lv_iload_n hx hb dX11_mean_1 rfl (lv_at hl 1 rfl) ?_
  have hPc := hP.sub (ws' := [(h0, .inr (11, [.ref h1, .ref h2, .ref h3, .ref h4, .ref h5, .ref h6, .ref h7, .ref h8, .ref h9])), (h2, .inr (5, [.ref h10, .ref h11, .ref h12, .ref h13, .ref h14, .int 0, .int 0])), (h10, .inr (8, [.ref h15, .int 0, .int 0])), (h15, .inr (1, [.ref h16, .int 0]))]) [0, 1, 2, 3] rfl
  refine vp_callSi (W.runV (As := [.int p0]) (rest := []) ⟨hx, hb, hml, hown, hts⟩ (kX11_canLeaveOut_1 l dC dI cy h0 h1 h2 h3 h4 h5 h6 h7 h8 h9 h10 h11 h12 h13 h14 h15 h16 p0) (cwV 1 hts (gdV m_1285 m_1286 m_1287 m_2 m_1288) rfl rfl rfl (by decide +kernel) ⟨Nat.le_of_ble_eq_true rfl, Nat.le_of_ble_eq_true rfl⟩) ⟨fun a U g mk q => by obtain ⟨q0, qP, qE⟩ := q; exact ⟨q0, qP, qE.call⟩, va_recv hK hP (ci := 11) (q0 := 0) rfl rfl, fun U hU hW => ⟨rfl, by rw [hU]; exact hPc, hE.moved hW⟩⟩ rfl rfl hl.1 rfl (lv_room (Nat.le_of_ble_eq_true rfl)) dX11_mean_2 ⟨(show 0 + 0 ≤ 0 from by decide +kernel), (show 0 + 0 ≤ 0 from by decide +kernel)⟩) (fun r_1 hw => ?_)
  subst r_1
  refine lv_if_eq (tgt := 15) hx hb dX11_mean_5 (by decide) (fun _ => ?_) (fun c_ => absurd (by decide +kernel) c_)
  refine lv_ldc (v := (-1000000)) hx hb hown (hts _ m_840) dX11_mean_15 ?_
  exact W.iret (v := (-1000000)) hx hb hr (fun t ht hW => ⟨(-1000000), rfl, rfl, ht⟩) (fun _ h_ => (List.not_mem_nil h_).elim) dX11_mean_17
set_option maxHeartbeats 4000000 in
set_option maxRecDepth 100000 in
theorem kX12_mean_1 (l : Launch) (dC : Nat → ClassId) (dI : Nat → Nat → Nat) (cy : Nat → ClassId) (h0 : Nat) (r : Nat → Nat) (p0 p1 : Int32) : Met l yX12_mean wmX12_mean ({ frames := 2, cells := 0, slots := 0, locals := 43 }) (va_Pc [.ref h0, .int p0, .int p1] (fun U => va_P (dC, dI) classes [(h0, .inr (12, [.ref (r 0), .ref (r 1), .int 0, .int 0, .int 0, .int (-1), .int 0, .int 0, .int 0, .int 0, .long 0, .ref (r 11), .ref (r 12), .ref (r 13), .ref (r 14), .ref (r 15), .ref (r 16), .ref (r 17), .ref (r 18), .ref (r 19), .ref (r 20), .ref (r 21), .ref (r 22), .ref (r 23), .ref (r 24), .ref (r 25), .ref (r 26), .ref (r 27), .ref (r 28), .ref (r 29), .ref (r 30), .ref (r 31), .ref (r 32), .ref (r 33), .int 0, .int 0, .int 0, .int 0, .int 0, .int 0, .int 0, .ref (r 41), .ref (r 42), .ref (r 43), .ref (r 44), .int 0, .int 0, .int 0, .ref (r 48), .int 0, .int 0, .ref (r 51), .ref (r 52), .ref (r 53), .ref (r 54), .int 0, .ref (r 56), .ref (r 57), .ref (r 58), .int 0, .ref (r 60), .ref (r 61), .ref (r 62), .ref (r 63), .ref (r 64), .ref (r 65), .ref (r 66), .ref (r 67), .ref (r 68), .int 0, .int 0, .int 0, .ref (r 72), .ref (r 73)])), (r 41, .inl (cy 0, 15, .inl (fun _ => 0)))] U.heap ∧ EV dC dI cy U)) (vp_Si (fun r_ => r_ = (-1000000))) 0 0 (fun _ => False) := by
  refine Met.ofW (cc := cX12_mean) (maxL := 5) (ret := (some .int)) (by decide +kernel) rfl ?_
  intro p e s m args below meth c s₁ B hml hv
  obtain ⟨rfl, hP, hE⟩ := hv
  have hK := hE.1
  have hN := hE.2.1
  have hx := B.exec
  have hb := B.bytes
  have hr := B.returns
  have hts0 := atoms_spec (ws := wmX12_mean) B.pre
  have hts : ∀ w ∈ wsL_law, w.before _ s = true := fun w h => hts0 w (List.mem_cons_of_mem _ h)
  have hown : s.vm.findClass RX12 = some m.cls := findClass_of_methodNamed B.named
  have hlocks := B.notSynchronized
  have hl := lv_entry ([.ref h0, .int p0, .int p1]) (n := 5) (Nat.le_of_ble_eq_true rfl)
  rw [lg_entry_eq]
  generalize (lg_sl ([.ref h0, .int p0, .int p1]) ++ List.replicate (5 - (lg_sl ([.ref h0, .int p0, .int p1])).length) Slot.unset).toArray = ls at hl ⊢
  have hl : lv_has ls 5 [(0, .ref h0), (1, .int p0), (2, .int p1)] := hl
  refine lv_aload_n hx hb dX12_mean_0 rfl (lv_at hl 0 rfl) ?_
  refine lv_iload_n hx hb dX12_mean_1 rfl (lv_at hl 1 rfl) ?_
  have hPc := hP.sub (ws' := [(h0, .inr (12, [.ref (r 0), .ref (r 1), .int 0, .int 0, .int 0, .int (-1), .int 0, .int 0, .int 0, .int 0, .long 0, .ref (r 11), .ref (r 12), .ref (r 13), .ref (r 14), .ref (r 15), .ref (r 16), .ref (r 17), .ref (r 18), .ref (r 19), .ref (r 20), .ref (r 21), .ref (r 22), .ref (r 23), .ref (r 24), .ref (r 25), .ref (r 26), .ref (r 27), .ref (r 28), .ref (r 29), .ref (r 30), .ref (r 31), .ref (r 32), .ref (r 33), .int 0, .int 0, .int 0, .int 0, .int 0, .int 0, .int 0, .ref (r 41), .ref (r 42), .ref (r 43), .ref (r 44), .int 0, .int 0, .int 0, .ref (r 48), .int 0, .int 0, .ref (r 51), .ref (r 52), .ref (r 53), .ref (r 54), .int 0, .ref (r 56), .ref (r 57), .ref (r 58), .int 0, .ref (r 60), .ref (r 61), .ref (r 62), .ref (r 63), .ref (r 64), .ref (r 65), .ref (r 66), .ref (r 67), .ref (r 68), .int 0, .int 0, .int 0, .ref (r 72), .ref (r 73)])), (r 41, .inl (cy 0, 15, .inl (fun _ => 0)))]) [0, 1] rfl
  refine vp_callSi (W.runV (As := [.int p0]) (rest := []) ⟨hx, hb, hml, hown, hts⟩ (kX12_canLeave_1 l dC dI cy h0 r p0) (cwV 1 hts (gdV m_1322 m_1323 m_1324 m_5 m_1325) rfl rfl rfl (by decide +kernel) ⟨Nat.le_of_ble_eq_true rfl, Nat.le_of_ble_eq_true rfl⟩) ⟨fun a U g mk q => by obtain ⟨q0, qP, qE⟩ := q; exact ⟨q0, qP, qE.call⟩, va_recv hK hP (ci := 12) (q0 := 0) rfl rfl, fun U hU hW => ⟨rfl, by rw [hU]; exact hPc, hE.moved hW⟩⟩ rfl rfl hl.1 rfl (lv_room (Nat.le_of_ble_eq_true rfl)) dX12_mean_2 ⟨(show 0 + 0 ≤ 0 from by decide +kernel), (show 0 + 0 ≤ 0 from by decide +kernel)⟩) (fun r_1 hw => ?_)
  subst r_1
  refine lv_if_eq (tgt := 17) hx hb dX12_mean_5 (by decide) (fun _ => ?_) (fun c_ => absurd (by decide +kernel) c_)
  refine lv_ldcw (v := (-1000000)) hx hb hown (hts _ m_849) dX12_mean_17 ?_
  exact W.iret (v := (-1000000)) hx hb hr (fun t ht hW => ⟨(-1000000), rfl, rfl, ht⟩) (fun _ h_ => (List.not_mem_nil h_).elim) dX12_mean_20
set_option maxHeartbeats 4000000 in
set_option maxRecDepth 100000 in
theorem kX11_duel_1 (l : Launch) (dC : Nat → ClassId) (dI : Nat → Nat → Nat) (cy : Nat → ClassId) (h0 h1 h2 h3 h4 h5 h6 h7 h8 h9 h10 h11 h12 h13 h14 h15 h16 : Nat) (p0 p1 : Int32) : Met l yX11_duel wmX11_duel ({ frames := 0, cells := 0, slots := 0, locals := 0 }) (va_Pc [.ref h0, .int p0, .int p1] (fun U => va_P (dC, dI) classes [(h0, .inr (11, [.ref h1, .ref h2, .ref h3, .ref h4, .ref h5, .ref h6, .ref h7, .ref h8, .ref h9])), (h2, .inr (5, [.ref h10, .ref h11, .ref h12, .ref h13, .ref h14, .int 0, .int 0])), (h10, .inr (8, [.ref h15, .int 0, .int 0])), (h15, .inr (1, [.ref h16, .int 0]))] U.heap ∧ EV dC dI cy U)) (vp_Si (fun r_ => r_ = (-1000000))) 0 0 (fun _ => False) := by
  refine Met.ofW (cc := cX11_duel) (maxL := 4) (ret := (some .int)) (by decide +kernel) rfl ?_
  intro p e s m args below meth c s₁ B hml hv
  obtain ⟨rfl, hP, hE⟩ := hv
  have hK := hE.1
  have hN := hE.2.1
  have hx := B.exec
  have hb := B.bytes
  have hr := B.returns
  have hts0 := atoms_spec (ws := wmX11_duel) B.pre
  have hts : ∀ w ∈ wsL_law, w.before _ s = true := fun w h => hts0 w (List.mem_cons_of_mem _ h)
  have hown : s.vm.findClass RX11 = some m.cls := findClass_of_methodNamed B.named
  have hlocks := B.notSynchronized
  have hl := lv_entry ([.ref h0, .int p0, .int p1]) (n := 4) (Nat.le_of_ble_eq_true rfl)
  rw [lg_entry_eq]
  generalize (lg_sl ([.ref h0, .int p0, .int p1]) ++ List.replicate (4 - (lg_sl ([.ref h0, .int p0, .int p1])).length) Slot.unset).toArray = ls at hl ⊢
  have hl : lv_has ls 4 [(0, .ref h0), (1, .int p0), (2, .int p1)] := hl
  refine lv_aload_n hx hb dX11_duel_0 rfl (lv_at hl 0 rfl) ?_
  refine va_get (D := (dC, dI)) (ci := 11) (v := .ref h2) (C := RX11) (T := TX11) (N := 9) hx hb hts inlX11 hown hK hP 0 rfl rfl 1 (by decide) (hts _ m_19) (fun _ h9 => h9) rfl dX11_duel_1 ?_
  refine va_getN (D := (dC, dI)) (ci := 5) (v := .ref h10) (C := RX5) (T := TX5) (N := 7) hx hb hts inlX5 hown hK hP 1 rfl rfl 0 (by decide) (va_Nw.use rfl (hN _ nw_38)) (fun _ h9 => h9) rfl dX11_duel_4 ?_
  refine va_getN (D := (dC, dI)) (ci := 8) (v := .ref h15) (C := RX8) (T := TX8) (N := 3) hx hb hts inlX8 hown hK hP 2 rfl rfl 0 (by decide) (va_Nw.use rfl (hN _ nw_33)) (fun _ h9 => h9) rfl dX11_duel_7 ?_
  refine lv_astore_n (lv' := [(3, .ref h15), (0, .ref h0), (1, .int p0), (2, .int p1)]) hx hb dX11_duel_10 rfl hl (by decide) rfl (fun ls hl => ?_)
  refine lv_iload_n hx hb dX11_duel_11 rfl (lv_at hl 2 rfl) ?_
  refine lv_iconst (v := 1) hx hb dX11_duel_12 (by decide +kernel) ?_
  refine lv_icmp_lt (tgt := 36) hx hb dX11_duel_13 (by decide) (fun c_1 => ?_) (fun c_1 => ?_)
  · refine lv_ldc (v := (-1000000)) hx hb hown (hts _ m_840) dX11_duel_36 ?_
    exact W.iret (v := (-1000000)) hx hb hr (fun t ht hW => ⟨(-1000000), rfl, rfl, ht⟩) (fun _ h_ => (List.not_mem_nil h_).elim) dX11_duel_38
  · refine lv_iload_n hx hb dX11_duel_16 rfl (lv_at hl 2 rfl) ?_
    refine lv_iconst (v := 4) hx hb dX11_duel_17 (by decide +kernel) ?_
    refine lv_icmp_gt (tgt := 36) hx hb dX11_duel_18 (by decide) (fun c_2 => ?_) (fun c_2 => ?_)
    · refine lv_ldc (v := (-1000000)) hx hb hown (hts _ m_840) dX11_duel_36 ?_
      exact W.iret (v := (-1000000)) hx hb hr (fun t ht hW => ⟨(-1000000), rfl, rfl, ht⟩) (fun _ h_ => (List.not_mem_nil h_).elim) dX11_duel_38
    · refine lv_iload_n hx hb dX11_duel_21 rfl (lv_at hl 2 rfl) ?_
      refine lv_aload_n hx hb dX11_duel_22 rfl (lv_at hl 0 rfl) ?_
      refine va_getN (D := (dC, dI)) (ci := 1) (v := .int 0) (C := RX1) (T := TX1) (N := 2) hx hb hts inlX1 hown hK hP 3 rfl rfl 1 (by decide) (va_Nw.use rfl (hN _ nw_11)) (fun _ h9 => h9) rfl dX11_duel_23 ?_
      refine lv_icmp_gt (tgt := 36) hx hb dX11_duel_26 (by decide) (fun c_3 => ?_) (fun c_3 => (nn_11 c_1 c_2 c_3).elim)
      refine lv_ldc (v := (-1000000)) hx hb hown (hts _ m_840) dX11_duel_36 ?_
      exact W.iret (v := (-1000000)) hx hb hr (fun t ht hW => ⟨(-1000000), rfl, rfl, ht⟩) (fun _ h_ => (List.not_mem_nil h_).elim) dX11_duel_38
set_option maxHeartbeats 4000000 in
set_option maxRecDepth 100000 in
theorem kX12_isIn_5 (l : Launch) (dC : Nat → ClassId) (dI : Nat → Nat → Nat) (cy : Nat → ClassId) (p0 : Int32) : Met l yX12_isIn wmX12_isIn ({ frames := 0, cells := 0, slots := 0, locals := 0 }) (va_Pc [.int p0, .int 1, .int 4] (fun U => va_P (dC, dI) classes [] U.heap ∧ EV dC dI cy U)) (vp_Si (fun r_ => (r_ = 0 ∧ p0 < 1) ∨ (r_ = 0 ∧ ¬ p0 < 1 ∧ 4 < p0) ∨ (r_ = 1 ∧ ¬ p0 < 1 ∧ ¬ 4 < p0))) 0 0 (fun _ => False) := by
  refine Met.ofW (cc := cX12_isIn) (maxL := 3) (ret := (some .boolean)) (by decide +kernel) rfl ?_
  intro p e s m args below meth c s₁ B hml hv
  obtain ⟨rfl, hP, hE⟩ := hv
  have hK := hE.1
  have hN := hE.2.1
  have hx := B.exec
  have hb := B.bytes
  have hr := B.returns
  have hts0 := atoms_spec (ws := wmX12_isIn) B.pre
  have hts : ∀ w ∈ wsL_law, w.before _ s = true := fun w h => hts0 w (List.mem_cons_of_mem _ h)
  have hown : s.vm.findClass RX12 = some m.cls := findClass_of_methodNamed B.named
  have hlocks := B.notSynchronized
  have hl := lv_entry ([.int p0, .int 1, .int 4]) (n := 3) (Nat.le_of_ble_eq_true rfl)
  rw [lg_entry_eq]
  generalize (lg_sl ([.int p0, .int 1, .int 4]) ++ List.replicate (3 - (lg_sl ([.int p0, .int 1, .int 4])).length) Slot.unset).toArray = ls at hl ⊢
  have hl : lv_has ls 3 [(0, .int p0), (1, .int 1), (2, .int 4)] := hl
  refine lv_iload_n hx hb dX12_isIn_0 rfl (lv_at hl 0 rfl) ?_
  refine lv_iload_n hx hb dX12_isIn_1 rfl (lv_at hl 1 rfl) ?_
  refine lv_icmp_lt (tgt := 14) hx hb dX12_isIn_2 (by decide) (fun c_1 => ?_) (fun c_1 => ?_)
  · refine lv_iconst (v := 0) hx hb dX12_isIn_14 (by decide +kernel) ?_
    exact W.zret (v := 0) hx hb hr (by decide +kernel) (fun t ht hW => ⟨0, rfl, Or.inl ⟨rfl, c_1⟩, ht⟩) (fun _ h_ => (List.not_mem_nil h_).elim) dX12_isIn_15
  · refine lv_iload_n hx hb dX12_isIn_5 rfl (lv_at hl 0 rfl) ?_
    refine lv_iload_n hx hb dX12_isIn_6 rfl (lv_at hl 2 rfl) ?_
    refine lv_icmp_gt (tgt := 14) hx hb dX12_isIn_7 (by decide) (fun c_2 => ?_) (fun c_2 => ?_)
    · refine lv_iconst (v := 0) hx hb dX12_isIn_14 (by decide +kernel) ?_
      exact W.zret (v := 0) hx hb hr (by decide +kernel) (fun t ht hW => ⟨0, rfl, Or.inr (Or.inl ⟨rfl, c_1, c_2⟩), ht⟩) (fun _ h_ => (List.not_mem_nil h_).elim) dX12_isIn_15
    · refine lv_iconst (v := 1) hx hb dX12_isIn_10 (by decide +kernel) ?_
      refine lv_goto (tgt := 15) hx hb dX12_isIn_11 (by decide) ?_
      exact W.zret (v := 1) hx hb hr (by decide +kernel) (fun t ht hW => ⟨1, rfl, Or.inr (Or.inr (⟨rfl, c_1, c_2⟩)), ht⟩) (fun _ h_ => (List.not_mem_nil h_).elim) dX12_isIn_15
set_option maxHeartbeats 4000000 in
set_option maxRecDepth 100000 in
theorem kX12_duel_1 (l : Launch) (dC : Nat → ClassId) (dI : Nat → Nat → Nat) (cy : Nat → ClassId) (h0 : Nat) (r : Nat → Nat) (p0 p1 : Int32) : Met l yX12_duel wmX12_duel ({ frames := 1, cells := 0, slots := 0, locals := 22 }) (va_Pc [.ref h0, .int p0, .int p1] (fun U => va_P (dC, dI) classes [(h0, .inr (12, [.ref (r 0), .ref (r 1), .int 0, .int 0, .int 0, .int (-1), .int 0, .int 0, .int 0, .int 0, .long 0, .ref (r 11), .ref (r 12), .ref (r 13), .ref (r 14), .ref (r 15), .ref (r 16), .ref (r 17), .ref (r 18), .ref (r 19), .ref (r 20), .ref (r 21), .ref (r 22), .ref (r 23), .ref (r 24), .ref (r 25), .ref (r 26), .ref (r 27), .ref (r 28), .ref (r 29), .ref (r 30), .ref (r 31), .ref (r 32), .ref (r 33), .int 0, .int 0, .int 0, .int 0, .int 0, .int 0, .int 0, .ref (r 41), .ref (r 42), .ref (r 43), .ref (r 44), .int 0, .int 0, .int 0, .ref (r 48), .int 0, .int 0, .ref (r 51), .ref (r 52), .ref (r 53), .ref (r 54), .int 0, .ref (r 56), .ref (r 57), .ref (r 58), .int 0, .ref (r 60), .ref (r 61), .ref (r 62), .ref (r 63), .ref (r 64), .ref (r 65), .ref (r 66), .ref (r 67), .ref (r 68), .int 0, .int 0, .int 0, .ref (r 72), .ref (r 73)])), (r 41, .inl (cy 0, 15, .inl (fun _ => 0)))] U.heap ∧ EV dC dI cy U)) (vp_Si (fun r_ => r_ = (-1000000))) 0 0 (fun _ => False) := by
  refine Met.ofW (cc := cX12_duel) (maxL := 4) (ret := (some .int)) (by decide +kernel) rfl ?_
  intro p e s m args below meth c s₁ B hml hv
  obtain ⟨rfl, hP, hE⟩ := hv
  have hK := hE.1
  have hN := hE.2.1
  have hx := B.exec
  have hb := B.bytes
  have hr := B.returns
  have hts0 := atoms_spec (ws := wmX12_duel) B.pre
  have hts : ∀ w ∈ wsL_law, w.before _ s = true := fun w h => hts0 w (List.mem_cons_of_mem _ h)
  have hown : s.vm.findClass RX12 = some m.cls := findClass_of_methodNamed B.named
  have hlocks := B.notSynchronized
  have hl := lv_entry ([.ref h0, .int p0, .int p1]) (n := 4) (Nat.le_of_ble_eq_true rfl)
  rw [lg_entry_eq]
  generalize (lg_sl ([.ref h0, .int p0, .int p1]) ++ List.replicate (4 - (lg_sl ([.ref h0, .int p0, .int p1])).length) Slot.unset).toArray = ls at hl ⊢
  have hl : lv_has ls 4 [(0, .ref h0), (1, .int p0), (2, .int p1)] := hl
  refine lv_iload_n hx hb dX12_duel_0 rfl (lv_at hl 1 rfl) ?_
  refine lv_iconst (v := 1) hx hb dX12_duel_1 (by decide +kernel) ?_
  refine lv_iconst (v := 4) hx hb dX12_duel_2 (by decide +kernel) ?_
  have hPc := hP.sub (ws' := []) [] rfl
  refine vp_callSi (W.runS (As := [.int p0, .int 1, .int 4]) (rest := []) ⟨hx, hb, hml, hown, hts⟩ (kX12_isIn_5 l dC dI cy p0) (va_cwS 3 hts (gdS m_775 m_776 m_5 m_777) rfl rfl rfl (by decide +kernel) ⟨Nat.le_of_ble_eq_true rfl, Nat.le_of_ble_eq_true rfl⟩) ⟨fun a U g mk q => by obtain ⟨q0, qP, qE⟩ := q; exact ⟨q0, qP, qE.call⟩, fun U hU hW => ⟨rfl, by rw [hU]; exact hPc, hE.moved hW⟩⟩ rfl rfl hl.1 rfl (lv_room (Nat.le_of_ble_eq_true rfl)) dX12_duel_3 ⟨(show 0 + 0 ≤ 0 from by decide +kernel), (show 0 + 0 ≤ 0 from by decide +kernel)⟩) (fun r_1 hw => ?_)
  rcases hw with ⟨hr1, c_2⟩ | ⟨hr1, c_3, c_4⟩ | ⟨hr1, c_5, c_6⟩
  · subst r_1
    refine lv_if_eq (tgt := 29) hx hb dX12_duel_6 (by decide) (fun _ => ?_) (fun c_ => absurd (by decide +kernel) c_)
    refine lv_ldcw (v := (-1000000)) hx hb hown (hts _ m_849) dX12_duel_29 ?_
    exact W.iret (v := (-1000000)) hx hb hr (fun t ht hW => ⟨(-1000000), rfl, rfl, ht⟩) (fun _ h_ => (List.not_mem_nil h_).elim) dX12_duel_32
  · subst r_1
    refine lv_if_eq (tgt := 29) hx hb dX12_duel_6 (by decide) (fun _ => ?_) (fun c_ => absurd (by decide +kernel) c_)
    refine lv_ldcw (v := (-1000000)) hx hb hown (hts _ m_849) dX12_duel_29 ?_
    exact W.iret (v := (-1000000)) hx hb hr (fun t ht hW => ⟨(-1000000), rfl, rfl, ht⟩) (fun _ h_ => (List.not_mem_nil h_).elim) dX12_duel_32
  · subst r_1
    refine lv_if_eq (tgt := 29) hx hb dX12_duel_6 (by decide) (fun c_ => absurd c_ (by decide +kernel)) (fun _ => ?_)
    refine lv_iload_n hx hb dX12_duel_9 rfl (lv_at hl 1 rfl) ?_
    refine lv_aload_n hx hb dX12_duel_10 rfl (lv_at hl 0 rfl) ?_
    refine va_get (D := (dC, dI)) (ci := 12) (v := .ref (r 41)) (C := RX12) (T := TX12) (N := 74) hx hb hts inlX12 hown hK hP 0 rfl rfl 41 (by decide) (hts _ m_244) (fun _ h9 => h9) rfl dX12_duel_11 ?_
    refine lv_bipush (v := 12) hx hb dX12_duel_14 (by decide +kernel) ?_
    refine va_iald hx hb hK hP 1 0 rfl rfl vi_12_15 dX12_duel_16 ?_
    refine W.eq (g2 := F0 m 17 ls [.int 0, .int p0]) rfl ?_
    refine lv_icmp_gt (tgt := 29) hx hb dX12_duel_17 (by decide) (fun c_7 => ?_) (fun c_7 => (nn_11 c_5 c_6 c_7).elim)
    refine lv_ldcw (v := (-1000000)) hx hb hown (hts _ m_849) dX12_duel_29 ?_
    exact W.iret (v := (-1000000)) hx hb hr (fun t ht hW => ⟨(-1000000), rfl, rfl, ht⟩) (fun _ h_ => (List.not_mem_nil h_).elim) dX12_duel_32
set_option maxHeartbeats 4000000 in
set_option maxRecDepth 100000 in
theorem kX4_editsTo_1 (l : Launch) (dC : Nat → ClassId) (dI : Nat → Nat → Nat) (cy : Nat → ClassId) (h0 h1 : Nat) : Met l yX4_editsTo wmX4_editsTo ({ frames := 0, cells := 0, slots := 0, locals := 0 }) (va_Pc [.ref h0, .ref h1, .ref h1, .int 0, .int 0] (fun U => va_P (dC, dI) classes [] U.heap ∧ EV dC dI cy U)) (vp_Si (fun r_ => r_ = 0)) 0 0 (fun _ => False) := by
  refine Met.ofW (cc := cX4_editsTo) (maxL := 6) (ret := (some .int)) (by decide +kernel) rfl ?_
  intro p e s m args below meth c s₁ B hml hv
  obtain ⟨rfl, hP, hE⟩ := hv
  have hK := hE.1
  have hN := hE.2.1
  have hx := B.exec
  have hb := B.bytes
  have hr := B.returns
  have hts0 := atoms_spec (ws := wmX4_editsTo) B.pre
  have hts : ∀ w ∈ wsL_law, w.before _ s = true := fun w h => hts0 w (List.mem_cons_of_mem _ h)
  have hown : s.vm.findClass RX4 = some m.cls := findClass_of_methodNamed B.named
  have hlocks := B.notSynchronized
  have hl := lv_entry ([.ref h0, .ref h1, .ref h1, .int 0, .int 0]) (n := 6) (Nat.le_of_ble_eq_true rfl)
  rw [lg_entry_eq]
  generalize (lg_sl ([.ref h0, .ref h1, .ref h1, .int 0, .int 0]) ++ List.replicate (6 - (lg_sl ([.ref h0, .ref h1, .ref h1, .int 0, .int 0])).length) Slot.unset).toArray = ls at hl ⊢
  have hl : lv_has ls 6 [(0, .ref h0), (1, .ref h1), (2, .ref h1), (3, .int 0), (4, .int 0)] := hl
  refine lv_iload_n hx hb dX4_editsTo_0 rfl (lv_at hl 3 rfl) ?_
  refine lv_if_eq (tgt := 9) hx hb dX4_editsTo_1 (by decide) (fun _ => ?_) (fun c_ => absurd (by decide +kernel) c_)
  refine lv_iload_n hx hb dX4_editsTo_9 rfl (lv_at hl 3 rfl) ?_
  refine lv_iload hx hb dX4_editsTo_10 (lv_at hl 4 rfl) ?_
  refine lv_iadd hx hb dX4_editsTo_12 ?_
  refine lv_topi (fun z_1 ez_1 => ?_)
  obtain rfl : z_1 = 0 := ez_1.trans (by decide +kernel)
  exact W.iret (v := 0) hx hb hr (fun t ht hW => ⟨0, rfl, rfl, ht⟩) (fun _ h_ => (List.not_mem_nil h_).elim) dX4_editsTo_13
set_option maxHeartbeats 4000000 in
set_option maxRecDepth 100000 in
theorem kX4_isInGrid_1 (l : Launch) (dC : Nat → ClassId) (dI : Nat → Nat → Nat) (cy : Nat → ClassId) : Met l yX4_isInGrid wmX4_isInGrid ({ frames := 0, cells := 0, slots := 0, locals := 0 }) (va_Pc [.int 0, .int 0] (fun U => va_P (dC, dI) classes [] U.heap ∧ EV dC dI cy U)) (vp_Si (fun r_ => r_ = 1)) 0 0 (fun _ => False) := by
  refine Met.ofW (cc := cX4_isInGrid) (maxL := 2) (ret := (some .boolean)) (by decide +kernel) rfl ?_
  intro p e s m args below meth c s₁ B hml hv
  obtain ⟨rfl, hP, hE⟩ := hv
  have hK := hE.1
  have hN := hE.2.1
  have hx := B.exec
  have hb := B.bytes
  have hr := B.returns
  have hts0 := atoms_spec (ws := wmX4_isInGrid) B.pre
  have hts : ∀ w ∈ wsL_law, w.before _ s = true := fun w h => hts0 w (List.mem_cons_of_mem _ h)
  have hown : s.vm.findClass RX4 = some m.cls := findClass_of_methodNamed B.named
  have hlocks := B.notSynchronized
  have hl := lv_entry ([.int 0, .int 0]) (n := 2) (Nat.le_of_ble_eq_true rfl)
  rw [lg_entry_eq]
  generalize (lg_sl ([.int 0, .int 0]) ++ List.replicate (2 - (lg_sl ([.int 0, .int 0])).length) Slot.unset).toArray = ls at hl ⊢
  have hl : lv_has ls 2 [(0, .int 0), (1, .int 0)] := hl
  refine lv_iload_n hx hb dX4_isInGrid_0 rfl (lv_at hl 0 rfl) ?_
  refine lv_if_lt (tgt := 24) hx hb dX4_isInGrid_1 (by decide) (fun c_ => absurd c_ (by decide +kernel)) (fun _ => ?_)
  refine lv_iload_n hx hb dX4_isInGrid_4 rfl (lv_at hl 0 rfl) ?_
  refine lv_bipush (v := 13) hx hb dX4_isInGrid_5 (by decide +kernel) ?_
  refine lv_icmp_ge (tgt := 24) hx hb dX4_isInGrid_7 (by decide) (fun c_ => absurd c_ (by decide +kernel)) (fun _ => ?_)
  refine lv_iload_n hx hb dX4_isInGrid_10 rfl (lv_at hl 1 rfl) ?_
  refine lv_if_lt (tgt := 24) hx hb dX4_isInGrid_11 (by decide) (fun c_ => absurd c_ (by decide +kernel)) (fun _ => ?_)
  refine lv_iload_n hx hb dX4_isInGrid_14 rfl (lv_at hl 1 rfl) ?_
  refine lv_bipush (v := 13) hx hb dX4_isInGrid_15 (by decide +kernel) ?_
  refine lv_icmp_ge (tgt := 24) hx hb dX4_isInGrid_17 (by decide) (fun c_ => absurd c_ (by decide +kernel)) (fun _ => ?_)
  refine lv_iconst (v := 1) hx hb dX4_isInGrid_20 (by decide +kernel) ?_
  refine lv_goto (tgt := 25) hx hb dX4_isInGrid_21 (by decide) ?_
  exact W.zret (v := 1) hx hb hr (by decide +kernel) (fun t ht hW => ⟨1, rfl, rfl, ht⟩) (fun _ h_ => (List.not_mem_nil h_).elim) dX4_isInGrid_25
set_option maxHeartbeats 4000000 in
set_option maxRecDepth 100000 in
theorem kX4_write_1 (l : Launch) (dC : Nat → ClassId) (dI : Nat → Nat → Nat) (cy : Nat → ClassId) (h0 h1 h2 h3 h4 h5 : Nat) (sz : Nat) : Met l yX4_write wmX4_write ({ frames := 1, cells := 0, slots := 0, locals := 21 }) (va_Pc [.ref h0, .int 0, .int 0, .int 0] (fun U => U.heap.size = sz ∧ va_P (dC, dI) classes [(h0, .inr (4, [.ref h1, .ref h2, .ref h3, .ref h4, .ref h5, .ref h5, .ref h5])), (h1, .inl (cy 0, 169, .inl (fun _ => 0)))] U.heap ∧ EV dC dI cy U ∧ va_D (fun _ => True) [(h0, .inr (4, [.ref h1, .ref h2, .ref h3, .ref h4, .ref h5, .ref h5, .ref h5])), (h1, .inl (cy 0, 169, .inl (fun _ => 0)))])) (va_Qv (S := Unit) (fun _ => True) (fun _ t => va_P (dC, dI) classes [(h0, .inr (4, [.ref h1, .ref h2, .ref h3, .ref h4, .ref h5, .ref h5, .ref h5])), (h1, .inl (cy 0, 169, .inl (fun _ => 0)))] t.heap ∧ va_D (va_A [(h0, .inr (4, [.ref h1, .ref h2, .ref h3, .ref h4, .ref h5, .ref h5, .ref h5])), (h1, .inl (cy 0, 169, .inl (fun _ => 0)))] sz) [(h0, .inr (4, [.ref h1, .ref h2, .ref h3, .ref h4, .ref h5, .ref h5, .ref h5])), (h1, .inl (cy 0, 169, .inl (fun _ => 0)))]) (va_A [(h0, .inr (4, [.ref h1, .ref h2, .ref h3, .ref h4, .ref h5, .ref h5, .ref h5])), (h1, .inl (cy 0, 169, .inl (fun _ => 0)))] sz)) 0 0 (va_A [(h0, .inr (4, [.ref h1, .ref h2, .ref h3, .ref h4, .ref h5, .ref h5, .ref h5])), (h1, .inl (cy 0, 169, .inl (fun _ => 0)))] sz) := by
  refine Met.ofW (cc := cX4_write) (maxL := 4) (ret := none) (by decide +kernel) rfl ?_
  intro p e s m args below meth c s₁ B hml hv
  obtain ⟨rfl, hsz, hP, hE, hD0⟩ := hv
  have hK := hE.1
  have hN := hE.2.1
  have hx := B.exec
  have hb := B.bytes
  have hr := B.returns
  have hts0 := atoms_spec (ws := wmX4_write) B.pre
  have hts : ∀ w ∈ wsL_law, w.before _ s = true := fun w h => hts0 w (List.mem_cons_of_mem _ h)
  have hown : s.vm.findClass RX4 = some m.cls := findClass_of_methodNamed B.named
  have hlocks := B.notSynchronized
  subst hsz
  have hD := hD0.self (sz := s.heap.size)
  generalize hAe : va_A [(h0, .inr (4, [.ref h1, .ref h2, .ref h3, .ref h4, .ref h5, .ref h5, .ref h5])), (h1, .inl (cy 0, 169, .inl (fun _ => 0)))] s.heap.size = A at hD ⊢
  have hA : ∀ q : Nat, s.heap.size ≤ q → A q := fun q h => by rw [← hAe]; exact Or.inr h
  have hS : va_S A s.heap s.heap [] := va_S.rf
  have hP : va_P (dC, dI) classes [(h0, .inr (4, [.ref h1, .ref h2, .ref h3, .ref h4, .ref h5, .ref h5, .ref h5])), (h1, .inl (cy 0, 169, .inl (fun _ => 0)))] s.heap := hP
  have hl := lv_entry ([.ref h0, .int 0, .int 0, .int 0]) (n := 4) (Nat.le_of_ble_eq_true rfl)
  rw [lg_entry_eq]
  generalize (lg_sl ([.ref h0, .int 0, .int 0, .int 0]) ++ List.replicate (4 - (lg_sl ([.ref h0, .int 0, .int 0, .int 0])).length) Slot.unset).toArray = ls at hl ⊢
  have hl : lv_has ls 4 [(0, .ref h0), (1, .int 0), (2, .int 0), (3, .int 0)] := hl
  refine lv_iload_n hx hb dX4_write_0 rfl (lv_at hl 1 rfl) ?_
  refine lv_iload_n hx hb dX4_write_1 rfl (lv_at hl 2 rfl) ?_
  have hPc := hP.sub (ws' := []) [] rfl
  refine vp_callSi (W.runS (As := [.int 0, .int 0]) (rest := []) ⟨hx, hb, hml, hown, hts⟩ (kX4_isInGrid_1 l dC dI cy) (va_cwS 2 hts (gdS m_1258 m_1259 m_22 m_1260) rfl rfl rfl (by decide +kernel) ⟨Nat.le_of_ble_eq_true rfl, Nat.le_of_ble_eq_true rfl⟩) ⟨fun a U g mk q => by obtain ⟨q0, qP, qE⟩ := q; exact ⟨q0, qP, qE.call⟩, fun U hU hW => ⟨rfl, by rw [hU]; exact hPc, hE.moved hW⟩⟩ rfl rfl hl.1 rfl (lv_room (Nat.le_of_ble_eq_true rfl)) dX4_write_2 ⟨(show 0 + 0 ≤ 0 from by decide +kernel), (show 0 + 0 ≤ 0 from by decide +kernel)⟩) (fun r_1 hw => ?_)
  subst r_1
  refine lv_if_eq (tgt := 20) hx hb dX4_write_5 (by decide) (fun c_ => absurd c_ (by decide +kernel)) (fun _ => ?_)
  refine lv_aload_n hx hb dX4_write_8 rfl (lv_at hl 0 rfl) ?_
  refine va_get (D := (dC, dI)) (ci := 4) (v := .ref h1) (C := RX4) (T := TX4) (N := 7) hx hb hts inlX4 hown hK hP 0 rfl rfl 0 (by decide) (hts _ m_174) (fun _ h9 => h9) rfl dX4_write_9 ?_
  refine lv_iload_n hx hb dX4_write_12 rfl (lv_at hl 1 rfl) ?_
  refine lv_bipush (v := 13) hx hb dX4_write_13 (by decide +kernel) ?_
  refine lv_imul hx hb dX4_write_15 ?_
  refine lv_topi (fun z_2 ez_2 => ?_)
  obtain rfl : z_2 = 0 := ez_2.trans (by decide +kernel)
  refine lv_iload_n hx hb dX4_write_16 rfl (lv_at hl 2 rfl) ?_
  refine lv_iadd hx hb dX4_write_17 ?_
  refine lv_topi (fun z_3 ez_3 => ?_)
  obtain rfl : z_3 = 0 := ez_3.trans (by decide +kernel)
  refine lv_iload_n hx hb dX4_write_18 rfl (lv_at hl 3 rfl) ?_
  refine va_iast hx hb hK hP hD hS 1 0 rfl rfl vi_0_169 dX4_write_19 (fun H locs hP hD hS => ?_)
  rw [show upd (fun _ => 0) (Int32.toNatClampNeg 0) 0 = (fun _ => 0) from xa_upd0 rfl] at hP hD
  have hP : va_P (dC, dI) classes [(h0, .inr (4, [.ref h1, .ref h2, .ref h3, .ref h4, .ref h5, .ref h5, .ref h5])), (h1, .inl (cy 0, 169, .inl (fun _ => 0)))] H := hP
  have hD : va_D A [(h0, .inr (4, [.ref h1, .ref h2, .ref h3, .ref h4, .ref h5, .ref h5, .ref h5])), (h1, .inl (cy 0, 169, .inl (fun _ => 0)))] := hD
  have hP9 := hP.sub (ws' := [(h0, .inr (4, [.ref h1, .ref h2, .ref h3, .ref h4, .ref h5, .ref h5, .ref h5])), (h1, .inl (cy 0, 169, .inl (fun _ => 0)))]) [0, 1] rfl
  have hD9 := hD.sub (ws' := [(h0, .inr (4, [.ref h1, .ref h2, .ref h3, .ref h4, .ref h5, .ref h5, .ref h5])), (h1, .inl (cy 0, 169, .inl (fun _ => 0)))]) [0, 1] (by decide) rfl
  exact W.vret hx hb hr (fun t ht hW => ⟨⟨(), rfl, trivial, by rw [ht]; exact hP9, hD9⟩, hS.F ht⟩) hS.2.2 dX4_write_20
set_option maxHeartbeats 4000000 in
set_option maxRecDepth 100000 in
theorem kX4_read_1 (l : Launch) (dC : Nat → ClassId) (dI : Nat → Nat → Nat) (cy : Nat → ClassId) (h0 h1 h2 h3 h4 h5 : Nat) : Met l yX4_read wmX4_read ({ frames := 1, cells := 0, slots := 0, locals := 21 }) (va_Pc [.ref h0, .int 0, .int 0] (fun U => va_P (dC, dI) classes [(h0, .inr (4, [.ref h1, .ref h2, .ref h3, .ref h4, .ref h5, .ref h5, .ref h5])), (h1, .inl (cy 0, 169, .inl (fun _ => 0)))] U.heap ∧ EV dC dI cy U)) (vp_Si (fun r_ => r_ = 0)) 0 0 (fun _ => False) := by
  refine Met.ofW (cc := cX4_read) (maxL := 3) (ret := (some .int)) (by decide +kernel) rfl ?_
  intro p e s m args below meth c s₁ B hml hv
  obtain ⟨rfl, hP, hE⟩ := hv
  have hK := hE.1
  have hN := hE.2.1
  have hx := B.exec
  have hb := B.bytes
  have hr := B.returns
  have hts0 := atoms_spec (ws := wmX4_read) B.pre
  have hts : ∀ w ∈ wsL_law, w.before _ s = true := fun w h => hts0 w (List.mem_cons_of_mem _ h)
  have hown : s.vm.findClass RX4 = some m.cls := findClass_of_methodNamed B.named
  have hlocks := B.notSynchronized
  have hl := lv_entry ([.ref h0, .int 0, .int 0]) (n := 3) (Nat.le_of_ble_eq_true rfl)
  rw [lg_entry_eq]
  generalize (lg_sl ([.ref h0, .int 0, .int 0]) ++ List.replicate (3 - (lg_sl ([.ref h0, .int 0, .int 0])).length) Slot.unset).toArray = ls at hl ⊢
  have hl : lv_has ls 3 [(0, .ref h0), (1, .int 0), (2, .int 0)] := hl
  refine lv_iload_n hx hb dX4_read_0 rfl (lv_at hl 1 rfl) ?_
  refine lv_iload_n hx hb dX4_read_1 rfl (lv_at hl 2 rfl) ?_
  have hPc := hP.sub (ws' := []) [] rfl
  refine vp_callSi (W.runS (As := [.int 0, .int 0]) (rest := []) ⟨hx, hb, hml, hown, hts⟩ (kX4_isInGrid_1 l dC dI cy) (va_cwS 2 hts (gdS m_1258 m_1259 m_22 m_1260) rfl rfl rfl (by decide +kernel) ⟨Nat.le_of_ble_eq_true rfl, Nat.le_of_ble_eq_true rfl⟩) ⟨fun a U g mk q => by obtain ⟨q0, qP, qE⟩ := q; exact ⟨q0, qP, qE.call⟩, fun U hU hW => ⟨rfl, by rw [hU]; exact hPc, hE.moved hW⟩⟩ rfl rfl hl.1 rfl (lv_room (Nat.le_of_ble_eq_true rfl)) dX4_read_2 ⟨(show 0 + 0 ≤ 0 from by decide +kernel), (show 0 + 0 ≤ 0 from by decide +kernel)⟩) (fun r_1 hw => ?_)
  subst r_1
  refine lv_if_eq (tgt := 22) hx hb dX4_read_5 (by decide) (fun c_ => absurd c_ (by decide +kernel)) (fun _ => ?_)
  refine lv_aload_n hx hb dX4_read_8 rfl (lv_at hl 0 rfl) ?_
  refine va_get (D := (dC, dI)) (ci := 4) (v := .ref h1) (C := RX4) (T := TX4) (N := 7) hx hb hts inlX4 hown hK hP 0 rfl rfl 0 (by decide) (hts _ m_174) (fun _ h9 => h9) rfl dX4_read_9 ?_
  refine lv_iload_n hx hb dX4_read_12 rfl (lv_at hl 1 rfl) ?_
  refine lv_bipush (v := 13) hx hb dX4_read_13 (by decide +kernel) ?_
  refine lv_imul hx hb dX4_read_15 ?_
  refine lv_topi (fun z_2 ez_2 => ?_)
  obtain rfl : z_2 = 0 := ez_2.trans (by decide +kernel)
  refine lv_iload_n hx hb dX4_read_16 rfl (lv_at hl 2 rfl) ?_
  refine lv_iadd hx hb dX4_read_17 ?_
  refine lv_topi (fun z_3 ez_3 => ?_)
  obtain rfl : z_3 = 0 := ez_3.trans (by decide +kernel)
  refine va_iald hx hb hK hP 1 0 rfl rfl vi_0_169 dX4_read_18 ?_
  refine W.eq (g2 := F0 m 19 ls [.int 0]) rfl ?_
  refine lv_goto (tgt := 23) hx hb dX4_read_19 (by decide) ?_
  exact W.iret (v := 0) hx hb hr (fun t ht hW => ⟨0, rfl, rfl, ht⟩) (fun _ h_ => (List.not_mem_nil h_).elim) dX4_read_23
set_option maxHeartbeats 4000000 in
set_option maxRecDepth 100000 in
theorem kX4_countEdits_1 (l : Launch) (dC : Nat → ClassId) (dI : Nat → Nat → Nat) (cy : Nat → ClassId) (h0 h1 h2 h3 h4 h5 h6 h7 : Nat) (sz : Nat) : Met l yX4_countEdits wmX4_countEdits ({ frames := 2, cells := 0, slots := 0, locals := 44 }) (va_Pc [.ref h0, .ref h1, .ref h1] (fun U => U.heap.size = sz ∧ va_P (dC, dI) classes [(h1, .inr (1, [.ref h2, .int 0])), (h0, .inr (4, [.ref h3, .ref h4, .ref h5, .ref h6, .ref h7, .ref h7, .ref h7])), (h3, .inl (cy 0, 169, .inl (fun _ => 0)))] U.heap ∧ EV dC dI cy U ∧ va_D (fun _ => True) [(h1, .inr (1, [.ref h2, .int 0])), (h0, .inr (4, [.ref h3, .ref h4, .ref h5, .ref h6, .ref h7, .ref h7, .ref h7])), (h3, .inl (cy 0, 169, .inl (fun _ => 0)))])) (va_Qi (S := Unit) (fun r_ _ => r_ = 0) (fun _ t => va_P (dC, dI) classes [(h1, .inr (1, [.ref h2, .int 0])), (h0, .inr (4, [.ref h3, .ref h4, .ref h5, .ref h6, .ref h7, .ref h7, .ref h7])), (h3, .inl (cy 0, 169, .inl (fun _ => 0)))] t.heap ∧ va_D (va_A [(h1, .inr (1, [.ref h2, .int 0])), (h0, .inr (4, [.ref h3, .ref h4, .ref h5, .ref h6, .ref h7, .ref h7, .ref h7])), (h3, .inl (cy 0, 169, .inl (fun _ => 0)))] sz) [(h1, .inr (1, [.ref h2, .int 0])), (h0, .inr (4, [.ref h3, .ref h4, .ref h5, .ref h6, .ref h7, .ref h7, .ref h7])), (h3, .inl (cy 0, 169, .inl (fun _ => 0)))]) (va_A [(h1, .inr (1, [.ref h2, .int 0])), (h0, .inr (4, [.ref h3, .ref h4, .ref h5, .ref h6, .ref h7, .ref h7, .ref h7])), (h3, .inl (cy 0, 169, .inl (fun _ => 0)))] sz)) 0 0 (va_A [(h1, .inr (1, [.ref h2, .int 0])), (h0, .inr (4, [.ref h3, .ref h4, .ref h5, .ref h6, .ref h7, .ref h7, .ref h7])), (h3, .inl (cy 0, 169, .inl (fun _ => 0)))] sz) := by
  refine Met.ofW (cc := cX4_countEdits) (maxL := 5) (ret := (some .int)) (by decide +kernel) rfl ?_
  intro p e s m args below meth c s₁ B hml hv
  obtain ⟨rfl, hsz, hP, hE, hD0⟩ := hv
  have hK := hE.1
  have hN := hE.2.1
  have hx := B.exec
  have hb := B.bytes
  have hr := B.returns
  have hts0 := atoms_spec (ws := wmX4_countEdits) B.pre
  have hts : ∀ w ∈ wsL_law, w.before _ s = true := fun w h => hts0 w (List.mem_cons_of_mem _ h)
  have hown : s.vm.findClass RX4 = some m.cls := findClass_of_methodNamed B.named
  have hlocks := B.notSynchronized
  subst hsz
  have hD := hD0.self (sz := s.heap.size)
  generalize hAe : va_A [(h1, .inr (1, [.ref h2, .int 0])), (h0, .inr (4, [.ref h3, .ref h4, .ref h5, .ref h6, .ref h7, .ref h7, .ref h7])), (h3, .inl (cy 0, 169, .inl (fun _ => 0)))] s.heap.size = A at hD ⊢
  have hA : ∀ q : Nat, s.heap.size ≤ q → A q := fun q h => by rw [← hAe]; exact Or.inr h
  have hS : va_S A s.heap s.heap [] := va_S.rf
  have hP : va_P (dC, dI) classes [(h1, .inr (1, [.ref h2, .int 0])), (h0, .inr (4, [.ref h3, .ref h4, .ref h5, .ref h6, .ref h7, .ref h7, .ref h7])), (h3, .inl (cy 0, 169, .inl (fun _ => 0)))] s.heap := hP
  have hl := lv_entry ([.ref h0, .ref h1, .ref h1]) (n := 5) (Nat.le_of_ble_eq_true rfl)
  rw [lg_entry_eq]
  generalize (lg_sl ([.ref h0, .ref h1, .ref h1]) ++ List.replicate (5 - (lg_sl ([.ref h0, .ref h1, .ref h1])).length) Slot.unset).toArray = ls at hl ⊢
  have hl : lv_has ls 5 [(0, .ref h0), (1, .ref h1), (2, .ref h1)] := hl
  refine lv_iconst (v := 0) hx hb dX4_countEdits_0 (by decide +kernel) ?_
  refine lv_istore_n (lv' := [(3, .int 0), (0, .ref h0), (1, .ref h1), (2, .ref h1)]) hx hb dX4_countEdits_1 rfl hl (by decide) rfl (fun ls hl => ?_)
  refine lv_iload_n hx hb dX4_countEdits_2 rfl (lv_at hl 0 rfl) ?_
  refine lv_aload_n hx hb dX4_countEdits_3 rfl (lv_at hl 2 rfl) ?_
  refine va_getN (D := (dC, dI)) (ci := 1) (v := .int 0) (C := RX1) (T := TX1) (N := 2) hx hb hts inlX1 hown hK hP 0 rfl rfl 1 (by decide) (va_Nw.use rfl (hN _ nw_5)) (fun _ h9 => h9) rfl dX4_countEdits_4 ?_
  refine lv_icmp_gt (tgt := 50) hx hb dX4_countEdits_7 (by decide) (fun c_ => absurd c_ (by decide +kernel)) (fun _ => ?_)
  refine lv_iconst (v := 0) hx hb dX4_countEdits_10 (by decide +kernel) ?_
  refine lv_istore (lv' := [(4, .int 0), (3, .int 0), (0, .ref h0), (1, .ref h1), (2, .ref h1)]) hx hb dX4_countEdits_11 hl (by decide) rfl (fun ls hl => ?_)
  refine lv_iload hx hb dX4_countEdits_13 (lv_at hl 0 rfl) ?_
  refine lv_aload_n hx hb dX4_countEdits_15 rfl (lv_at hl 4 rfl) ?_
  refine va_getN (D := (dC, dI)) (ci := 1) (v := .int 0) (C := RX1) (T := TX1) (N := 2) hx hb hts inlX1 hown hK hP 0 rfl rfl 1 (by decide) (va_Nw.use rfl (hN _ nw_5)) (fun _ h9 => h9) rfl dX4_countEdits_16 ?_
  refine lv_icmp_gt (tgt := 44) hx hb dX4_countEdits_19 (by decide) (fun c_ => absurd c_ (by decide +kernel)) (fun _ => ?_)
  refine lv_aload_n hx hb dX4_countEdits_22 rfl (lv_at hl 2 rfl) ?_
  refine lv_iload_n hx hb dX4_countEdits_23 rfl (lv_at hl 1 rfl) ?_
  refine lv_iload hx hb dX4_countEdits_24 (lv_at hl 0 rfl) ?_
  refine lv_aload_n hx hb dX4_countEdits_26 rfl (lv_at hl 2 rfl) ?_
  refine lv_aload_n hx hb dX4_countEdits_27 rfl (lv_at hl 3 rfl) ?_
  refine lv_aload_n hx hb dX4_countEdits_28 rfl (lv_at hl 4 rfl) ?_
  refine lv_iload_n hx hb dX4_countEdits_29 rfl (lv_at hl 1 rfl) ?_
  refine lv_iload hx hb dX4_countEdits_30 (lv_at hl 0 rfl) ?_
  have hPc := hP.sub (ws' := []) [] rfl
  refine vp_callSi (W.runV (As := [.ref h1, .ref h1, .int 0, .int 0]) (rest := [.int 0, .int 0, .ref h0]) ⟨hx, hb, hml, hown, hts⟩ (kX4_editsTo_1 l dC dI cy h0 h1) (cwV 4 hts (gdV m_1389 m_1390 m_1391 m_22 m_1392) rfl rfl rfl (by decide +kernel) ⟨Nat.le_of_ble_eq_true rfl, Nat.le_of_ble_eq_true rfl⟩) ⟨fun a U g mk q => by obtain ⟨q0, qP, qE⟩ := q; exact ⟨q0, qP, qE.call⟩, va_recv hK hP (ci := 4) (q0 := 1) rfl rfl, fun U hU hW => ⟨rfl, by rw [hU]; exact hPc, hE.moved hW⟩⟩ rfl rfl hl.1 rfl (lv_room (Nat.le_of_ble_eq_true rfl)) dX4_countEdits_32 ⟨(show 0 + 0 ≤ 0 from by decide +kernel), (show 0 + 0 ≤ 0 from by decide +kernel)⟩) (fun r_1 hw => ?_)
  subst r_1
  have hPc := hP.sub (ws' := [(h0, .inr (4, [.ref h3, .ref h4, .ref h5, .ref h6, .ref h7, .ref h7, .ref h7])), (h3, .inl (cy 0, 169, .inl (fun _ => 0)))]) [1, 2] rfl
  have hDc := hD.sub (ws' := [(h0, .inr (4, [.ref h3, .ref h4, .ref h5, .ref h6, .ref h7, .ref h7, .ref h7])), (h3, .inl (cy 0, 169, .inl (fun _ => 0)))]) [1, 2] (by decide) rfl
  have hFc := va_free (wc := [(h0, .inr (4, [.ref h3, .ref h4, .ref h5, .ref h6, .ref h7, .ref h7, .ref h7])), (h3, .inl (cy 0, 169, .inl (fun _ => 0)))]) hD hS hA [1, 2] rfl
  refine va_callv (va_runV (As := [.int 0, .int 0, .int 0]) (rest := []) ⟨hx, hb, hml, hown, hts⟩ (kX4_write_1 l dC dI cy h0 h3 h4 h5 h6 h7 s.heap.size) (cwV 3 hts (gdV m_1261 m_1262 m_1263 m_22 m_1264) rfl rfl rfl (by decide +kernel) ⟨Nat.le_of_ble_eq_true rfl, Nat.le_of_ble_eq_true rfl⟩) ⟨fun a U g mk q => by obtain ⟨q0, q1, qP, qE, qD⟩ := q; exact ⟨q0, q1, qP, qE.call, qD⟩, va_recv hK hP (ci := 4) (q0 := 1) rfl rfl, fun U hU hW => ⟨rfl, by rw [hU], by rw [hU]; exact hPc, hE.moved hW, hDc.weaken (fun _ _ _ _ => trivial)⟩⟩ rfl rfl hl.1 rfl (lv_room (Nat.le_of_ble_eq_true rfl)) dX4_countEdits_35 ⟨(show 0 + 0 ≤ 0 from by decide +kernel), (show 0 + 0 ≤ 0 from by decide +kernel)⟩) hS (fun q _ h => hFc q h) hFc (fun u t H1 locs ht hvm hw hB hz1 hk1 hS => ?_)
  obtain ⟨hP1, hD1⟩ := hB
  rw [ht] at hP1
  obtain ⟨hP, hD⟩ := va_join (wr := [(h1, .inr (1, [.ref h2, .int 0]))]) (w1 := [(h0, .inr (4, [.ref h3, .ref h4, .ref h5, .ref h6, .ref h7, .ref h7, .ref h7])), (h3, .inl (cy 0, 169, .inl (fun _ => 0)))]) hP hD [1, 2] [0] rfl rfl (by decide) (by decide) hk1 hFc hP1 hD1
  generalize H1 = H at hP hS ⊢
  have hP : va_P (dC, dI) classes [(h1, .inr (1, [.ref h2, .int 0])), (h0, .inr (4, [.ref h3, .ref h4, .ref h5, .ref h6, .ref h7, .ref h7, .ref h7])), (h3, .inl (cy 0, 169, .inl (fun _ => 0)))] H := hP
  have hD : va_D A [(h1, .inr (1, [.ref h2, .int 0])), (h0, .inr (4, [.ref h3, .ref h4, .ref h5, .ref h6, .ref h7, .ref h7, .ref h7])), (h3, .inl (cy 0, 169, .inl (fun _ => 0)))] := hD
  refine W.widen (k := 0) (n := 0) (by decide +kernel) (by decide +kernel) ?_
  refine lv_iinc (v := 1) (lv' := [(4, .int 1), (3, .int 0), (0, .ref h0), (1, .ref h1), (2, .ref h1)]) hx hb dX4_countEdits_38 hl (k := 0) rfl (by decide +kernel) (by decide) rfl (fun ls hl => ?_)
  refine lv_goto (tgt := 13) hx hb dX4_countEdits_41 (by decide) ?_
  refine lv_iload hx hb dX4_countEdits_13 (lv_at hl 0 rfl) ?_
  refine lv_aload_n hx hb dX4_countEdits_15 rfl (lv_at hl 4 rfl) ?_
  refine va_getN (D := (dC, dI)) (ci := 1) (v := .int 0) (C := RX1) (T := TX1) (N := 2) hx hb hts inlX1 hown hK hP 0 rfl rfl 1 (by decide) (va_Nw.use rfl (hN _ nw_5)) (fun _ h9 => h9) rfl dX4_countEdits_16 ?_
  refine lv_icmp_gt (tgt := 44) hx hb dX4_countEdits_19 (by decide) (fun _ => ?_) (fun c_ => absurd (by decide +kernel) c_)
  refine lv_iinc (v := 1) (lv' := [(3, .int 1), (4, .int 1), (0, .ref h0), (1, .ref h1), (2, .ref h1)]) hx hb dX4_countEdits_44 hl (k := 1) rfl (by decide +kernel) (by decide) rfl (fun ls hl => ?_)
  refine lv_goto (tgt := 2) hx hb dX4_countEdits_47 (by decide) ?_
  refine lv_iload_n hx hb dX4_countEdits_2 rfl (lv_at hl 0 rfl) ?_
  refine lv_aload_n hx hb dX4_countEdits_3 rfl (lv_at hl 3 rfl) ?_
  refine va_getN (D := (dC, dI)) (ci := 1) (v := .int 0) (C := RX1) (T := TX1) (N := 2) hx hb hts inlX1 hown hK hP 0 rfl rfl 1 (by decide) (va_Nw.use rfl (hN _ nw_5)) (fun _ h9 => h9) rfl dX4_countEdits_4 ?_
  refine lv_icmp_gt (tgt := 50) hx hb dX4_countEdits_7 (by decide) (fun _ => ?_) (fun c_ => absurd (by decide +kernel) c_)
  refine lv_aload_n hx hb dX4_countEdits_50 rfl (lv_at hl 2 rfl) ?_
  refine lv_aload_n hx hb dX4_countEdits_51 rfl (lv_at hl 3 rfl) ?_
  refine va_getN (D := (dC, dI)) (ci := 1) (v := .int 0) (C := RX1) (T := TX1) (N := 2) hx hb hts inlX1 hown hK hP 0 rfl rfl 1 (by decide) (va_Nw.use rfl (hN _ nw_5)) (fun _ h9 => h9) rfl dX4_countEdits_52 ?_
  refine lv_aload_n hx hb dX4_countEdits_55 rfl (lv_at hl 4 rfl) ?_
  refine va_getN (D := (dC, dI)) (ci := 1) (v := .int 0) (C := RX1) (T := TX1) (N := 2) hx hb hts inlX1 hown hK hP 0 rfl rfl 1 (by decide) (va_Nw.use rfl (hN _ nw_5)) (fun _ h9 => h9) rfl dX4_countEdits_56 ?_
  have hPc := hP.sub (ws' := [(h0, .inr (4, [.ref h3, .ref h4, .ref h5, .ref h6, .ref h7, .ref h7, .ref h7])), (h3, .inl (cy 0, 169, .inl (fun _ => 0)))]) [1, 2] rfl
  refine vp_callSi (W.runV (As := [.int 0, .int 0]) (rest := []) ⟨hx, hb, hml, hown, hts⟩ (kX4_read_1 l dC dI cy h0 h3 h4 h5 h6 h7) (cwV 2 hts (gdV m_1254 m_1255 m_1256 m_22 m_1257) rfl rfl rfl (by decide +kernel) ⟨Nat.le_of_ble_eq_true rfl, Nat.le_of_ble_eq_true rfl⟩) ⟨fun a U g mk q => by obtain ⟨q0, qP, qE⟩ := q; exact ⟨q0, qP, qE.call⟩, va_recv hK hP (ci := 4) (q0 := 1) rfl rfl, fun U hU hW => ⟨rfl, by rw [hU]; exact hPc, hE.moved hW⟩⟩ rfl rfl hl.1 rfl (lv_room (Nat.le_of_ble_eq_true rfl)) dX4_countEdits_59 ⟨(show 0 + 0 ≤ 0 from by decide +kernel), (show 0 + 0 ≤ 0 from by decide +kernel)⟩) (fun r_3 hw => ?_)
  subst r_3
  have hP9 := hP.sub (ws' := [(h1, .inr (1, [.ref h2, .int 0])), (h0, .inr (4, [.ref h3, .ref h4, .ref h5, .ref h6, .ref h7, .ref h7, .ref h7])), (h3, .inl (cy 0, 169, .inl (fun _ => 0)))]) [0, 1, 2] rfl
  have hD9 := hD.sub (ws' := [(h1, .inr (1, [.ref h2, .int 0])), (h0, .inr (4, [.ref h3, .ref h4, .ref h5, .ref h6, .ref h7, .ref h7, .ref h7])), (h3, .inl (cy 0, 169, .inl (fun _ => 0)))]) [0, 1, 2] (by decide) rfl
  exact W.iret (v := 0) hx hb hr (fun t ht hW => ⟨⟨0, (), rfl, rfl, by rw [ht]; exact hP9, hD9⟩, hS.F ht⟩) hS.2.2 dX4_countEdits_62
set_option maxHeartbeats 4000000 in
set_option maxRecDepth 100000 in
theorem kX11_apart_1 (l : Launch) (dC : Nat → ClassId) (dI : Nat → Nat → Nat) (cy : Nat → ClassId) (h0 h1 h2 h3 h4 h5 h6 h7 h8 h9 h10 h11 h12 h13 h14 h15 h16 h17 h18 h19 h20 h21 h22 h23 h24 h25 h26 h27 h28 : Nat) (p0 p1 : Int32) (sz : Nat) : Met l yX11_apart wmX11_apart ({ frames := 3, cells := 0, slots := 0, locals := 68 }) (va_Pc [.ref h0, .int p0, .int p1] (fun U => U.heap.size = sz ∧ va_P (dC, dI) classes [(h0, .inr (11, [.ref h1, .ref h2, .ref h3, .ref h4, .ref h5, .ref h6, .ref h7, .ref h8, .ref h9])), (h9, .inr (10, [.ref h10, .ref h11, .ref h12, .ref h13, .ref h14, .ref h15, .ref h16, .int 0, .int 0, .int 0, .int 0, .int 0])), (h2, .inr (5, [.ref h17, .ref h18, .ref h19, .ref h20, .ref h21, .int 0, .int 0])), (h17, .inr (8, [.ref h22, .int 0, .int 0])), (h22, .inr (1, [.ref h23, .int 0])), (h3, .inr (4, [.ref h24, .ref h25, .ref h26, .ref h27, .ref h28, .ref h28, .ref h28])), (h24, .inl (cy 0, 169, .inl (fun _ => 0)))] U.heap ∧ EV dC dI cy U ∧ va_D (fun _ => True) [(h0, .inr (11, [.ref h1, .ref h2, .ref h3, .ref h4, .ref h5, .ref h6, .ref h7, .ref h8, .ref h9])), (h9, .inr (10, [.ref h10, .ref h11, .ref h12, .ref h13, .ref h14, .ref h15, .ref h16, .int 0, .int 0, .int 0, .int 0, .int 0])), (h2, .inr (5, [.ref h17, .ref h18, .ref h19, .ref h20, .ref h21, .int 0, .int 0])), (h17, .inr (8, [.ref h22, .int 0, .int 0])), (h22, .inr (1, [.ref h23, .int 0])), (h3, .inr (4, [.ref h24, .ref h25, .ref h26, .ref h27, .ref h28, .ref h28, .ref h28])), (h24, .inl (cy 0, 169, .inl (fun _ => 0)))])) (va_Qi (S := Unit) (fun r_ _ => (r_ = (-1) ∧ ¬ p0 = (-1) ∧ ¬ p1 = (-1)) ∨ (r_ = (-1) ∧ ¬ p0 = (-1) ∧ p1 = (-1)) ∨ (r_ = (-1) ∧ p0 = (-1) ∧ ¬ p1 = (-1)) ∨ (r_ = 0 ∧ p0 = (-1) ∧ p1 = (-1))) (fun _ _ => True) (va_A [(h0, .inr (11, [.ref h1, .ref h2, .ref h3, .ref h4, .ref h5, .ref h6, .ref h7, .ref h8, .ref h9])), (h9, .inr (10, [.ref h10, .ref h11, .ref h12, .ref h13, .ref h14, .ref h15, .ref h16, .int 0, .int 0, .int 0, .int 0, .int 0])), (h2, .inr (5, [.ref h17, .ref h18, .ref h19, .ref h20, .ref h21, .int 0, .int 0])), (h17, .inr (8, [.ref h22, .int 0, .int 0])), (h22, .inr (1, [.ref h23, .int 0])), (h3, .inr (4, [.ref h24, .ref h25, .ref h26, .ref h27, .ref h28, .ref h28, .ref h28])), (h24, .inl (cy 0, 169, .inl (fun _ => 0)))] sz)) 0 0 (va_A [(h0, .inr (11, [.ref h1, .ref h2, .ref h3, .ref h4, .ref h5, .ref h6, .ref h7, .ref h8, .ref h9])), (h9, .inr (10, [.ref h10, .ref h11, .ref h12, .ref h13, .ref h14, .ref h15, .ref h16, .int 0, .int 0, .int 0, .int 0, .int 0])), (h2, .inr (5, [.ref h17, .ref h18, .ref h19, .ref h20, .ref h21, .int 0, .int 0])), (h17, .inr (8, [.ref h22, .int 0, .int 0])), (h22, .inr (1, [.ref h23, .int 0])), (h3, .inr (4, [.ref h24, .ref h25, .ref h26, .ref h27, .ref h28, .ref h28, .ref h28])), (h24, .inl (cy 0, 169, .inl (fun _ => 0)))] sz) := by
  refine Met.ofW (cc := cX11_apart) (maxL := 5) (ret := (some .int)) (by decide +kernel) rfl ?_
  intro p e s m args below meth c s₁ B hml hv
  obtain ⟨rfl, hsz, hP, hE, hD0⟩ := hv
  have hK := hE.1
  have hN := hE.2.1
  have hx := B.exec
  have hb := B.bytes
  have hr := B.returns
  have hts0 := atoms_spec (ws := wmX11_apart) B.pre
  have hts : ∀ w ∈ wsL_law, w.before _ s = true := fun w h => hts0 w (List.mem_cons_of_mem _ h)
  have hown : s.vm.findClass RX11 = some m.cls := findClass_of_methodNamed B.named
  have hlocks := B.notSynchronized
  subst hsz
  have hD := hD0.self (sz := s.heap.size)
  generalize hAe : va_A [(h0, .inr (11, [.ref h1, .ref h2, .ref h3, .ref h4, .ref h5, .ref h6, .ref h7, .ref h8, .ref h9])), (h9, .inr (10, [.ref h10, .ref h11, .ref h12, .ref h13, .ref h14, .ref h15, .ref h16, .int 0, .int 0, .int 0, .int 0, .int 0])), (h2, .inr (5, [.ref h17, .ref h18, .ref h19, .ref h20, .ref h21, .int 0, .int 0])), (h17, .inr (8, [.ref h22, .int 0, .int 0])), (h22, .inr (1, [.ref h23, .int 0])), (h3, .inr (4, [.ref h24, .ref h25, .ref h26, .ref h27, .ref h28, .ref h28, .ref h28])), (h24, .inl (cy 0, 169, .inl (fun _ => 0)))] s.heap.size = A at hD ⊢
  have hA : ∀ q : Nat, s.heap.size ≤ q → A q := fun q h => by rw [← hAe]; exact Or.inr h
  have hS : va_S A s.heap s.heap [] := va_S.rf
  have hP : va_P (dC, dI) classes [(h0, .inr (11, [.ref h1, .ref h2, .ref h3, .ref h4, .ref h5, .ref h6, .ref h7, .ref h8, .ref h9])), (h9, .inr (10, [.ref h10, .ref h11, .ref h12, .ref h13, .ref h14, .ref h15, .ref h16, .int 0, .int 0, .int 0, .int 0, .int 0])), (h2, .inr (5, [.ref h17, .ref h18, .ref h19, .ref h20, .ref h21, .int 0, .int 0])), (h17, .inr (8, [.ref h22, .int 0, .int 0])), (h22, .inr (1, [.ref h23, .int 0])), (h3, .inr (4, [.ref h24, .ref h25, .ref h26, .ref h27, .ref h28, .ref h28, .ref h28])), (h24, .inl (cy 0, 169, .inl (fun _ => 0)))] s.heap := hP
  have hl := lv_entry ([.ref h0, .int p0, .int p1]) (n := 5) (Nat.le_of_ble_eq_true rfl)
  rw [lg_entry_eq]
  generalize (lg_sl ([.ref h0, .int p0, .int p1]) ++ List.replicate (5 - (lg_sl ([.ref h0, .int p0, .int p1])).length) Slot.unset).toArray = ls at hl ⊢
  have hl : lv_has ls 5 [(0, .ref h0), (1, .int p0), (2, .int p1)] := hl
  refine lv_aload_n hx hb dX11_apart_0 rfl (lv_at hl 0 rfl) ?_
  refine lv_iload_n hx hb dX11_apart_1 rfl (lv_at hl 1 rfl) ?_
  have hPc := hP.sub (ws' := [(h0, .inr (11, [.ref h1, .ref h2, .ref h3, .ref h4, .ref h5, .ref h6, .ref h7, .ref h8, .ref h9])), (h9, .inr (10, [.ref h10, .ref h11, .ref h12, .ref h13, .ref h14, .ref h15, .ref h16, .int 0, .int 0, .int 0, .int 0, .int 0])), (h2, .inr (5, [.ref h17, .ref h18, .ref h19, .ref h20, .ref h21, .int 0, .int 0])), (h17, .inr (8, [.ref h22, .int 0, .int 0]))]) [0, 1, 2, 3] rfl
  refine va_csq (W.runV (As := [.int p0]) (rest := []) ⟨hx, hb, hml, hown, hts⟩ (kX11_lineOf_1 l dC dI cy h0 h1 h2 h3 h4 h5 h6 h7 h8 h9 h10 h11 h12 h13 h14 h15 h16 h17 h18 h19 h20 h21 h22 p0) (cwV 1 hts (gdV m_807 m_808 m_809 m_2 m_810) rfl rfl rfl (by decide +kernel) ⟨Nat.le_of_ble_eq_true rfl, Nat.le_of_ble_eq_true rfl⟩) ⟨fun a U g mk q => by obtain ⟨q0, qP, qE⟩ := q; exact ⟨q0, qP, qE.call⟩, va_recv hK hP (ci := 11) (q0 := 0) rfl rfl, fun U hU hW => ⟨rfl, by rw [hU]; exact hPc, hE.moved hW⟩⟩ rfl rfl hl.1 rfl (lv_room (Nat.le_of_ble_eq_true rfl)) dX11_apart_2 ⟨(show 0 + 0 ≤ 0 from by decide +kernel), (show 0 + 0 ≤ 0 from by decide +kernel)⟩) (fun r_1 hw => ?_)
  rcases hw with ⟨hr1, c_2⟩ | ⟨hr1, c_3⟩
  · subst r_1
    refine W.eq (g2 := F0 m 5 ls [.null]) rfl ?_
    refine lv_astore_nN (lv' := [(3, .null), (0, .ref h0), (1, .int p0), (2, .int p1)]) hx hb dX11_apart_5 rfl hl (by decide) rfl (fun ls hl => ?_)
    refine lv_aload_n hx hb dX11_apart_6 rfl (lv_at hl 1 rfl) ?_
    refine lv_iload_n hx hb dX11_apart_7 rfl (lv_at hl 3 rfl) ?_
    have hPc := hP.sub (ws' := [(h0, .inr (11, [.ref h1, .ref h2, .ref h3, .ref h4, .ref h5, .ref h6, .ref h7, .ref h8, .ref h9])), (h9, .inr (10, [.ref h10, .ref h11, .ref h12, .ref h13, .ref h14, .ref h15, .ref h16, .int 0, .int 0, .int 0, .int 0, .int 0])), (h2, .inr (5, [.ref h17, .ref h18, .ref h19, .ref h20, .ref h21, .int 0, .int 0])), (h17, .inr (8, [.ref h22, .int 0, .int 0]))]) [0, 1, 2, 3] rfl
    refine va_csq (W.runV (As := [.int p1]) (rest := []) ⟨hx, hb, hml, hown, hts⟩ (kX11_lineOf_1 l dC dI cy h0 h1 h2 h3 h4 h5 h6 h7 h8 h9 h10 h11 h12 h13 h14 h15 h16 h17 h18 h19 h20 h21 h22 p1) (cwV 1 hts (gdV m_807 m_808 m_809 m_2 m_810) rfl rfl rfl (by decide +kernel) ⟨Nat.le_of_ble_eq_true rfl, Nat.le_of_ble_eq_true rfl⟩) ⟨fun a U g mk q => by obtain ⟨q0, qP, qE⟩ := q; exact ⟨q0, qP, qE.call⟩, va_recv hK hP (ci := 11) (q0 := 0) rfl rfl, fun U hU hW => ⟨rfl, by rw [hU]; exact hPc, hE.moved hW⟩⟩ rfl rfl hl.1 rfl (lv_room (Nat.le_of_ble_eq_true rfl)) dX11_apart_8 ⟨(show 0 + 0 ≤ 0 from by decide +kernel), (show 0 + 0 ≤ 0 from by decide +kernel)⟩) (fun r_4 hw => ?_)
    rcases hw with ⟨hr1, c_5⟩ | ⟨hr1, c_6⟩
    · subst r_4
      refine W.eq (g2 := F0 m 11 ls [.null]) rfl ?_
      refine lv_astoreN (lv' := [(4, .null), (3, .null), (0, .ref h0), (1, .int p0), (2, .int p1)]) hx hb dX11_apart_11 hl (by decide) rfl (fun ls hl => ?_)
      refine lv_aload_nN hx hb dX11_apart_13 rfl (lv_at hl 1 rfl) ?_
      refine lv_ifnullN (tgt := 22) hx hb dX11_apart_14 (by decide) ?_
      refine lv_iconst (v := (-1)) hx hb dX11_apart_22 (by decide +kernel) ?_
      refine lv_goto (tgt := 36) hx hb dX11_apart_23 (by decide) ?_
      exact W.iret (v := (-1)) hx hb hr (fun t ht hW => ⟨⟨(-1), (), rfl, Or.inl ⟨rfl, c_2, c_5⟩, trivial⟩, hS.F ht⟩) hS.2.2 dX11_apart_36
    · subst r_4
      refine W.eq (g2 := F0 m 11 ls [.ref h22]) rfl ?_
      subst c_6
      refine lv_astore (lv' := [(4, .ref h22), (3, .null), (0, .ref h0), (1, .int p0), (2, .int (-1))]) hx hb dX11_apart_11 hl (by decide) rfl (fun ls hl => ?_)
      refine lv_aload_nN hx hb dX11_apart_13 rfl (lv_at hl 1 rfl) ?_
      refine lv_ifnullN (tgt := 22) hx hb dX11_apart_14 (by decide) ?_
      refine lv_iconst (v := (-1)) hx hb dX11_apart_22 (by decide +kernel) ?_
      refine lv_goto (tgt := 36) hx hb dX11_apart_23 (by decide) ?_
      exact W.iret (v := (-1)) hx hb hr (fun t ht hW => ⟨⟨(-1), (), rfl, Or.inr (Or.inl ⟨rfl, c_2, rfl⟩), trivial⟩, hS.F ht⟩) hS.2.2 dX11_apart_36
  · subst r_1
    refine W.eq (g2 := F0 m 5 ls [.ref h22]) rfl ?_
    subst c_3
    refine lv_astore_n (lv' := [(3, .ref h22), (0, .ref h0), (1, .int (-1)), (2, .int p1)]) hx hb dX11_apart_5 rfl hl (by decide) rfl (fun ls hl => ?_)
    refine lv_aload_n hx hb dX11_apart_6 rfl (lv_at hl 1 rfl) ?_
    refine lv_iload_n hx hb dX11_apart_7 rfl (lv_at hl 3 rfl) ?_
    have hPc := hP.sub (ws' := [(h0, .inr (11, [.ref h1, .ref h2, .ref h3, .ref h4, .ref h5, .ref h6, .ref h7, .ref h8, .ref h9])), (h9, .inr (10, [.ref h10, .ref h11, .ref h12, .ref h13, .ref h14, .ref h15, .ref h16, .int 0, .int 0, .int 0, .int 0, .int 0])), (h2, .inr (5, [.ref h17, .ref h18, .ref h19, .ref h20, .ref h21, .int 0, .int 0])), (h17, .inr (8, [.ref h22, .int 0, .int 0]))]) [0, 1, 2, 3] rfl
    refine va_csq (W.runV (As := [.int p1]) (rest := []) ⟨hx, hb, hml, hown, hts⟩ (kX11_lineOf_1 l dC dI cy h0 h1 h2 h3 h4 h5 h6 h7 h8 h9 h10 h11 h12 h13 h14 h15 h16 h17 h18 h19 h20 h21 h22 p1) (cwV 1 hts (gdV m_807 m_808 m_809 m_2 m_810) rfl rfl rfl (by decide +kernel) ⟨Nat.le_of_ble_eq_true rfl, Nat.le_of_ble_eq_true rfl⟩) ⟨fun a U g mk q => by obtain ⟨q0, qP, qE⟩ := q; exact ⟨q0, qP, qE.call⟩, va_recv hK hP (ci := 11) (q0 := 0) rfl rfl, fun U hU hW => ⟨rfl, by rw [hU]; exact hPc, hE.moved hW⟩⟩ rfl rfl hl.1 rfl (lv_room (Nat.le_of_ble_eq_true rfl)) dX11_apart_8 ⟨(show 0 + 0 ≤ 0 from by decide +kernel), (show 0 + 0 ≤ 0 from by decide +kernel)⟩) (fun r_7 hw => ?_)
    rcases hw with ⟨hr1, c_8⟩ | ⟨hr1, c_9⟩
    · subst r_7
      refine W.eq (g2 := F0 m 11 ls [.null]) rfl ?_
      refine lv_astoreN (lv' := [(4, .null), (3, .ref h22), (0, .ref h0), (1, .int (-1)), (2, .int p1)]) hx hb dX11_apart_11 hl (by decide) rfl (fun ls hl => ?_)
      refine lv_aload_n hx hb dX11_apart_13 rfl (lv_at hl 1 rfl) ?_
      refine lv_ifnull hx hb dX11_apart_14 ?_
      refine lv_aloadN hx hb dX11_apart_17 (lv_at hl 0 rfl) ?_
      refine lv_ifnonnullN hx hb dX11_apart_19 ?_
      refine lv_iconst (v := (-1)) hx hb dX11_apart_22 (by decide +kernel) ?_
      refine lv_goto (tgt := 36) hx hb dX11_apart_23 (by decide) ?_
      exact W.iret (v := (-1)) hx hb hr (fun t ht hW => ⟨⟨(-1), (), rfl, Or.inr (Or.inr (Or.inl ⟨rfl, rfl, c_8⟩)), trivial⟩, hS.F ht⟩) hS.2.2 dX11_apart_36
    · subst r_7
      refine W.eq (g2 := F0 m 11 ls [.ref h22]) rfl ?_
      subst c_9
      refine lv_astore (lv' := [(4, .ref h22), (3, .ref h22), (0, .ref h0), (1, .int (-1)), (2, .int (-1))]) hx hb dX11_apart_11 hl (by decide) rfl (fun ls hl => ?_)
      refine lv_aload_n hx hb dX11_apart_13 rfl (lv_at hl 1 rfl) ?_
      refine lv_ifnull hx hb dX11_apart_14 ?_
      refine lv_aload hx hb dX11_apart_17 (lv_at hl 0 rfl) ?_
      refine lv_ifnonnull (tgt := 26) hx hb dX11_apart_19 (by decide) ?_
      refine lv_aload_n hx hb dX11_apart_26 rfl (lv_at hl 2 rfl) ?_
      refine va_get (D := (dC, dI)) (ci := 11) (v := .ref h3) (C := RX11) (T := TX11) (N := 9) hx hb hts inlX11 hown hK hP 0 rfl rfl 2 (by decide) (hts _ m_23) (fun _ h9 => h9) rfl dX11_apart_27 ?_
      refine lv_aload_n hx hb dX11_apart_30 rfl (lv_at hl 1 rfl) ?_
      refine lv_aload hx hb dX11_apart_31 (lv_at hl 0 rfl) ?_
      have hPc := hP.sub (ws' := [(h22, .inr (1, [.ref h23, .int 0])), (h3, .inr (4, [.ref h24, .ref h25, .ref h26, .ref h27, .ref h28, .ref h28, .ref h28])), (h24, .inl (cy 0, 169, .inl (fun _ => 0)))]) [4, 5, 6] rfl
      have hDc := hD.sub (ws' := [(h22, .inr (1, [.ref h23, .int 0])), (h3, .inr (4, [.ref h24, .ref h25, .ref h26, .ref h27, .ref h28, .ref h28, .ref h28])), (h24, .inl (cy 0, 169, .inl (fun _ => 0)))]) [4, 5, 6] (by decide) rfl
      have hFc := va_free (wc := [(h22, .inr (1, [.ref h23, .int 0])), (h3, .inr (4, [.ref h24, .ref h25, .ref h26, .ref h27, .ref h28, .ref h28, .ref h28])), (h24, .inl (cy 0, 169, .inl (fun _ => 0)))]) hD hS hA [4, 5, 6] rfl
      refine va_calli (va_runV (As := [.ref h22, .ref h22]) (rest := []) ⟨hx, hb, hml, hown, hts⟩ (kX4_countEdits_1 l dC dI cy h3 h22 h23 h24 h25 h26 h27 h28 s.heap.size) (cwV 2 hts (gdV m_1385 m_1386 m_1387 m_22 m_1388) rfl rfl rfl (by decide +kernel) ⟨Nat.le_of_ble_eq_true rfl, Nat.le_of_ble_eq_true rfl⟩) ⟨fun a U g mk q => by obtain ⟨q0, q1, qP, qE, qD⟩ := q; exact ⟨q0, q1, qP, qE.call, qD⟩, va_recv hK hP (ci := 4) (q0 := 5) rfl rfl, fun U hU hW => ⟨rfl, by rw [hU], by rw [hU]; exact hPc, hE.moved hW, hDc.weaken (fun _ _ _ _ => trivial)⟩⟩ rfl rfl hl.1 rfl (lv_room (Nat.le_of_ble_eq_true rfl)) dX11_apart_33 ⟨(show 0 + 0 ≤ 0 from by decide +kernel), (show 0 + 0 ≤ 0 from by decide +kernel)⟩) hS (fun q _ h => hFc q h) hFc (fun r_10 u t H1 locs ht hvm hw hB hz1 hk1 hS => ?_)
      obtain ⟨hP1, hD1⟩ := hB
      rw [ht] at hP1
      obtain ⟨hP, hD⟩ := va_join (wr := [(h0, .inr (11, [.ref h1, .ref h2, .ref h3, .ref h4, .ref h5, .ref h6, .ref h7, .ref h8, .ref h9])), (h9, .inr (10, [.ref h10, .ref h11, .ref h12, .ref h13, .ref h14, .ref h15, .ref h16, .int 0, .int 0, .int 0, .int 0, .int 0])), (h2, .inr (5, [.ref h17, .ref h18, .ref h19, .ref h20, .ref h21, .int 0, .int 0])), (h17, .inr (8, [.ref h22, .int 0, .int 0]))]) (w1 := [(h22, .inr (1, [.ref h23, .int 0])), (h3, .inr (4, [.ref h24, .ref h25, .ref h26, .ref h27, .ref h28, .ref h28, .ref h28])), (h24, .inl (cy 0, 169, .inl (fun _ => 0)))]) hP hD [4, 5, 6] [0, 1, 2, 3] rfl rfl (by decide) (by decide) hk1 hFc hP1 hD1
      generalize H1 = H at hP hS ⊢
      have hP : va_P (dC, dI) classes [(h0, .inr (11, [.ref h1, .ref h2, .ref h3, .ref h4, .ref h5, .ref h6, .ref h7, .ref h8, .ref h9])), (h9, .inr (10, [.ref h10, .ref h11, .ref h12, .ref h13, .ref h14, .ref h15, .ref h16, .int 0, .int 0, .int 0, .int 0, .int 0])), (h2, .inr (5, [.ref h17, .ref h18, .ref h19, .ref h20, .ref h21, .int 0, .int 0])), (h17, .inr (8, [.ref h22, .int 0, .int 0])), (h22, .inr (1, [.ref h23, .int 0])), (h3, .inr (4, [.ref h24, .ref h25, .ref h26, .ref h27, .ref h28, .ref h28, .ref h28])), (h24, .inl (cy 0, 169, .inl (fun _ => 0)))] H := hP
      have hD : va_D A [(h0, .inr (11, [.ref h1, .ref h2, .ref h3, .ref h4, .ref h5, .ref h6, .ref h7, .ref h8, .ref h9])), (h9, .inr (10, [.ref h10, .ref h11, .ref h12, .ref h13, .ref h14, .ref h15, .ref h16, .int 0, .int 0, .int 0, .int 0, .int 0])), (h2, .inr (5, [.ref h17, .ref h18, .ref h19, .ref h20, .ref h21, .int 0, .int 0])), (h17, .inr (8, [.ref h22, .int 0, .int 0])), (h22, .inr (1, [.ref h23, .int 0])), (h3, .inr (4, [.ref h24, .ref h25, .ref h26, .ref h27, .ref h28, .ref h28, .ref h28])), (h24, .inl (cy 0, 169, .inl (fun _ => 0)))] := hD
      refine W.widen (k := 0) (n := 0) (by decide +kernel) (by decide +kernel) ?_
      subst r_10
      exact W.iret (v := 0) hx hb hr (fun t ht hW => ⟨⟨0, (), rfl, Or.inr (Or.inr (Or.inr (⟨rfl, rfl, rfl⟩))), trivial⟩, hS.F ht⟩) hS.2.2 dX11_apart_36
set_option maxHeartbeats 4000000 in
set_option maxRecDepth 100000 in
theorem kX12_apart_1 (l : Launch) (dC : Nat → ClassId) (dI : Nat → Nat → Nat) (cy : Nat → ClassId) (h0 : Nat) (r : Nat → Nat) (p0 p1 : Int32) (sz : Nat) : Met l yX12_apart wmX12_apart ({ frames := 3, cells := 0, slots := 0, locals := 64 }) (va_Pc [.ref h0, .int p0, .int p1] (fun U => U.heap.size = sz ∧ va_P (dC, dI) classes [(h0, .inr (12, [.ref (r 0), .ref (r 1), .int 0, .int 0, .int 0, .int (-1), .int 0, .int 0, .int 0, .int 0, .long 0, .ref (r 11), .ref (r 12), .ref (r 13), .ref (r 14), .ref (r 15), .ref (r 16), .ref (r 17), .ref (r 18), .ref (r 19), .ref (r 20), .ref (r 21), .ref (r 22), .ref (r 23), .ref (r 24), .ref (r 25), .ref (r 26), .ref (r 27), .ref (r 28), .ref (r 29), .ref (r 30), .ref (r 31), .ref (r 32), .ref (r 33), .int 0, .int 0, .int 0, .int 0, .int 0, .int 0, .int 0, .ref (r 41), .ref (r 42), .ref (r 43), .ref (r 44), .int 0, .int 0, .int 0, .ref (r 48), .int 0, .int 0, .ref (r 51), .ref (r 52), .ref (r 53), .ref (r 54), .int 0, .ref (r 56), .ref (r 57), .ref (r 58), .int 0, .ref (r 60), .ref (r 61), .ref (r 62), .ref (r 63), .ref (r 64), .ref (r 65), .ref (r 66), .ref (r 67), .ref (r 68), .int 0, .int 0, .int 0, .ref (r 72), .ref (r 73)])), (r 13, .inl (cy 0, 2, .inl (fun _ => 0))), (r 41, .inl (cy 0, 15, .inl (fun _ => 0))), (r 57, .inl (cy 0, 169, .inl (fun _ => 0)))] U.heap ∧ EV dC dI cy U ∧ va_D (fun _ => True) [(h0, .inr (12, [.ref (r 0), .ref (r 1), .int 0, .int 0, .int 0, .int (-1), .int 0, .int 0, .int 0, .int 0, .long 0, .ref (r 11), .ref (r 12), .ref (r 13), .ref (r 14), .ref (r 15), .ref (r 16), .ref (r 17), .ref (r 18), .ref (r 19), .ref (r 20), .ref (r 21), .ref (r 22), .ref (r 23), .ref (r 24), .ref (r 25), .ref (r 26), .ref (r 27), .ref (r 28), .ref (r 29), .ref (r 30), .ref (r 31), .ref (r 32), .ref (r 33), .int 0, .int 0, .int 0, .int 0, .int 0, .int 0, .int 0, .ref (r 41), .ref (r 42), .ref (r 43), .ref (r 44), .int 0, .int 0, .int 0, .ref (r 48), .int 0, .int 0, .ref (r 51), .ref (r 52), .ref (r 53), .ref (r 54), .int 0, .ref (r 56), .ref (r 57), .ref (r 58), .int 0, .ref (r 60), .ref (r 61), .ref (r 62), .ref (r 63), .ref (r 64), .ref (r 65), .ref (r 66), .ref (r 67), .ref (r 68), .int 0, .int 0, .int 0, .ref (r 72), .ref (r 73)])), (r 13, .inl (cy 0, 2, .inl (fun _ => 0))), (r 41, .inl (cy 0, 15, .inl (fun _ => 0))), (r 57, .inl (cy 0, 169, .inl (fun _ => 0)))])) (va_Qi (S := Unit) (fun r_ _ => (r_ = 0 ∧ p0 = (-1) ∧ p1 = (-1)) ∨ (r_ = (-1) ∧ p0 = (-1) ∧ ¬ p1 = (-1)) ∨ (r_ = (-1) ∧ ¬ p0 = (-1))) (fun _ _ => True) (va_A [(h0, .inr (12, [.ref (r 0), .ref (r 1), .int 0, .int 0, .int 0, .int (-1), .int 0, .int 0, .int 0, .int 0, .long 0, .ref (r 11), .ref (r 12), .ref (r 13), .ref (r 14), .ref (r 15), .ref (r 16), .ref (r 17), .ref (r 18), .ref (r 19), .ref (r 20), .ref (r 21), .ref (r 22), .ref (r 23), .ref (r 24), .ref (r 25), .ref (r 26), .ref (r 27), .ref (r 28), .ref (r 29), .ref (r 30), .ref (r 31), .ref (r 32), .ref (r 33), .int 0, .int 0, .int 0, .int 0, .int 0, .int 0, .int 0, .ref (r 41), .ref (r 42), .ref (r 43), .ref (r 44), .int 0, .int 0, .int 0, .ref (r 48), .int 0, .int 0, .ref (r 51), .ref (r 52), .ref (r 53), .ref (r 54), .int 0, .ref (r 56), .ref (r 57), .ref (r 58), .int 0, .ref (r 60), .ref (r 61), .ref (r 62), .ref (r 63), .ref (r 64), .ref (r 65), .ref (r 66), .ref (r 67), .ref (r 68), .int 0, .int 0, .int 0, .ref (r 72), .ref (r 73)])), (r 13, .inl (cy 0, 2, .inl (fun _ => 0))), (r 41, .inl (cy 0, 15, .inl (fun _ => 0))), (r 57, .inl (cy 0, 169, .inl (fun _ => 0)))] sz)) 0 0 (va_A [(h0, .inr (12, [.ref (r 0), .ref (r 1), .int 0, .int 0, .int 0, .int (-1), .int 0, .int 0, .int 0, .int 0, .long 0, .ref (r 11), .ref (r 12), .ref (r 13), .ref (r 14), .ref (r 15), .ref (r 16), .ref (r 17), .ref (r 18), .ref (r 19), .ref (r 20), .ref (r 21), .ref (r 22), .ref (r 23), .ref (r 24), .ref (r 25), .ref (r 26), .ref (r 27), .ref (r 28), .ref (r 29), .ref (r 30), .ref (r 31), .ref (r 32), .ref (r 33), .int 0, .int 0, .int 0, .int 0, .int 0, .int 0, .int 0, .ref (r 41), .ref (r 42), .ref (r 43), .ref (r 44), .int 0, .int 0, .int 0, .ref (r 48), .int 0, .int 0, .ref (r 51), .ref (r 52), .ref (r 53), .ref (r 54), .int 0, .ref (r 56), .ref (r 57), .ref (r 58), .int 0, .ref (r 60), .ref (r 61), .ref (r 62), .ref (r 63), .ref (r 64), .ref (r 65), .ref (r 66), .ref (r 67), .ref (r 68), .int 0, .int 0, .int 0, .ref (r 72), .ref (r 73)])), (r 13, .inl (cy 0, 2, .inl (fun _ => 0))), (r 41, .inl (cy 0, 15, .inl (fun _ => 0))), (r 57, .inl (cy 0, 169, .inl (fun _ => 0)))] sz) := by
  refine Met.ofW (cc := cX12_apart) (maxL := 9) (ret := (some .int)) (by decide +kernel) rfl ?_
  intro p e s m args below meth c s₁ B hml hv
  obtain ⟨rfl, hsz, hP, hE, hD0⟩ := hv
  have hK := hE.1
  have hN := hE.2.1
  have hx := B.exec
  have hb := B.bytes
  have hr := B.returns
  have hts0 := atoms_spec (ws := wmX12_apart) B.pre
  have hts : ∀ w ∈ wsL_law, w.before _ s = true := fun w h => hts0 w (List.mem_cons_of_mem _ h)
  have hown : s.vm.findClass RX12 = some m.cls := findClass_of_methodNamed B.named
  have hlocks := B.notSynchronized
  subst hsz
  have hD := hD0.self (sz := s.heap.size)
  generalize hAe : va_A [(h0, .inr (12, [.ref (r 0), .ref (r 1), .int 0, .int 0, .int 0, .int (-1), .int 0, .int 0, .int 0, .int 0, .long 0, .ref (r 11), .ref (r 12), .ref (r 13), .ref (r 14), .ref (r 15), .ref (r 16), .ref (r 17), .ref (r 18), .ref (r 19), .ref (r 20), .ref (r 21), .ref (r 22), .ref (r 23), .ref (r 24), .ref (r 25), .ref (r 26), .ref (r 27), .ref (r 28), .ref (r 29), .ref (r 30), .ref (r 31), .ref (r 32), .ref (r 33), .int 0, .int 0, .int 0, .int 0, .int 0, .int 0, .int 0, .ref (r 41), .ref (r 42), .ref (r 43), .ref (r 44), .int 0, .int 0, .int 0, .ref (r 48), .int 0, .int 0, .ref (r 51), .ref (r 52), .ref (r 53), .ref (r 54), .int 0, .ref (r 56), .ref (r 57), .ref (r 58), .int 0, .ref (r 60), .ref (r 61), .ref (r 62), .ref (r 63), .ref (r 64), .ref (r 65), .ref (r 66), .ref (r 67), .ref (r 68), .int 0, .int 0, .int 0, .ref (r 72), .ref (r 73)])), (r 13, .inl (cy 0, 2, .inl (fun _ => 0))), (r 41, .inl (cy 0, 15, .inl (fun _ => 0))), (r 57, .inl (cy 0, 169, .inl (fun _ => 0)))] s.heap.size = A at hD ⊢
  have hA : ∀ q : Nat, s.heap.size ≤ q → A q := fun q h => by rw [← hAe]; exact Or.inr h
  have hS : va_S A s.heap s.heap [] := va_S.rf
  have hP : va_P (dC, dI) classes [(h0, .inr (12, [.ref (r 0), .ref (r 1), .int 0, .int 0, .int 0, .int (-1), .int 0, .int 0, .int 0, .int 0, .long 0, .ref (r 11), .ref (r 12), .ref (r 13), .ref (r 14), .ref (r 15), .ref (r 16), .ref (r 17), .ref (r 18), .ref (r 19), .ref (r 20), .ref (r 21), .ref (r 22), .ref (r 23), .ref (r 24), .ref (r 25), .ref (r 26), .ref (r 27), .ref (r 28), .ref (r 29), .ref (r 30), .ref (r 31), .ref (r 32), .ref (r 33), .int 0, .int 0, .int 0, .int 0, .int 0, .int 0, .int 0, .ref (r 41), .ref (r 42), .ref (r 43), .ref (r 44), .int 0, .int 0, .int 0, .ref (r 48), .int 0, .int 0, .ref (r 51), .ref (r 52), .ref (r 53), .ref (r 54), .int 0, .ref (r 56), .ref (r 57), .ref (r 58), .int 0, .ref (r 60), .ref (r 61), .ref (r 62), .ref (r 63), .ref (r 64), .ref (r 65), .ref (r 66), .ref (r 67), .ref (r 68), .int 0, .int 0, .int 0, .ref (r 72), .ref (r 73)])), (r 13, .inl (cy 0, 2, .inl (fun _ => 0))), (r 41, .inl (cy 0, 15, .inl (fun _ => 0))), (r 57, .inl (cy 0, 169, .inl (fun _ => 0)))] s.heap := hP
  have hl := lv_entry ([.ref h0, .int p0, .int p1]) (n := 9) (Nat.le_of_ble_eq_true rfl)
  rw [lg_entry_eq]
  generalize (lg_sl ([.ref h0, .int p0, .int p1]) ++ List.replicate (9 - (lg_sl ([.ref h0, .int p0, .int p1])).length) Slot.unset).toArray = ls at hl ⊢
  have hl : lv_has ls 9 [(0, .ref h0), (1, .int p0), (2, .int p1)] := hl
  refine lv_aload_n hx hb dX12_apart_0 rfl (lv_at hl 0 rfl) ?_
  refine lv_iload_n hx hb dX12_apart_1 rfl (lv_at hl 1 rfl) ?_
  have hPc := hP.sub (ws' := [(h0, .inr (12, [.ref (r 0), .ref (r 1), .int 0, .int 0, .int 0, .int (-1), .int 0, .int 0, .int 0, .int 0, .long 0, .ref (r 11), .ref (r 12), .ref (r 13), .ref (r 14), .ref (r 15), .ref (r 16), .ref (r 17), .ref (r 18), .ref (r 19), .ref (r 20), .ref (r 21), .ref (r 22), .ref (r 23), .ref (r 24), .ref (r 25), .ref (r 26), .ref (r 27), .ref (r 28), .ref (r 29), .ref (r 30), .ref (r 31), .ref (r 32), .ref (r 33), .int 0, .int 0, .int 0, .int 0, .int 0, .int 0, .int 0, .ref (r 41), .ref (r 42), .ref (r 43), .ref (r 44), .int 0, .int 0, .int 0, .ref (r 48), .int 0, .int 0, .ref (r 51), .ref (r 52), .ref (r 53), .ref (r 54), .int 0, .ref (r 56), .ref (r 57), .ref (r 58), .int 0, .ref (r 60), .ref (r 61), .ref (r 62), .ref (r 63), .ref (r 64), .ref (r 65), .ref (r 66), .ref (r 67), .ref (r 68), .int 0, .int 0, .int 0, .ref (r 72), .ref (r 73)])), (r 13, .inl (cy 0, 2, .inl (fun _ => 0)))]) [0, 1] rfl
  refine vp_callSi (W.runV (As := [.int p0]) (rest := []) ⟨hx, hb, hml, hown, hts⟩ (kX12_isSlipOrRow_1 l dC dI cy h0 r p0) (cwV 1 hts (gdV m_815 m_816 m_817 m_5 m_818) rfl rfl rfl (by decide +kernel) ⟨Nat.le_of_ble_eq_true rfl, Nat.le_of_ble_eq_true rfl⟩) ⟨fun a U g mk q => by obtain ⟨q0, qP, qE⟩ := q; exact ⟨q0, qP, qE.call⟩, va_recv hK hP (ci := 12) (q0 := 0) rfl rfl, fun U hU hW => ⟨rfl, by rw [hU]; exact hPc, hE.moved hW⟩⟩ rfl rfl hl.1 rfl (lv_room (Nat.le_of_ble_eq_true rfl)) dX12_apart_2 ⟨(show 0 + 0 ≤ 0 from by decide +kernel), (show 0 + 0 ≤ 0 from by decide +kernel)⟩) (fun r_1 hw => ?_)
  rcases hw with ⟨hr1, c_2⟩ | ⟨hr1, c_3⟩
  · subst r_1
    subst c_2
    refine lv_if_eq (tgt := 16) hx hb dX12_apart_5 (by decide) (fun c_ => absurd c_ (by decide +kernel)) (fun _ => ?_)
    refine lv_aload_n hx hb dX12_apart_8 rfl (lv_at hl 0 rfl) ?_
    refine lv_iload_n hx hb dX12_apart_9 rfl (lv_at hl 2 rfl) ?_
    have hPc := hP.sub (ws' := [(h0, .inr (12, [.ref (r 0), .ref (r 1), .int 0, .int 0, .int 0, .int (-1), .int 0, .int 0, .int 0, .int 0, .long 0, .ref (r 11), .ref (r 12), .ref (r 13), .ref (r 14), .ref (r 15), .ref (r 16), .ref (r 17), .ref (r 18), .ref (r 19), .ref (r 20), .ref (r 21), .ref (r 22), .ref (r 23), .ref (r 24), .ref (r 25), .ref (r 26), .ref (r 27), .ref (r 28), .ref (r 29), .ref (r 30), .ref (r 31), .ref (r 32), .ref (r 33), .int 0, .int 0, .int 0, .int 0, .int 0, .int 0, .int 0, .ref (r 41), .ref (r 42), .ref (r 43), .ref (r 44), .int 0, .int 0, .int 0, .ref (r 48), .int 0, .int 0, .ref (r 51), .ref (r 52), .ref (r 53), .ref (r 54), .int 0, .ref (r 56), .ref (r 57), .ref (r 58), .int 0, .ref (r 60), .ref (r 61), .ref (r 62), .ref (r 63), .ref (r 64), .ref (r 65), .ref (r 66), .ref (r 67), .ref (r 68), .int 0, .int 0, .int 0, .ref (r 72), .ref (r 73)])), (r 13, .inl (cy 0, 2, .inl (fun _ => 0)))]) [0, 1] rfl
    refine vp_callSi (W.runV (As := [.int p1]) (rest := []) ⟨hx, hb, hml, hown, hts⟩ (kX12_isSlipOrRow_1 l dC dI cy h0 r p1) (cwV 1 hts (gdV m_815 m_816 m_817 m_5 m_818) rfl rfl rfl (by decide +kernel) ⟨Nat.le_of_ble_eq_true rfl, Nat.le_of_ble_eq_true rfl⟩) ⟨fun a U g mk q => by obtain ⟨q0, qP, qE⟩ := q; exact ⟨q0, qP, qE.call⟩, va_recv hK hP (ci := 12) (q0 := 0) rfl rfl, fun U hU hW => ⟨rfl, by rw [hU]; exact hPc, hE.moved hW⟩⟩ rfl rfl hl.1 rfl (lv_room (Nat.le_of_ble_eq_true rfl)) dX12_apart_10 ⟨(show 0 + 0 ≤ 0 from by decide +kernel), (show 0 + 0 ≤ 0 from by decide +kernel)⟩) (fun r_4 hw => ?_)
    rcases hw with ⟨hr1, c_5⟩ | ⟨hr1, c_6⟩
    · subst r_4
      subst c_5
      refine lv_if_ne (tgt := 18) hx hb dX12_apart_13 (by decide) (fun _ => ?_) (fun c_ => absurd c_ (by decide +kernel))
      refine lv_aload_n hx hb dX12_apart_18 rfl (lv_at hl 0 rfl) ?_
      refine lv_iload_n hx hb dX12_apart_19 rfl (lv_at hl 1 rfl) ?_
      have hPc := hP.sub (ws' := [(h0, .inr (12, [.ref (r 0), .ref (r 1), .int 0, .int 0, .int 0, .int (-1), .int 0, .int 0, .int 0, .int 0, .long 0, .ref (r 11), .ref (r 12), .ref (r 13), .ref (r 14), .ref (r 15), .ref (r 16), .ref (r 17), .ref (r 18), .ref (r 19), .ref (r 20), .ref (r 21), .ref (r 22), .ref (r 23), .ref (r 24), .ref (r 25), .ref (r 26), .ref (r 27), .ref (r 28), .ref (r 29), .ref (r 30), .ref (r 31), .ref (r 32), .ref (r 33), .int 0, .int 0, .int 0, .int 0, .int 0, .int 0, .int 0, .ref (r 41), .ref (r 42), .ref (r 43), .ref (r 44), .int 0, .int 0, .int 0, .ref (r 48), .int 0, .int 0, .ref (r 51), .ref (r 52), .ref (r 53), .ref (r 54), .int 0, .ref (r 56), .ref (r 57), .ref (r 58), .int 0, .ref (r 60), .ref (r 61), .ref (r 62), .ref (r 63), .ref (r 64), .ref (r 65), .ref (r 66), .ref (r 67), .ref (r 68), .int 0, .int 0, .int 0, .ref (r 72), .ref (r 73)])), (r 41, .inl (cy 0, 15, .inl (fun _ => 0)))]) [0, 2] rfl
      have hDc := hD.sub (ws' := [(h0, .inr (12, [.ref (r 0), .ref (r 1), .int 0, .int 0, .int 0, .int (-1), .int 0, .int 0, .int 0, .int 0, .long 0, .ref (r 11), .ref (r 12), .ref (r 13), .ref (r 14), .ref (r 15), .ref (r 16), .ref (r 17), .ref (r 18), .ref (r 19), .ref (r 20), .ref (r 21), .ref (r 22), .ref (r 23), .ref (r 24), .ref (r 25), .ref (r 26), .ref (r 27), .ref (r 28), .ref (r 29), .ref (r 30), .ref (r 31), .ref (r 32), .ref (r 33), .int 0, .int 0, .int 0, .int 0, .int 0, .int 0, .int 0, .ref (r 41), .ref (r 42), .ref (r 43), .ref (r 44), .int 0, .int 0, .int 0, .ref (r 48), .int 0, .int 0, .ref (r 51), .ref (r 52), .ref (r 53), .ref (r 54), .int 0, .ref (r 56), .ref (r 57), .ref (r 58), .int 0, .ref (r 60), .ref (r 61), .ref (r 62), .ref (r 63), .ref (r 64), .ref (r 65), .ref (r 66), .ref (r 67), .ref (r 68), .int 0, .int 0, .int 0, .ref (r 72), .ref (r 73)])), (r 41, .inl (cy 0, 15, .inl (fun _ => 0)))]) [0, 2] (by decide) rfl
      have hFc := va_free (wc := [(h0, .inr (12, [.ref (r 0), .ref (r 1), .int 0, .int 0, .int 0, .int (-1), .int 0, .int 0, .int 0, .int 0, .long 0, .ref (r 11), .ref (r 12), .ref (r 13), .ref (r 14), .ref (r 15), .ref (r 16), .ref (r 17), .ref (r 18), .ref (r 19), .ref (r 20), .ref (r 21), .ref (r 22), .ref (r 23), .ref (r 24), .ref (r 25), .ref (r 26), .ref (r 27), .ref (r 28), .ref (r 29), .ref (r 30), .ref (r 31), .ref (r 32), .ref (r 33), .int 0, .int 0, .int 0, .int 0, .int 0, .int 0, .int 0, .ref (r 41), .ref (r 42), .ref (r 43), .ref (r 44), .int 0, .int 0, .int 0, .ref (r 48), .int 0, .int 0, .ref (r 51), .ref (r 52), .ref (r 53), .ref (r 54), .int 0, .ref (r 56), .ref (r 57), .ref (r 58), .int 0, .ref (r 60), .ref (r 61), .ref (r 62), .ref (r 63), .ref (r 64), .ref (r 65), .ref (r 66), .ref (r 67), .ref (r 68), .int 0, .int 0, .int 0, .ref (r 72), .ref (r 73)])), (r 41, .inl (cy 0, 15, .inl (fun _ => 0)))]) hD hS hA [0, 2] rfl
      refine va_callv (va_runV (As := [.int (-1)]) (rest := []) ⟨hx, hb, hml, hown, hts⟩ (kX12_layOne_1 l dC dI cy h0 r s.heap.size) (cwV 1 hts (gdV m_869 m_870 m_871 m_5 m_872) rfl rfl rfl (by decide +kernel) ⟨Nat.le_of_ble_eq_true rfl, Nat.le_of_ble_eq_true rfl⟩) ⟨fun a U g mk q => by obtain ⟨q0, q1, qP, qE, qD⟩ := q; exact ⟨q0, q1, qP, qE.call, qD⟩, va_recv hK hP (ci := 12) (q0 := 0) rfl rfl, fun U hU hW => ⟨rfl, by rw [hU], by rw [hU]; exact hPc, hE.moved hW, hDc.weaken (fun _ _ _ _ => trivial)⟩⟩ rfl rfl hl.1 rfl (lv_room (Nat.le_of_ble_eq_true rfl)) dX12_apart_20 ⟨(show 0 + 0 ≤ 0 from by decide +kernel), (show 0 + 0 ≤ 0 from by decide +kernel)⟩) hS (fun q _ h => hFc q h) hFc (fun u t H1 locs ht hvm hw hB hz1 hk1 hS => ?_)
      obtain ⟨hP1, hD1⟩ := hB
      rw [ht] at hP1
      obtain ⟨hP, hD⟩ := va_join (wr := [(r 13, .inl (cy 0, 2, .inl (fun _ => 0))), (r 57, .inl (cy 0, 169, .inl (fun _ => 0)))]) (w1 := [(h0, .inr (12, [.ref (r 0), .ref (r 1), .int 0, .int 0, .int 0, .int (-1), .int 0, .int 0, .int 0, .int 0, .long 0, .ref (r 11), .ref (r 12), .ref (r 13), .ref (r 14), .ref (r 15), .ref (r 16), .ref (r 17), .ref (r 18), .ref (r 19), .ref (r 20), .ref (r 21), .ref (r 22), .ref (r 23), .ref (r 24), .ref (r 25), .ref (r 26), .ref (r 27), .ref (r 28), .ref (r 29), .ref (r 30), .ref (r 31), .ref (r 32), .ref (r 33), .int 0, .int 0, .int 0, .int 0, .int 0, .int 0, .int 0, .ref (r 41), .ref (r 42), .ref (r 43), .ref (r 44), .int 0, .int 0, .int 0, .ref (r 48), .int 0, .int 0, .ref (r 51), .ref (r 52), .ref (r 53), .ref (r 54), .int 0, .ref (r 56), .ref (r 57), .ref (r 58), .int 0, .ref (r 60), .ref (r 61), .ref (r 62), .ref (r 63), .ref (r 64), .ref (r 65), .ref (r 66), .ref (r 67), .ref (r 68), .int 0, .int 0, .int 0, .ref (r 72), .ref (r 73)])), (r 41, .inl (cy 0, 15, .inl (fun _ => 0)))]) hP hD [0, 2] [1, 3] rfl rfl (by decide) (by decide) hk1 hFc hP1 hD1
      generalize H1 = H at hP hS ⊢
      have hP : va_P (dC, dI) classes [(r 13, .inl (cy 0, 2, .inl (fun _ => 0))), (r 57, .inl (cy 0, 169, .inl (fun _ => 0))), (h0, .inr (12, [.ref (r 0), .ref (r 1), .int 0, .int 0, .int 0, .int (-1), .int 0, .int 0, .int 0, .int 0, .long 0, .ref (r 11), .ref (r 12), .ref (r 13), .ref (r 14), .ref (r 15), .ref (r 16), .ref (r 17), .ref (r 18), .ref (r 19), .ref (r 20), .ref (r 21), .ref (r 22), .ref (r 23), .ref (r 24), .ref (r 25), .ref (r 26), .ref (r 27), .ref (r 28), .ref (r 29), .ref (r 30), .ref (r 31), .ref (r 32), .ref (r 33), .int 0, .int 0, .int 0, .int 0, .int 0, .int 0, .int 0, .ref (r 41), .ref (r 42), .ref (r 43), .ref (r 44), .int 0, .int 0, .int 0, .ref (r 48), .int 0, .int 0, .ref (r 51), .ref (r 52), .ref (r 53), .ref (r 54), .int 0, .ref (r 56), .ref (r 57), .ref (r 58), .int 0, .ref (r 60), .ref (r 61), .ref (r 62), .ref (r 63), .ref (r 64), .ref (r 65), .ref (r 66), .ref (r 67), .ref (r 68), .int 0, .int 0, .int 0, .ref (r 72), .ref (r 73)])), (r 41, .inl (cy 0, 15, .inl (fun _ => 0)))] H := hP
      have hD : va_D A [(r 13, .inl (cy 0, 2, .inl (fun _ => 0))), (r 57, .inl (cy 0, 169, .inl (fun _ => 0))), (h0, .inr (12, [.ref (r 0), .ref (r 1), .int 0, .int 0, .int 0, .int (-1), .int 0, .int 0, .int 0, .int 0, .long 0, .ref (r 11), .ref (r 12), .ref (r 13), .ref (r 14), .ref (r 15), .ref (r 16), .ref (r 17), .ref (r 18), .ref (r 19), .ref (r 20), .ref (r 21), .ref (r 22), .ref (r 23), .ref (r 24), .ref (r 25), .ref (r 26), .ref (r 27), .ref (r 28), .ref (r 29), .ref (r 30), .ref (r 31), .ref (r 32), .ref (r 33), .int 0, .int 0, .int 0, .int 0, .int 0, .int 0, .int 0, .ref (r 41), .ref (r 42), .ref (r 43), .ref (r 44), .int 0, .int 0, .int 0, .ref (r 48), .int 0, .int 0, .ref (r 51), .ref (r 52), .ref (r 53), .ref (r 54), .int 0, .ref (r 56), .ref (r 57), .ref (r 58), .int 0, .ref (r 60), .ref (r 61), .ref (r 62), .ref (r 63), .ref (r 64), .ref (r 65), .ref (r 66), .ref (r 67), .ref (r 68), .int 0, .int 0, .int 0, .ref (r 72), .ref (r 73)])), (r 41, .inl (cy 0, 15, .inl (fun _ => 0)))] := hD
      refine W.widen (k := 0) (n := 0) (by decide +kernel) (by decide +kernel) ?_
      refine lv_aload_n hx hb dX12_apart_23 rfl (lv_at hl 0 rfl) ?_
      refine lv_iload_n hx hb dX12_apart_24 rfl (lv_at hl 2 rfl) ?_
      have hPc := hP.sub (ws' := [(h0, .inr (12, [.ref (r 0), .ref (r 1), .int 0, .int 0, .int 0, .int (-1), .int 0, .int 0, .int 0, .int 0, .long 0, .ref (r 11), .ref (r 12), .ref (r 13), .ref (r 14), .ref (r 15), .ref (r 16), .ref (r 17), .ref (r 18), .ref (r 19), .ref (r 20), .ref (r 21), .ref (r 22), .ref (r 23), .ref (r 24), .ref (r 25), .ref (r 26), .ref (r 27), .ref (r 28), .ref (r 29), .ref (r 30), .ref (r 31), .ref (r 32), .ref (r 33), .int 0, .int 0, .int 0, .int 0, .int 0, .int 0, .int 0, .ref (r 41), .ref (r 42), .ref (r 43), .ref (r 44), .int 0, .int 0, .int 0, .ref (r 48), .int 0, .int 0, .ref (r 51), .ref (r 52), .ref (r 53), .ref (r 54), .int 0, .ref (r 56), .ref (r 57), .ref (r 58), .int 0, .ref (r 60), .ref (r 61), .ref (r 62), .ref (r 63), .ref (r 64), .ref (r 65), .ref (r 66), .ref (r 67), .ref (r 68), .int 0, .int 0, .int 0, .ref (r 72), .ref (r 73)])), (r 41, .inl (cy 0, 15, .inl (fun _ => 0)))]) [2, 3] rfl
      have hDc := hD.sub (ws' := [(h0, .inr (12, [.ref (r 0), .ref (r 1), .int 0, .int 0, .int 0, .int (-1), .int 0, .int 0, .int 0, .int 0, .long 0, .ref (r 11), .ref (r 12), .ref (r 13), .ref (r 14), .ref (r 15), .ref (r 16), .ref (r 17), .ref (r 18), .ref (r 19), .ref (r 20), .ref (r 21), .ref (r 22), .ref (r 23), .ref (r 24), .ref (r 25), .ref (r 26), .ref (r 27), .ref (r 28), .ref (r 29), .ref (r 30), .ref (r 31), .ref (r 32), .ref (r 33), .int 0, .int 0, .int 0, .int 0, .int 0, .int 0, .int 0, .ref (r 41), .ref (r 42), .ref (r 43), .ref (r 44), .int 0, .int 0, .int 0, .ref (r 48), .int 0, .int 0, .ref (r 51), .ref (r 52), .ref (r 53), .ref (r 54), .int 0, .ref (r 56), .ref (r 57), .ref (r 58), .int 0, .ref (r 60), .ref (r 61), .ref (r 62), .ref (r 63), .ref (r 64), .ref (r 65), .ref (r 66), .ref (r 67), .ref (r 68), .int 0, .int 0, .int 0, .ref (r 72), .ref (r 73)])), (r 41, .inl (cy 0, 15, .inl (fun _ => 0)))]) [2, 3] (by decide) rfl
      have hFc := va_free (wc := [(h0, .inr (12, [.ref (r 0), .ref (r 1), .int 0, .int 0, .int 0, .int (-1), .int 0, .int 0, .int 0, .int 0, .long 0, .ref (r 11), .ref (r 12), .ref (r 13), .ref (r 14), .ref (r 15), .ref (r 16), .ref (r 17), .ref (r 18), .ref (r 19), .ref (r 20), .ref (r 21), .ref (r 22), .ref (r 23), .ref (r 24), .ref (r 25), .ref (r 26), .ref (r 27), .ref (r 28), .ref (r 29), .ref (r 30), .ref (r 31), .ref (r 32), .ref (r 33), .int 0, .int 0, .int 0, .int 0, .int 0, .int 0, .int 0, .ref (r 41), .ref (r 42), .ref (r 43), .ref (r 44), .int 0, .int 0, .int 0, .ref (r 48), .int 0, .int 0, .ref (r 51), .ref (r 52), .ref (r 53), .ref (r 54), .int 0, .ref (r 56), .ref (r 57), .ref (r 58), .int 0, .ref (r 60), .ref (r 61), .ref (r 62), .ref (r 63), .ref (r 64), .ref (r 65), .ref (r 66), .ref (r 67), .ref (r 68), .int 0, .int 0, .int 0, .ref (r 72), .ref (r 73)])), (r 41, .inl (cy 0, 15, .inl (fun _ => 0)))]) hD hS hA [2, 3] rfl
      refine va_callv (va_runV (As := [.int (-1)]) (rest := []) ⟨hx, hb, hml, hown, hts⟩ (kX12_layTwo_1 l dC dI cy h0 r H.size) (cwV 1 hts (gdV m_1113 m_1114 m_1115 m_5 m_1116) rfl rfl rfl (by decide +kernel) ⟨Nat.le_of_ble_eq_true rfl, Nat.le_of_ble_eq_true rfl⟩) ⟨fun a U g mk q => by obtain ⟨q0, q1, qP, qE, qD⟩ := q; exact ⟨q0, q1, qP, qE.call, qD⟩, va_recv hK hP (ci := 12) (q0 := 2) rfl rfl, fun U hU hW => ⟨rfl, by rw [hU], by rw [hU]; exact hPc, hE.moved hW, hDc.weaken (fun _ _ _ _ => trivial)⟩⟩ rfl rfl hl.1 rfl (lv_room (Nat.le_of_ble_eq_true rfl)) dX12_apart_25 ⟨(show 0 + 0 ≤ 0 from by decide +kernel), (show 0 + 0 ≤ 0 from by decide +kernel)⟩) hS (fun q _ h => hFc q h) hFc (fun u t H1 locs ht hvm hw hB hz1 hk1 hS => ?_)
      obtain ⟨hP1, hD1⟩ := hB
      rw [ht] at hP1
      obtain ⟨hP, hD⟩ := va_join (wr := [(r 13, .inl (cy 0, 2, .inl (fun _ => 0))), (r 57, .inl (cy 0, 169, .inl (fun _ => 0)))]) (w1 := [(h0, .inr (12, [.ref (r 0), .ref (r 1), .int 0, .int 0, .int 0, .int (-1), .int 0, .int 0, .int 0, .int 0, .long 0, .ref (r 11), .ref (r 12), .ref (r 13), .ref (r 14), .ref (r 15), .ref (r 16), .ref (r 17), .ref (r 18), .ref (r 19), .ref (r 20), .ref (r 21), .ref (r 22), .ref (r 23), .ref (r 24), .ref (r 25), .ref (r 26), .ref (r 27), .ref (r 28), .ref (r 29), .ref (r 30), .ref (r 31), .ref (r 32), .ref (r 33), .int 0, .int 0, .int 0, .int 0, .int 0, .int 0, .int 0, .ref (r 41), .ref (r 42), .ref (r 43), .ref (r 44), .int 0, .int 0, .int 0, .ref (r 48), .int 0, .int 0, .ref (r 51), .ref (r 52), .ref (r 53), .ref (r 54), .int 0, .ref (r 56), .ref (r 57), .ref (r 58), .int 0, .ref (r 60), .ref (r 61), .ref (r 62), .ref (r 63), .ref (r 64), .ref (r 65), .ref (r 66), .ref (r 67), .ref (r 68), .int 0, .int 0, .int 0, .ref (r 72), .ref (r 73)])), (r 41, .inl (cy 0, 15, .inl (fun _ => 0)))]) hP hD [2, 3] [0, 1] rfl rfl (by decide) (by decide) hk1 hFc hP1 hD1
      generalize H1 = H at hP hS ⊢
      have hP : va_P (dC, dI) classes [(r 13, .inl (cy 0, 2, .inl (fun _ => 0))), (r 57, .inl (cy 0, 169, .inl (fun _ => 0))), (h0, .inr (12, [.ref (r 0), .ref (r 1), .int 0, .int 0, .int 0, .int (-1), .int 0, .int 0, .int 0, .int 0, .long 0, .ref (r 11), .ref (r 12), .ref (r 13), .ref (r 14), .ref (r 15), .ref (r 16), .ref (r 17), .ref (r 18), .ref (r 19), .ref (r 20), .ref (r 21), .ref (r 22), .ref (r 23), .ref (r 24), .ref (r 25), .ref (r 26), .ref (r 27), .ref (r 28), .ref (r 29), .ref (r 30), .ref (r 31), .ref (r 32), .ref (r 33), .int 0, .int 0, .int 0, .int 0, .int 0, .int 0, .int 0, .ref (r 41), .ref (r 42), .ref (r 43), .ref (r 44), .int 0, .int 0, .int 0, .ref (r 48), .int 0, .int 0, .ref (r 51), .ref (r 52), .ref (r 53), .ref (r 54), .int 0, .ref (r 56), .ref (r 57), .ref (r 58), .int 0, .ref (r 60), .ref (r 61), .ref (r 62), .ref (r 63), .ref (r 64), .ref (r 65), .ref (r 66), .ref (r 67), .ref (r 68), .int 0, .int 0, .int 0, .ref (r 72), .ref (r 73)])), (r 41, .inl (cy 0, 15, .inl (fun _ => 0)))] H := hP
      have hD : va_D A [(r 13, .inl (cy 0, 2, .inl (fun _ => 0))), (r 57, .inl (cy 0, 169, .inl (fun _ => 0))), (h0, .inr (12, [.ref (r 0), .ref (r 1), .int 0, .int 0, .int 0, .int (-1), .int 0, .int 0, .int 0, .int 0, .long 0, .ref (r 11), .ref (r 12), .ref (r 13), .ref (r 14), .ref (r 15), .ref (r 16), .ref (r 17), .ref (r 18), .ref (r 19), .ref (r 20), .ref (r 21), .ref (r 22), .ref (r 23), .ref (r 24), .ref (r 25), .ref (r 26), .ref (r 27), .ref (r 28), .ref (r 29), .ref (r 30), .ref (r 31), .ref (r 32), .ref (r 33), .int 0, .int 0, .int 0, .int 0, .int 0, .int 0, .int 0, .ref (r 41), .ref (r 42), .ref (r 43), .ref (r 44), .int 0, .int 0, .int 0, .ref (r 48), .int 0, .int 0, .ref (r 51), .ref (r 52), .ref (r 53), .ref (r 54), .int 0, .ref (r 56), .ref (r 57), .ref (r 58), .int 0, .ref (r 60), .ref (r 61), .ref (r 62), .ref (r 63), .ref (r 64), .ref (r 65), .ref (r 66), .ref (r 67), .ref (r 68), .int 0, .int 0, .int 0, .ref (r 72), .ref (r 73)])), (r 41, .inl (cy 0, 15, .inl (fun _ => 0)))] := hD
      refine W.widen (k := 0) (n := 0) (by decide +kernel) (by decide +kernel) ?_
      refine lv_aload_n hx hb dX12_apart_28 rfl (lv_at hl 0 rfl) ?_
      refine va_get (D := (dC, dI)) (ci := 12) (v := .int 0) (C := RX12) (T := TX12) (N := 74) hx hb hts inlX12 hown hK hP 2 rfl rfl 45 (by decide) (hts _ m_868) (fun _ h9 => h9) rfl dX12_apart_29 ?_
      refine lv_istore_n (lv' := [(3, .int 0), (0, .ref h0), (1, .int (-1)), (2, .int (-1))]) hx hb dX12_apart_32 rfl hl (by decide) rfl (fun ls hl => ?_)
      refine lv_iload_n hx hb dX12_apart_33 rfl (lv_at hl 0 rfl) ?_
      refine lv_if_lt (tgt := 215) hx hb dX12_apart_34 (by decide) (fun c_ => absurd c_ (by decide +kernel)) (fun _ => ?_)
      refine lv_aload_n hx hb dX12_apart_37 rfl (lv_at hl 1 rfl) ?_
      refine va_get (D := (dC, dI)) (ci := 12) (v := .int 0) (C := RX12) (T := TX12) (N := 74) hx hb hts inlX12 hown hK hP 2 rfl rfl 46 (by decide) (hts _ m_1117) (fun _ h9 => h9) rfl dX12_apart_38 ?_
      refine lv_istore (lv' := [(4, .int 0), (3, .int 0), (0, .ref h0), (1, .int (-1)), (2, .int (-1))]) hx hb dX12_apart_41 hl (by decide) rfl (fun ls hl => ?_)
      refine lv_iload hx hb dX12_apart_43 (lv_at hl 0 rfl) ?_
      refine lv_if_lt (tgt := 209) hx hb dX12_apart_45 (by decide) (fun c_ => absurd c_ (by decide +kernel)) (fun _ => ?_)
      refine lv_aload_n hx hb dX12_apart_48 rfl (lv_at hl 2 rfl) ?_
      refine va_get (D := (dC, dI)) (ci := 12) (v := .int 0) (C := RX12) (T := TX12) (N := 74) hx hb hts inlX12 hown hK hP 2 rfl rfl 45 (by decide) (hts _ m_868) (fun _ h9 => h9) rfl dX12_apart_49 ?_
      refine lv_iload_n hx hb dX12_apart_52 rfl (lv_at hl 1 rfl) ?_
      refine lv_isub hx hb dX12_apart_53 ?_
      refine lv_topi (fun z_9 ez_9 => ?_)
      obtain rfl : z_9 = 0 := ez_9.trans (by decide +kernel)
      refine lv_aload_n hx hb dX12_apart_54 rfl (lv_at hl 2 rfl) ?_
      refine va_get (D := (dC, dI)) (ci := 12) (v := .int 0) (C := RX12) (T := TX12) (N := 74) hx hb hts inlX12 hown hK hP 2 rfl rfl 46 (by decide) (hts _ m_1117) (fun _ h9 => h9) rfl dX12_apart_55 ?_
      refine lv_iadd hx hb dX12_apart_58 ?_
      refine lv_topi (fun z_10 ez_10 => ?_)
      obtain rfl : z_10 = 0 := ez_10.trans (by decide +kernel)
      refine lv_iload hx hb dX12_apart_59 (lv_at hl 0 rfl) ?_
      refine lv_isub hx hb dX12_apart_61 ?_
      refine lv_topi (fun z_11 ez_11 => ?_)
      obtain rfl : z_11 = 0 := ez_11.trans (by decide +kernel)
      refine lv_istore (lv' := [(5, .int 0), (4, .int 0), (3, .int 0), (0, .ref h0), (1, .int (-1)), (2, .int (-1))]) hx hb dX12_apart_62 hl (by decide) rfl (fun ls hl => ?_)
      refine lv_iload_n hx hb dX12_apart_64 rfl (lv_at hl 2 rfl) ?_
      refine lv_aload_n hx hb dX12_apart_65 rfl (lv_at hl 3 rfl) ?_
      refine va_get (D := (dC, dI)) (ci := 12) (v := .int 0) (C := RX12) (T := TX12) (N := 74) hx hb hts inlX12 hown hK hP 2 rfl rfl 45 (by decide) (hts _ m_868) (fun _ h9 => h9) rfl dX12_apart_66 ?_
      refine lv_icmp_ge (tgt := 189) hx hb dX12_apart_69 (by decide) (fun _ => ?_) (fun c_ => absurd (by decide +kernel) c_)
      refine lv_aload_n hx hb dX12_apart_189 rfl (lv_at hl 3 rfl) ?_
      refine va_get (D := (dC, dI)) (ci := 12) (v := .ref (r 57)) (C := RX12) (T := TX12) (N := 74) hx hb hts inlX12 hown hK hP 2 rfl rfl 57 (by decide) (hts _ m_254) (fun _ h9 => h9) rfl dX12_apart_190 ?_
      refine lv_bipush (v := 13) hx hb dX12_apart_193 (by decide +kernel) ?_
      refine lv_iload_n hx hb dX12_apart_195 rfl (lv_at hl 2 rfl) ?_
      refine lv_imul hx hb dX12_apart_196 ?_
      refine lv_topi (fun z_12 ez_12 => ?_)
      obtain rfl : z_12 = 0 := ez_12.trans (by decide +kernel)
      refine lv_iload hx hb dX12_apart_197 (lv_at hl 1 rfl) ?_
      refine lv_iadd hx hb dX12_apart_199 ?_
      refine lv_topi (fun z_13 ez_13 => ?_)
      obtain rfl : z_13 = 0 := ez_13.trans (by decide +kernel)
      refine lv_iload hx hb dX12_apart_200 (lv_at hl 0 rfl) ?_
      refine va_iast hx hb hK hP hD hS 1 0 rfl rfl vi_0_169 dX12_apart_202 (fun H locs hP hD hS => ?_)
      rw [show upd (fun _ => 0) (Int32.toNatClampNeg 0) 0 = (fun _ => 0) from xa_upd0 rfl] at hP hD
      have hP : va_P (dC, dI) classes [(r 13, .inl (cy 0, 2, .inl (fun _ => 0))), (r 57, .inl (cy 0, 169, .inl (fun _ => 0))), (h0, .inr (12, [.ref (r 0), .ref (r 1), .int 0, .int 0, .int 0, .int (-1), .int 0, .int 0, .int 0, .int 0, .long 0, .ref (r 11), .ref (r 12), .ref (r 13), .ref (r 14), .ref (r 15), .ref (r 16), .ref (r 17), .ref (r 18), .ref (r 19), .ref (r 20), .ref (r 21), .ref (r 22), .ref (r 23), .ref (r 24), .ref (r 25), .ref (r 26), .ref (r 27), .ref (r 28), .ref (r 29), .ref (r 30), .ref (r 31), .ref (r 32), .ref (r 33), .int 0, .int 0, .int 0, .int 0, .int 0, .int 0, .int 0, .ref (r 41), .ref (r 42), .ref (r 43), .ref (r 44), .int 0, .int 0, .int 0, .ref (r 48), .int 0, .int 0, .ref (r 51), .ref (r 52), .ref (r 53), .ref (r 54), .int 0, .ref (r 56), .ref (r 57), .ref (r 58), .int 0, .ref (r 60), .ref (r 61), .ref (r 62), .ref (r 63), .ref (r 64), .ref (r 65), .ref (r 66), .ref (r 67), .ref (r 68), .int 0, .int 0, .int 0, .ref (r 72), .ref (r 73)])), (r 41, .inl (cy 0, 15, .inl (fun _ => 0)))] H := hP
      have hD : va_D A [(r 13, .inl (cy 0, 2, .inl (fun _ => 0))), (r 57, .inl (cy 0, 169, .inl (fun _ => 0))), (h0, .inr (12, [.ref (r 0), .ref (r 1), .int 0, .int 0, .int 0, .int (-1), .int 0, .int 0, .int 0, .int 0, .long 0, .ref (r 11), .ref (r 12), .ref (r 13), .ref (r 14), .ref (r 15), .ref (r 16), .ref (r 17), .ref (r 18), .ref (r 19), .ref (r 20), .ref (r 21), .ref (r 22), .ref (r 23), .ref (r 24), .ref (r 25), .ref (r 26), .ref (r 27), .ref (r 28), .ref (r 29), .ref (r 30), .ref (r 31), .ref (r 32), .ref (r 33), .int 0, .int 0, .int 0, .int 0, .int 0, .int 0, .int 0, .ref (r 41), .ref (r 42), .ref (r 43), .ref (r 44), .int 0, .int 0, .int 0, .ref (r 48), .int 0, .int 0, .ref (r 51), .ref (r 52), .ref (r 53), .ref (r 54), .int 0, .ref (r 56), .ref (r 57), .ref (r 58), .int 0, .ref (r 60), .ref (r 61), .ref (r 62), .ref (r 63), .ref (r 64), .ref (r 65), .ref (r 66), .ref (r 67), .ref (r 68), .int 0, .int 0, .int 0, .ref (r 72), .ref (r 73)])), (r 41, .inl (cy 0, 15, .inl (fun _ => 0)))] := hD
      refine lv_iinc (v := (-1)) (lv' := [(4, .int (-1)), (5, .int 0), (3, .int 0), (0, .ref h0), (1, .int (-1)), (2, .int (-1))]) hx hb dX12_apart_203 hl (k := 1) rfl (by decide +kernel) (by decide) rfl (fun ls hl => ?_)
      refine lv_goto (tgt := 43) hx hb dX12_apart_206 (by decide) ?_
      refine lv_iload hx hb dX12_apart_43 (lv_at hl 0 rfl) ?_
      refine lv_if_lt (tgt := 209) hx hb dX12_apart_45 (by decide) (fun _ => ?_) (fun c_ => absurd (by decide +kernel) c_)
      refine lv_iinc (v := (-1)) (lv' := [(3, .int (-1)), (4, .int (-1)), (5, .int 0), (0, .ref h0), (1, .int (-1)), (2, .int (-1))]) hx hb dX12_apart_209 hl (k := 2) rfl (by decide +kernel) (by decide) rfl (fun ls hl => ?_)
      refine lv_goto (tgt := 33) hx hb dX12_apart_212 (by decide) ?_
      refine lv_iload_n hx hb dX12_apart_33 rfl (lv_at hl 0 rfl) ?_
      refine lv_if_lt (tgt := 215) hx hb dX12_apart_34 (by decide) (fun _ => ?_) (fun c_ => absurd (by decide +kernel) c_)
      refine lv_aload_n hx hb dX12_apart_215 rfl (lv_at hl 3 rfl) ?_
      refine va_get (D := (dC, dI)) (ci := 12) (v := .ref (r 57)) (C := RX12) (T := TX12) (N := 74) hx hb hts inlX12 hown hK hP 2 rfl rfl 57 (by decide) (hts _ m_254) (fun _ h9 => h9) rfl dX12_apart_216 ?_
      refine lv_iconst (v := 0) hx hb dX12_apart_219 (by decide +kernel) ?_
      refine va_iald hx hb hK hP 1 0 rfl rfl vi_0_169 dX12_apart_220 ?_
      refine W.eq (g2 := F0 m 221 ls [.int 0]) rfl ?_
      exact W.iret (v := 0) hx hb hr (fun t ht hW => ⟨⟨0, (), rfl, Or.inl ⟨rfl, rfl, rfl⟩, trivial⟩, hS.F ht⟩) hS.2.2 dX12_apart_221
    · subst r_4
      refine lv_if_ne (tgt := 18) hx hb dX12_apart_13 (by decide) (fun c_ => absurd (by decide +kernel) c_) (fun _ => ?_)
      refine lv_iconst (v := (-1)) hx hb dX12_apart_16 (by decide +kernel) ?_
      exact W.iret (v := (-1)) hx hb hr (fun t ht hW => ⟨⟨(-1), (), rfl, Or.inr (Or.inl ⟨rfl, rfl, c_6⟩), trivial⟩, hS.F ht⟩) hS.2.2 dX12_apart_17
  · subst r_1
    refine lv_if_eq (tgt := 16) hx hb dX12_apart_5 (by decide) (fun _ => ?_) (fun c_ => absurd (by decide +kernel) c_)
    refine lv_iconst (v := (-1)) hx hb dX12_apart_16 (by decide +kernel) ?_
    exact W.iret (v := (-1)) hx hb hr (fun t ht hW => ⟨⟨(-1), (), rfl, Or.inr (Or.inr (⟨rfl, c_3⟩)), trivial⟩, hS.F ht⟩) hS.2.2 dX12_apart_17
set_option maxHeartbeats 4000000 in
set_option maxRecDepth 100000 in
theorem kX11_strange_1 (l : Launch) (dC : Nat → ClassId) (dI : Nat → Nat → Nat) (cy : Nat → ClassId) (h0 h1 h2 h3 h4 h5 h6 h7 h8 h9 h10 h11 h12 h13 h14 h15 h16 : Nat) (p0 : Int32) : Met l yX11_strange wmX11_strange ({ frames := 2, cells := 0, slots := 0, locals := 42 }) (va_Pc [.ref h0, .int p0] (fun U => va_P (dC, dI) classes [(h0, .inr (11, [.ref h1, .ref h2, .ref h3, .ref h4, .ref h5, .ref h6, .ref h7, .ref h8, .ref h9])), (h9, .inr (10, [.ref h10, .ref h11, .ref h12, .ref h13, .ref h14, .ref h15, .ref h16, .int 0, .int 0, .int 0, .int 0, .int 0]))] U.heap ∧ EV dC dI cy U)) (vp_Si (fun r_ => r_ = (-1))) 0 0 (fun _ => False) := by
  refine Met.ofW (cc := cX11_strange) (maxL := 3) (ret := (some .int)) (by decide +kernel) rfl ?_
  intro p e s m args below meth c s₁ B hml hv
  obtain ⟨rfl, hP, hE⟩ := hv
  have hK := hE.1
  have hN := hE.2.1
  have hx := B.exec
  have hb := B.bytes
  have hr := B.returns
  have hts0 := atoms_spec (ws := wmX11_strange) B.pre
  have hts : ∀ w ∈ wsL_law, w.before _ s = true := fun w h => hts0 w (List.mem_cons_of_mem _ h)
  have hown : s.vm.findClass RX11 = some m.cls := findClass_of_methodNamed B.named
  have hlocks := B.notSynchronized
  have hl := lv_entry ([.ref h0, .int p0]) (n := 3) (Nat.le_of_ble_eq_true rfl)
  rw [lg_entry_eq]
  generalize (lg_sl ([.ref h0, .int p0]) ++ List.replicate (3 - (lg_sl ([.ref h0, .int p0])).length) Slot.unset).toArray = ls at hl ⊢
  have hl : lv_has ls 3 [(0, .ref h0), (1, .int p0)] := hl
  refine lv_aload_n hx hb dX11_strange_0 rfl (lv_at hl 0 rfl) ?_
  refine lv_iload_n hx hb dX11_strange_1 rfl (lv_at hl 1 rfl) ?_
  have hPc := hP.sub (ws' := [(h0, .inr (11, [.ref h1, .ref h2, .ref h3, .ref h4, .ref h5, .ref h6, .ref h7, .ref h8, .ref h9])), (h9, .inr (10, [.ref h10, .ref h11, .ref h12, .ref h13, .ref h14, .ref h15, .ref h16, .int 0, .int 0, .int 0, .int 0, .int 0]))]) [0, 1] rfl
  refine va_csq (W.runV (As := [.int p0]) (rest := []) ⟨hx, hb, hml, hown, hts⟩ (kX11_slipOf_1 l dC dI cy h0 h1 h2 h3 h4 h5 h6 h7 h8 h9 h10 h11 h12 h13 h14 h15 h16 p0) (cwV 1 hts (gdV m_782 m_783 m_784 m_2 m_785) rfl rfl rfl (by decide +kernel) ⟨Nat.le_of_ble_eq_true rfl, Nat.le_of_ble_eq_true rfl⟩) ⟨fun a U g mk q => by obtain ⟨q0, qP, qE⟩ := q; exact ⟨q0, qP, qE.call⟩, va_recv hK hP (ci := 11) (q0 := 0) rfl rfl, fun U hU hW => ⟨rfl, by rw [hU]; exact hPc, hE.moved hW⟩⟩ rfl rfl hl.1 rfl (lv_room (Nat.le_of_ble_eq_true rfl)) dX11_strange_2 ⟨(show 0 + 0 ≤ 0 from by decide +kernel), (show 0 + 0 ≤ 0 from by decide +kernel)⟩) (fun r_1 hw => ?_)
  subst r_1
  refine W.eq (g2 := F0 m 5 ls [.null]) rfl ?_
  refine lv_astore_nN (lv' := [(2, .null), (0, .ref h0), (1, .int p0)]) hx hb dX11_strange_5 rfl hl (by decide) rfl (fun ls hl => ?_)
  refine lv_aload_nN hx hb dX11_strange_6 rfl (lv_at hl 0 rfl) ?_
  refine lv_ifnonnullN hx hb dX11_strange_7 ?_
  refine lv_iconst (v := (-1)) hx hb dX11_strange_10 (by decide +kernel) ?_
  refine lv_goto (tgt := 37) hx hb dX11_strange_11 (by decide) ?_
  exact W.iret (v := (-1)) hx hb hr (fun t ht hW => ⟨(-1), rfl, rfl, ht⟩) (fun _ h_ => (List.not_mem_nil h_).elim) dX11_strange_37
set_option maxHeartbeats 4000000 in
set_option maxRecDepth 100000 in
theorem kX12_strange_1 (l : Launch) (dC : Nat → ClassId) (dI : Nat → Nat → Nat) (cy : Nat → ClassId) (h0 : Nat) (r : Nat → Nat) (p0 : Int32) : Met l yX12_strange wmX12_strange ({ frames := 2, cells := 0, slots := 0, locals := 43 }) (va_Pc [.ref h0, .int p0] (fun U => va_P (dC, dI) classes [(h0, .inr (12, [.ref (r 0), .ref (r 1), .int 0, .int 0, .int 0, .int (-1), .int 0, .int 0, .int 0, .int 0, .long 0, .ref (r 11), .ref (r 12), .ref (r 13), .ref (r 14), .ref (r 15), .ref (r 16), .ref (r 17), .ref (r 18), .ref (r 19), .ref (r 20), .ref (r 21), .ref (r 22), .ref (r 23), .ref (r 24), .ref (r 25), .ref (r 26), .ref (r 27), .ref (r 28), .ref (r 29), .ref (r 30), .ref (r 31), .ref (r 32), .ref (r 33), .int 0, .int 0, .int 0, .int 0, .int 0, .int 0, .int 0, .ref (r 41), .ref (r 42), .ref (r 43), .ref (r 44), .int 0, .int 0, .int 0, .ref (r 48), .int 0, .int 0, .ref (r 51), .ref (r 52), .ref (r 53), .ref (r 54), .int 0, .ref (r 56), .ref (r 57), .ref (r 58), .int 0, .ref (r 60), .ref (r 61), .ref (r 62), .ref (r 63), .ref (r 64), .ref (r 65), .ref (r 66), .ref (r 67), .ref (r 68), .int 0, .int 0, .int 0, .ref (r 72), .ref (r 73)])), (r 13, .inl (cy 0, 2, .inl (fun _ => 0)))] U.heap ∧ EV dC dI cy U)) (vp_Si (fun r_ => r_ = (-1))) 0 0 (fun _ => False) := by
  refine Met.ofW (cc := cX12_strange) (maxL := 2) (ret := (some .int)) (by decide +kernel) rfl ?_
  intro p e s m args below meth c s₁ B hml hv
  obtain ⟨rfl, hP, hE⟩ := hv
  have hK := hE.1
  have hN := hE.2.1
  have hx := B.exec
  have hb := B.bytes
  have hr := B.returns
  have hts0 := atoms_spec (ws := wmX12_strange) B.pre
  have hts : ∀ w ∈ wsL_law, w.before _ s = true := fun w h => hts0 w (List.mem_cons_of_mem _ h)
  have hown : s.vm.findClass RX12 = some m.cls := findClass_of_methodNamed B.named
  have hlocks := B.notSynchronized
  have hl := lv_entry ([.ref h0, .int p0]) (n := 2) (Nat.le_of_ble_eq_true rfl)
  rw [lg_entry_eq]
  generalize (lg_sl ([.ref h0, .int p0]) ++ List.replicate (2 - (lg_sl ([.ref h0, .int p0])).length) Slot.unset).toArray = ls at hl ⊢
  have hl : lv_has ls 2 [(0, .ref h0), (1, .int p0)] := hl
  refine lv_aload_n hx hb dX12_strange_0 rfl (lv_at hl 0 rfl) ?_
  refine lv_iload_n hx hb dX12_strange_1 rfl (lv_at hl 1 rfl) ?_
  have hPc := hP.sub (ws' := [(h0, .inr (12, [.ref (r 0), .ref (r 1), .int 0, .int 0, .int 0, .int (-1), .int 0, .int 0, .int 0, .int 0, .long 0, .ref (r 11), .ref (r 12), .ref (r 13), .ref (r 14), .ref (r 15), .ref (r 16), .ref (r 17), .ref (r 18), .ref (r 19), .ref (r 20), .ref (r 21), .ref (r 22), .ref (r 23), .ref (r 24), .ref (r 25), .ref (r 26), .ref (r 27), .ref (r 28), .ref (r 29), .ref (r 30), .ref (r 31), .ref (r 32), .ref (r 33), .int 0, .int 0, .int 0, .int 0, .int 0, .int 0, .int 0, .ref (r 41), .ref (r 42), .ref (r 43), .ref (r 44), .int 0, .int 0, .int 0, .ref (r 48), .int 0, .int 0, .ref (r 51), .ref (r 52), .ref (r 53), .ref (r 54), .int 0, .ref (r 56), .ref (r 57), .ref (r 58), .int 0, .ref (r 60), .ref (r 61), .ref (r 62), .ref (r 63), .ref (r 64), .ref (r 65), .ref (r 66), .ref (r 67), .ref (r 68), .int 0, .int 0, .int 0, .ref (r 72), .ref (r 73)])), (r 13, .inl (cy 0, 2, .inl (fun _ => 0)))]) [0, 1] rfl
  refine vp_callSi (W.runV (As := [.int p0]) (rest := []) ⟨hx, hb, hml, hown, hts⟩ (kX12_isSlip_1 l dC dI cy h0 r p0) (cwV 1 hts (gdV m_791 m_792 m_793 m_5 m_794) rfl rfl rfl (by decide +kernel) ⟨Nat.le_of_ble_eq_true rfl, Nat.le_of_ble_eq_true rfl⟩) ⟨fun a U g mk q => by obtain ⟨q0, qP, qE⟩ := q; exact ⟨q0, qP, qE.call⟩, va_recv hK hP (ci := 12) (q0 := 0) rfl rfl, fun U hU hW => ⟨rfl, by rw [hU]; exact hPc, hE.moved hW⟩⟩ rfl rfl hl.1 rfl (lv_room (Nat.le_of_ble_eq_true rfl)) dX12_strange_2 ⟨(show 0 + 0 ≤ 0 from by decide +kernel), (show 0 + 0 ≤ 0 from by decide +kernel)⟩) (fun r_1 hw => ?_)
  subst r_1
  refine lv_if_ne (tgt := 10) hx hb dX12_strange_5 (by decide) (fun c_ => absurd (by decide +kernel) c_) (fun _ => ?_)
  refine lv_iconst (v := (-1)) hx hb dX12_strange_8 (by decide +kernel) ?_
  exact W.iret (v := (-1)) hx hb hr (fun t ht hW => ⟨(-1), rfl, rfl, ht⟩) (fun _ h_ => (List.not_mem_nil h_).elim) dX12_strange_9
set_option maxHeartbeats 4000000 in
set_option maxRecDepth 100000 in
theorem kX11_becomes_1 (l : Launch) (dC : Nat → ClassId) (dI : Nat → Nat → Nat) (cy : Nat → ClassId) (h0 h1 h2 h3 h4 h5 h6 h7 h8 h9 h10 h11 h12 h13 h14 h15 h16 : Nat) (p0 p1 : Int32) : Met l yX11_becomes wmX11_becomes ({ frames := 2, cells := 0, slots := 0, locals := 42 }) (va_Pc [.ref h0, .int p0, .int p1] (fun U => va_P (dC, dI) classes [(h0, .inr (11, [.ref h1, .ref h2, .ref h3, .ref h4, .ref h5, .ref h6, .ref h7, .ref h8, .ref h9])), (h9, .inr (10, [.ref h10, .ref h11, .ref h12, .ref h13, .ref h14, .ref h15, .ref h16, .int 0, .int 0, .int 0, .int 0, .int 0]))] U.heap ∧ EV dC dI cy U)) (vp_Si (fun r_ => r_ = (-1))) 0 0 (fun _ => False) := by
  refine Met.ofW (cc := cX11_becomes) (maxL := 4) (ret := (some .int)) (by decide +kernel) rfl ?_
  intro p e s m args below meth c s₁ B hml hv
  obtain ⟨rfl, hP, hE⟩ := hv
  have hK := hE.1
  have hN := hE.2.1
  have hx := B.exec
  have hb := B.bytes
  have hr := B.returns
  have hts0 := atoms_spec (ws := wmX11_becomes) B.pre
  have hts : ∀ w ∈ wsL_law, w.before _ s = true := fun w h => hts0 w (List.mem_cons_of_mem _ h)
  have hown : s.vm.findClass RX11 = some m.cls := findClass_of_methodNamed B.named
  have hlocks := B.notSynchronized
  have hl := lv_entry ([.ref h0, .int p0, .int p1]) (n := 4) (Nat.le_of_ble_eq_true rfl)
  rw [lg_entry_eq]
  generalize (lg_sl ([.ref h0, .int p0, .int p1]) ++ List.replicate (4 - (lg_sl ([.ref h0, .int p0, .int p1])).length) Slot.unset).toArray = ls at hl ⊢
  have hl : lv_has ls 4 [(0, .ref h0), (1, .int p0), (2, .int p1)] := hl
  refine lv_aload_n hx hb dX11_becomes_0 rfl (lv_at hl 0 rfl) ?_
  refine lv_iload_n hx hb dX11_becomes_1 rfl (lv_at hl 2 rfl) ?_
  have hPc := hP.sub (ws' := [(h0, .inr (11, [.ref h1, .ref h2, .ref h3, .ref h4, .ref h5, .ref h6, .ref h7, .ref h8, .ref h9])), (h9, .inr (10, [.ref h10, .ref h11, .ref h12, .ref h13, .ref h14, .ref h15, .ref h16, .int 0, .int 0, .int 0, .int 0, .int 0]))]) [0, 1] rfl
  refine va_csq (W.runV (As := [.int p1]) (rest := []) ⟨hx, hb, hml, hown, hts⟩ (kX11_slipOf_1 l dC dI cy h0 h1 h2 h3 h4 h5 h6 h7 h8 h9 h10 h11 h12 h13 h14 h15 h16 p1) (cwV 1 hts (gdV m_782 m_783 m_784 m_2 m_785) rfl rfl rfl (by decide +kernel) ⟨Nat.le_of_ble_eq_true rfl, Nat.le_of_ble_eq_true rfl⟩) ⟨fun a U g mk q => by obtain ⟨q0, qP, qE⟩ := q; exact ⟨q0, qP, qE.call⟩, va_recv hK hP (ci := 11) (q0 := 0) rfl rfl, fun U hU hW => ⟨rfl, by rw [hU]; exact hPc, hE.moved hW⟩⟩ rfl rfl hl.1 rfl (lv_room (Nat.le_of_ble_eq_true rfl)) dX11_becomes_2 ⟨(show 0 + 0 ≤ 0 from by decide +kernel), (show 0 + 0 ≤ 0 from by decide +kernel)⟩) (fun r_1 hw => ?_)
  subst r_1
  refine W.eq (g2 := F0 m 5 ls [.null]) rfl ?_
  refine lv_astore_nN (lv' := [(3, .null), (0, .ref h0), (1, .int p0), (2, .int p1)]) hx hb dX11_becomes_5 rfl hl (by decide) rfl (fun ls hl => ?_)
  refine lv_aload_nN hx hb dX11_becomes_6 rfl (lv_at hl 0 rfl) ?_
  refine lv_ifnullN (tgt := 17) hx hb dX11_becomes_7 (by decide) ?_
  refine lv_iconst (v := (-1)) hx hb dX11_becomes_17 (by decide +kernel) ?_
  refine lv_goto (tgt := 34) hx hb dX11_becomes_18 (by decide) ?_
  exact W.iret (v := (-1)) hx hb hr (fun t ht hW => ⟨(-1), rfl, rfl, ht⟩) (fun _ h_ => (List.not_mem_nil h_).elim) dX11_becomes_34
set_option maxHeartbeats 4000000 in
set_option maxRecDepth 100000 in
theorem kX12_becomes_1 (l : Launch) (dC : Nat → ClassId) (dI : Nat → Nat → Nat) (cy : Nat → ClassId) (h0 : Nat) (r : Nat → Nat) (p0 p1 : Int32) : Met l yX12_becomes wmX12_becomes ({ frames := 2, cells := 0, slots := 0, locals := 43 }) (va_Pc [.ref h0, .int p0, .int p1] (fun U => va_P (dC, dI) classes [(h0, .inr (12, [.ref (r 0), .ref (r 1), .int 0, .int 0, .int 0, .int (-1), .int 0, .int 0, .int 0, .int 0, .long 0, .ref (r 11), .ref (r 12), .ref (r 13), .ref (r 14), .ref (r 15), .ref (r 16), .ref (r 17), .ref (r 18), .ref (r 19), .ref (r 20), .ref (r 21), .ref (r 22), .ref (r 23), .ref (r 24), .ref (r 25), .ref (r 26), .ref (r 27), .ref (r 28), .ref (r 29), .ref (r 30), .ref (r 31), .ref (r 32), .ref (r 33), .int 0, .int 0, .int 0, .int 0, .int 0, .int 0, .int 0, .ref (r 41), .ref (r 42), .ref (r 43), .ref (r 44), .int 0, .int 0, .int 0, .ref (r 48), .int 0, .int 0, .ref (r 51), .ref (r 52), .ref (r 53), .ref (r 54), .int 0, .ref (r 56), .ref (r 57), .ref (r 58), .int 0, .ref (r 60), .ref (r 61), .ref (r 62), .ref (r 63), .ref (r 64), .ref (r 65), .ref (r 66), .ref (r 67), .ref (r 68), .int 0, .int 0, .int 0, .ref (r 72), .ref (r 73)])), (r 13, .inl (cy 0, 2, .inl (fun _ => 0)))] U.heap ∧ EV dC dI cy U)) (vp_Si (fun r_ => r_ = (-1))) 0 0 (fun _ => False) := by
  refine Met.ofW (cc := cX12_becomes) (maxL := 6) (ret := (some .int)) (by decide +kernel) rfl ?_
  intro p e s m args below meth c s₁ B hml hv
  obtain ⟨rfl, hP, hE⟩ := hv
  have hK := hE.1
  have hN := hE.2.1
  have hx := B.exec
  have hb := B.bytes
  have hr := B.returns
  have hts0 := atoms_spec (ws := wmX12_becomes) B.pre
  have hts : ∀ w ∈ wsL_law, w.before _ s = true := fun w h => hts0 w (List.mem_cons_of_mem _ h)
  have hown : s.vm.findClass RX12 = some m.cls := findClass_of_methodNamed B.named
  have hlocks := B.notSynchronized
  have hl := lv_entry ([.ref h0, .int p0, .int p1]) (n := 6) (Nat.le_of_ble_eq_true rfl)
  rw [lg_entry_eq]
  generalize (lg_sl ([.ref h0, .int p0, .int p1]) ++ List.replicate (6 - (lg_sl ([.ref h0, .int p0, .int p1])).length) Slot.unset).toArray = ls at hl ⊢
  have hl : lv_has ls 6 [(0, .ref h0), (1, .int p0), (2, .int p1)] := hl
  refine lv_iload_n hx hb dX12_becomes_0 rfl (lv_at hl 1 rfl) ?_
  have hPc := hP.sub (ws' := []) [] rfl
  refine vp_callSi (W.runS (As := [.int p0]) (rest := []) ⟨hx, hb, hml, hown, hts⟩ (kX12_isRule_1 l dC dI cy p0) (va_cwS 1 hts (gdS m_1004 m_1005 m_5 m_1006) rfl rfl rfl (by decide +kernel) ⟨Nat.le_of_ble_eq_true rfl, Nat.le_of_ble_eq_true rfl⟩) ⟨fun a U g mk q => by obtain ⟨q0, qP, qE⟩ := q; exact ⟨q0, qP, qE.call⟩, fun U hU hW => ⟨rfl, by rw [hU]; exact hPc, hE.moved hW⟩⟩ rfl rfl hl.1 rfl (lv_room (Nat.le_of_ble_eq_true rfl)) dX12_becomes_1 ⟨(show 0 + 0 ≤ 0 from by decide +kernel), (show 0 + 0 ≤ 0 from by decide +kernel)⟩) (fun r_1 hw => ?_)
  rcases hw with ⟨hr1, c_2⟩ | ⟨hr1, c_3, c_4⟩ | ⟨hr1, c_5, c_6⟩
  · subst r_1
    refine lv_if_eq (tgt := 15) hx hb dX12_becomes_4 (by decide) (fun _ => ?_) (fun c_ => absurd (by decide +kernel) c_)
    refine lv_iconst (v := (-1)) hx hb dX12_becomes_15 (by decide +kernel) ?_
    exact W.iret (v := (-1)) hx hb hr (fun t ht hW => ⟨(-1), rfl, rfl, ht⟩) (fun _ h_ => (List.not_mem_nil h_).elim) dX12_becomes_16
  · subst r_1
    refine lv_if_eq (tgt := 15) hx hb dX12_becomes_4 (by decide) (fun _ => ?_) (fun c_ => absurd (by decide +kernel) c_)
    refine lv_iconst (v := (-1)) hx hb dX12_becomes_15 (by decide +kernel) ?_
    exact W.iret (v := (-1)) hx hb hr (fun t ht hW => ⟨(-1), rfl, rfl, ht⟩) (fun _ h_ => (List.not_mem_nil h_).elim) dX12_becomes_16
  · subst r_1
    refine lv_if_eq (tgt := 15) hx hb dX12_becomes_4 (by decide) (fun c_ => absurd c_ (by decide +kernel)) (fun _ => ?_)
    refine lv_aload_n hx hb dX12_becomes_7 rfl (lv_at hl 0 rfl) ?_
    refine lv_iload_n hx hb dX12_becomes_8 rfl (lv_at hl 2 rfl) ?_
    have hPc := hP.sub (ws' := [(h0, .inr (12, [.ref (r 0), .ref (r 1), .int 0, .int 0, .int 0, .int (-1), .int 0, .int 0, .int 0, .int 0, .long 0, .ref (r 11), .ref (r 12), .ref (r 13), .ref (r 14), .ref (r 15), .ref (r 16), .ref (r 17), .ref (r 18), .ref (r 19), .ref (r 20), .ref (r 21), .ref (r 22), .ref (r 23), .ref (r 24), .ref (r 25), .ref (r 26), .ref (r 27), .ref (r 28), .ref (r 29), .ref (r 30), .ref (r 31), .ref (r 32), .ref (r 33), .int 0, .int 0, .int 0, .int 0, .int 0, .int 0, .int 0, .ref (r 41), .ref (r 42), .ref (r 43), .ref (r 44), .int 0, .int 0, .int 0, .ref (r 48), .int 0, .int 0, .ref (r 51), .ref (r 52), .ref (r 53), .ref (r 54), .int 0, .ref (r 56), .ref (r 57), .ref (r 58), .int 0, .ref (r 60), .ref (r 61), .ref (r 62), .ref (r 63), .ref (r 64), .ref (r 65), .ref (r 66), .ref (r 67), .ref (r 68), .int 0, .int 0, .int 0, .ref (r 72), .ref (r 73)])), (r 13, .inl (cy 0, 2, .inl (fun _ => 0)))]) [0, 1] rfl
    refine vp_callSi (W.runV (As := [.int p1]) (rest := []) ⟨hx, hb, hml, hown, hts⟩ (kX12_isSlip_1 l dC dI cy h0 r p1) (cwV 1 hts (gdV m_791 m_792 m_793 m_5 m_794) rfl rfl rfl (by decide +kernel) ⟨Nat.le_of_ble_eq_true rfl, Nat.le_of_ble_eq_true rfl⟩) ⟨fun a U g mk q => by obtain ⟨q0, qP, qE⟩ := q; exact ⟨q0, qP, qE.call⟩, va_recv hK hP (ci := 12) (q0 := 0) rfl rfl, fun U hU hW => ⟨rfl, by rw [hU]; exact hPc, hE.moved hW⟩⟩ rfl rfl hl.1 rfl (lv_room (Nat.le_of_ble_eq_true rfl)) dX12_becomes_9 ⟨(show 0 + 0 ≤ 0 from by decide +kernel), (show 0 + 0 ≤ 0 from by decide +kernel)⟩) (fun r_7 hw => ?_)
    subst r_7
    refine lv_if_ne (tgt := 17) hx hb dX12_becomes_12 (by decide) (fun c_ => absurd (by decide +kernel) c_) (fun _ => ?_)
    refine lv_iconst (v := (-1)) hx hb dX12_becomes_15 (by decide +kernel) ?_
    exact W.iret (v := (-1)) hx hb hr (fun t ht hW => ⟨(-1), rfl, rfl, ht⟩) (fun _ h_ => (List.not_mem_nil h_).elim) dX12_becomes_16
set_option maxHeartbeats 4000000 in
set_option maxRecDepth 100000 in
theorem kX8_goRound_1 (l : Launch) (dC : Nat → ClassId) (dI : Nat → Nat → Nat) (cy : Nat → ClassId) (h0 h1 h2 h3 : Nat) (p0 : Int32) : Met l yX8_goRound wmX8_goRound ({ frames := 0, cells := 0, slots := 0, locals := 0 }) (va_Pc [.ref h0, .ref h1, .int p0] (fun U => va_P (dC, dI) classes [(h0, .inr (8, [.ref h2, .int 0, .int 0])), (h2, .inr (1, [.ref h3, .int 0]))] U.heap ∧ EV dC dI cy U)) (vp_Si (fun r_ => r_ = (-1))) 0 0 (fun _ => False) := by
  refine Met.ofW (cc := cX8_goRound) (maxL := 4) (ret := (some .int)) (by decide +kernel) rfl ?_
  intro p e s m args below meth c s₁ B hml hv
  obtain ⟨rfl, hP, hE⟩ := hv
  have hK := hE.1
  have hN := hE.2.1
  have hx := B.exec
  have hb := B.bytes
  have hr := B.returns
  have hts0 := atoms_spec (ws := wmX8_goRound) B.pre
  have hts : ∀ w ∈ wsL_law, w.before _ s = true := fun w h => hts0 w (List.mem_cons_of_mem _ h)
  have hown : s.vm.findClass RX8 = some m.cls := findClass_of_methodNamed B.named
  have hlocks := B.notSynchronized
  have hl := lv_entry ([.ref h0, .ref h1, .int p0]) (n := 4) (Nat.le_of_ble_eq_true rfl)
  rw [lg_entry_eq]
  generalize (lg_sl ([.ref h0, .ref h1, .int p0]) ++ List.replicate (4 - (lg_sl ([.ref h0, .ref h1, .int p0])).length) Slot.unset).toArray = ls at hl ⊢
  have hl : lv_has ls 4 [(0, .ref h0), (1, .ref h1), (2, .int p0)] := hl
  refine lv_aload_n hx hb dX8_goRound_0 rfl (lv_at hl 0 rfl) ?_
  refine va_get (D := (dC, dI)) (ci := 8) (v := .ref h2) (C := RX8) (T := TX8) (N := 3) hx hb hts inlX8 hown hK hP 0 rfl rfl 0 (by decide) (hts _ m_166) (fun _ h9 => h9) rfl dX8_goRound_1 ?_
  refine va_getN (D := (dC, dI)) (ci := 1) (v := .int 0) (C := RX1) (T := TX1) (N := 2) hx hb hts inlX1 hown hK hP 1 rfl rfl 1 (by decide) (va_Nw.use rfl (hN _ nw_6)) (fun _ h9 => h9) rfl dX8_goRound_4 ?_
  refine lv_iconst (v := 1) hx hb dX8_goRound_7 (by decide +kernel) ?_
  refine lv_icmp_ge (tgt := 13) hx hb dX8_goRound_8 (by decide) (fun c_ => absurd c_ (by decide +kernel)) (fun _ => ?_)
  refine lv_iconst (v := (-1)) hx hb dX8_goRound_11 (by decide +kernel) ?_
  exact W.iret (v := (-1)) hx hb hr (fun t ht hW => ⟨(-1), rfl, rfl, ht⟩) (fun _ h_ => (List.not_mem_nil h_).elim) dX8_goRound_12
set_option maxHeartbeats 4000000 in
set_option maxRecDepth 100000 in
theorem lpX5_rowAfter_14_1 {p : Program} {l : Launch} {e : Env} {R : Room} {s : State} {m : MethodId} {args : Array Value} {below : List Frame} {meth : Method} {c : Code} {Q : State → Prop} {A : Nat → Prop} (dC : Nat → ClassId) (dI : Nat → Nat → Nat) (cy : Nat → ClassId) (h0 h1 h2 h3 h4 h5 h6 h7 h8 h9 h10 : Nat) (p0 p1 : Int32) (hx : p.tables.exec = Jvm.exec) (hb : c.code = cX5_rowAfter) (hml : c.maxLocals = 5) (hown : s.vm.findClass RX5 = some m.cls) (hts : ∀ w ∈ wsL_law, w.before args s = true) (hE : EV dC dI cy s) (hRf : 3 ≤ R.frames) (hRl : 63 ≤ R.locals) (hRc : 0 ≤ R.cells) (hRs : 0 ≤ R.slots) (kk : ∀ (x : Int32) (ls : Array Slot) (H : Heap) (locs : List Loc), va_P (dC, dI) classes [(h0, .inr (5, [.ref h2, .ref h3, .ref h4, .ref h5, .ref h6, .int 0, .int 0])), (h3, .inr (8, [.ref h7, .int 0, .int 0])), (h2, .inr (8, [.ref h8, .int 0, .int 0])), (h8, .inr (1, [.ref h10, .int 0])), (h7, .inr (1, [.ref h9, .int 0]))] H → va_D A [(h0, .inr (5, [.ref h2, .ref h3, .ref h4, .ref h5, .ref h6, .int 0, .int 0])), (h3, .inr (8, [.ref h7, .int 0, .int 0])), (h2, .inr (8, [.ref h8, .int 0, .int 0])), (h8, .inr (1, [.ref h10, .int 0])), (h7, .inr (1, [.ref h9, .int 0]))] → va_S A s.heap H locs → lv_has ls 5 [(4, .int x), (0, .ref h0), (1, .ref h1), (2, .int p0), (3, .int p1)] → W p l e R s m args below meth c H locs 0 0 Q (F0 m 36 ls [])) : ∀ (n : Nat) (x : Int32) (ls : Array Slot) (H : Heap) (locs : List Loc), 0 ≤ x → ((p1 : Int32).toInt - x.toInt).toNat < n → va_P (dC, dI) classes [(h0, .inr (5, [.ref h2, .ref h3, .ref h4, .ref h5, .ref h6, .int 0, .int 0])), (h3, .inr (8, [.ref h7, .int 0, .int 0])), (h2, .inr (8, [.ref h8, .int 0, .int 0])), (h8, .inr (1, [.ref h10, .int 0])), (h7, .inr (1, [.ref h9, .int 0]))] H → va_D A [(h0, .inr (5, [.ref h2, .ref h3, .ref h4, .ref h5, .ref h6, .int 0, .int 0])), (h3, .inr (8, [.ref h7, .int 0, .int 0])), (h2, .inr (8, [.ref h8, .int 0, .int 0])), (h8, .inr (1, [.ref h10, .int 0])), (h7, .inr (1, [.ref h9, .int 0]))] → va_S A s.heap H locs → lv_has ls 5 [(4, .int x), (0, .ref h0), (1, .ref h1), (2, .int p0), (3, .int p1)] → W p l e R s m args below meth c H locs 0 0 Q (F0 m 14 ls []) := by
  have hK := hE.1
  have hN := hE.2.1
  intro n
  induction n with
  | zero => intro x ls H locs hlo hm; exact absurd hm (Nat.not_lt_zero _)
  | succ n ih =>
    intro x ls H locs hlo hm hP hD hS hl
    refine lv_iload hx hb dX5_rowAfter_14 (lv_at hl 0 rfl) ?_
    refine lv_iload_n hx hb dX5_rowAfter_16 rfl (lv_at hl 4 rfl) ?_
    refine lv_icmp_ge (tgt := 36) hx hb dX5_rowAfter_17 (by decide) (fun c_103 => ?_) (fun c_103 => ?_)
    · exact kk x ls _ _ hP hD hS hl
    · refine lv_aload_n hx hb dX5_rowAfter_20 rfl (lv_at hl 1 rfl) ?_
      refine va_get (D := (dC, dI)) (ci := 5) (v := .ref h3) (C := RX5) (T := TX5) (N := 7) hx hb hts inlX5 hown hK hP 0 rfl rfl 1 (by decide) (hts _ m_157) (fun _ h9 => h9) rfl dX5_rowAfter_21 ?_
      refine lv_aload_n hx hb dX5_rowAfter_24 rfl (lv_at hl 2 rfl) ?_
      refine lv_iload_n hx hb dX5_rowAfter_25 rfl (lv_at hl 3 rfl) ?_
      have hPc := hP.sub (ws' := [(h3, .inr (8, [.ref h7, .int 0, .int 0])), (h7, .inr (1, [.ref h9, .int 0]))]) [1, 4] rfl
      refine vp_callSi (W.runV (As := [.ref h1, .int p0]) (rest := []) ⟨hx, hb, hml, hown, hts⟩ (kX8_goRound_1 l dC dI cy h3 h1 h7 h9 p0) (cwV 2 hts (gdV m_982 m_983 m_984 m_155 m_985) rfl rfl rfl (by decide +kernel) ⟨Nat.le_trans (Nat.le_of_ble_eq_true rfl) hRf, Nat.le_trans (Nat.le_of_ble_eq_true rfl) hRl⟩) ⟨fun a U g mk q => by obtain ⟨q0, qP, qE⟩ := q; exact ⟨q0, qP, qE.call⟩, va_recv hK hP (ci := 8) (q0 := 1) rfl rfl, fun U hU hW => ⟨rfl, by rw [hU]; exact hPc, hE.moved hW⟩⟩ rfl rfl hl.1 rfl (lv_room (Nat.le_of_ble_eq_true rfl)) dX5_rowAfter_26 ⟨hRc, hRs⟩) (fun r_104 hw => ?_)
      subst r_104
      refine lv_pop hx hb dX5_rowAfter_29 rfl ?_
      obtain ⟨z_105, ez_105⟩ : ∃ y : Int32, y = x + Int32.ofInt 1 := ⟨_, rfl⟩
      refine lv_iinc (v := z_105) (lv' := [(4, .int z_105), (0, .ref h0), (1, .ref h1), (2, .int p0), (3, .int p1)]) hx hb dX5_rowAfter_30 hl (k := 0) rfl (by rw [ez_105]) (by decide) rfl (fun ls hl => ?_)
      refine lv_goto (tgt := 14) hx hb dX5_rowAfter_33 (by decide) ?_
      obtain ⟨hs1, hs2⟩ := xl_step hlo (Int32.not_le.mp c_103) ez_105 hm
      exact ih z_105 ls _ _ hs1 hs2 (hP.sub [0, 1, 2, 3, 4] rfl) (hD.sub [0, 1, 2, 3, 4] (by decide) rfl) hS (lv_sub hl [0, 1, 2, 3, 4] rfl)
set_option maxHeartbeats 4000000 in
set_option maxRecDepth 100000 in
theorem kX5_rowAfter_1 (l : Launch) (dC : Nat → ClassId) (dI : Nat → Nat → Nat) (cy : Nat → ClassId) (h0 h1 h2 h3 h4 h5 h6 h7 h8 h9 h10 : Nat) (p0 p1 : Int32) (sz : Nat) : Met l yX5_rowAfter wmX5_rowAfter ({ frames := 3, cells := 0, slots := 0, locals := 63 }) (va_Pc [.ref h0, .ref h1, .int p0, .int p1] (fun U => U.heap.size = sz ∧ va_P (dC, dI) classes [(h0, .inr (5, [.ref h2, .ref h3, .ref h4, .ref h5, .ref h6, .int 0, .int 0])), (h3, .inr (8, [.ref h7, .int 0, .int 0])), (h2, .inr (8, [.ref h8, .int 0, .int 0])), (h7, .inr (1, [.ref h9, .int 0])), (h8, .inr (1, [.ref h10, .int 0]))] U.heap ∧ EV dC dI cy U ∧ va_D (fun _ => True) [(h0, .inr (5, [.ref h2, .ref h3, .ref h4, .ref h5, .ref h6, .int 0, .int 0])), (h3, .inr (8, [.ref h7, .int 0, .int 0])), (h2, .inr (8, [.ref h8, .int 0, .int 0])), (h7, .inr (1, [.ref h9, .int 0])), (h8, .inr (1, [.ref h10, .int 0]))])) (va_Qq (S := Unit) (fun r_ _ => r_ = some h7) (fun _ t => va_P (dC, dI) classes [(h0, .inr (5, [.ref h2, .ref h3, .ref h4, .ref h5, .ref h6, .int 0, .int 0])), (h3, .inr (8, [.ref h7, .int 0, .int 0])), (h2, .inr (8, [.ref h8, .int 0, .int 0])), (h8, .inr (1, [.ref h10, .int 0])), (h7, .inr (1, [.ref h9, .int 0]))] t.heap ∧ va_D (va_A [(h0, .inr (5, [.ref h2, .ref h3, .ref h4, .ref h5, .ref h6, .int 0, .int 0])), (h3, .inr (8, [.ref h7, .int 0, .int 0])), (h2, .inr (8, [.ref h8, .int 0, .int 0])), (h7, .inr (1, [.ref h9, .int 0])), (h8, .inr (1, [.ref h10, .int 0]))] sz) [(h0, .inr (5, [.ref h2, .ref h3, .ref h4, .ref h5, .ref h6, .int 0, .int 0])), (h3, .inr (8, [.ref h7, .int 0, .int 0])), (h2, .inr (8, [.ref h8, .int 0, .int 0])), (h8, .inr (1, [.ref h10, .int 0])), (h7, .inr (1, [.ref h9, .int 0]))]) (va_A [(h0, .inr (5, [.ref h2, .ref h3, .ref h4, .ref h5, .ref h6, .int 0, .int 0])), (h3, .inr (8, [.ref h7, .int 0, .int 0])), (h2, .inr (8, [.ref h8, .int 0, .int 0])), (h7, .inr (1, [.ref h9, .int 0])), (h8, .inr (1, [.ref h10, .int 0]))] sz)) 0 0 (va_A [(h0, .inr (5, [.ref h2, .ref h3, .ref h4, .ref h5, .ref h6, .int 0, .int 0])), (h3, .inr (8, [.ref h7, .int 0, .int 0])), (h2, .inr (8, [.ref h8, .int 0, .int 0])), (h7, .inr (1, [.ref h9, .int 0])), (h8, .inr (1, [.ref h10, .int 0]))] sz) := by
  refine Met.ofW (cc := cX5_rowAfter) (maxL := 5) (ret := (some (.object "LostWords$Line"))) (by decide +kernel) rfl ?_
  intro p e s m args below meth c s₁ B hml hv
  obtain ⟨rfl, hsz, hP, hE, hD0⟩ := hv
  have hK := hE.1
  have hN := hE.2.1
  have hx := B.exec
  have hb := B.bytes
  have hr := B.returns
  have hts0 := atoms_spec (ws := wmX5_rowAfter) B.pre
  have hts : ∀ w ∈ wsL_law, w.before _ s = true := fun w h => hts0 w (List.mem_cons_of_mem _ h)
  have hown : s.vm.findClass RX5 = some m.cls := findClass_of_methodNamed B.named
  have hlocks := B.notSynchronized
  subst hsz
  have hD := hD0.self (sz := s.heap.size)
  generalize hAe : va_A [(h0, .inr (5, [.ref h2, .ref h3, .ref h4, .ref h5, .ref h6, .int 0, .int 0])), (h3, .inr (8, [.ref h7, .int 0, .int 0])), (h2, .inr (8, [.ref h8, .int 0, .int 0])), (h7, .inr (1, [.ref h9, .int 0])), (h8, .inr (1, [.ref h10, .int 0]))] s.heap.size = A at hD ⊢
  have hA : ∀ q : Nat, s.heap.size ≤ q → A q := fun q h => by rw [← hAe]; exact Or.inr h
  have hS : va_S A s.heap s.heap [] := va_S.rf
  have hP : va_P (dC, dI) classes [(h0, .inr (5, [.ref h2, .ref h3, .ref h4, .ref h5, .ref h6, .int 0, .int 0])), (h3, .inr (8, [.ref h7, .int 0, .int 0])), (h2, .inr (8, [.ref h8, .int 0, .int 0])), (h7, .inr (1, [.ref h9, .int 0])), (h8, .inr (1, [.ref h10, .int 0]))] s.heap := hP
  have hl := lv_entry ([.ref h0, .ref h1, .int p0, .int p1]) (n := 5) (Nat.le_of_ble_eq_true rfl)
  rw [lg_entry_eq]
  generalize (lg_sl ([.ref h0, .ref h1, .int p0, .int p1]) ++ List.replicate (5 - (lg_sl ([.ref h0, .ref h1, .int p0, .int p1])).length) Slot.unset).toArray = ls at hl ⊢
  have hl : lv_has ls 5 [(0, .ref h0), (1, .ref h1), (2, .int p0), (3, .int p1)] := hl
  refine lv_aload_n hx hb dX5_rowAfter_0 rfl (lv_at hl 0 rfl) ?_
  refine va_get (D := (dC, dI)) (ci := 5) (v := .ref h3) (C := RX5) (T := TX5) (N := 7) hx hb hts inlX5 hown hK hP 0 rfl rfl 1 (by decide) (hts _ m_157) (fun _ h9 => h9) rfl dX5_rowAfter_1 ?_
  refine lv_aload_n hx hb dX5_rowAfter_4 rfl (lv_at hl 0 rfl) ?_
  refine va_get (D := (dC, dI)) (ci := 5) (v := .ref h2) (C := RX5) (T := TX5) (N := 7) hx hb hts inlX5 hown hK hP 0 rfl rfl 0 (by decide) (hts _ m_156) (fun _ h9 => h9) rfl dX5_rowAfter_5 ?_
  have hPc := hP.sub (ws' := [(h3, .inr (8, [.ref h7, .int 0, .int 0])), (h2, .inr (8, [.ref h8, .int 0, .int 0])), (h7, .inr (1, [.ref h9, .int 0])), (h8, .inr (1, [.ref h10, .int 0]))]) [1, 2, 3, 4] rfl
  have hDc := hD.sub (ws' := [(h3, .inr (8, [.ref h7, .int 0, .int 0])), (h2, .inr (8, [.ref h8, .int 0, .int 0])), (h7, .inr (1, [.ref h9, .int 0])), (h8, .inr (1, [.ref h10, .int 0]))]) [1, 2, 3, 4] (by decide) rfl
  have hFc := va_free (wc := [(h3, .inr (8, [.ref h7, .int 0, .int 0])), (h2, .inr (8, [.ref h8, .int 0, .int 0])), (h7, .inr (1, [.ref h9, .int 0])), (h8, .inr (1, [.ref h10, .int 0]))]) hD hS hA [1, 2, 3, 4] rfl
  refine va_callv (va_runV (As := [.ref h2]) (rest := []) ⟨hx, hb, hml, hown, hts⟩ (kX8_copy_1 l dC dI cy h3 h2 h7 h8 h9 h10 s.heap.size) (cwV 1 hts (gdV m_584 m_585 m_586 m_155 m_587) rfl rfl rfl (by decide +kernel) ⟨Nat.le_of_ble_eq_true rfl, Nat.le_of_ble_eq_true rfl⟩) ⟨fun a U g mk q => by obtain ⟨q0, q1, qP, qE, qD⟩ := q; exact ⟨q0, q1, qP, qE.call, qD⟩, va_recv hK hP (ci := 8) (q0 := 1) rfl rfl, fun U hU hW => ⟨rfl, by rw [hU], by rw [hU]; exact hPc, hE.moved hW, hDc.weaken (fun _ _ _ _ => trivial)⟩⟩ rfl rfl hl.1 rfl (lv_room (Nat.le_of_ble_eq_true rfl)) dX5_rowAfter_8 ⟨(show 0 + 0 ≤ 0 from by decide +kernel), (show 0 + 0 ≤ 0 from by decide +kernel)⟩) hS (fun q _ h => hFc q h) hFc (fun u t H1 locs ht hvm hw hB hz1 hk1 hS => ?_)
  obtain ⟨hP1, hD1⟩ := hB
  rw [ht] at hP1
  obtain ⟨hP, hD⟩ := va_join (wr := [(h0, .inr (5, [.ref h2, .ref h3, .ref h4, .ref h5, .ref h6, .int 0, .int 0]))]) (w1 := [(h3, .inr (8, [.ref h7, .int 0, .int 0])), (h2, .inr (8, [.ref h8, .int 0, .int 0])), (h8, .inr (1, [.ref h10, .int 0])), (h7, .inr (1, [.ref h9, .int 0]))]) hP hD [1, 2, 3, 4] [0] rfl rfl (by decide) (by decide) hk1 hFc hP1 hD1
  generalize H1 = H at hP hS ⊢
  have hP : va_P (dC, dI) classes [(h0, .inr (5, [.ref h2, .ref h3, .ref h4, .ref h5, .ref h6, .int 0, .int 0])), (h3, .inr (8, [.ref h7, .int 0, .int 0])), (h2, .inr (8, [.ref h8, .int 0, .int 0])), (h8, .inr (1, [.ref h10, .int 0])), (h7, .inr (1, [.ref h9, .int 0]))] H := hP
  have hD : va_D A [(h0, .inr (5, [.ref h2, .ref h3, .ref h4, .ref h5, .ref h6, .int 0, .int 0])), (h3, .inr (8, [.ref h7, .int 0, .int 0])), (h2, .inr (8, [.ref h8, .int 0, .int 0])), (h8, .inr (1, [.ref h10, .int 0])), (h7, .inr (1, [.ref h9, .int 0]))] := hD
  refine W.widen (k := 0) (n := 0) (by decide +kernel) (by decide +kernel) ?_
  refine lv_iconst (v := 0) hx hb dX5_rowAfter_11 (by decide +kernel) ?_
  refine lv_istore (lv' := [(4, .int 0), (0, .ref h0), (1, .ref h1), (2, .int p0), (3, .int p1)]) hx hb dX5_rowAfter_12 hl (by decide) rfl (fun ls hl => ?_)
  refine lpX5_rowAfter_14_1 dC dI cy h0 h1 h2 h3 h4 h5 h6 h7 h8 h9 h10 p0 p1 hx hb hml hown hts hE (Nat.le_of_ble_eq_true rfl) (Nat.le_of_ble_eq_true rfl) (show 0 ≤ 0 from by decide +kernel) (show 0 ≤ 0 from by decide +kernel) (fun z_2 ls H locs hP hD hS hl => ?_) ((p1 : Int32).toInt - (0 : Int32).toInt).toNat.succ 0 ls _ _ (by decide +kernel) (Nat.lt_succ_self _) hP hD hS hl
  have hP : va_P (dC, dI) classes [(h0, .inr (5, [.ref h2, .ref h3, .ref h4, .ref h5, .ref h6, .int 0, .int 0])), (h3, .inr (8, [.ref h7, .int 0, .int 0])), (h2, .inr (8, [.ref h8, .int 0, .int 0])), (h8, .inr (1, [.ref h10, .int 0])), (h7, .inr (1, [.ref h9, .int 0]))] H := hP
  have hD : va_D A [(h0, .inr (5, [.ref h2, .ref h3, .ref h4, .ref h5, .ref h6, .int 0, .int 0])), (h3, .inr (8, [.ref h7, .int 0, .int 0])), (h2, .inr (8, [.ref h8, .int 0, .int 0])), (h8, .inr (1, [.ref h10, .int 0])), (h7, .inr (1, [.ref h9, .int 0]))] := hD
  refine lv_aload_n hx hb dX5_rowAfter_36 rfl (lv_at hl 1 rfl) ?_
  refine va_get (D := (dC, dI)) (ci := 5) (v := .ref h3) (C := RX5) (T := TX5) (N := 7) hx hb hts inlX5 hown hK hP 0 rfl rfl 1 (by decide) (hts _ m_157) (fun _ h9 => h9) rfl dX5_rowAfter_37 ?_
  refine va_getN (D := (dC, dI)) (ci := 8) (v := .ref h7) (C := RX8) (T := TX8) (N := 3) hx hb hts inlX8 hown hK hP 1 rfl rfl 0 (by decide) (va_Nw.use rfl (hN _ nw_32)) (fun _ h9 => h9) rfl dX5_rowAfter_40 ?_
  have hP9 := hP.sub (ws' := [(h0, .inr (5, [.ref h2, .ref h3, .ref h4, .ref h5, .ref h6, .int 0, .int 0])), (h3, .inr (8, [.ref h7, .int 0, .int 0])), (h2, .inr (8, [.ref h8, .int 0, .int 0])), (h8, .inr (1, [.ref h10, .int 0])), (h7, .inr (1, [.ref h9, .int 0]))]) [0, 1, 2, 3, 4] rfl
  have hD9 := hD.sub (ws' := [(h0, .inr (5, [.ref h2, .ref h3, .ref h4, .ref h5, .ref h6, .int 0, .int 0])), (h3, .inr (8, [.ref h7, .int 0, .int 0])), (h2, .inr (8, [.ref h8, .int 0, .int 0])), (h8, .inr (1, [.ref h10, .int 0])), (h7, .inr (1, [.ref h9, .int 0]))]) [0, 1, 2, 3, 4] (by decide) rfl
  exact W.aret (v := .ref h7) hx hb hr (Or.inl ⟨_, rfl⟩) (Or.inr ⟨_, rfl⟩) (fun t ht hW => ⟨⟨some h7, (), rfl, rfl, by rw [ht]; exact hP9, hD9⟩, hS.F ht⟩) hS.2.2 dX5_rowAfter_43
set_option maxHeartbeats 4000000 in
set_option maxRecDepth 100000 in
theorem kX11_will_1 (l : Launch) (dC : Nat → ClassId) (dI : Nat → Nat → Nat) (cy : Nat → ClassId) (h0 h1 h2 h3 h4 h5 h6 h7 h8 h9 h10 h11 h12 h13 h14 h15 h16 h17 h18 h19 h20 h21 h22 h23 h24 h25 : Nat) (p0 p1 : Int32) (sz : Nat) : Met l yX11_will wmX11_will ({ frames := 4, cells := 0, slots := 0, locals := 87 }) (va_Pc [.ref h0, .int p0, .int p1] (fun U => U.heap.size = sz ∧ va_P (dC, dI) classes [(h0, .inr (11, [.ref h1, .ref h2, .ref h3, .ref h4, .ref h5, .ref h6, .ref h7, .ref h8, .ref h9])), (h2, .inr (5, [.ref h10, .ref h11, .ref h12, .ref h13, .ref h14, .int 0, .int 0])), (h11, .inr (8, [.ref h15, .int 0, .int 0])), (h10, .inr (8, [.ref h16, .int 0, .int 0])), (h15, .inr (1, [.ref h17, .int 0])), (h16, .inr (1, [.ref h18, .int 0])), (h9, .inr (10, [.ref h19, .ref h20, .ref h21, .ref h22, .ref h23, .ref h24, .ref h25, .int 0, .int 0, .int 0, .int 0, .int 0]))] U.heap ∧ EV dC dI cy U ∧ va_D (fun _ => True) [(h0, .inr (11, [.ref h1, .ref h2, .ref h3, .ref h4, .ref h5, .ref h6, .ref h7, .ref h8, .ref h9])), (h2, .inr (5, [.ref h10, .ref h11, .ref h12, .ref h13, .ref h14, .int 0, .int 0])), (h11, .inr (8, [.ref h15, .int 0, .int 0])), (h10, .inr (8, [.ref h16, .int 0, .int 0])), (h15, .inr (1, [.ref h17, .int 0])), (h16, .inr (1, [.ref h18, .int 0])), (h9, .inr (10, [.ref h19, .ref h20, .ref h21, .ref h22, .ref h23, .ref h24, .ref h25, .int 0, .int 0, .int 0, .int 0, .int 0]))])) (va_Qi (S := Unit) (fun r_ _ => (r_ = (-1000000) ∧ p0 < 0) ∨ (r_ = (-1000000) ∧ ¬ p0 < 0 ∧ 3 ≤ p0) ∨ (r_ = (-1000000) ∧ ¬ p0 < 0 ∧ ¬ 3 ≤ p0 ∧ p1 < 0) ∨ (r_ = 0 ∧ ¬ p0 < 0 ∧ ¬ 3 ≤ p0 ∧ ¬ p1 < 0 ∧ p1 ≤ 12) ∨ (r_ = (-1000000) ∧ ¬ p0 < 0 ∧ ¬ 3 ≤ p0 ∧ ¬ p1 < 0 ∧ ¬ p1 ≤ 12)) (fun _ _ => True) (va_A [(h0, .inr (11, [.ref h1, .ref h2, .ref h3, .ref h4, .ref h5, .ref h6, .ref h7, .ref h8, .ref h9])), (h2, .inr (5, [.ref h10, .ref h11, .ref h12, .ref h13, .ref h14, .int 0, .int 0])), (h11, .inr (8, [.ref h15, .int 0, .int 0])), (h10, .inr (8, [.ref h16, .int 0, .int 0])), (h15, .inr (1, [.ref h17, .int 0])), (h16, .inr (1, [.ref h18, .int 0])), (h9, .inr (10, [.ref h19, .ref h20, .ref h21, .ref h22, .ref h23, .ref h24, .ref h25, .int 0, .int 0, .int 0, .int 0, .int 0]))] sz)) 0 0 (va_A [(h0, .inr (11, [.ref h1, .ref h2, .ref h3, .ref h4, .ref h5, .ref h6, .ref h7, .ref h8, .ref h9])), (h2, .inr (5, [.ref h10, .ref h11, .ref h12, .ref h13, .ref h14, .int 0, .int 0])), (h11, .inr (8, [.ref h15, .int 0, .int 0])), (h10, .inr (8, [.ref h16, .int 0, .int 0])), (h15, .inr (1, [.ref h17, .int 0])), (h16, .inr (1, [.ref h18, .int 0])), (h9, .inr (10, [.ref h19, .ref h20, .ref h21, .ref h22, .ref h23, .ref h24, .ref h25, .int 0, .int 0, .int 0, .int 0, .int 0]))] sz) := by
  refine Met.ofW (cc := cX11_will) (maxL := 3) (ret := (some .int)) (by decide +kernel) rfl ?_
  intro p e s m args below meth c s₁ B hml hv
  obtain ⟨rfl, hsz, hP, hE, hD0⟩ := hv
  have hK := hE.1
  have hN := hE.2.1
  have hx := B.exec
  have hb := B.bytes
  have hr := B.returns
  have hts0 := atoms_spec (ws := wmX11_will) B.pre
  have hts : ∀ w ∈ wsL_law, w.before _ s = true := fun w h => hts0 w (List.mem_cons_of_mem _ h)
  have hown : s.vm.findClass RX11 = some m.cls := findClass_of_methodNamed B.named
  have hlocks := B.notSynchronized
  subst hsz
  have hD := hD0.self (sz := s.heap.size)
  generalize hAe : va_A [(h0, .inr (11, [.ref h1, .ref h2, .ref h3, .ref h4, .ref h5, .ref h6, .ref h7, .ref h8, .ref h9])), (h2, .inr (5, [.ref h10, .ref h11, .ref h12, .ref h13, .ref h14, .int 0, .int 0])), (h11, .inr (8, [.ref h15, .int 0, .int 0])), (h10, .inr (8, [.ref h16, .int 0, .int 0])), (h15, .inr (1, [.ref h17, .int 0])), (h16, .inr (1, [.ref h18, .int 0])), (h9, .inr (10, [.ref h19, .ref h20, .ref h21, .ref h22, .ref h23, .ref h24, .ref h25, .int 0, .int 0, .int 0, .int 0, .int 0]))] s.heap.size = A at hD ⊢
  have hA : ∀ q : Nat, s.heap.size ≤ q → A q := fun q h => by rw [← hAe]; exact Or.inr h
  have hS : va_S A s.heap s.heap [] := va_S.rf
  have hP : va_P (dC, dI) classes [(h0, .inr (11, [.ref h1, .ref h2, .ref h3, .ref h4, .ref h5, .ref h6, .ref h7, .ref h8, .ref h9])), (h2, .inr (5, [.ref h10, .ref h11, .ref h12, .ref h13, .ref h14, .int 0, .int 0])), (h11, .inr (8, [.ref h15, .int 0, .int 0])), (h10, .inr (8, [.ref h16, .int 0, .int 0])), (h15, .inr (1, [.ref h17, .int 0])), (h16, .inr (1, [.ref h18, .int 0])), (h9, .inr (10, [.ref h19, .ref h20, .ref h21, .ref h22, .ref h23, .ref h24, .ref h25, .int 0, .int 0, .int 0, .int 0, .int 0]))] s.heap := hP
  have hl := lv_entry ([.ref h0, .int p0, .int p1]) (n := 3) (Nat.le_of_ble_eq_true rfl)
  rw [lg_entry_eq]
  generalize (lg_sl ([.ref h0, .int p0, .int p1]) ++ List.replicate (3 - (lg_sl ([.ref h0, .int p0, .int p1])).length) Slot.unset).toArray = ls at hl ⊢
  have hl : lv_has ls 3 [(0, .ref h0), (1, .int p0), (2, .int p1)] := hl
  refine lv_iload_n hx hb dX11_will_0 rfl (lv_at hl 1 rfl) ?_
  have hPc := hP.sub (ws' := []) [] rfl
  refine vp_callSi (W.runS (As := [.int p0]) (rest := []) ⟨hx, hb, hml, hown, hts⟩ (kX11_isRule_1 l dC dI cy p0) (va_cwS 1 hts (gdS m_975 m_976 m_2 m_977) rfl rfl rfl (by decide +kernel) ⟨Nat.le_of_ble_eq_true rfl, Nat.le_of_ble_eq_true rfl⟩) ⟨fun a U g mk q => by obtain ⟨q0, qP, qE⟩ := q; exact ⟨q0, qP, qE.call⟩, fun U hU hW => ⟨rfl, by rw [hU]; exact hPc, hE.moved hW⟩⟩ rfl rfl hl.1 rfl (lv_room (Nat.le_of_ble_eq_true rfl)) dX11_will_1 ⟨(show 0 + 0 ≤ 0 from by decide +kernel), (show 0 + 0 ≤ 0 from by decide +kernel)⟩) (fun r_1 hw => ?_)
  rcases hw with ⟨hr1, c_2⟩ | ⟨hr1, c_3, c_4⟩ | ⟨hr1, c_5, c_6⟩
  · subst r_1
    refine lv_if_eq (tgt := 17) hx hb dX11_will_4 (by decide) (fun _ => ?_) (fun c_ => absurd (by decide +kernel) c_)
    refine lv_ldc (v := (-1000000)) hx hb hown (hts _ m_840) dX11_will_17 ?_
    exact W.iret (v := (-1000000)) hx hb hr (fun t ht hW => ⟨⟨(-1000000), (), rfl, Or.inl ⟨rfl, c_2⟩, trivial⟩, hS.F ht⟩) hS.2.2 dX11_will_19
  · subst r_1
    refine lv_if_eq (tgt := 17) hx hb dX11_will_4 (by decide) (fun _ => ?_) (fun c_ => absurd (by decide +kernel) c_)
    refine lv_ldc (v := (-1000000)) hx hb hown (hts _ m_840) dX11_will_17 ?_
    exact W.iret (v := (-1000000)) hx hb hr (fun t ht hW => ⟨⟨(-1000000), (), rfl, Or.inr (Or.inl ⟨rfl, c_3, c_4⟩), trivial⟩, hS.F ht⟩) hS.2.2 dX11_will_19
  · subst r_1
    refine lv_if_eq (tgt := 17) hx hb dX11_will_4 (by decide) (fun c_ => absurd c_ (by decide +kernel)) (fun _ => ?_)
    refine lv_iload_n hx hb dX11_will_7 rfl (lv_at hl 2 rfl) ?_
    refine lv_if_lt (tgt := 17) hx hb dX11_will_8 (by decide) (fun c_7 => ?_) (fun c_7 => ?_)
    · refine lv_ldc (v := (-1000000)) hx hb hown (hts _ m_840) dX11_will_17 ?_
      exact W.iret (v := (-1000000)) hx hb hr (fun t ht hW => ⟨⟨(-1000000), (), rfl, Or.inr (Or.inr (Or.inl ⟨rfl, c_5, c_6, c_7⟩)), trivial⟩, hS.F ht⟩) hS.2.2 dX11_will_19
    · refine lv_iload_n hx hb dX11_will_11 rfl (lv_at hl 2 rfl) ?_
      refine lv_bipush (v := 12) hx hb dX11_will_12 (by decide +kernel) ?_
      refine lv_icmp_le (tgt := 20) hx hb dX11_will_14 (by decide) (fun c_8 => ?_) (fun c_8 => ?_)
      · refine lv_aload_n hx hb dX11_will_20 rfl (lv_at hl 0 rfl) ?_
        refine va_get (D := (dC, dI)) (ci := 11) (v := .ref h9) (C := RX11) (T := TX11) (N := 9) hx hb hts inlX11 hown hK hP 0 rfl rfl 8 (by decide) (hts _ m_44) (fun _ h9 => h9) rfl dX11_will_21 ?_
        refine lv_aload_n hx hb dX11_will_24 rfl (lv_at hl 0 rfl) ?_
        refine va_get (D := (dC, dI)) (ci := 11) (v := .ref h2) (C := RX11) (T := TX11) (N := 9) hx hb hts inlX11 hown hK hP 0 rfl rfl 1 (by decide) (hts _ m_19) (fun _ h9 => h9) rfl dX11_will_25 ?_
        refine lv_aload_n hx hb dX11_will_28 rfl (lv_at hl 0 rfl) ?_
        refine va_get (D := (dC, dI)) (ci := 11) (v := .ref h9) (C := RX11) (T := TX11) (N := 9) hx hb hts inlX11 hown hK hP 0 rfl rfl 8 (by decide) (hts _ m_44) (fun _ h9 => h9) rfl dX11_will_29 ?_
        refine lv_iload_n hx hb dX11_will_32 rfl (lv_at hl 1 rfl) ?_
        refine lv_iload_n hx hb dX11_will_33 rfl (lv_at hl 2 rfl) ?_
        have hPc := hP.sub (ws' := [(h2, .inr (5, [.ref h10, .ref h11, .ref h12, .ref h13, .ref h14, .int 0, .int 0])), (h11, .inr (8, [.ref h15, .int 0, .int 0])), (h10, .inr (8, [.ref h16, .int 0, .int 0])), (h15, .inr (1, [.ref h17, .int 0])), (h16, .inr (1, [.ref h18, .int 0]))]) [1, 2, 3, 4, 5] rfl
        have hDc := hD.sub (ws' := [(h2, .inr (5, [.ref h10, .ref h11, .ref h12, .ref h13, .ref h14, .int 0, .int 0])), (h11, .inr (8, [.ref h15, .int 0, .int 0])), (h10, .inr (8, [.ref h16, .int 0, .int 0])), (h15, .inr (1, [.ref h17, .int 0])), (h16, .inr (1, [.ref h18, .int 0]))]) [1, 2, 3, 4, 5] (by decide) rfl
        have hFc := va_free (wc := [(h2, .inr (5, [.ref h10, .ref h11, .ref h12, .ref h13, .ref h14, .int 0, .int 0])), (h11, .inr (8, [.ref h15, .int 0, .int 0])), (h10, .inr (8, [.ref h16, .int 0, .int 0])), (h15, .inr (1, [.ref h17, .int 0])), (h16, .inr (1, [.ref h18, .int 0]))]) hD hS hA [1, 2, 3, 4, 5] rfl
        refine va_callq (va_runV (As := [.ref h9, .int p0, .int p1]) (rest := [.ref h9]) ⟨hx, hb, hml, hown, hts⟩ (kX5_rowAfter_1 l dC dI cy h2 h9 h10 h11 h12 h13 h14 h15 h16 h17 h18 p0 p1 s.heap.size) (cwV 3 hts (gdV m_1438 m_1439 m_1440 m_18 m_1441) rfl rfl rfl (by decide +kernel) ⟨Nat.le_of_ble_eq_true rfl, Nat.le_of_ble_eq_true rfl⟩) ⟨fun a U g mk q => by obtain ⟨q0, q1, qP, qE, qD⟩ := q; exact ⟨q0, q1, qP, qE.call, qD⟩, va_recv hK hP (ci := 5) (q0 := 1) rfl rfl, fun U hU hW => ⟨rfl, by rw [hU], by rw [hU]; exact hPc, hE.moved hW, hDc.weaken (fun _ _ _ _ => trivial)⟩⟩ rfl rfl hl.1 rfl (lv_room (Nat.le_of_ble_eq_true rfl)) dX11_will_34 ⟨(show 0 + 0 ≤ 0 from by decide +kernel), (show 0 + 0 ≤ 0 from by decide +kernel)⟩) hS (fun q _ h => hFc q h) hFc (fun r_9 u t H1 locs ht hvm hw hB hz1 hk1 hS => ?_)
        obtain ⟨hP1, hD1⟩ := hB
        rw [ht] at hP1
        obtain ⟨hP, hD⟩ := va_join (wr := [(h0, .inr (11, [.ref h1, .ref h2, .ref h3, .ref h4, .ref h5, .ref h6, .ref h7, .ref h8, .ref h9])), (h9, .inr (10, [.ref h19, .ref h20, .ref h21, .ref h22, .ref h23, .ref h24, .ref h25, .int 0, .int 0, .int 0, .int 0, .int 0]))]) (w1 := [(h2, .inr (5, [.ref h10, .ref h11, .ref h12, .ref h13, .ref h14, .int 0, .int 0])), (h11, .inr (8, [.ref h15, .int 0, .int 0])), (h10, .inr (8, [.ref h16, .int 0, .int 0])), (h16, .inr (1, [.ref h18, .int 0])), (h15, .inr (1, [.ref h17, .int 0]))]) hP hD [1, 2, 3, 4, 5] [0, 6] rfl rfl (by decide) (by decide) hk1 hFc hP1 hD1
        generalize H1 = H at hP hS ⊢
        have hP : va_P (dC, dI) classes [(h0, .inr (11, [.ref h1, .ref h2, .ref h3, .ref h4, .ref h5, .ref h6, .ref h7, .ref h8, .ref h9])), (h9, .inr (10, [.ref h19, .ref h20, .ref h21, .ref h22, .ref h23, .ref h24, .ref h25, .int 0, .int 0, .int 0, .int 0, .int 0])), (h2, .inr (5, [.ref h10, .ref h11, .ref h12, .ref h13, .ref h14, .int 0, .int 0])), (h11, .inr (8, [.ref h15, .int 0, .int 0])), (h10, .inr (8, [.ref h16, .int 0, .int 0])), (h16, .inr (1, [.ref h18, .int 0])), (h15, .inr (1, [.ref h17, .int 0]))] H := hP
        have hD : va_D A [(h0, .inr (11, [.ref h1, .ref h2, .ref h3, .ref h4, .ref h5, .ref h6, .ref h7, .ref h8, .ref h9])), (h9, .inr (10, [.ref h19, .ref h20, .ref h21, .ref h22, .ref h23, .ref h24, .ref h25, .int 0, .int 0, .int 0, .int 0, .int 0])), (h2, .inr (5, [.ref h10, .ref h11, .ref h12, .ref h13, .ref h14, .int 0, .int 0])), (h11, .inr (8, [.ref h15, .int 0, .int 0])), (h10, .inr (8, [.ref h16, .int 0, .int 0])), (h16, .inr (1, [.ref h18, .int 0])), (h15, .inr (1, [.ref h17, .int 0]))] := hD
        refine W.widen (k := 0) (n := 0) (by decide +kernel) (by decide +kernel) ?_
        subst r_9
        refine W.eq (g2 := F0 m 37 ls [.ref h15, .ref h9]) rfl ?_
        have hPc := hP.sub (ws' := [(h15, .inr (1, [.ref h17, .int 0]))]) [6] rfl
        refine vp_callSi (W.runV (As := [.ref h15]) (rest := []) ⟨hx, hb, hml, hown, hts⟩ (kX10_senseOf_1 l dC dI cy h9 h15 h17) (cwV 1 hts (gdV m_858 m_859 m_860 m_43 m_861) rfl rfl rfl (by decide +kernel) ⟨Nat.le_of_ble_eq_true rfl, Nat.le_of_ble_eq_true rfl⟩) ⟨fun a U g mk q => by obtain ⟨q0, qP, qE⟩ := q; exact ⟨q0, qP, qE.call⟩, va_recv hK hP (ci := 10) (q0 := 1) rfl rfl, fun U hU hW => ⟨rfl, by rw [hU]; exact hPc, hE.moved hW⟩⟩ rfl rfl hl.1 rfl (lv_room (Nat.le_of_ble_eq_true rfl)) dX11_will_37 ⟨(show 0 + 0 ≤ 0 from by decide +kernel), (show 0 + 0 ≤ 0 from by decide +kernel)⟩) (fun r_10 hw => ?_)
        subst r_10
        exact W.iret (v := 0) hx hb hr (fun t ht hW => ⟨⟨0, (), rfl, Or.inr (Or.inr (Or.inr (Or.inl ⟨rfl, c_5, c_6, c_7, c_8⟩))), trivial⟩, hS.F ht⟩) hS.2.2 dX11_will_40
      · refine lv_ldc (v := (-1000000)) hx hb hown (hts _ m_840) dX11_will_17 ?_
        exact W.iret (v := (-1000000)) hx hb hr (fun t ht hW => ⟨⟨(-1000000), (), rfl, Or.inr (Or.inr (Or.inr (Or.inr (⟨rfl, c_5, c_6, c_7, c_8⟩)))), trivial⟩, hS.F ht⟩) hS.2.2 dX11_will_19
set_option maxHeartbeats 4000000 in
set_option maxRecDepth 100000 in
theorem kX12_isIn_6 (l : Launch) (dC : Nat → ClassId) (dI : Nat → Nat → Nat) (cy : Nat → ClassId) (p0 : Int32) : Met l yX12_isIn wmX12_isIn ({ frames := 0, cells := 0, slots := 0, locals := 0 }) (va_Pc [.int p0, .int 0, .int 12] (fun U => va_P (dC, dI) classes [] U.heap ∧ EV dC dI cy U)) (vp_Si (fun r_ => (r_ = 0 ∧ p0 < 0) ∨ (r_ = 0 ∧ ¬ p0 < 0 ∧ 12 < p0) ∨ (r_ = 1 ∧ ¬ p0 < 0 ∧ ¬ 12 < p0))) 0 0 (fun _ => False) := by
  refine Met.ofW (cc := cX12_isIn) (maxL := 3) (ret := (some .boolean)) (by decide +kernel) rfl ?_
  intro p e s m args below meth c s₁ B hml hv
  obtain ⟨rfl, hP, hE⟩ := hv
  have hK := hE.1
  have hN := hE.2.1
  have hx := B.exec
  have hb := B.bytes
  have hr := B.returns
  have hts0 := atoms_spec (ws := wmX12_isIn) B.pre
  have hts : ∀ w ∈ wsL_law, w.before _ s = true := fun w h => hts0 w (List.mem_cons_of_mem _ h)
  have hown : s.vm.findClass RX12 = some m.cls := findClass_of_methodNamed B.named
  have hlocks := B.notSynchronized
  have hl := lv_entry ([.int p0, .int 0, .int 12]) (n := 3) (Nat.le_of_ble_eq_true rfl)
  rw [lg_entry_eq]
  generalize (lg_sl ([.int p0, .int 0, .int 12]) ++ List.replicate (3 - (lg_sl ([.int p0, .int 0, .int 12])).length) Slot.unset).toArray = ls at hl ⊢
  have hl : lv_has ls 3 [(0, .int p0), (1, .int 0), (2, .int 12)] := hl
  refine lv_iload_n hx hb dX12_isIn_0 rfl (lv_at hl 0 rfl) ?_
  refine lv_iload_n hx hb dX12_isIn_1 rfl (lv_at hl 1 rfl) ?_
  refine lv_icmp_lt (tgt := 14) hx hb dX12_isIn_2 (by decide) (fun c_1 => ?_) (fun c_1 => ?_)
  · refine lv_iconst (v := 0) hx hb dX12_isIn_14 (by decide +kernel) ?_
    exact W.zret (v := 0) hx hb hr (by decide +kernel) (fun t ht hW => ⟨0, rfl, Or.inl ⟨rfl, c_1⟩, ht⟩) (fun _ h_ => (List.not_mem_nil h_).elim) dX12_isIn_15
  · refine lv_iload_n hx hb dX12_isIn_5 rfl (lv_at hl 0 rfl) ?_
    refine lv_iload_n hx hb dX12_isIn_6 rfl (lv_at hl 2 rfl) ?_
    refine lv_icmp_gt (tgt := 14) hx hb dX12_isIn_7 (by decide) (fun c_2 => ?_) (fun c_2 => ?_)
    · refine lv_iconst (v := 0) hx hb dX12_isIn_14 (by decide +kernel) ?_
      exact W.zret (v := 0) hx hb hr (by decide +kernel) (fun t ht hW => ⟨0, rfl, Or.inr (Or.inl ⟨rfl, c_1, c_2⟩), ht⟩) (fun _ h_ => (List.not_mem_nil h_).elim) dX12_isIn_15
    · refine lv_iconst (v := 1) hx hb dX12_isIn_10 (by decide +kernel) ?_
      refine lv_goto (tgt := 15) hx hb dX12_isIn_11 (by decide) ?_
      exact W.zret (v := 1) hx hb hr (by decide +kernel) (fun t ht hW => ⟨1, rfl, Or.inr (Or.inr (⟨rfl, c_1, c_2⟩)), ht⟩) (fun _ h_ => (List.not_mem_nil h_).elim) dX12_isIn_15
