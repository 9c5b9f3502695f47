set_option maxHeartbeats 4000000 in
set_option maxRecDepth 100000 in
theorem kX12_layOne_1 (l : Launch) (dC : Nat → ClassId) (dI : Nat → Nat → Nat) (cy : Nat → ClassId) (h0 : Nat) (r : Nat → Nat) (sz : Nat) : Met l yX12_layOne wmX12_layOne ({ frames := 1, cells := 0, slots := 0, locals := 21 }) (va_Pc [.ref h0, .int (-1)] (fun U => U.heap.size = sz ∧ va_P (dC, dI) classes [(h0, .inr (12, [.ref (r 0), .ref (r 1), .int 0, .int 0, .int 0, .int (-1), .int 0, .int 0, .int 0, .int 0, .long 0, .ref (r 11), .ref (r 12), .ref (r 13), .ref (r 14), .ref (r 15), .ref (r 16), .ref (r 17), .ref (r 18), .ref (r 19), .ref (r 20), .ref (r 21), .ref (r 22), .ref (r 23), .ref (r 24), .ref (r 25), .ref (r 26), .ref (r 27), .ref (r 28), .ref (r 29), .ref (r 30), .ref (r 31), .ref (r 32), .ref (r 33), .int 0, .int 0, .int 0, .int 0, .int 0, .int 0, .int 0, .ref (r 41), .ref (r 42), .ref (r 43), .ref (r 44), .int 0, .int 0, .int 0, .ref (r 48), .int 0, .int 0, .ref (r 51), .ref (r 52), .ref (r 53), .ref (r 54), .int 0, .ref (r 56), .ref (r 57), .ref (r 58), .int 0, .ref (r 60), .ref (r 61), .ref (r 62), .ref (r 63), .ref (r 64), .ref (r 65), .ref (r 66), .ref (r 67), .ref (r 68), .int 0, .int 0, .int 0, .ref (r 72), .ref (r 73)])), (r 41, .inl (cy 0, 15, .inl (fun _ => 0)))] U.heap ∧ EV dC dI cy U ∧ va_D (fun _ => True) [(h0, .inr (12, [.ref (r 0), .ref (r 1), .int 0, .int 0, .int 0, .int (-1), .int 0, .int 0, .int 0, .int 0, .long 0, .ref (r 11), .ref (r 12), .ref (r 13), .ref (r 14), .ref (r 15), .ref (r 16), .ref (r 17), .ref (r 18), .ref (r 19), .ref (r 20), .ref (r 21), .ref (r 22), .ref (r 23), .ref (r 24), .ref (r 25), .ref (r 26), .ref (r 27), .ref (r 28), .ref (r 29), .ref (r 30), .ref (r 31), .ref (r 32), .ref (r 33), .int 0, .int 0, .int 0, .int 0, .int 0, .int 0, .int 0, .ref (r 41), .ref (r 42), .ref (r 43), .ref (r 44), .int 0, .int 0, .int 0, .ref (r 48), .int 0, .int 0, .ref (r 51), .ref (r 52), .ref (r 53), .ref (r 54), .int 0, .ref (r 56), .ref (r 57), .ref (r 58), .int 0, .ref (r 60), .ref (r 61), .ref (r 62), .ref (r 63), .ref (r 64), .ref (r 65), .ref (r 66), .ref (r 67), .ref (r 68), .int 0, .int 0, .int 0, .ref (r 72), .ref (r 73)])), (r 41, .inl (cy 0, 15, .inl (fun _ => 0)))])) (va_Qv (S := Unit) (fun _ => True) (fun _ t => va_P (dC, dI) classes [(h0, .inr (12, [.ref (r 0), .ref (r 1), .int 0, .int 0, .int 0, .int (-1), .int 0, .int 0, .int 0, .int 0, .long 0, .ref (r 11), .ref (r 12), .ref (r 13), .ref (r 14), .ref (r 15), .ref (r 16), .ref (r 17), .ref (r 18), .ref (r 19), .ref (r 20), .ref (r 21), .ref (r 22), .ref (r 23), .ref (r 24), .ref (r 25), .ref (r 26), .ref (r 27), .ref (r 28), .ref (r 29), .ref (r 30), .ref (r 31), .ref (r 32), .ref (r 33), .int 0, .int 0, .int 0, .int 0, .int 0, .int 0, .int 0, .ref (r 41), .ref (r 42), .ref (r 43), .ref (r 44), .int 0, .int 0, .int 0, .ref (r 48), .int 0, .int 0, .ref (r 51), .ref (r 52), .ref (r 53), .ref (r 54), .int 0, .ref (r 56), .ref (r 57), .ref (r 58), .int 0, .ref (r 60), .ref (r 61), .ref (r 62), .ref (r 63), .ref (r 64), .ref (r 65), .ref (r 66), .ref (r 67), .ref (r 68), .int 0, .int 0, .int 0, .ref (r 72), .ref (r 73)])), (r 41, .inl (cy 0, 15, .inl (fun _ => 0)))] t.heap ∧ va_D (va_A [(h0, .inr (12, [.ref (r 0), .ref (r 1), .int 0, .int 0, .int 0, .int (-1), .int 0, .int 0, .int 0, .int 0, .long 0, .ref (r 11), .ref (r 12), .ref (r 13), .ref (r 14), .ref (r 15), .ref (r 16), .ref (r 17), .ref (r 18), .ref (r 19), .ref (r 20), .ref (r 21), .ref (r 22), .ref (r 23), .ref (r 24), .ref (r 25), .ref (r 26), .ref (r 27), .ref (r 28), .ref (r 29), .ref (r 30), .ref (r 31), .ref (r 32), .ref (r 33), .int 0, .int 0, .int 0, .int 0, .int 0, .int 0, .int 0, .ref (r 41), .ref (r 42), .ref (r 43), .ref (r 44), .int 0, .int 0, .int 0, .ref (r 48), .int 0, .int 0, .ref (r 51), .ref (r 52), .ref (r 53), .ref (r 54), .int 0, .ref (r 56), .ref (r 57), .ref (r 58), .int 0, .ref (r 60), .ref (r 61), .ref (r 62), .ref (r 63), .ref (r 64), .ref (r 65), .ref (r 66), .ref (r 67), .ref (r 68), .int 0, .int 0, .int 0, .ref (r 72), .ref (r 73)])), (r 41, .inl (cy 0, 15, .inl (fun _ => 0)))] sz) [(h0, .inr (12, [.ref (r 0), .ref (r 1), .int 0, .int 0, .int 0, .int (-1), .int 0, .int 0, .int 0, .int 0, .long 0, .ref (r 11), .ref (r 12), .ref (r 13), .ref (r 14), .ref (r 15), .ref (r 16), .ref (r 17), .ref (r 18), .ref (r 19), .ref (r 20), .ref (r 21), .ref (r 22), .ref (r 23), .ref (r 24), .ref (r 25), .ref (r 26), .ref (r 27), .ref (r 28), .ref (r 29), .ref (r 30), .ref (r 31), .ref (r 32), .ref (r 33), .int 0, .int 0, .int 0, .int 0, .int 0, .int 0, .int 0, .ref (r 41), .ref (r 42), .ref (r 43), .ref (r 44), .int 0, .int 0, .int 0, .ref (r 48), .int 0, .int 0, .ref (r 51), .ref (r 52), .ref (r 53), .ref (r 54), .int 0, .ref (r 56), .ref (r 57), .ref (r 58), .int 0, .ref (r 60), .ref (r 61), .ref (r 62), .ref (r 63), .ref (r 64), .ref (r 65), .ref (r 66), .ref (r 67), .ref (r 68), .int 0, .int 0, .int 0, .ref (r 72), .ref (r 73)])), (r 41, .inl (cy 0, 15, .inl (fun _ => 0)))]) (va_A [(h0, .inr (12, [.ref (r 0), .ref (r 1), .int 0, .int 0, .int 0, .int (-1), .int 0, .int 0, .int 0, .int 0, .long 0, .ref (r 11), .ref (r 12), .ref (r 13), .ref (r 14), .ref (r 15), .ref (r 16), .ref (r 17), .ref (r 18), .ref (r 19), .ref (r 20), .ref (r 21), .ref (r 22), .ref (r 23), .ref (r 24), .ref (r 25), .ref (r 26), .ref (r 27), .ref (r 28), .ref (r 29), .ref (r 30), .ref (r 31), .ref (r 32), .ref (r 33), .int 0, .int 0, .int 0, .int 0, .int 0, .int 0, .int 0, .ref (r 41), .ref (r 42), .ref (r 43), .ref (r 44), .int 0, .int 0, .int 0, .ref (r 48), .int 0, .int 0, .ref (r 51), .ref (r 52), .ref (r 53), .ref (r 54), .int 0, .ref (r 56), .ref (r 57), .ref (r 58), .int 0, .ref (r 60), .ref (r 61), .ref (r 62), .ref (r 63), .ref (r 64), .ref (r 65), .ref (r 66), .ref (r 67), .ref (r 68), .int 0, .int 0, .int 0, .ref (r 72), .ref (r 73)])), (r 41, .inl (cy 0, 15, .inl (fun _ => 0)))] sz)) 0 0 (va_A [(h0, .inr (12, [.ref (r 0), .ref (r 1), .int 0, .int 0, .int 0, .int (-1), .int 0, .int 0, .int 0, .int 0, .long 0, .ref (r 11), .ref (r 12), .ref (r 13), .ref (r 14), .ref (r 15), .ref (r 16), .ref (r 17), .ref (r 18), .ref (r 19), .ref (r 20), .ref (r 21), .ref (r 22), .ref (r 23), .ref (r 24), .ref (r 25), .ref (r 26), .ref (r 27), .ref (r 28), .ref (r 29), .ref (r 30), .ref (r 31), .ref (r 32), .ref (r 33), .int 0, .int 0, .int 0, .int 0, .int 0, .int 0, .int 0, .ref (r 41), .ref (r 42), .ref (r 43), .ref (r 44), .int 0, .int 0, .int 0, .ref (r 48), .int 0, .int 0, .ref (r 51), .ref (r 52), .ref (r 53), .ref (r 54), .int 0, .ref (r 56), .ref (r 57), .ref (r 58), .int 0, .ref (r 60), .ref (r 61), .ref (r 62), .ref (r 63), .ref (r 64), .ref (r 65), .ref (r 66), .ref (r 67), .ref (r 68), .int 0, .int 0, .int 0, .ref (r 72), .ref (r 73)])), (r 41, .inl (cy 0, 15, .inl (fun _ => 0)))] sz) := by
  refine Met.ofW (cc := cX12_layOne) (maxL := 3) (ret := none) (by decide +kernel) rfl ?_
  intro p e s m args below meth c s₁ B hml hv
  obtain ⟨rfl, hsz, hP, hE, hD0⟩ := hv
  have hK := hE.1
  have hN := hE.2.1
  have hx := B.exec
  have hb := B.bytes
  have hr := B.returns
  have hts0 := atoms_spec (ws := wmX12_layOne) B.pre
  have hts : ∀ w ∈ wsL_law, w.before _ s = true := fun w h => hts0 w (List.mem_cons_of_mem _ h)
  have hown : s.vm.findClass RX12 = some m.cls := findClass_of_methodNamed B.named
  have hlocks := B.notSynchronized
  subst hsz
  have hD := hD0.self (sz := s.heap.size)
  generalize hAe : va_A [(h0, .inr (12, [.ref (r 0), .ref (r 1), .int 0, .int 0, .int 0, .int (-1), .int 0, .int 0, .int 0, .int 0, .long 0, .ref (r 11), .ref (r 12), .ref (r 13), .ref (r 14), .ref (r 15), .ref (r 16), .ref (r 17), .ref (r 18), .ref (r 19), .ref (r 20), .ref (r 21), .ref (r 22), .ref (r 23), .ref (r 24), .ref (r 25), .ref (r 26), .ref (r 27), .ref (r 28), .ref (r 29), .ref (r 30), .ref (r 31), .ref (r 32), .ref (r 33), .int 0, .int 0, .int 0, .int 0, .int 0, .int 0, .int 0, .ref (r 41), .ref (r 42), .ref (r 43), .ref (r 44), .int 0, .int 0, .int 0, .ref (r 48), .int 0, .int 0, .ref (r 51), .ref (r 52), .ref (r 53), .ref (r 54), .int 0, .ref (r 56), .ref (r 57), .ref (r 58), .int 0, .ref (r 60), .ref (r 61), .ref (r 62), .ref (r 63), .ref (r 64), .ref (r 65), .ref (r 66), .ref (r 67), .ref (r 68), .int 0, .int 0, .int 0, .ref (r 72), .ref (r 73)])), (r 41, .inl (cy 0, 15, .inl (fun _ => 0)))] s.heap.size = A at hD ⊢
  have hA : ∀ q : Nat, s.heap.size ≤ q → A q := fun q h => by rw [← hAe]; exact Or.inr h
  have hS : va_S A s.heap s.heap [] := va_S.rf
  have hP : va_P (dC, dI) classes [(h0, .inr (12, [.ref (r 0), .ref (r 1), .int 0, .int 0, .int 0, .int (-1), .int 0, .int 0, .int 0, .int 0, .long 0, .ref (r 11), .ref (r 12), .ref (r 13), .ref (r 14), .ref (r 15), .ref (r 16), .ref (r 17), .ref (r 18), .ref (r 19), .ref (r 20), .ref (r 21), .ref (r 22), .ref (r 23), .ref (r 24), .ref (r 25), .ref (r 26), .ref (r 27), .ref (r 28), .ref (r 29), .ref (r 30), .ref (r 31), .ref (r 32), .ref (r 33), .int 0, .int 0, .int 0, .int 0, .int 0, .int 0, .int 0, .ref (r 41), .ref (r 42), .ref (r 43), .ref (r 44), .int 0, .int 0, .int 0, .ref (r 48), .int 0, .int 0, .ref (r 51), .ref (r 52), .ref (r 53), .ref (r 54), .int 0, .ref (r 56), .ref (r 57), .ref (r 58), .int 0, .ref (r 60), .ref (r 61), .ref (r 62), .ref (r 63), .ref (r 64), .ref (r 65), .ref (r 66), .ref (r 67), .ref (r 68), .int 0, .int 0, .int 0, .ref (r 72), .ref (r 73)])), (r 41, .inl (cy 0, 15, .inl (fun _ => 0)))] s.heap := hP
  have hl := lv_entry ([.ref h0, .int (-1)]) (n := 3) (Nat.le_of_ble_eq_true rfl)
  rw [lg_entry_eq]
  generalize (lg_sl ([.ref h0, .int (-1)]) ++ List.replicate (3 - (lg_sl ([.ref h0, .int (-1)])).length) Slot.unset).toArray = ls at hl ⊢
  have hl : lv_has ls 3 [(0, .ref h0), (1, .int (-1))] := hl
  refine lv_aload_n hx hb dX12_layOne_0 rfl (lv_at hl 0 rfl) ?_
  refine lv_aload_n hx hb dX12_layOne_1 rfl (lv_at hl 0 rfl) ?_
  refine lv_iload_n hx hb dX12_layOne_2 rfl (lv_at hl 1 rfl) ?_
  have hPc := hP.sub (ws' := [(h0, .inr (12, [.ref (r 0), .ref (r 1), .int 0, .int 0, .int 0, .int (-1), .int 0, .int 0, .int 0, .int 0, .long 0, .ref (r 11), .ref (r 12), .ref (r 13), .ref (r 14), .ref (r 15), .ref (r 16), .ref (r 17), .ref (r 18), .ref (r 19), .ref (r 20), .ref (r 21), .ref (r 22), .ref (r 23), .ref (r 24), .ref (r 25), .ref (r 26), .ref (r 27), .ref (r 28), .ref (r 29), .ref (r 30), .ref (r 31), .ref (r 32), .ref (r 33), .int 0, .int 0, .int 0, .int 0, .int 0, .int 0, .int 0, .ref (r 41), .ref (r 42), .ref (r 43), .ref (r 44), .int 0, .int 0, .int 0, .ref (r 48), .int 0, .int 0, .ref (r 51), .ref (r 52), .ref (r 53), .ref (r 54), .int 0, .ref (r 56), .ref (r 57), .ref (r 58), .int 0, .ref (r 60), .ref (r 61), .ref (r 62), .ref (r 63), .ref (r 64), .ref (r 65), .ref (r 66), .ref (r 67), .ref (r 68), .int 0, .int 0, .int 0, .ref (r 72), .ref (r 73)])), (r 41, .inl (cy 0, 15, .inl (fun _ => 0)))]) [0, 1] rfl
  refine vp_callSi (W.runV (As := [.int (-1)]) (rest := [.ref h0]) ⟨hx, hb, hml, hown, hts⟩ (kX12_longOf_1 l dC dI cy h0 r) (cwV 1 hts (gdV m_795 m_796 m_797 m_5 m_798) rfl rfl rfl (by decide +kernel) ⟨Nat.le_of_ble_eq_true rfl, Nat.le_of_ble_eq_true rfl⟩) ⟨fun a U g mk q => by obtain ⟨q0, qP, qE⟩ := q; exact ⟨q0, qP, qE.call⟩, va_recv hK hP (ci := 12) (q0 := 0) rfl rfl, fun U hU hW => ⟨rfl, by rw [hU]; exact hPc, hE.moved hW⟩⟩ rfl rfl hl.1 rfl (lv_room (Nat.le_of_ble_eq_true rfl)) dX12_layOne_3 ⟨(show 0 + 0 ≤ 0 from by decide +kernel), (show 0 + 0 ≤ 0 from by decide +kernel)⟩) (fun r_1 hw => ?_)
  subst r_1
  refine va_put (D := (dC, dI)) (ci := 12) (v := .int 0) (ty := .int) (C := RX12) (T := TX12) (N := 74) hx hb hts inlX12 tyX12 tyX12_ok nmX12 hown hK hP hD hS 0 rfl rfl 45 (by decide) (hts _ m_868) (fun _ h9 => h9) rfl (by decide +kernel) rfl rfl (Nat.le_of_ble_eq_true rfl) dX12_layOne_6 (fun H locs hP hD hS => ?_)
  have hP : va_P (dC, dI) classes [(h0, .inr (12, [.ref (r 0), .ref (r 1), .int 0, .int 0, .int 0, .int (-1), .int 0, .int 0, .int 0, .int 0, .long 0, .ref (r 11), .ref (r 12), .ref (r 13), .ref (r 14), .ref (r 15), .ref (r 16), .ref (r 17), .ref (r 18), .ref (r 19), .ref (r 20), .ref (r 21), .ref (r 22), .ref (r 23), .ref (r 24), .ref (r 25), .ref (r 26), .ref (r 27), .ref (r 28), .ref (r 29), .ref (r 30), .ref (r 31), .ref (r 32), .ref (r 33), .int 0, .int 0, .int 0, .int 0, .int 0, .int 0, .int 0, .ref (r 41), .ref (r 42), .ref (r 43), .ref (r 44), .int 0, .int 0, .int 0, .ref (r 48), .int 0, .int 0, .ref (r 51), .ref (r 52), .ref (r 53), .ref (r 54), .int 0, .ref (r 56), .ref (r 57), .ref (r 58), .int 0, .ref (r 60), .ref (r 61), .ref (r 62), .ref (r 63), .ref (r 64), .ref (r 65), .ref (r 66), .ref (r 67), .ref (r 68), .int 0, .int 0, .int 0, .ref (r 72), .ref (r 73)])), (r 41, .inl (cy 0, 15, .inl (fun _ => 0)))] H := hP
  have hD : va_D A [(h0, .inr (12, [.ref (r 0), .ref (r 1), .int 0, .int 0, .int 0, .int (-1), .int 0, .int 0, .int 0, .int 0, .long 0, .ref (r 11), .ref (r 12), .ref (r 13), .ref (r 14), .ref (r 15), .ref (r 16), .ref (r 17), .ref (r 18), .ref (r 19), .ref (r 20), .ref (r 21), .ref (r 22), .ref (r 23), .ref (r 24), .ref (r 25), .ref (r 26), .ref (r 27), .ref (r 28), .ref (r 29), .ref (r 30), .ref (r 31), .ref (r 32), .ref (r 33), .int 0, .int 0, .int 0, .int 0, .int 0, .int 0, .int 0, .ref (r 41), .ref (r 42), .ref (r 43), .ref (r 44), .int 0, .int 0, .int 0, .ref (r 48), .int 0, .int 0, .ref (r 51), .ref (r 52), .ref (r 53), .ref (r 54), .int 0, .ref (r 56), .ref (r 57), .ref (r 58), .int 0, .ref (r 60), .ref (r 61), .ref (r 62), .ref (r 63), .ref (r 64), .ref (r 65), .ref (r 66), .ref (r 67), .ref (r 68), .int 0, .int 0, .int 0, .ref (r 72), .ref (r 73)])), (r 41, .inl (cy 0, 15, .inl (fun _ => 0)))] := hD
  refine lv_iconst (v := 0) hx hb dX12_layOne_9 (by decide +kernel) ?_
  refine lv_istore_n (lv' := [(2, .int 0), (0, .ref h0), (1, .int (-1))]) hx hb dX12_layOne_10 rfl hl (by decide) rfl (fun ls hl => ?_)
  refine lv_iload_n hx hb dX12_layOne_11 rfl (lv_at hl 0 rfl) ?_
  refine lv_aload_n hx hb dX12_layOne_12 rfl (lv_at hl 1 rfl) ?_
  refine va_get (D := (dC, dI)) (ci := 12) (v := .int 0) (C := RX12) (T := TX12) (N := 74) hx hb hts inlX12 hown hK hP 0 rfl rfl 45 (by decide) (hts _ m_868) (fun _ h9 => h9) rfl dX12_layOne_13 ?_
  refine lv_icmp_ge (tgt := 37) hx hb dX12_layOne_16 (by decide) (fun _ => ?_) (fun c_ => absurd (by decide +kernel) c_)
  have hP9 := hP.sub (ws' := [(h0, .inr (12, [.ref (r 0), .ref (r 1), .int 0, .int 0, .int 0, .int (-1), .int 0, .int 0, .int 0, .int 0, .long 0, .ref (r 11), .ref (r 12), .ref (r 13), .ref (r 14), .ref (r 15), .ref (r 16), .ref (r 17), .ref (r 18), .ref (r 19), .ref (r 20), .ref (r 21), .ref (r 22), .ref (r 23), .ref (r 24), .ref (r 25), .ref (r 26), .ref (r 27), .ref (r 28), .ref (r 29), .ref (r 30), .ref (r 31), .ref (r 32), .ref (r 33), .int 0, .int 0, .int 0, .int 0, .int 0, .int 0, .int 0, .ref (r 41), .ref (r 42), .ref (r 43), .ref (r 44), .int 0, .int 0, .int 0, .ref (r 48), .int 0, .int 0, .ref (r 51), .ref (r 52), .ref (r 53), .ref (r 54), .int 0, .ref (r 56), .ref (r 57), .ref (r 58), .int 0, .ref (r 60), .ref (r 61), .ref (r 62), .ref (r 63), .ref (r 64), .ref (r 65), .ref (r 66), .ref (r 67), .ref (r 68), .int 0, .int 0, .int 0, .ref (r 72), .ref (r 73)])), (r 41, .inl (cy 0, 15, .inl (fun _ => 0)))]) [0, 1] rfl
  have hD9 := hD.sub (ws' := [(h0, .inr (12, [.ref (r 0), .ref (r 1), .int 0, .int 0, .int 0, .int (-1), .int 0, .int 0, .int 0, .int 0, .long 0, .ref (r 11), .ref (r 12), .ref (r 13), .ref (r 14), .ref (r 15), .ref (r 16), .ref (r 17), .ref (r 18), .ref (r 19), .ref (r 20), .ref (r 21), .ref (r 22), .ref (r 23), .ref (r 24), .ref (r 25), .ref (r 26), .ref (r 27), .ref (r 28), .ref (r 29), .ref (r 30), .ref (r 31), .ref (r 32), .ref (r 33), .int 0, .int 0, .int 0, .int 0, .int 0, .int 0, .int 0, .ref (r 41), .ref (r 42), .ref (r 43), .ref (r 44), .int 0, .int 0, .int 0, .ref (r 48), .int 0, .int 0, .ref (r 51), .ref (r 52), .ref (r 53), .ref (r 54), .int 0, .ref (r 56), .ref (r 57), .ref (r 58), .int 0, .ref (r 60), .ref (r 61), .ref (r 62), .ref (r 63), .ref (r 64), .ref (r 65), .ref (r 66), .ref (r 67), .ref (r 68), .int 0, .int 0, .int 0, .ref (r 72), .ref (r 73)])), (r 41, .inl (cy 0, 15, .inl (fun _ => 0)))]) [0, 1] (by decide) rfl
  exact W.vret hx hb hr (fun t ht hW => ⟨⟨(), rfl, trivial, by rw [ht]; exact hP9, hD9⟩, hS.F ht⟩) hS.2.2 dX12_layOne_37
set_option maxHeartbeats 4000000 in
set_option maxRecDepth 100000 in
theorem kX12_senseOf_1 (l : Launch) (dC : Nat → ClassId) (dI : Nat → Nat → Nat) (cy : Nat → ClassId) (h0 : Nat) (r : Nat → Nat) : Met l yX12_senseOf wmX12_senseOf ({ frames := 0, cells := 0, slots := 0, locals := 0 }) (va_Pc [.ref h0, .ref (r 42), .int 0] (fun U => va_P (dC, dI) classes [] U.heap ∧ EV dC dI cy U)) (vp_Si (fun r_ => r_ = 0)) 0 0 (fun _ => False) := by
  refine Met.ofW (cc := cX12_senseOf) (maxL := 5) (ret := (some .int)) (by decide +kernel) rfl ?_
  intro p e s m args below meth c s₁ B hml hv
  obtain ⟨rfl, hP, hE⟩ := hv
  have hK := hE.1
  have hN := hE.2.1
  have hx := B.exec
  have hb := B.bytes
  have hr := B.returns
  have hts0 := atoms_spec (ws := wmX12_senseOf) B.pre
  have hts : ∀ w ∈ wsL_law, w.before _ s = true := fun w h => hts0 w (List.mem_cons_of_mem _ h)
  have hown : s.vm.findClass RX12 = some m.cls := findClass_of_methodNamed B.named
  have hlocks := B.notSynchronized
  have hl := lv_entry ([.ref h0, .ref (r 42), .int 0]) (n := 5) (Nat.le_of_ble_eq_true rfl)
  rw [lg_entry_eq]
  generalize (lg_sl ([.ref h0, .ref (r 42), .int 0]) ++ List.replicate (5 - (lg_sl ([.ref h0, .ref (r 42), .int 0])).length) Slot.unset).toArray = ls at hl ⊢
  have hl : lv_has ls 5 [(0, .ref h0), (1, .ref (r 42)), (2, .int 0)] := hl
  refine lv_iconst (v := 0) hx hb dX12_senseOf_0 (by decide +kernel) ?_
  refine lv_istore_n (lv' := [(3, .int 0), (0, .ref h0), (1, .ref (r 42)), (2, .int 0)]) hx hb dX12_senseOf_1 rfl hl (by decide) rfl (fun ls hl => ?_)
  refine lv_iconst (v := 1) hx hb dX12_senseOf_2 (by decide +kernel) ?_
  refine lv_istore (lv' := [(4, .int 1), (3, .int 0), (0, .ref h0), (1, .ref (r 42)), (2, .int 0)]) hx hb dX12_senseOf_3 hl (by decide) rfl (fun ls hl => ?_)
  refine lv_iload hx hb dX12_senseOf_5 (lv_at hl 0 rfl) ?_
  refine lv_iload_n hx hb dX12_senseOf_7 rfl (lv_at hl 4 rfl) ?_
  refine lv_icmp_ge (tgt := 34) hx hb dX12_senseOf_8 (by decide) (fun _ => ?_) (fun c_ => absurd (by decide +kernel) c_)
  refine lv_iload_n hx hb dX12_senseOf_34 rfl (lv_at hl 1 rfl) ?_
  exact W.iret (v := 0) hx hb hr (fun t ht hW => ⟨0, rfl, rfl, ht⟩) (fun _ h_ => (List.not_mem_nil h_).elim) dX12_senseOf_35
set_option maxHeartbeats 4000000 in
set_option maxRecDepth 100000 in
theorem kX12_sense_1 (l : Launch) (dC : Nat → ClassId) (dI : Nat → Nat → Nat) (cy : Nat → ClassId) (h0 : Nat) (r : Nat → Nat) (p0 : Int32) (sz : Nat) : Met l yX12_sense wmX12_sense ({ frames := 3, cells := 0, slots := 0, locals := 64 }) (va_Pc [.ref h0, .int p0] (fun U => U.heap.size = sz ∧ va_P (dC, dI) classes [(h0, .inr (12, [.ref (r 0), .ref (r 1), .int 0, .int 0, .int 0, .int (-1), .int 0, .int 0, .int 0, .int 0, .long 0, .ref (r 11), .ref (r 12), .ref (r 13), .ref (r 14), .ref (r 15), .ref (r 16), .ref (r 17), .ref (r 18), .ref (r 19), .ref (r 20), .ref (r 21), .ref (r 22), .ref (r 23), .ref (r 24), .ref (r 25), .ref (r 26), .ref (r 27), .ref (r 28), .ref (r 29), .ref (r 30), .ref (r 31), .ref (r 32), .ref (r 33), .int 0, .int 0, .int 0, .int 0, .int 0, .int 0, .int 0, .ref (r 41), .ref (r 42), .ref (r 43), .ref (r 44), .int 0, .int 0, .int 0, .ref (r 48), .int 0, .int 0, .ref (r 51), .ref (r 52), .ref (r 53), .ref (r 54), .int 0, .ref (r 56), .ref (r 57), .ref (r 58), .int 0, .ref (r 60), .ref (r 61), .ref (r 62), .ref (r 63), .ref (r 64), .ref (r 65), .ref (r 66), .ref (r 67), .ref (r 68), .int 0, .int 0, .int 0, .ref (r 72), .ref (r 73)])), (r 13, .inl (cy 0, 2, .inl (fun _ => 0))), (r 41, .inl (cy 0, 15, .inl (fun _ => 0)))] U.heap ∧ EV dC dI cy U ∧ va_D (fun _ => True) [(h0, .inr (12, [.ref (r 0), .ref (r 1), .int 0, .int 0, .int 0, .int (-1), .int 0, .int 0, .int 0, .int 0, .long 0, .ref (r 11), .ref (r 12), .ref (r 13), .ref (r 14), .ref (r 15), .ref (r 16), .ref (r 17), .ref (r 18), .ref (r 19), .ref (r 20), .ref (r 21), .ref (r 22), .ref (r 23), .ref (r 24), .ref (r 25), .ref (r 26), .ref (r 27), .ref (r 28), .ref (r 29), .ref (r 30), .ref (r 31), .ref (r 32), .ref (r 33), .int 0, .int 0, .int 0, .int 0, .int 0, .int 0, .int 0, .ref (r 41), .ref (r 42), .ref (r 43), .ref (r 44), .int 0, .int 0, .int 0, .ref (r 48), .int 0, .int 0, .ref (r 51), .ref (r 52), .ref (r 53), .ref (r 54), .int 0, .ref (r 56), .ref (r 57), .ref (r 58), .int 0, .ref (r 60), .ref (r 61), .ref (r 62), .ref (r 63), .ref (r 64), .ref (r 65), .ref (r 66), .ref (r 67), .ref (r 68), .int 0, .int 0, .int 0, .ref (r 72), .ref (r 73)])), (r 13, .inl (cy 0, 2, .inl (fun _ => 0))), (r 41, .inl (cy 0, 15, .inl (fun _ => 0)))])) (va_Qi (S := Unit) (fun r_ _ => (r_ = 0 ∧ p0 = (-1)) ∨ (r_ = (-1000000) ∧ ¬ p0 = (-1))) (fun _ _ => True) (va_A [(h0, .inr (12, [.ref (r 0), .ref (r 1), .int 0, .int 0, .int 0, .int (-1), .int 0, .int 0, .int 0, .int 0, .long 0, .ref (r 11), .ref (r 12), .ref (r 13), .ref (r 14), .ref (r 15), .ref (r 16), .ref (r 17), .ref (r 18), .ref (r 19), .ref (r 20), .ref (r 21), .ref (r 22), .ref (r 23), .ref (r 24), .ref (r 25), .ref (r 26), .ref (r 27), .ref (r 28), .ref (r 29), .ref (r 30), .ref (r 31), .ref (r 32), .ref (r 33), .int 0, .int 0, .int 0, .int 0, .int 0, .int 0, .int 0, .ref (r 41), .ref (r 42), .ref (r 43), .ref (r 44), .int 0, .int 0, .int 0, .ref (r 48), .int 0, .int 0, .ref (r 51), .ref (r 52), .ref (r 53), .ref (r 54), .int 0, .ref (r 56), .ref (r 57), .ref (r 58), .int 0, .ref (r 60), .ref (r 61), .ref (r 62), .ref (r 63), .ref (r 64), .ref (r 65), .ref (r 66), .ref (r 67), .ref (r 68), .int 0, .int 0, .int 0, .ref (r 72), .ref (r 73)])), (r 13, .inl (cy 0, 2, .inl (fun _ => 0))), (r 41, .inl (cy 0, 15, .inl (fun _ => 0)))] sz)) 0 0 (va_A [(h0, .inr (12, [.ref (r 0), .ref (r 1), .int 0, .int 0, .int 0, .int (-1), .int 0, .int 0, .int 0, .int 0, .long 0, .ref (r 11), .ref (r 12), .ref (r 13), .ref (r 14), .ref (r 15), .ref (r 16), .ref (r 17), .ref (r 18), .ref (r 19), .ref (r 20), .ref (r 21), .ref (r 22), .ref (r 23), .ref (r 24), .ref (r 25), .ref (r 26), .ref (r 27), .ref (r 28), .ref (r 29), .ref (r 30), .ref (r 31), .ref (r 32), .ref (r 33), .int 0, .int 0, .int 0, .int 0, .int 0, .int 0, .int 0, .ref (r 41), .ref (r 42), .ref (r 43), .ref (r 44), .int 0, .int 0, .int 0, .ref (r 48), .int 0, .int 0, .ref (r 51), .ref (r 52), .ref (r 53), .ref (r 54), .int 0, .ref (r 56), .ref (r 57), .ref (r 58), .int 0, .ref (r 60), .ref (r 61), .ref (r 62), .ref (r 63), .ref (r 64), .ref (r 65), .ref (r 66), .ref (r 67), .ref (r 68), .int 0, .int 0, .int 0, .ref (r 72), .ref (r 73)])), (r 13, .inl (cy 0, 2, .inl (fun _ => 0))), (r 41, .inl (cy 0, 15, .inl (fun _ => 0)))] sz) := by
  refine Met.ofW (cc := cX12_sense) (maxL := 2) (ret := (some .int)) (by decide +kernel) rfl ?_
  intro p e s m args below meth c s₁ B hml hv
  obtain ⟨rfl, hsz, hP, hE, hD0⟩ := hv
  have hK := hE.1
  have hN := hE.2.1
  have hx := B.exec
  have hb := B.bytes
  have hr := B.returns
  have hts0 := atoms_spec (ws := wmX12_sense) B.pre
  have hts : ∀ w ∈ wsL_law, w.before _ s = true := fun w h => hts0 w (List.mem_cons_of_mem _ h)
  have hown : s.vm.findClass RX12 = some m.cls := findClass_of_methodNamed B.named
  have hlocks := B.notSynchronized
  subst hsz
  have hD := hD0.self (sz := s.heap.size)
  generalize hAe : va_A [(h0, .inr (12, [.ref (r 0), .ref (r 1), .int 0, .int 0, .int 0, .int (-1), .int 0, .int 0, .int 0, .int 0, .long 0, .ref (r 11), .ref (r 12), .ref (r 13), .ref (r 14), .ref (r 15), .ref (r 16), .ref (r 17), .ref (r 18), .ref (r 19), .ref (r 20), .ref (r 21), .ref (r 22), .ref (r 23), .ref (r 24), .ref (r 25), .ref (r 26), .ref (r 27), .ref (r 28), .ref (r 29), .ref (r 30), .ref (r 31), .ref (r 32), .ref (r 33), .int 0, .int 0, .int 0, .int 0, .int 0, .int 0, .int 0, .ref (r 41), .ref (r 42), .ref (r 43), .ref (r 44), .int 0, .int 0, .int 0, .ref (r 48), .int 0, .int 0, .ref (r 51), .ref (r 52), .ref (r 53), .ref (r 54), .int 0, .ref (r 56), .ref (r 57), .ref (r 58), .int 0, .ref (r 60), .ref (r 61), .ref (r 62), .ref (r 63), .ref (r 64), .ref (r 65), .ref (r 66), .ref (r 67), .ref (r 68), .int 0, .int 0, .int 0, .ref (r 72), .ref (r 73)])), (r 13, .inl (cy 0, 2, .inl (fun _ => 0))), (r 41, .inl (cy 0, 15, .inl (fun _ => 0)))] s.heap.size = A at hD ⊢
  have hA : ∀ q : Nat, s.heap.size ≤ q → A q := fun q h => by rw [← hAe]; exact Or.inr h
  have hS : va_S A s.heap s.heap [] := va_S.rf
  have hP : va_P (dC, dI) classes [(h0, .inr (12, [.ref (r 0), .ref (r 1), .int 0, .int 0, .int 0, .int (-1), .int 0, .int 0, .int 0, .int 0, .long 0, .ref (r 11), .ref (r 12), .ref (r 13), .ref (r 14), .ref (r 15), .ref (r 16), .ref (r 17), .ref (r 18), .ref (r 19), .ref (r 20), .ref (r 21), .ref (r 22), .ref (r 23), .ref (r 24), .ref (r 25), .ref (r 26), .ref (r 27), .ref (r 28), .ref (r 29), .ref (r 30), .ref (r 31), .ref (r 32), .ref (r 33), .int 0, .int 0, .int 0, .int 0, .int 0, .int 0, .int 0, .ref (r 41), .ref (r 42), .ref (r 43), .ref (r 44), .int 0, .int 0, .int 0, .ref (r 48), .int 0, .int 0, .ref (r 51), .ref (r 52), .ref (r 53), .ref (r 54), .int 0, .ref (r 56), .ref (r 57), .ref (r 58), .int 0, .ref (r 60), .ref (r 61), .ref (r 62), .ref (r 63), .ref (r 64), .ref (r 65), .ref (r 66), .ref (r 67), .ref (r 68), .int 0, .int 0, .int 0, .ref (r 72), .ref (r 73)])), (r 13, .inl (cy 0, 2, .inl (fun _ => 0))), (r 41, .inl (cy 0, 15, .inl (fun _ => 0)))] s.heap := hP
  have hl := lv_entry ([.ref h0, .int p0]) (n := 2) (Nat.le_of_ble_eq_true rfl)
  rw [lg_entry_eq]
  generalize (lg_sl ([.ref h0, .int p0]) ++ List.replicate (2 - (lg_sl ([.ref h0, .int p0])).length) Slot.unset).toArray = ls at hl ⊢
  have hl : lv_has ls 2 [(0, .ref h0), (1, .int p0)] := hl
  refine lv_aload_n hx hb dX12_sense_0 rfl (lv_at hl 0 rfl) ?_
  refine lv_iload_n hx hb dX12_sense_1 rfl (lv_at hl 1 rfl) ?_
  have hPc := hP.sub (ws' := [(h0, .inr (12, [.ref (r 0), .ref (r 1), .int 0, .int 0, .int 0, .int (-1), .int 0, .int 0, .int 0, .int 0, .long 0, .ref (r 11), .ref (r 12), .ref (r 13), .ref (r 14), .ref (r 15), .ref (r 16), .ref (r 17), .ref (r 18), .ref (r 19), .ref (r 20), .ref (r 21), .ref (r 22), .ref (r 23), .ref (r 24), .ref (r 25), .ref (r 26), .ref (r 27), .ref (r 28), .ref (r 29), .ref (r 30), .ref (r 31), .ref (r 32), .ref (r 33), .int 0, .int 0, .int 0, .int 0, .int 0, .int 0, .int 0, .ref (r 41), .ref (r 42), .ref (r 43), .ref (r 44), .int 0, .int 0, .int 0, .ref (r 48), .int 0, .int 0, .ref (r 51), .ref (r 52), .ref (r 53), .ref (r 54), .int 0, .ref (r 56), .ref (r 57), .ref (r 58), .int 0, .ref (r 60), .ref (r 61), .ref (r 62), .ref (r 63), .ref (r 64), .ref (r 65), .ref (r 66), .ref (r 67), .ref (r 68), .int 0, .int 0, .int 0, .ref (r 72), .ref (r 73)])), (r 13, .inl (cy 0, 2, .inl (fun _ => 0)))]) [0, 1] rfl
  refine vp_callSi (W.runV (As := [.int p0]) (rest := []) ⟨hx, hb, hml, hown, hts⟩ (kX12_isSlipOrRow_1 l dC dI cy h0 r p0) (cwV 1 hts (gdV m_815 m_816 m_817 m_5 m_818) rfl rfl rfl (by decide +kernel) ⟨Nat.le_of_ble_eq_true rfl, Nat.le_of_ble_eq_true rfl⟩) ⟨fun a U g mk q => by obtain ⟨q0, qP, qE⟩ := q; exact ⟨q0, qP, qE.call⟩, va_recv hK hP (ci := 12) (q0 := 0) rfl rfl, fun U hU hW => ⟨rfl, by rw [hU]; exact hPc, hE.moved hW⟩⟩ rfl rfl hl.1 rfl (lv_room (Nat.le_of_ble_eq_true rfl)) dX12_sense_2 ⟨(show 0 + 0 ≤ 0 from by decide +kernel), (show 0 + 0 ≤ 0 from by decide +kernel)⟩) (fun r_1 hw => ?_)
  rcases hw with ⟨hr1, c_2⟩ | ⟨hr1, c_3⟩
  · subst r_1
    subst c_2
    refine lv_if_ne (tgt := 12) hx hb dX12_sense_5 (by decide) (fun _ => ?_) (fun c_ => absurd c_ (by decide +kernel))
    refine lv_aload_n hx hb dX12_sense_12 rfl (lv_at hl 0 rfl) ?_
    refine lv_iload_n hx hb dX12_sense_13 rfl (lv_at hl 1 rfl) ?_
    have hPc := hP.sub (ws' := [(h0, .inr (12, [.ref (r 0), .ref (r 1), .int 0, .int 0, .int 0, .int (-1), .int 0, .int 0, .int 0, .int 0, .long 0, .ref (r 11), .ref (r 12), .ref (r 13), .ref (r 14), .ref (r 15), .ref (r 16), .ref (r 17), .ref (r 18), .ref (r 19), .ref (r 20), .ref (r 21), .ref (r 22), .ref (r 23), .ref (r 24), .ref (r 25), .ref (r 26), .ref (r 27), .ref (r 28), .ref (r 29), .ref (r 30), .ref (r 31), .ref (r 32), .ref (r 33), .int 0, .int 0, .int 0, .int 0, .int 0, .int 0, .int 0, .ref (r 41), .ref (r 42), .ref (r 43), .ref (r 44), .int 0, .int 0, .int 0, .ref (r 48), .int 0, .int 0, .ref (r 51), .ref (r 52), .ref (r 53), .ref (r 54), .int 0, .ref (r 56), .ref (r 57), .ref (r 58), .int 0, .ref (r 60), .ref (r 61), .ref (r 62), .ref (r 63), .ref (r 64), .ref (r 65), .ref (r 66), .ref (r 67), .ref (r 68), .int 0, .int 0, .int 0, .ref (r 72), .ref (r 73)])), (r 41, .inl (cy 0, 15, .inl (fun _ => 0)))]) [0, 2] rfl
    have hDc := hD.sub (ws' := [(h0, .inr (12, [.ref (r 0), .ref (r 1), .int 0, .int 0, .int 0, .int (-1), .int 0, .int 0, .int 0, .int 0, .long 0, .ref (r 11), .ref (r 12), .ref (r 13), .ref (r 14), .ref (r 15), .ref (r 16), .ref (r 17), .ref (r 18), .ref (r 19), .ref (r 20), .ref (r 21), .ref (r 22), .ref (r 23), .ref (r 24), .ref (r 25), .ref (r 26), .ref (r 27), .ref (r 28), .ref (r 29), .ref (r 30), .ref (r 31), .ref (r 32), .ref (r 33), .int 0, .int 0, .int 0, .int 0, .int 0, .int 0, .int 0, .ref (r 41), .ref (r 42), .ref (r 43), .ref (r 44), .int 0, .int 0, .int 0, .ref (r 48), .int 0, .int 0, .ref (r 51), .ref (r 52), .ref (r 53), .ref (r 54), .int 0, .ref (r 56), .ref (r 57), .ref (r 58), .int 0, .ref (r 60), .ref (r 61), .ref (r 62), .ref (r 63), .ref (r 64), .ref (r 65), .ref (r 66), .ref (r 67), .ref (r 68), .int 0, .int 0, .int 0, .ref (r 72), .ref (r 73)])), (r 41, .inl (cy 0, 15, .inl (fun _ => 0)))]) [0, 2] (by decide) rfl
    have hFc := va_free (wc := [(h0, .inr (12, [.ref (r 0), .ref (r 1), .int 0, .int 0, .int 0, .int (-1), .int 0, .int 0, .int 0, .int 0, .long 0, .ref (r 11), .ref (r 12), .ref (r 13), .ref (r 14), .ref (r 15), .ref (r 16), .ref (r 17), .ref (r 18), .ref (r 19), .ref (r 20), .ref (r 21), .ref (r 22), .ref (r 23), .ref (r 24), .ref (r 25), .ref (r 26), .ref (r 27), .ref (r 28), .ref (r 29), .ref (r 30), .ref (r 31), .ref (r 32), .ref (r 33), .int 0, .int 0, .int 0, .int 0, .int 0, .int 0, .int 0, .ref (r 41), .ref (r 42), .ref (r 43), .ref (r 44), .int 0, .int 0, .int 0, .ref (r 48), .int 0, .int 0, .ref (r 51), .ref (r 52), .ref (r 53), .ref (r 54), .int 0, .ref (r 56), .ref (r 57), .ref (r 58), .int 0, .ref (r 60), .ref (r 61), .ref (r 62), .ref (r 63), .ref (r 64), .ref (r 65), .ref (r 66), .ref (r 67), .ref (r 68), .int 0, .int 0, .int 0, .ref (r 72), .ref (r 73)])), (r 41, .inl (cy 0, 15, .inl (fun _ => 0)))]) hD hS hA [0, 2] rfl
    refine va_callv (va_runV (As := [.int (-1)]) (rest := []) ⟨hx, hb, hml, hown, hts⟩ (kX12_layOne_1 l dC dI cy h0 r s.heap.size) (cwV 1 hts (gdV m_869 m_870 m_871 m_5 m_872) rfl rfl rfl (by decide +kernel) ⟨Nat.le_of_ble_eq_true rfl, Nat.le_of_ble_eq_true rfl⟩) ⟨fun a U g mk q => by obtain ⟨q0, q1, qP, qE, qD⟩ := q; exact ⟨q0, q1, qP, qE.call, qD⟩, va_recv hK hP (ci := 12) (q0 := 0) rfl rfl, fun U hU hW => ⟨rfl, by rw [hU], by rw [hU]; exact hPc, hE.moved hW, hDc.weaken (fun _ _ _ _ => trivial)⟩⟩ rfl rfl hl.1 rfl (lv_room (Nat.le_of_ble_eq_true rfl)) dX12_sense_14 ⟨(show 0 + 0 ≤ 0 from by decide +kernel), (show 0 + 0 ≤ 0 from by decide +kernel)⟩) hS (fun q _ h => hFc q h) hFc (fun u t H1 locs ht hvm hw hB hz1 hk1 hS => ?_)
    obtain ⟨hP1, hD1⟩ := hB
    rw [ht] at hP1
    obtain ⟨hP, hD⟩ := va_join (wr := [(r 13, .inl (cy 0, 2, .inl (fun _ => 0)))]) (w1 := [(h0, .inr (12, [.ref (r 0), .ref (r 1), .int 0, .int 0, .int 0, .int (-1), .int 0, .int 0, .int 0, .int 0, .long 0, .ref (r 11), .ref (r 12), .ref (r 13), .ref (r 14), .ref (r 15), .ref (r 16), .ref (r 17), .ref (r 18), .ref (r 19), .ref (r 20), .ref (r 21), .ref (r 22), .ref (r 23), .ref (r 24), .ref (r 25), .ref (r 26), .ref (r 27), .ref (r 28), .ref (r 29), .ref (r 30), .ref (r 31), .ref (r 32), .ref (r 33), .int 0, .int 0, .int 0, .int 0, .int 0, .int 0, .int 0, .ref (r 41), .ref (r 42), .ref (r 43), .ref (r 44), .int 0, .int 0, .int 0, .ref (r 48), .int 0, .int 0, .ref (r 51), .ref (r 52), .ref (r 53), .ref (r 54), .int 0, .ref (r 56), .ref (r 57), .ref (r 58), .int 0, .ref (r 60), .ref (r 61), .ref (r 62), .ref (r 63), .ref (r 64), .ref (r 65), .ref (r 66), .ref (r 67), .ref (r 68), .int 0, .int 0, .int 0, .ref (r 72), .ref (r 73)])), (r 41, .inl (cy 0, 15, .inl (fun _ => 0)))]) hP hD [0, 2] [1] rfl rfl (by decide) (by decide) hk1 hFc hP1 hD1
    generalize H1 = H at hP hS ⊢
    have hP : va_P (dC, dI) classes [(r 13, .inl (cy 0, 2, .inl (fun _ => 0))), (h0, .inr (12, [.ref (r 0), .ref (r 1), .int 0, .int 0, .int 0, .int (-1), .int 0, .int 0, .int 0, .int 0, .long 0, .ref (r 11), .ref (r 12), .ref (r 13), .ref (r 14), .ref (r 15), .ref (r 16), .ref (r 17), .ref (r 18), .ref (r 19), .ref (r 20), .ref (r 21), .ref (r 22), .ref (r 23), .ref (r 24), .ref (r 25), .ref (r 26), .ref (r 27), .ref (r 28), .ref (r 29), .ref (r 30), .ref (r 31), .ref (r 32), .ref (r 33), .int 0, .int 0, .int 0, .int 0, .int 0, .int 0, .int 0, .ref (r 41), .ref (r 42), .ref (r 43), .ref (r 44), .int 0, .int 0, .int 0, .ref (r 48), .int 0, .int 0, .ref (r 51), .ref (r 52), .ref (r 53), .ref (r 54), .int 0, .ref (r 56), .ref (r 57), .ref (r 58), .int 0, .ref (r 60), .ref (r 61), .ref (r 62), .ref (r 63), .ref (r 64), .ref (r 65), .ref (r 66), .ref (r 67), .ref (r 68), .int 0, .int 0, .int 0, .ref (r 72), .ref (r 73)])), (r 41, .inl (cy 0, 15, .inl (fun _ => 0)))] H := hP
    have hD : va_D A [(r 13, .inl (cy 0, 2, .inl (fun _ => 0))), (h0, .inr (12, [.ref (r 0), .ref (r 1), .int 0, .int 0, .int 0, .int (-1), .int 0, .int 0, .int 0, .int 0, .long 0, .ref (r 11), .ref (r 12), .ref (r 13), .ref (r 14), .ref (r 15), .ref (r 16), .ref (r 17), .ref (r 18), .ref (r 19), .ref (r 20), .ref (r 21), .ref (r 22), .ref (r 23), .ref (r 24), .ref (r 25), .ref (r 26), .ref (r 27), .ref (r 28), .ref (r 29), .ref (r 30), .ref (r 31), .ref (r 32), .ref (r 33), .int 0, .int 0, .int 0, .int 0, .int 0, .int 0, .int 0, .ref (r 41), .ref (r 42), .ref (r 43), .ref (r 44), .int 0, .int 0, .int 0, .ref (r 48), .int 0, .int 0, .ref (r 51), .ref (r 52), .ref (r 53), .ref (r 54), .int 0, .ref (r 56), .ref (r 57), .ref (r 58), .int 0, .ref (r 60), .ref (r 61), .ref (r 62), .ref (r 63), .ref (r 64), .ref (r 65), .ref (r 66), .ref (r 67), .ref (r 68), .int 0, .int 0, .int 0, .ref (r 72), .ref (r 73)])), (r 41, .inl (cy 0, 15, .inl (fun _ => 0)))] := hD
    refine W.widen (k := 0) (n := 0) (by decide +kernel) (by decide +kernel) ?_
    refine lv_aload_n hx hb dX12_sense_17 rfl (lv_at hl 0 rfl) ?_
    refine lv_aload_n hx hb dX12_sense_18 rfl (lv_at hl 0 rfl) ?_
    refine va_get (D := (dC, dI)) (ci := 12) (v := .ref (r 42)) (C := RX12) (T := TX12) (N := 74) hx hb hts inlX12 hown hK hP 1 rfl rfl 42 (by decide) (hts _ m_245) (fun _ h9 => h9) rfl dX12_sense_19 ?_
    refine lv_aload_n hx hb dX12_sense_22 rfl (lv_at hl 0 rfl) ?_
    refine va_get (D := (dC, dI)) (ci := 12) (v := .int 0) (C := RX12) (T := TX12) (N := 74) hx hb hts inlX12 hown hK hP 1 rfl rfl 45 (by decide) (hts _ m_868) (fun _ h9 => h9) rfl dX12_sense_23 ?_
    have hPc := hP.sub (ws' := []) [] rfl
    refine vp_callSi (W.runV (As := [.ref (r 42), .int 0]) (rest := []) ⟨hx, hb, hml, hown, hts⟩ (kX12_senseOf_1 l dC dI cy h0 r) (cwV 2 hts (gdV m_873 m_874 m_875 m_5 m_876) rfl rfl rfl (by decide +kernel) ⟨Nat.le_of_ble_eq_true rfl, Nat.le_of_ble_eq_true rfl⟩) ⟨fun a U g mk q => by obtain ⟨q0, qP, qE⟩ := q; exact ⟨q0, qP, qE.call⟩, va_recv hK hP (ci := 12) (q0 := 1) rfl rfl, fun U hU hW => ⟨rfl, by rw [hU]; exact hPc, hE.moved hW⟩⟩ rfl rfl hl.1 rfl (lv_room (Nat.le_of_ble_eq_true rfl)) dX12_sense_26 ⟨(show 0 + 0 ≤ 0 from by decide +kernel), (show 0 + 0 ≤ 0 from by decide +kernel)⟩) (fun r_5 hw => ?_)
    subst r_5
    exact W.iret (v := 0) hx hb hr (fun t ht hW => ⟨⟨0, (), rfl, Or.inl ⟨rfl, rfl⟩, trivial⟩, hS.F ht⟩) hS.2.2 dX12_sense_29
  · subst r_1
    refine lv_if_ne (tgt := 12) hx hb dX12_sense_5 (by decide) (fun c_ => absurd (by decide +kernel) c_) (fun _ => ?_)
    refine lv_ldcw (v := (-1000000)) hx hb hown (hts _ m_849) dX12_sense_8 ?_
    exact W.iret (v := (-1000000)) hx hb hr (fun t ht hW => ⟨⟨(-1000000), (), rfl, Or.inr (⟨rfl, c_3⟩), trivial⟩, hS.F ht⟩) hS.2.2 dX12_sense_11
set_option maxHeartbeats 4000000 in
set_option maxRecDepth 100000 in
theorem kX1_has_1 (l : Launch) (dC : Nat → ClassId) (dI : Nat → Nat → Nat) (cy : Nat → ClassId) (h0 h1 : Nat) (p0 : Int32) : Met l yX1_has wmX1_has ({ frames := 0, cells := 0, slots := 0, locals := 0 }) (va_Pc [.ref h0, .int p0] (fun U => va_P (dC, dI) classes [(h0, .inr (1, [.ref h1, .int 0]))] U.heap ∧ EV dC dI cy U)) (vp_Si (fun r_ => r_ = 0)) 0 0 (fun _ => False) := by
  refine Met.ofW (cc := cX1_has) (maxL := 2) (ret := (some .boolean)) (by decide +kernel) rfl ?_
  intro p e s m args below meth c s₁ B hml hv
  obtain ⟨rfl, hP, hE⟩ := hv
  have hK := hE.1
  have hN := hE.2.1
  have hx := B.exec
  have hb := B.bytes
  have hr := B.returns
  have hts0 := atoms_spec (ws := wmX1_has) B.pre
  have hts : ∀ w ∈ wsL_law, w.before _ s = true := fun w h => hts0 w (List.mem_cons_of_mem _ h)
  have hown : s.vm.findClass RX1 = some m.cls := findClass_of_methodNamed B.named
  have hlocks := B.notSynchronized
  have hl := lv_entry ([.ref h0, .int p0]) (n := 2) (Nat.le_of_ble_eq_true rfl)
  rw [lg_entry_eq]
  generalize (lg_sl ([.ref h0, .int p0]) ++ List.replicate (2 - (lg_sl ([.ref h0, .int p0])).length) Slot.unset).toArray = ls at hl ⊢
  have hl : lv_has ls 2 [(0, .ref h0), (1, .int p0)] := hl
  refine lv_iload_n hx hb dX1_has_0 rfl (lv_at hl 1 rfl) ?_
  refine lv_if_lt (tgt := 25) hx hb dX1_has_1 (by decide) (fun c_1 => ?_) (fun c_1 => ?_)
  · refine lv_iconst (v := 0) hx hb dX1_has_25 (by decide +kernel) ?_
    exact W.zret (v := 0) hx hb hr (by decide +kernel) (fun t ht hW => ⟨0, rfl, rfl, ht⟩) (fun _ h_ => (List.not_mem_nil h_).elim) dX1_has_26
  · refine lv_iload_n hx hb dX1_has_4 rfl (lv_at hl 1 rfl) ?_
    refine lv_aload_n hx hb dX1_has_5 rfl (lv_at hl 0 rfl) ?_
    refine va_get (D := (dC, dI)) (ci := 1) (v := .int 0) (C := RX1) (T := TX1) (N := 2) hx hb hts inlX1 hown hK hP 0 rfl rfl 1 (by decide) (hts _ m_140) (fun _ h9 => h9) rfl dX1_has_6 ?_
    refine lv_icmp_ge (tgt := 25) hx hb dX1_has_9 (by decide) (fun c_2 => ?_) (fun c_2 => (nn_7 c_1 c_2).elim)
    refine lv_iconst (v := 0) hx hb dX1_has_25 (by decide +kernel) ?_
    exact W.zret (v := 0) hx hb hr (by decide +kernel) (fun t ht hW => ⟨0, rfl, rfl, ht⟩) (fun _ h_ => (List.not_mem_nil h_).elim) dX1_has_26
set_option maxHeartbeats 4000000 in
set_option maxRecDepth 100000 in
theorem kX11_miss_1 (l : Launch) (dC : Nat → ClassId) (dI : Nat → Nat → Nat) (cy : Nat → ClassId) (h0 h1 h2 h3 h4 h5 h6 h7 h8 h9 h10 h11 h12 h13 h14 h15 h16 : Nat) (p0 : Int32) : Met l yX11_miss wmX11_miss ({ frames := 1, cells := 0, slots := 0, locals := 21 }) (va_Pc [.ref h0, .int p0] (fun U => va_P (dC, dI) classes [(h0, .inr (11, [.ref h1, .ref h2, .ref h3, .ref h4, .ref h5, .ref h6, .ref h7, .ref h8, .ref h9])), (h2, .inr (5, [.ref h10, .ref h11, .ref h12, .ref h13, .ref h14, .int 0, .int 0])), (h10, .inr (8, [.ref h15, .int 0, .int 0])), (h15, .inr (1, [.ref h16, .int 0]))] U.heap ∧ EV dC dI cy U)) (vp_Si (fun r_ => r_ = (-1000000))) 0 0 (fun _ => False) := by
  refine Met.ofW (cc := cX11_miss) (maxL := 3) (ret := (some .int)) (by decide +kernel) rfl ?_
  intro p e s m args below meth c s₁ B hml hv
  obtain ⟨rfl, hP, hE⟩ := hv
  have hK := hE.1
  have hN := hE.2.1
  have hx := B.exec
  have hb := B.bytes
  have hr := B.returns
  have hts0 := atoms_spec (ws := wmX11_miss) B.pre
  have hts : ∀ w ∈ wsL_law, w.before _ s = true := fun w h => hts0 w (List.mem_cons_of_mem _ h)
  have hown : s.vm.findClass RX11 = some m.cls := findClass_of_methodNamed B.named
  have hlocks := B.notSynchronized
  have hl := lv_entry ([.ref h0, .int p0]) (n := 3) (Nat.le_of_ble_eq_true rfl)
  rw [lg_entry_eq]
  generalize (lg_sl ([.ref h0, .int p0]) ++ List.replicate (3 - (lg_sl ([.ref h0, .int p0])).length) Slot.unset).toArray = ls at hl ⊢
  have hl : lv_has ls 3 [(0, .ref h0), (1, .int p0)] := hl
  refine lv_aload_n hx hb dX11_miss_0 rfl (lv_at hl 0 rfl) ?_
  refine va_get (D := (dC, dI)) (ci := 11) (v := .ref h2) (C := RX11) (T := TX11) (N := 9) hx hb hts inlX11 hown hK hP 0 rfl rfl 1 (by decide) (hts _ m_19) (fun _ h9 => h9) rfl dX11_miss_1 ?_
  refine va_getN (D := (dC, dI)) (ci := 5) (v := .ref h10) (C := RX5) (T := TX5) (N := 7) hx hb hts inlX5 hown hK hP 1 rfl rfl 0 (by decide) (va_Nw.use rfl (hN _ nw_38)) (fun _ h9 => h9) rfl dX11_miss_4 ?_
  refine va_getN (D := (dC, dI)) (ci := 8) (v := .ref h15) (C := RX8) (T := TX8) (N := 3) hx hb hts inlX8 hown hK hP 2 rfl rfl 0 (by decide) (va_Nw.use rfl (hN _ nw_33)) (fun _ h9 => h9) rfl dX11_miss_7 ?_
  refine lv_astore_n (lv' := [(2, .ref h15), (0, .ref h0), (1, .int p0)]) hx hb dX11_miss_10 rfl hl (by decide) rfl (fun ls hl => ?_)
  refine lv_aload_n hx hb dX11_miss_11 rfl (lv_at hl 0 rfl) ?_
  refine lv_iload_n hx hb dX11_miss_12 rfl (lv_at hl 2 rfl) ?_
  have hPc := hP.sub (ws' := [(h15, .inr (1, [.ref h16, .int 0]))]) [3] rfl
  refine vp_callSi (W.runV (As := [.int p0]) (rest := []) ⟨hx, hb, hml, hown, hts⟩ (kX1_has_1 l dC dI cy h15 h16 p0) (cwV 1 hts (gdV m_881 m_882 m_883 m_38 m_884) rfl rfl rfl (by decide +kernel) ⟨Nat.le_of_ble_eq_true rfl, Nat.le_of_ble_eq_true rfl⟩) ⟨fun a U g mk q => by obtain ⟨q0, qP, qE⟩ := q; exact ⟨q0, qP, qE.call⟩, va_recv hK hP (ci := 1) (q0 := 3) rfl rfl, fun U hU hW => ⟨rfl, by rw [hU]; exact hPc, hE.moved hW⟩⟩ rfl rfl hl.1 rfl (lv_room (Nat.le_of_ble_eq_true rfl)) dX11_miss_13 ⟨(show 0 + 0 ≤ 0 from by decide +kernel), (show 0 + 0 ≤ 0 from by decide +kernel)⟩) (fun r_1 hw => ?_)
  subst r_1
  refine lv_if_eq (tgt := 31) hx hb dX11_miss_16 (by decide) (fun _ => ?_) (fun c_ => absurd (by decide +kernel) c_)
  refine lv_ldc (v := (-1000000)) hx hb hown (hts _ m_840) dX11_miss_31 ?_
  exact W.iret (v := (-1000000)) hx hb hr (fun t ht hW => ⟨(-1000000), rfl, rfl, ht⟩) (fun _ h_ => (List.not_mem_nil h_).elim) dX11_miss_33
set_option maxHeartbeats 4000000 in
set_option maxRecDepth 100000 in
theorem kX12_miss_1 (l : Launch) (dC : Nat → ClassId) (dI : Nat → Nat → Nat) (cy : Nat → ClassId) (h0 : Nat) (r : Nat → Nat) (p0 : Int32) : Met l yX12_miss wmX12_miss ({ frames := 2, cells := 0, slots := 0, locals := 43 }) (va_Pc [.ref h0, .int p0] (fun U => va_P (dC, dI) classes [(h0, .inr (12, [.ref (r 0), .ref (r 1), .int 0, .int 0, .int 0, .int (-1), .int 0, .int 0, .int 0, .int 0, .long 0, .ref (r 11), .ref (r 12), .ref (r 13), .ref (r 14), .ref (r 15), .ref (r 16), .ref (r 17), .ref (r 18), .ref (r 19), .ref (r 20), .ref (r 21), .ref (r 22), .ref (r 23), .ref (r 24), .ref (r 25), .ref (r 26), .ref (r 27), .ref (r 28), .ref (r 29), .ref (r 30), .ref (r 31), .ref (r 32), .ref (r 33), .int 0, .int 0, .int 0, .int 0, .int 0, .int 0, .int 0, .ref (r 41), .ref (r 42), .ref (r 43), .ref (r 44), .int 0, .int 0, .int 0, .ref (r 48), .int 0, .int 0, .ref (r 51), .ref (r 52), .ref (r 53), .ref (r 54), .int 0, .ref (r 56), .ref (r 57), .ref (r 58), .int 0, .ref (r 60), .ref (r 61), .ref (r 62), .ref (r 63), .ref (r 64), .ref (r 65), .ref (r 66), .ref (r 67), .ref (r 68), .int 0, .int 0, .int 0, .ref (r 72), .ref (r 73)])), (r 41, .inl (cy 0, 15, .inl (fun _ => 0)))] U.heap ∧ EV dC dI cy U)) (vp_Si (fun r_ => r_ = (-1000000))) 0 0 (fun _ => False) := by
  refine Met.ofW (cc := cX12_miss) (maxL := 2) (ret := (some .int)) (by decide +kernel) rfl ?_
  intro p e s m args below meth c s₁ B hml hv
  obtain ⟨rfl, hP, hE⟩ := hv
  have hK := hE.1
  have hN := hE.2.1
  have hx := B.exec
  have hb := B.bytes
  have hr := B.returns
  have hts0 := atoms_spec (ws := wmX12_miss) B.pre
  have hts : ∀ w ∈ wsL_law, w.before _ s = true := fun w h => hts0 w (List.mem_cons_of_mem _ h)
  have hown : s.vm.findClass RX12 = some m.cls := findClass_of_methodNamed B.named
  have hlocks := B.notSynchronized
  have hl := lv_entry ([.ref h0, .int p0]) (n := 2) (Nat.le_of_ble_eq_true rfl)
  rw [lg_entry_eq]
  generalize (lg_sl ([.ref h0, .int p0]) ++ List.replicate (2 - (lg_sl ([.ref h0, .int p0])).length) Slot.unset).toArray = ls at hl ⊢
  have hl : lv_has ls 2 [(0, .ref h0), (1, .int p0)] := hl
  refine lv_aload_n hx hb dX12_miss_0 rfl (lv_at hl 0 rfl) ?_
  refine lv_iload_n hx hb dX12_miss_1 rfl (lv_at hl 1 rfl) ?_
  have hPc := hP.sub (ws' := [(h0, .inr (12, [.ref (r 0), .ref (r 1), .int 0, .int 0, .int 0, .int (-1), .int 0, .int 0, .int 0, .int 0, .long 0, .ref (r 11), .ref (r 12), .ref (r 13), .ref (r 14), .ref (r 15), .ref (r 16), .ref (r 17), .ref (r 18), .ref (r 19), .ref (r 20), .ref (r 21), .ref (r 22), .ref (r 23), .ref (r 24), .ref (r 25), .ref (r 26), .ref (r 27), .ref (r 28), .ref (r 29), .ref (r 30), .ref (r 31), .ref (r 32), .ref (r 33), .int 0, .int 0, .int 0, .int 0, .int 0, .int 0, .int 0, .ref (r 41), .ref (r 42), .ref (r 43), .ref (r 44), .int 0, .int 0, .int 0, .ref (r 48), .int 0, .int 0, .ref (r 51), .ref (r 52), .ref (r 53), .ref (r 54), .int 0, .ref (r 56), .ref (r 57), .ref (r 58), .int 0, .ref (r 60), .ref (r 61), .ref (r 62), .ref (r 63), .ref (r 64), .ref (r 65), .ref (r 66), .ref (r 67), .ref (r 68), .int 0, .int 0, .int 0, .ref (r 72), .ref (r 73)])), (r 41, .inl (cy 0, 15, .inl (fun _ => 0)))]) [0, 1] rfl
  refine vp_callSi (W.runV (As := [.int p0]) (rest := []) ⟨hx, hb, hml, hown, hts⟩ (kX12_isPlace_1 l dC dI cy h0 r p0) (cwV 1 hts (gdV m_771 m_772 m_773 m_5 m_774) rfl rfl rfl (by decide +kernel) ⟨Nat.le_of_ble_eq_true rfl, Nat.le_of_ble_eq_true rfl⟩) ⟨fun a U g mk q => by obtain ⟨q0, qP, qE⟩ := q; exact ⟨q0, qP, qE.call⟩, va_recv hK hP (ci := 12) (q0 := 0) rfl rfl, fun U hU hW => ⟨rfl, by rw [hU]; exact hPc, hE.moved hW⟩⟩ rfl rfl hl.1 rfl (lv_room (Nat.le_of_ble_eq_true rfl)) dX12_miss_2 ⟨(show 0 + 0 ≤ 0 from by decide +kernel), (show 0 + 0 ≤ 0 from by decide +kernel)⟩) (fun r_1 hw => ?_)
  subst r_1
  refine lv_if_eq (tgt := 16) hx hb dX12_miss_5 (by decide) (fun _ => ?_) (fun c_ => absurd (by decide +kernel) c_)
  refine lv_ldcw (v := (-1000000)) hx hb hown (hts _ m_849) dX12_miss_16 ?_
  exact W.iret (v := (-1000000)) hx hb hr (fun t ht hW => ⟨(-1000000), rfl, rfl, ht⟩) (fun _ h_ => (List.not_mem_nil h_).elim) dX12_miss_19
set_option maxHeartbeats 4000000 in
set_option maxRecDepth 100000 in
theorem kX10_placeMissed_1 (l : Launch) (dC : Nat → ClassId) (dI : Nat → Nat → Nat) (cy : Nat → ClassId) (h0 h1 h2 : Nat) : Met l yX10_placeMissed wmX10_placeMissed ({ frames := 0, cells := 0, slots := 0, locals := 0 }) (va_Pc [.ref h0, .ref h1, .int 0] (fun U => va_P (dC, dI) classes [(h1, .inr (1, [.ref h2, .int 0]))] U.heap ∧ EV dC dI cy U)) (vp_Si (fun r_ => r_ = (-1))) 0 0 (fun _ => False) := by
  refine Met.ofW (cc := cX10_placeMissed) (maxL := 7) (ret := (some .int)) (by decide +kernel) rfl ?_
  intro p e s m args below meth c s₁ B hml hv
  obtain ⟨rfl, hP, hE⟩ := hv
  have hK := hE.1
  have hN := hE.2.1
  have hx := B.exec
  have hb := B.bytes
  have hr := B.returns
  have hts0 := atoms_spec (ws := wmX10_placeMissed) B.pre
  have hts : ∀ w ∈ wsL_law, w.before _ s = true := fun w h => hts0 w (List.mem_cons_of_mem _ h)
  have hown : s.vm.findClass RX10 = some m.cls := findClass_of_methodNamed B.named
  have hlocks := B.notSynchronized
  have hl := lv_entry ([.ref h0, .ref h1, .int 0]) (n := 7) (Nat.le_of_ble_eq_true rfl)
  rw [lg_entry_eq]
  generalize (lg_sl ([.ref h0, .ref h1, .int 0]) ++ List.replicate (7 - (lg_sl ([.ref h0, .ref h1, .int 0])).length) Slot.unset).toArray = ls at hl ⊢
  have hl : lv_has ls 7 [(0, .ref h0), (1, .ref h1), (2, .int 0)] := hl
  refine lv_iconst (v := (-1)) hx hb dX10_placeMissed_0 (by decide +kernel) ?_
  refine lv_istore_n (lv' := [(3, .int (-1)), (0, .ref h0), (1, .ref h1), (2, .int 0)]) hx hb dX10_placeMissed_1 rfl hl (by decide) rfl (fun ls hl => ?_)
  refine lv_iconst (v := 0) hx hb dX10_placeMissed_2 (by decide +kernel) ?_
  refine lv_istore (lv' := [(4, .int 0), (3, .int (-1)), (0, .ref h0), (1, .ref h1), (2, .int 0)]) hx hb dX10_placeMissed_3 hl (by decide) rfl (fun ls hl => ?_)
  refine lv_iconst (v := 0) hx hb dX10_placeMissed_5 (by decide +kernel) ?_
  refine lv_istore (lv' := [(5, .int 0), (4, .int 0), (3, .int (-1)), (0, .ref h0), (1, .ref h1), (2, .int 0)]) hx hb dX10_placeMissed_6 hl (by decide) rfl (fun ls hl => ?_)
  refine lv_iload hx hb dX10_placeMissed_8 (lv_at hl 0 rfl) ?_
  refine lv_aload_n hx hb dX10_placeMissed_10 rfl (lv_at hl 4 rfl) ?_
  refine va_getN (D := (dC, dI)) (ci := 1) (v := .int 0) (C := RX1) (T := TX1) (N := 2) hx hb hts inlX1 hown hK hP 0 rfl rfl 1 (by decide) (va_Nw.use rfl (hN _ nw_10)) (fun _ h9 => h9) rfl dX10_placeMissed_11 ?_
  refine lv_icmp_ge (tgt := 65) hx hb dX10_placeMissed_14 (by decide) (fun _ => ?_) (fun c_ => absurd (by decide +kernel) c_)
  refine lv_iload_n hx hb dX10_placeMissed_65 rfl (lv_at hl 2 rfl) ?_
  exact W.iret (v := (-1)) hx hb hr (fun t ht hW => ⟨(-1), rfl, rfl, ht⟩) (fun _ h_ => (List.not_mem_nil h_).elim) dX10_placeMissed_66
set_option maxHeartbeats 4000000 in
set_option maxRecDepth 100000 in
theorem kX10_placeMissed_2 (l : Launch) (dC : Nat → ClassId) (dI : Nat → Nat → Nat) (cy : Nat → ClassId) (h0 h1 h2 : Nat) : Met l yX10_placeMissed wmX10_placeMissed ({ frames := 0, cells := 0, slots := 0, locals := 0 }) (va_Pc [.ref h0, .ref h1, .int 1] (fun U => va_P (dC, dI) classes [(h1, .inr (1, [.ref h2, .int 0]))] U.heap ∧ EV dC dI cy U)) (vp_Si (fun r_ => r_ = (-1))) 0 0 (fun _ => False) := by
  refine Met.ofW (cc := cX10_placeMissed) (maxL := 7) (ret := (some .int)) (by decide +kernel) rfl ?_
  intro p e s m args below meth c s₁ B hml hv
  obtain ⟨rfl, hP, hE⟩ := hv
  have hK := hE.1
  have hN := hE.2.1
  have hx := B.exec
  have hb := B.bytes
  have hr := B.returns
  have hts0 := atoms_spec (ws := wmX10_placeMissed) B.pre
  have hts : ∀ w ∈ wsL_law, w.before _ s = true := fun w h => hts0 w (List.mem_cons_of_mem _ h)
  have hown : s.vm.findClass RX10 = some m.cls := findClass_of_methodNamed B.named
  have hlocks := B.notSynchronized
  have hl := lv_entry ([.ref h0, .ref h1, .int 1]) (n := 7) (Nat.le_of_ble_eq_true rfl)
  rw [lg_entry_eq]
  generalize (lg_sl ([.ref h0, .ref h1, .int 1]) ++ List.replicate (7 - (lg_sl ([.ref h0, .ref h1, .int 1])).length) Slot.unset).toArray = ls at hl ⊢
  have hl : lv_has ls 7 [(0, .ref h0), (1, .ref h1), (2, .int 1)] := hl
  refine lv_iconst (v := (-1)) hx hb dX10_placeMissed_0 (by decide +kernel) ?_
  refine lv_istore_n (lv' := [(3, .int (-1)), (0, .ref h0), (1, .ref h1), (2, .int 1)]) hx hb dX10_placeMissed_1 rfl hl (by decide) rfl (fun ls hl => ?_)
  refine lv_iconst (v := 0) hx hb dX10_placeMissed_2 (by decide +kernel) ?_
  refine lv_istore (lv' := [(4, .int 0), (3, .int (-1)), (0, .ref h0), (1, .ref h1), (2, .int 1)]) hx hb dX10_placeMissed_3 hl (by decide) rfl (fun ls hl => ?_)
  refine lv_iconst (v := 0) hx hb dX10_placeMissed_5 (by decide +kernel) ?_
  refine lv_istore (lv' := [(5, .int 0), (4, .int 0), (3, .int (-1)), (0, .ref h0), (1, .ref h1), (2, .int 1)]) hx hb dX10_placeMissed_6 hl (by decide) rfl (fun ls hl => ?_)
  refine lv_iload hx hb dX10_placeMissed_8 (lv_at hl 0 rfl) ?_
  refine lv_aload_n hx hb dX10_placeMissed_10 rfl (lv_at hl 4 rfl) ?_
  refine va_getN (D := (dC, dI)) (ci := 1) (v := .int 0) (C := RX1) (T := TX1) (N := 2) hx hb hts inlX1 hown hK hP 0 rfl rfl 1 (by decide) (va_Nw.use rfl (hN _ nw_10)) (fun _ h9 => h9) rfl dX10_placeMissed_11 ?_
  refine lv_icmp_ge (tgt := 65) hx hb dX10_placeMissed_14 (by decide) (fun _ => ?_) (fun c_ => absurd (by decide +kernel) c_)
  refine lv_iload_n hx hb dX10_placeMissed_65 rfl (lv_at hl 2 rfl) ?_
  exact W.iret (v := (-1)) hx hb hr (fun t ht hW => ⟨(-1), rfl, rfl, ht⟩) (fun _ h_ => (List.not_mem_nil h_).elim) dX10_placeMissed_66
set_option maxHeartbeats 4000000 in
set_option maxRecDepth 100000 in
theorem kX11_missed_1 (l : Launch) (dC : Nat → ClassId) (dI : Nat → Nat → Nat) (cy : Nat → ClassId) (h0 h1 h2 h3 h4 h5 h6 h7 h8 h9 h10 h11 h12 h13 h14 h15 h16 h17 h18 h19 h20 h21 h22 h23 : Nat) (p0 : Int32) : Met l yX11_missed wmX11_missed ({ frames := 1, cells := 0, slots := 0, locals := 26 }) (va_Pc [.ref h0, .int p0] (fun U => va_P (dC, dI) classes [(h0, .inr (11, [.ref h1, .ref h2, .ref h3, .ref h4, .ref h5, .ref h6, .ref h7, .ref h8, .ref h9])), (h2, .inr (5, [.ref h10, .ref h11, .ref h12, .ref h13, .ref h14, .int 0, .int 0])), (h10, .inr (8, [.ref h15, .int 0, .int 0])), (h15, .inr (1, [.ref h16, .int 0])), (h9, .inr (10, [.ref h17, .ref h18, .ref h19, .ref h20, .ref h21, .ref h22, .ref h23, .int 0, .int 0, .int 0, .int 0, .int 0]))] U.heap ∧ EV dC dI cy U)) (vp_Si (fun r_ => r_ = (-1))) 0 0 (fun _ => False) := by
  refine Met.ofW (cc := cX11_missed) (maxL := 2) (ret := (some .int)) (by decide +kernel) rfl ?_
  intro p e s m args below meth c s₁ B hml hv
  obtain ⟨rfl, hP, hE⟩ := hv
  have hK := hE.1
  have hN := hE.2.1
  have hx := B.exec
  have hb := B.bytes
  have hr := B.returns
  have hts0 := atoms_spec (ws := wmX11_missed) B.pre
  have hts : ∀ w ∈ wsL_law, w.before _ s = true := fun w h => hts0 w (List.mem_cons_of_mem _ h)
  have hown : s.vm.findClass RX11 = some m.cls := findClass_of_methodNamed B.named
  have hlocks := B.notSynchronized
  have hl := lv_entry ([.ref h0, .int p0]) (n := 2) (Nat.le_of_ble_eq_true rfl)
  rw [lg_entry_eq]
  generalize (lg_sl ([.ref h0, .int p0]) ++ List.replicate (2 - (lg_sl ([.ref h0, .int p0])).length) Slot.unset).toArray = ls at hl ⊢
  have hl : lv_has ls 2 [(0, .ref h0), (1, .int p0)] := hl
  refine lv_iload_n hx hb dX11_missed_0 rfl (lv_at hl 1 rfl) ?_
  refine lv_if_eq (tgt := 11) hx hb dX11_missed_1 (by decide) (fun c_1 => ?_) (fun c_1 => ?_)
  · subst c_1
    refine lv_aload_n hx hb dX11_missed_11 rfl (lv_at hl 0 rfl) ?_
    refine va_get (D := (dC, dI)) (ci := 11) (v := .ref h9) (C := RX11) (T := TX11) (N := 9) hx hb hts inlX11 hown hK hP 0 rfl rfl 8 (by decide) (hts _ m_44) (fun _ h9 => h9) rfl dX11_missed_12 ?_
    refine lv_aload_n hx hb dX11_missed_15 rfl (lv_at hl 0 rfl) ?_
    refine va_get (D := (dC, dI)) (ci := 11) (v := .ref h2) (C := RX11) (T := TX11) (N := 9) hx hb hts inlX11 hown hK hP 0 rfl rfl 1 (by decide) (hts _ m_19) (fun _ h9 => h9) rfl dX11_missed_16 ?_
    refine va_getN (D := (dC, dI)) (ci := 5) (v := .ref h10) (C := RX5) (T := TX5) (N := 7) hx hb hts inlX5 hown hK hP 1 rfl rfl 0 (by decide) (va_Nw.use rfl (hN _ nw_38)) (fun _ h9 => h9) rfl dX11_missed_19 ?_
    refine va_getN (D := (dC, dI)) (ci := 8) (v := .ref h15) (C := RX8) (T := TX8) (N := 3) hx hb hts inlX8 hown hK hP 2 rfl rfl 0 (by decide) (va_Nw.use rfl (hN _ nw_33)) (fun _ h9 => h9) rfl dX11_missed_22 ?_
    refine lv_iload_n hx hb dX11_missed_25 rfl (lv_at hl 1 rfl) ?_
    refine lv_iconst (v := 1) hx hb dX11_missed_26 (by decide +kernel) ?_
    refine lv_icmp_ne (tgt := 34) hx hb dX11_missed_27 (by decide) (fun _ => ?_) (fun c_ => absurd c_ (by decide +kernel))
    refine lv_iconst (v := 0) hx hb dX11_missed_34 (by decide +kernel) ?_
    have hPc := hP.sub (ws' := [(h15, .inr (1, [.ref h16, .int 0]))]) [3] rfl
    refine vp_callSi (W.runV (As := [.ref h15, .int 0]) (rest := []) ⟨hx, hb, hml, hown, hts⟩ (kX10_placeMissed_1 l dC dI cy h9 h15 h16) (cwV 2 hts (gdV m_946 m_947 m_948 m_43 m_949) rfl rfl rfl (by decide +kernel) ⟨Nat.le_of_ble_eq_true rfl, Nat.le_of_ble_eq_true rfl⟩) ⟨fun a U g mk q => by obtain ⟨q0, qP, qE⟩ := q; exact ⟨q0, qP, qE.call⟩, va_recv hK hP (ci := 10) (q0 := 4) rfl rfl, fun U hU hW => ⟨rfl, by rw [hU]; exact hPc, hE.moved hW⟩⟩ rfl rfl hl.1 rfl (lv_room (Nat.le_of_ble_eq_true rfl)) dX11_missed_35 ⟨(show 0 + 0 ≤ 0 from by decide +kernel), (show 0 + 0 ≤ 0 from by decide +kernel)⟩) (fun r_2 hw => ?_)
    subst r_2
    exact W.iret (v := (-1)) hx hb hr (fun t ht hW => ⟨(-1), rfl, rfl, ht⟩) (fun _ h_ => (List.not_mem_nil h_).elim) dX11_missed_38
  · refine lv_iload_n hx hb dX11_missed_4 rfl (lv_at hl 1 rfl) ?_
    refine lv_iconst (v := 1) hx hb dX11_missed_5 (by decide +kernel) ?_
    refine lv_icmp_eq (tgt := 11) hx hb dX11_missed_6 (by decide) (fun c_3 => ?_) (fun c_3 => ?_)
    · subst c_3
      refine lv_aload_n hx hb dX11_missed_11 rfl (lv_at hl 0 rfl) ?_
      refine va_get (D := (dC, dI)) (ci := 11) (v := .ref h9) (C := RX11) (T := TX11) (N := 9) hx hb hts inlX11 hown hK hP 0 rfl rfl 8 (by decide) (hts _ m_44) (fun _ h9 => h9) rfl dX11_missed_12 ?_
      refine lv_aload_n hx hb dX11_missed_15 rfl (lv_at hl 0 rfl) ?_
      refine va_get (D := (dC, dI)) (ci := 11) (v := .ref h2) (C := RX11) (T := TX11) (N := 9) hx hb hts inlX11 hown hK hP 0 rfl rfl 1 (by decide) (hts _ m_19) (fun _ h9 => h9) rfl dX11_missed_16 ?_
      refine va_getN (D := (dC, dI)) (ci := 5) (v := .ref h10) (C := RX5) (T := TX5) (N := 7) hx hb hts inlX5 hown hK hP 1 rfl rfl 0 (by decide) (va_Nw.use rfl (hN _ nw_38)) (fun _ h9 => h9) rfl dX11_missed_19 ?_
      refine va_getN (D := (dC, dI)) (ci := 8) (v := .ref h15) (C := RX8) (T := TX8) (N := 3) hx hb hts inlX8 hown hK hP 2 rfl rfl 0 (by decide) (va_Nw.use rfl (hN _ nw_33)) (fun _ h9 => h9) rfl dX11_missed_22 ?_
      refine lv_iload_n hx hb dX11_missed_25 rfl (lv_at hl 1 rfl) ?_
      refine lv_iconst (v := 1) hx hb dX11_missed_26 (by decide +kernel) ?_
      refine lv_icmp_ne (tgt := 34) hx hb dX11_missed_27 (by decide) (fun c_ => absurd (by decide +kernel) c_) (fun _ => ?_)
      refine lv_iconst (v := 1) hx hb dX11_missed_30 (by decide +kernel) ?_
      refine lv_goto (tgt := 35) hx hb dX11_missed_31 (by decide) ?_
      have hPc := hP.sub (ws' := [(h15, .inr (1, [.ref h16, .int 0]))]) [3] rfl
      refine vp_callSi (W.runV (As := [.ref h15, .int 1]) (rest := []) ⟨hx, hb, hml, hown, hts⟩ (kX10_placeMissed_2 l dC dI cy h9 h15 h16) (cwV 2 hts (gdV m_946 m_947 m_948 m_43 m_949) rfl rfl rfl (by decide +kernel) ⟨Nat.le_of_ble_eq_true rfl, Nat.le_of_ble_eq_true rfl⟩) ⟨fun a U g mk q => by obtain ⟨q0, qP, qE⟩ := q; exact ⟨q0, qP, qE.call⟩, va_recv hK hP (ci := 10) (q0 := 4) rfl rfl, fun U hU hW => ⟨rfl, by rw [hU]; exact hPc, hE.moved hW⟩⟩ rfl rfl hl.1 rfl (lv_room (Nat.le_of_ble_eq_true rfl)) dX11_missed_35 ⟨(show 0 + 0 ≤ 0 from by decide +kernel), (show 0 + 0 ≤ 0 from by decide +kernel)⟩) (fun r_4 hw => ?_)
      subst r_4
      exact W.iret (v := (-1)) hx hb hr (fun t ht hW => ⟨(-1), rfl, rfl, ht⟩) (fun _ h_ => (List.not_mem_nil h_).elim) dX11_missed_38
    · refine lv_iconst (v := (-1)) hx hb dX11_missed_9 (by decide +kernel) ?_
      exact W.iret (v := (-1)) hx hb hr (fun t ht hW => ⟨(-1), rfl, rfl, ht⟩) (fun _ h_ => (List.not_mem_nil h_).elim) dX11_missed_10
set_option maxHeartbeats 4000000 in
set_option maxRecDepth 100000 in
theorem kX12_isIn_2 (l : Launch) (dC : Nat → ClassId) (dI : Nat → Nat → Nat) (cy : Nat → ClassId) (p0 : Int32) : Met l yX12_isIn wmX12_isIn ({ frames := 0, cells := 0, slots := 0, locals := 0 }) (va_Pc [.int p0, .int 0, .int 1] (fun U => va_P (dC, dI) classes [] U.heap ∧ EV dC dI cy U)) (vp_Si (fun r_ => (r_ = 0 ∧ p0 < 0) ∨ (r_ = 0 ∧ ¬ p0 < 0 ∧ 1 < p0) ∨ (r_ = 1 ∧ ¬ p0 < 0 ∧ ¬ 1 < p0))) 0 0 (fun _ => False) := by
  refine Met.ofW (cc := cX12_isIn) (maxL := 3) (ret := (some .boolean)) (by decide +kernel) rfl ?_
  intro p e s m args below meth c s₁ B hml hv
  obtain ⟨rfl, hP, hE⟩ := hv
  have hK := hE.1
  have hN := hE.2.1
  have hx := B.exec
  have hb := B.bytes
  have hr := B.returns
  have hts0 := atoms_spec (ws := wmX12_isIn) B.pre
  have hts : ∀ w ∈ wsL_law, w.before _ s = true := fun w h => hts0 w (List.mem_cons_of_mem _ h)
  have hown : s.vm.findClass RX12 = some m.cls := findClass_of_methodNamed B.named
  have hlocks := B.notSynchronized
  have hl := lv_entry ([.int p0, .int 0, .int 1]) (n := 3) (Nat.le_of_ble_eq_true rfl)
  rw [lg_entry_eq]
  generalize (lg_sl ([.int p0, .int 0, .int 1]) ++ List.replicate (3 - (lg_sl ([.int p0, .int 0, .int 1])).length) Slot.unset).toArray = ls at hl ⊢
  have hl : lv_has ls 3 [(0, .int p0), (1, .int 0), (2, .int 1)] := hl
  refine lv_iload_n hx hb dX12_isIn_0 rfl (lv_at hl 0 rfl) ?_
  refine lv_iload_n hx hb dX12_isIn_1 rfl (lv_at hl 1 rfl) ?_
  refine lv_icmp_lt (tgt := 14) hx hb dX12_isIn_2 (by decide) (fun c_1 => ?_) (fun c_1 => ?_)
  · refine lv_iconst (v := 0) hx hb dX12_isIn_14 (by decide +kernel) ?_
    exact W.zret (v := 0) hx hb hr (by decide +kernel) (fun t ht hW => ⟨0, rfl, Or.inl ⟨rfl, c_1⟩, ht⟩) (fun _ h_ => (List.not_mem_nil h_).elim) dX12_isIn_15
  · refine lv_iload_n hx hb dX12_isIn_5 rfl (lv_at hl 0 rfl) ?_
    refine lv_iload_n hx hb dX12_isIn_6 rfl (lv_at hl 2 rfl) ?_
    refine lv_icmp_gt (tgt := 14) hx hb dX12_isIn_7 (by decide) (fun c_2 => ?_) (fun c_2 => ?_)
    · refine lv_iconst (v := 0) hx hb dX12_isIn_14 (by decide +kernel) ?_
      exact W.zret (v := 0) hx hb hr (by decide +kernel) (fun t ht hW => ⟨0, rfl, Or.inr (Or.inl ⟨rfl, c_1, c_2⟩), ht⟩) (fun _ h_ => (List.not_mem_nil h_).elim) dX12_isIn_15
    · refine lv_iconst (v := 1) hx hb dX12_isIn_10 (by decide +kernel) ?_
      refine lv_goto (tgt := 15) hx hb dX12_isIn_11 (by decide) ?_
      exact W.zret (v := 1) hx hb hr (by decide +kernel) (fun t ht hW => ⟨1, rfl, Or.inr (Or.inr (⟨rfl, c_1, c_2⟩)), ht⟩) (fun _ h_ => (List.not_mem_nil h_).elim) dX12_isIn_15
set_option maxHeartbeats 4000000 in
set_option maxRecDepth 100000 in
theorem kX12_missedBy_1 (l : Launch) (dC : Nat → ClassId) (dI : Nat → Nat → Nat) (cy : Nat → ClassId) (h0 : Nat) (r : Nat → Nat) (p0 : Int32) : Met l yX12_missedBy wmX12_missedBy ({ frames := 0, cells := 0, slots := 0, locals := 0 }) (va_Pc [.ref h0, .int p0] (fun U => va_P (dC, dI) classes [(h0, .inr (12, [.ref (r 0), .ref (r 1), .int 0, .int 0, .int 0, .int (-1), .int 0, .int 0, .int 0, .int 0, .long 0, .ref (r 11), .ref (r 12), .ref (r 13), .ref (r 14), .ref (r 15), .ref (r 16), .ref (r 17), .ref (r 18), .ref (r 19), .ref (r 20), .ref (r 21), .ref (r 22), .ref (r 23), .ref (r 24), .ref (r 25), .ref (r 26), .ref (r 27), .ref (r 28), .ref (r 29), .ref (r 30), .ref (r 31), .ref (r 32), .ref (r 33), .int 0, .int 0, .int 0, .int 0, .int 0, .int 0, .int 0, .ref (r 41), .ref (r 42), .ref (r 43), .ref (r 44), .int 0, .int 0, .int 0, .ref (r 48), .int 0, .int 0, .ref (r 51), .ref (r 52), .ref (r 53), .ref (r 54), .int 0, .ref (r 56), .ref (r 57), .ref (r 58), .int 0, .ref (r 60), .ref (r 61), .ref (r 62), .ref (r 63), .ref (r 64), .ref (r 65), .ref (r 66), .ref (r 67), .ref (r 68), .int 0, .int 0, .int 0, .ref (r 72), .ref (r 73)])), (r 41, .inl (cy 0, 15, .inl (fun _ => 0)))] U.heap ∧ EV dC dI cy U)) (vp_Si (fun r_ => r_ = (-1))) 0 0 (fun _ => False) := by
  refine Met.ofW (cc := cX12_missedBy) (maxL := 6) (ret := (some .int)) (by decide +kernel) rfl ?_
  intro p e s m args below meth c s₁ B hml hv
  obtain ⟨rfl, hP, hE⟩ := hv
  have hK := hE.1
  have hN := hE.2.1
  have hx := B.exec
  have hb := B.bytes
  have hr := B.returns
  have hts0 := atoms_spec (ws := wmX12_missedBy) B.pre
  have hts : ∀ w ∈ wsL_law, w.before _ s = true := fun w h => hts0 w (List.mem_cons_of_mem _ h)
  have hown : s.vm.findClass RX12 = some m.cls := findClass_of_methodNamed B.named
  have hlocks := B.notSynchronized
  have hl := lv_entry ([.ref h0, .int p0]) (n := 6) (Nat.le_of_ble_eq_true rfl)
  rw [lg_entry_eq]
  generalize (lg_sl ([.ref h0, .int p0]) ++ List.replicate (6 - (lg_sl ([.ref h0, .int p0])).length) Slot.unset).toArray = ls at hl ⊢
  have hl : lv_has ls 6 [(0, .ref h0), (1, .int p0)] := hl
  refine lv_iconst (v := (-1)) hx hb dX12_missedBy_0 (by decide +kernel) ?_
  refine lv_istore_n (lv' := [(2, .int (-1)), (0, .ref h0), (1, .int p0)]) hx hb dX12_missedBy_1 rfl hl (by decide) rfl (fun ls hl => ?_)
  refine lv_iconst (v := 0) hx hb dX12_missedBy_2 (by decide +kernel) ?_
  refine lv_istore_n (lv' := [(3, .int 0), (2, .int (-1)), (0, .ref h0), (1, .int p0)]) hx hb dX12_missedBy_3 rfl hl (by decide) rfl (fun ls hl => ?_)
  refine lv_iconst (v := 0) hx hb dX12_missedBy_4 (by decide +kernel) ?_
  refine lv_istore (lv' := [(4, .int 0), (3, .int 0), (2, .int (-1)), (0, .ref h0), (1, .int p0)]) hx hb dX12_missedBy_5 hl (by decide) rfl (fun ls hl => ?_)
  refine lv_iload hx hb dX12_missedBy_7 (lv_at hl 0 rfl) ?_
  refine lv_aload_n hx hb dX12_missedBy_9 rfl (lv_at hl 3 rfl) ?_
  refine va_get (D := (dC, dI)) (ci := 12) (v := .ref (r 41)) (C := RX12) (T := TX12) (N := 74) hx hb hts inlX12 hown hK hP 0 rfl rfl 41 (by decide) (hts _ m_244) (fun _ h9 => h9) rfl dX12_missedBy_10 ?_
  refine lv_bipush (v := 12) hx hb dX12_missedBy_13 (by decide +kernel) ?_
  refine va_iald hx hb hK hP 1 0 rfl rfl vi_12_15 dX12_missedBy_15 ?_
  refine W.eq (g2 := F0 m 16 ls [.int 0, .int 0]) rfl ?_
  refine lv_icmp_ge (tgt := 65) hx hb dX12_missedBy_16 (by decide) (fun _ => ?_) (fun c_ => absurd (by decide +kernel) c_)
  refine lv_iload_n hx hb dX12_missedBy_65 rfl (lv_at hl 2 rfl) ?_
  exact W.iret (v := (-1)) hx hb hr (fun t ht hW => ⟨(-1), rfl, rfl, ht⟩) (fun _ h_ => (List.not_mem_nil h_).elim) dX12_missedBy_66
set_option maxHeartbeats 4000000 in
set_option maxRecDepth 100000 in
theorem kX12_missed_1 (l : Launch) (dC : Nat → ClassId) (dI : Nat → Nat → Nat) (cy : Nat → ClassId) (h0 : Nat) (r : Nat → Nat) (p0 : Int32) : Met l yX12_missed wmX12_missed ({ frames := 1, cells := 0, slots := 0, locals := 25 }) (va_Pc [.ref h0, .int p0] (fun U => va_P (dC, dI) classes [(h0, .inr (12, [.ref (r 0), .ref (r 1), .int 0, .int 0, .int 0, .int (-1), .int 0, .int 0, .int 0, .int 0, .long 0, .ref (r 11), .ref (r 12), .ref (r 13), .ref (r 14), .ref (r 15), .ref (r 16), .ref (r 17), .ref (r 18), .ref (r 19), .ref (r 20), .ref (r 21), .ref (r 22), .ref (r 23), .ref (r 24), .ref (r 25), .ref (r 26), .ref (r 27), .ref (r 28), .ref (r 29), .ref (r 30), .ref (r 31), .ref (r 32), .ref (r 33), .int 0, .int 0, .int 0, .int 0, .int 0, .int 0, .int 0, .ref (r 41), .ref (r 42), .ref (r 43), .ref (r 44), .int 0, .int 0, .int 0, .ref (r 48), .int 0, .int 0, .ref (r 51), .ref (r 52), .ref (r 53), .ref (r 54), .int 0, .ref (r 56), .ref (r 57), .ref (r 58), .int 0, .ref (r 60), .ref (r 61), .ref (r 62), .ref (r 63), .ref (r 64), .ref (r 65), .ref (r 66), .ref (r 67), .ref (r 68), .int 0, .int 0, .int 0, .ref (r 72), .ref (r 73)])), (r 41, .inl (cy 0, 15, .inl (fun _ => 0)))] U.heap ∧ EV dC dI cy U)) (vp_Si (fun r_ => r_ = (-1))) 0 0 (fun _ => False) := by
  refine Met.ofW (cc := cX12_missed) (maxL := 2) (ret := (some .int)) (by decide +kernel) rfl ?_
  intro p e s m args below meth c s₁ B hml hv
  obtain ⟨rfl, hP, hE⟩ := hv
  have hK := hE.1
  have hN := hE.2.1
  have hx := B.exec
  have hb := B.bytes
  have hr := B.returns
  have hts0 := atoms_spec (ws := wmX12_missed) B.pre
  have hts : ∀ w ∈ wsL_law, w.before _ s = true := fun w h => hts0 w (List.mem_cons_of_mem _ h)
  have hown : s.vm.findClass RX12 = some m.cls := findClass_of_methodNamed B.named
  have hlocks := B.notSynchronized
  have hl := lv_entry ([.ref h0, .int p0]) (n := 2) (Nat.le_of_ble_eq_true rfl)
  rw [lg_entry_eq]
  generalize (lg_sl ([.ref h0, .int p0]) ++ List.replicate (2 - (lg_sl ([.ref h0, .int p0])).length) Slot.unset).toArray = ls at hl ⊢
  have hl : lv_has ls 2 [(0, .ref h0), (1, .int p0)] := hl
  refine lv_iload_n hx hb dX12_missed_0 rfl (lv_at hl 1 rfl) ?_
  refine lv_iconst (v := 0) hx hb dX12_missed_1 (by decide +kernel) ?_
  refine lv_iconst (v := 1) hx hb dX12_missed_2 (by decide +kernel) ?_
  have hPc := hP.sub (ws' := []) [] rfl
  refine vp_callSi (W.runS (As := [.int p0, .int 0, .int 1]) (rest := []) ⟨hx, hb, hml, hown, hts⟩ (kX12_isIn_2 l dC dI cy p0) (va_cwS 3 hts (gdS m_775 m_776 m_5 m_777) rfl rfl rfl (by decide +kernel) ⟨Nat.le_of_ble_eq_true rfl, Nat.le_of_ble_eq_true rfl⟩) ⟨fun a U g mk q => by obtain ⟨q0, qP, qE⟩ := q; exact ⟨q0, qP, qE.call⟩, fun U hU hW => ⟨rfl, by rw [hU]; exact hPc, hE.moved hW⟩⟩ rfl rfl hl.1 rfl (lv_room (Nat.le_of_ble_eq_true rfl)) dX12_missed_3 ⟨(show 0 + 0 ≤ 0 from by decide +kernel), (show 0 + 0 ≤ 0 from by decide +kernel)⟩) (fun r_1 hw => ?_)
  rcases hw with ⟨hr1, c_2⟩ | ⟨hr1, c_3, c_4⟩ | ⟨hr1, c_5, c_6⟩
  · subst r_1
    refine lv_if_eq (tgt := 17) hx hb dX12_missed_6 (by decide) (fun _ => ?_) (fun c_ => absurd (by decide +kernel) c_)
    refine lv_iconst (v := (-1)) hx hb dX12_missed_17 (by decide +kernel) ?_
    exact W.iret (v := (-1)) hx hb hr (fun t ht hW => ⟨(-1), rfl, rfl, ht⟩) (fun _ h_ => (List.not_mem_nil h_).elim) dX12_missed_18
  · subst r_1
    refine lv_if_eq (tgt := 17) hx hb dX12_missed_6 (by decide) (fun _ => ?_) (fun c_ => absurd (by decide +kernel) c_)
    refine lv_iconst (v := (-1)) hx hb dX12_missed_17 (by decide +kernel) ?_
    exact W.iret (v := (-1)) hx hb hr (fun t ht hW => ⟨(-1), rfl, rfl, ht⟩) (fun _ h_ => (List.not_mem_nil h_).elim) dX12_missed_18
  · subst r_1
    refine lv_if_eq (tgt := 17) hx hb dX12_missed_6 (by decide) (fun c_ => absurd c_ (by decide +kernel)) (fun _ => ?_)
    refine lv_aload_n hx hb dX12_missed_9 rfl (lv_at hl 0 rfl) ?_
    refine lv_iload_n hx hb dX12_missed_10 rfl (lv_at hl 1 rfl) ?_
    have hPc := hP.sub (ws' := [(h0, .inr (12, [.ref (r 0), .ref (r 1), .int 0, .int 0, .int 0, .int (-1), .int 0, .int 0, .int 0, .int 0, .long 0, .ref (r 11), .ref (r 12), .ref (r 13), .ref (r 14), .ref (r 15), .ref (r 16), .ref (r 17), .ref (r 18), .ref (r 19), .ref (r 20), .ref (r 21), .ref (r 22), .ref (r 23), .ref (r 24), .ref (r 25), .ref (r 26), .ref (r 27), .ref (r 28), .ref (r 29), .ref (r 30), .ref (r 31), .ref (r 32), .ref (r 33), .int 0, .int 0, .int 0, .int 0, .int 0, .int 0, .int 0, .ref (r 41), .ref (r 42), .ref (r 43), .ref (r 44), .int 0, .int 0, .int 0, .ref (r 48), .int 0, .int 0, .ref (r 51), .ref (r 52), .ref (r 53), .ref (r 54), .int 0, .ref (r 56), .ref (r 57), .ref (r 58), .int 0, .ref (r 60), .ref (r 61), .ref (r 62), .ref (r 63), .ref (r 64), .ref (r 65), .ref (r 66), .ref (r 67), .ref (r 68), .int 0, .int 0, .int 0, .ref (r 72), .ref (r 73)])), (r 41, .inl (cy 0, 15, .inl (fun _ => 0)))]) [0, 1] rfl
    refine vp_callSi (W.runV (As := [.int p0]) (rest := []) ⟨hx, hb, hml, hown, hts⟩ (kX12_missedBy_1 l dC dI cy h0 r p0) (cwV 1 hts (gdV m_955 m_956 m_957 m_5 m_958) rfl rfl rfl (by decide +kernel) ⟨Nat.le_of_ble_eq_true rfl, Nat.le_of_ble_eq_true rfl⟩) ⟨fun a U g mk q => by obtain ⟨q0, qP, qE⟩ := q; exact ⟨q0, qP, qE.call⟩, va_recv hK hP (ci := 12) (q0 := 0) rfl rfl, fun U hU hW => ⟨rfl, by rw [hU]; exact hPc, hE.moved hW⟩⟩ rfl rfl hl.1 rfl (lv_room (Nat.le_of_ble_eq_true rfl)) dX12_missed_11 ⟨(show 0 + 0 ≤ 0 from by decide +kernel), (show 0 + 0 ≤ 0 from by decide +kernel)⟩) (fun r_7 hw => ?_)
    subst r_7
    refine lv_goto (tgt := 18) hx hb dX12_missed_14 (by decide) ?_
    exact W.iret (v := (-1)) hx hb hr (fun t ht hW => ⟨(-1), rfl, rfl, ht⟩) (fun _ h_ => (List.not_mem_nil h_).elim) dX12_missed_18
set_option maxHeartbeats 4000000 in
set_option maxRecDepth 100000 in
theorem kX11_lacks_1 (l : Launch) (dC : Nat → ClassId) (dI : Nat → Nat → Nat) (cy : Nat → ClassId) (h0 h1 h2 h3 h4 h5 h6 h7 h8 h9 h10 h11 h12 h13 h14 h15 h16 : Nat) (p0 : Int32) : Met l yX11_lacks wmX11_lacks ({ frames := 2, cells := 0, slots := 0, locals := 42 }) (va_Pc [.ref h0, .int p0] (fun U => va_P (dC, dI) classes [(h0, .inr (11, [.ref h1, .ref h2, .ref h3, .ref h4, .ref h5, .ref h6, .ref h7, .ref h8, .ref h9])), (h9, .inr (10, [.ref h10, .ref h11, .ref h12, .ref h13, .ref h14, .ref h15, .ref h16, .int 0, .int 0, .int 0, .int 0, .int 0]))] U.heap ∧ EV dC dI cy U)) (vp_Si (fun r_ => r_ = (-1))) 0 0 (fun _ => False) := by
  refine Met.ofW (cc := cX11_lacks) (maxL := 3) (ret := (some .int)) (by decide +kernel) rfl ?_
  intro p e s m args below meth c s₁ B hml hv
  obtain ⟨rfl, hP, hE⟩ := hv
  have hK := hE.1
  have hN := hE.2.1
  have hx := B.exec
  have hb := B.bytes
  have hr := B.returns
  have hts0 := atoms_spec (ws := wmX11_lacks) B.pre
  have hts : ∀ w ∈ wsL_law, w.before _ s = true := fun w h => hts0 w (List.mem_cons_of_mem _ h)
  have hown : s.vm.findClass RX11 = some m.cls := findClass_of_methodNamed B.named
  have hlocks := B.notSynchronized
  have hl := lv_entry ([.ref h0, .int p0]) (n := 3) (Nat.le_of_ble_eq_true rfl)
  rw [lg_entry_eq]
  generalize (lg_sl ([.ref h0, .int p0]) ++ List.replicate (3 - (lg_sl ([.ref h0, .int p0])).length) Slot.unset).toArray = ls at hl ⊢
  have hl : lv_has ls 3 [(0, .ref h0), (1, .int p0)] := hl
  refine lv_aload_n hx hb dX11_lacks_0 rfl (lv_at hl 0 rfl) ?_
  refine lv_iload_n hx hb dX11_lacks_1 rfl (lv_at hl 1 rfl) ?_
  have hPc := hP.sub (ws' := [(h0, .inr (11, [.ref h1, .ref h2, .ref h3, .ref h4, .ref h5, .ref h6, .ref h7, .ref h8, .ref h9])), (h9, .inr (10, [.ref h10, .ref h11, .ref h12, .ref h13, .ref h14, .ref h15, .ref h16, .int 0, .int 0, .int 0, .int 0, .int 0]))]) [0, 1] rfl
  refine va_csq (W.runV (As := [.int p0]) (rest := []) ⟨hx, hb, hml, hown, hts⟩ (kX11_slipOf_1 l dC dI cy h0 h1 h2 h3 h4 h5 h6 h7 h8 h9 h10 h11 h12 h13 h14 h15 h16 p0) (cwV 1 hts (gdV m_782 m_783 m_784 m_2 m_785) rfl rfl rfl (by decide +kernel) ⟨Nat.le_of_ble_eq_true rfl, Nat.le_of_ble_eq_true rfl⟩) ⟨fun a U g mk q => by obtain ⟨q0, qP, qE⟩ := q; exact ⟨q0, qP, qE.call⟩, va_recv hK hP (ci := 11) (q0 := 0) rfl rfl, fun U hU hW => ⟨rfl, by rw [hU]; exact hPc, hE.moved hW⟩⟩ rfl rfl hl.1 rfl (lv_room (Nat.le_of_ble_eq_true rfl)) dX11_lacks_2 ⟨(show 0 + 0 ≤ 0 from by decide +kernel), (show 0 + 0 ≤ 0 from by decide +kernel)⟩) (fun r_1 hw => ?_)
  subst r_1
  refine W.eq (g2 := F0 m 5 ls [.null]) rfl ?_
  refine lv_astore_nN (lv' := [(2, .null), (0, .ref h0), (1, .int p0)]) hx hb dX11_lacks_5 rfl hl (by decide) rfl (fun ls hl => ?_)
  refine lv_aload_nN hx hb dX11_lacks_6 rfl (lv_at hl 0 rfl) ?_
  refine lv_ifnonnullN hx hb dX11_lacks_7 ?_
  refine lv_iconst (v := (-1)) hx hb dX11_lacks_10 (by decide +kernel) ?_
  refine lv_goto (tgt := 34) hx hb dX11_lacks_11 (by decide) ?_
  exact W.iret (v := (-1)) hx hb hr (fun t ht hW => ⟨(-1), rfl, rfl, ht⟩) (fun _ h_ => (List.not_mem_nil h_).elim) dX11_lacks_34
set_option maxHeartbeats 4000000 in
set_option maxRecDepth 100000 in
theorem kX12_lacks_1 (l : Launch) (dC : Nat → ClassId) (dI : Nat → Nat → Nat) (cy : Nat → ClassId) (h0 : Nat) (r : Nat → Nat) (p0 : Int32) : Met l yX12_lacks wmX12_lacks ({ frames := 2, cells := 0, slots := 0, locals := 43 }) (va_Pc [.ref h0, .int p0] (fun U => va_P (dC, dI) classes [(h0, .inr (12, [.ref (r 0), .ref (r 1), .int 0, .int 0, .int 0, .int (-1), .int 0, .int 0, .int 0, .int 0, .long 0, .ref (r 11), .ref (r 12), .ref (r 13), .ref (r 14), .ref (r 15), .ref (r 16), .ref (r 17), .ref (r 18), .ref (r 19), .ref (r 20), .ref (r 21), .ref (r 22), .ref (r 23), .ref (r 24), .ref (r 25), .ref (r 26), .ref (r 27), .ref (r 28), .ref (r 29), .ref (r 30), .ref (r 31), .ref (r 32), .ref (r 33), .int 0, .int 0, .int 0, .int 0, .int 0, .int 0, .int 0, .ref (r 41), .ref (r 42), .ref (r 43), .ref (r 44), .int 0, .int 0, .int 0, .ref (r 48), .int 0, .int 0, .ref (r 51), .ref (r 52), .ref (r 53), .ref (r 54), .int 0, .ref (r 56), .ref (r 57), .ref (r 58), .int 0, .ref (r 60), .ref (r 61), .ref (r 62), .ref (r 63), .ref (r 64), .ref (r 65), .ref (r 66), .ref (r 67), .ref (r 68), .int 0, .int 0, .int 0, .ref (r 72), .ref (r 73)])), (r 13, .inl (cy 0, 2, .inl (fun _ => 0)))] U.heap ∧ EV dC dI cy U)) (vp_Si (fun r_ => r_ = (-1))) 0 0 (fun _ => False) := by
  refine Met.ofW (cc := cX12_lacks) (maxL := 4) (ret := (some .int)) (by decide +kernel) rfl ?_
  intro p e s m args below meth c s₁ B hml hv
  obtain ⟨rfl, hP, hE⟩ := hv
  have hK := hE.1
  have hN := hE.2.1
  have hx := B.exec
  have hb := B.bytes
  have hr := B.returns
  have hts0 := atoms_spec (ws := wmX12_lacks) B.pre
  have hts : ∀ w ∈ wsL_law, w.before _ s = true := fun w h => hts0 w (List.mem_cons_of_mem _ h)
  have hown : s.vm.findClass RX12 = some m.cls := findClass_of_methodNamed B.named
  have hlocks := B.notSynchronized
  have hl := lv_entry ([.ref h0, .int p0]) (n := 4) (Nat.le_of_ble_eq_true rfl)
  rw [lg_entry_eq]
  generalize (lg_sl ([.ref h0, .int p0]) ++ List.replicate (4 - (lg_sl ([.ref h0, .int p0])).length) Slot.unset).toArray = ls at hl ⊢
  have hl : lv_has ls 4 [(0, .ref h0), (1, .int p0)] := hl
  refine lv_aload_n hx hb dX12_lacks_0 rfl (lv_at hl 0 rfl) ?_
  refine lv_iload_n hx hb dX12_lacks_1 rfl (lv_at hl 1 rfl) ?_
  have hPc := hP.sub (ws' := [(h0, .inr (12, [.ref (r 0), .ref (r 1), .int 0, .int 0, .int 0, .int (-1), .int 0, .int 0, .int 0, .int 0, .long 0, .ref (r 11), .ref (r 12), .ref (r 13), .ref (r 14), .ref (r 15), .ref (r 16), .ref (r 17), .ref (r 18), .ref (r 19), .ref (r 20), .ref (r 21), .ref (r 22), .ref (r 23), .ref (r 24), .ref (r 25), .ref (r 26), .ref (r 27), .ref (r 28), .ref (r 29), .ref (r 30), .ref (r 31), .ref (r 32), .ref (r 33), .int 0, .int 0, .int 0, .int 0, .int 0, .int 0, .int 0, .ref (r 41), .ref (r 42), .ref (r 43), .ref (r 44), .int 0, .int 0, .int 0, .ref (r 48), .int 0, .int 0, .ref (r 51), .ref (r 52), .ref (r 53), .ref (r 54), .int 0, .ref (r 56), .ref (r 57), .ref (r 58), .int 0, .ref (r 60), .ref (r 61), .ref (r 62), .ref (r 63), .ref (r 64), .ref (r 65), .ref (r 66), .ref (r 67), .ref (r 68), .int 0, .int 0, .int 0, .ref (r 72), .ref (r 73)])), (r 13, .inl (cy 0, 2, .inl (fun _ => 0)))]) [0, 1] rfl
  refine vp_callSi (W.runV (As := [.int p0]) (rest := []) ⟨hx, hb, hml, hown, hts⟩ (kX12_isSlip_1 l dC dI cy h0 r p0) (cwV 1 hts (gdV m_791 m_792 m_793 m_5 m_794) rfl rfl rfl (by decide +kernel) ⟨Nat.le_of_ble_eq_true rfl, Nat.le_of_ble_eq_true rfl⟩) ⟨fun a U g mk q => by obtain ⟨q0, qP, qE⟩ := q; exact ⟨q0, qP, qE.call⟩, va_recv hK hP (ci := 12) (q0 := 0) rfl rfl, fun U hU hW => ⟨rfl, by rw [hU]; exact hPc, hE.moved hW⟩⟩ rfl rfl hl.1 rfl (lv_room (Nat.le_of_ble_eq_true rfl)) dX12_lacks_2 ⟨(show 0 + 0 ≤ 0 from by decide +kernel), (show 0 + 0 ≤ 0 from by decide +kernel)⟩) (fun r_1 hw => ?_)
  subst r_1
  refine lv_if_ne (tgt := 10) hx hb dX12_lacks_5 (by decide) (fun c_ => absurd (by decide +kernel) c_) (fun _ => ?_)
  refine lv_iconst (v := (-1)) hx hb dX12_lacks_8 (by decide +kernel) ?_
  exact W.iret (v := (-1)) hx hb hr (fun t ht hW => ⟨(-1), rfl, rfl, ht⟩) (fun _ h_ => (List.not_mem_nil h_).elim) dX12_lacks_9
set_option maxHeartbeats 4000000 in
set_option maxRecDepth 100000 in
theorem kX11_isRule_1 (l : Launch) (dC : Nat → ClassId) (dI : Nat → Nat → Nat) (cy : Nat → ClassId) (p0 : Int32) : Met l yX11_isRule wmX11_isRule ({ frames := 0, cells := 0, slots := 0, locals := 0 }) (va_Pc [.int p0] (fun U => va_P (dC, dI) classes [] U.heap ∧ EV dC dI cy U)) (vp_Si (fun r_ => (r_ = 0 ∧ p0 < 0) ∨ (r_ = 0 ∧ ¬ p0 < 0 ∧ 3 ≤ p0) ∨ (r_ = 1 ∧ ¬ p0 < 0 ∧ ¬ 3 ≤ p0))) 0 0 (fun _ => False) := by
  refine Met.ofW (cc := cX11_isRule) (maxL := 1) (ret := (some .boolean)) (by decide +kernel) rfl ?_
  intro p e s m args below meth c s₁ B hml hv
  obtain ⟨rfl, hP, hE⟩ := hv
  have hK := hE.1
  have hN := hE.2.1
  have hx := B.exec
  have hb := B.bytes
  have hr := B.returns
  have hts0 := atoms_spec (ws := wmX11_isRule) B.pre
  have hts : ∀ w ∈ wsL_law, w.before _ s = true := fun w h => hts0 w (List.mem_cons_of_mem _ h)
  have hown : s.vm.findClass RX11 = some m.cls := findClass_of_methodNamed B.named
  have hlocks := B.notSynchronized
  have hl := lv_entry ([.int p0]) (n := 1) (Nat.le_of_ble_eq_true rfl)
  rw [lg_entry_eq]
  generalize (lg_sl ([.int p0]) ++ List.replicate (1 - (lg_sl ([.int p0])).length) Slot.unset).toArray = ls at hl ⊢
  have hl : lv_has ls 1 [(0, .int p0)] := hl
  refine lv_iload_n hx hb dX11_isRule_0 rfl (lv_at hl 0 rfl) ?_
  refine lv_if_lt (tgt := 13) hx hb dX11_isRule_1 (by decide) (fun c_1 => ?_) (fun c_1 => ?_)
  · refine lv_iconst (v := 0) hx hb dX11_isRule_13 (by decide +kernel) ?_
    exact W.zret (v := 0) hx hb hr (by decide +kernel) (fun t ht hW => ⟨0, rfl, Or.inl ⟨rfl, c_1⟩, ht⟩) (fun _ h_ => (List.not_mem_nil h_).elim) dX11_isRule_14
  · refine lv_iload_n hx hb dX11_isRule_4 rfl (lv_at hl 0 rfl) ?_
    refine lv_iconst (v := 3) hx hb dX11_isRule_5 (by decide +kernel) ?_
    refine lv_icmp_ge (tgt := 13) hx hb dX11_isRule_6 (by decide) (fun c_2 => ?_) (fun c_2 => ?_)
    · refine lv_iconst (v := 0) hx hb dX11_isRule_13 (by decide +kernel) ?_
      exact W.zret (v := 0) hx hb hr (by decide +kernel) (fun t ht hW => ⟨0, rfl, Or.inr (Or.inl ⟨rfl, c_1, c_2⟩), ht⟩) (fun _ h_ => (List.not_mem_nil h_).elim) dX11_isRule_14
    · refine lv_iconst (v := 1) hx hb dX11_isRule_9 (by decide +kernel) ?_
      refine lv_goto (tgt := 14) hx hb dX11_isRule_10 (by decide) ?_
      exact W.zret (v := 1) hx hb hr (by decide +kernel) (fun t ht hW => ⟨1, rfl, Or.inr (Or.inr (⟨rfl, c_1, c_2⟩)), ht⟩) (fun _ h_ => (List.not_mem_nil h_).elim) dX11_isRule_14
set_option maxHeartbeats 4000000 in
set_option maxRecDepth 100000 in
theorem kX5_passOn_1 (l : Launch) (dC : Nat → ClassId) (dI : Nat → Nat → Nat) (cy : Nat → ClassId) (h0 h1 h2 h3 h4 h5 h6 h7 h8 : Nat) (p0 : Int32) : Met l yX5_passOn wmX5_passOn ({ frames := 0, cells := 0, slots := 0, locals := 0 }) (va_Pc [.ref h0, .ref h1, .int p0] (fun U => va_P (dC, dI) classes [(h0, .inr (5, [.ref h2, .ref h3, .ref h4, .ref h5, .ref h6, .int 0, .int 0])), (h2, .inr (8, [.ref h7, .int 0, .int 0])), (h7, .inr (1, [.ref h8, .int 0]))] U.heap ∧ EV dC dI cy U)) (vp_Si (fun r_ => r_ = (-1))) 0 0 (fun _ => False) := by
  refine Met.ofW (cc := cX5_passOn) (maxL := 4) (ret := (some .int)) (by decide +kernel) rfl ?_
  intro p e s m args below meth c s₁ B hml hv
  obtain ⟨rfl, hP, hE⟩ := hv
  have hK := hE.1
  have hN := hE.2.1
  have hx := B.exec
  have hb := B.bytes
  have hr := B.returns
  have hts0 := atoms_spec (ws := wmX5_passOn) B.pre
  have hts : ∀ w ∈ wsL_law, w.before _ s = true := fun w h => hts0 w (List.mem_cons_of_mem _ h)
  have hown : s.vm.findClass RX5 = some m.cls := findClass_of_methodNamed B.named
  have hlocks := B.notSynchronized
  have hl := lv_entry ([.ref h0, .ref h1, .int p0]) (n := 4) (Nat.le_of_ble_eq_true rfl)
  rw [lg_entry_eq]
  generalize (lg_sl ([.ref h0, .ref h1, .int p0]) ++ List.replicate (4 - (lg_sl ([.ref h0, .ref h1, .int p0])).length) Slot.unset).toArray = ls at hl ⊢
  have hl : lv_has ls 4 [(0, .ref h0), (1, .ref h1), (2, .int p0)] := hl
  refine lv_aload_n hx hb dX5_passOn_0 rfl (lv_at hl 0 rfl) ?_
  refine va_get (D := (dC, dI)) (ci := 5) (v := .ref h2) (C := RX5) (T := TX5) (N := 7) hx hb hts inlX5 hown hK hP 0 rfl rfl 0 (by decide) (hts _ m_156) (fun _ h9 => h9) rfl dX5_passOn_1 ?_
  refine va_getN (D := (dC, dI)) (ci := 8) (v := .ref h7) (C := RX8) (T := TX8) (N := 3) hx hb hts inlX8 hown hK hP 1 rfl rfl 0 (by decide) (va_Nw.use rfl (hN _ nw_32)) (fun _ h9 => h9) rfl dX5_passOn_4 ?_
  refine va_getN (D := (dC, dI)) (ci := 1) (v := .int 0) (C := RX1) (T := TX1) (N := 2) hx hb hts inlX1 hown hK hP 2 rfl rfl 1 (by decide) (va_Nw.use rfl (hN _ nw_7)) (fun _ h9 => h9) rfl dX5_passOn_7 ?_
  refine lv_iconst (v := 1) hx hb dX5_passOn_10 (by decide +kernel) ?_
  refine lv_icmp_lt (tgt := 27) hx hb dX5_passOn_11 (by decide) (fun _ => ?_) (fun c_ => absurd (by decide +kernel) c_)
  refine lv_iconst (v := (-1)) hx hb dX5_passOn_27 (by decide +kernel) ?_
  exact W.iret (v := (-1)) hx hb hr (fun t ht hW => ⟨(-1), rfl, rfl, ht⟩) (fun _ h_ => (List.not_mem_nil h_).elim) dX5_passOn_28
set_option maxHeartbeats 4000000 in
set_option maxRecDepth 100000 in
theorem kX11_round_1 (l : Launch) (dC : Nat → ClassId) (dI : Nat → Nat → Nat) (cy : Nat → ClassId) (h0 h1 h2 h3 h4 h5 h6 h7 h8 h9 h10 h11 h12 h13 h14 h15 h16 : Nat) (p0 : Int32) : Met l yX11_round wmX11_round ({ frames := 1, cells := 0, slots := 0, locals := 23 }) (va_Pc [.ref h0, .int p0] (fun U => va_P (dC, dI) classes [(h0, .inr (11, [.ref h1, .ref h2, .ref h3, .ref h4, .ref h5, .ref h6, .ref h7, .ref h8, .ref h9])), (h2, .inr (5, [.ref h10, .ref h11, .ref h12, .ref h13, .ref h14, .int 0, .int 0])), (h10, .inr (8, [.ref h15, .int 0, .int 0])), (h15, .inr (1, [.ref h16, .int 0]))] U.heap ∧ EV dC dI cy U)) (vp_Si (fun r_ => r_ = (-1))) 0 0 (fun _ => False) := by
  refine Met.ofW (cc := cX11_round) (maxL := 2) (ret := (some .int)) (by decide +kernel) rfl ?_
  intro p e s m args below meth c s₁ B hml hv
  obtain ⟨rfl, hP, hE⟩ := hv
  have hK := hE.1
  have hN := hE.2.1
  have hx := B.exec
  have hb := B.bytes
  have hr := B.returns
  have hts0 := atoms_spec (ws := wmX11_round) B.pre
  have hts : ∀ w ∈ wsL_law, w.before _ s = true := fun w h => hts0 w (List.mem_cons_of_mem _ h)
  have hown : s.vm.findClass RX11 = some m.cls := findClass_of_methodNamed B.named
  have hlocks := B.notSynchronized
  have hl := lv_entry ([.ref h0, .int p0]) (n := 2) (Nat.le_of_ble_eq_true rfl)
  rw [lg_entry_eq]
  generalize (lg_sl ([.ref h0, .int p0]) ++ List.replicate (2 - (lg_sl ([.ref h0, .int p0])).length) Slot.unset).toArray = ls at hl ⊢
  have hl : lv_has ls 2 [(0, .ref h0), (1, .int p0)] := hl
  refine lv_iload_n hx hb dX11_round_0 rfl (lv_at hl 1 rfl) ?_
  have hPc := hP.sub (ws' := []) [] rfl
  refine vp_callSi (W.runS (As := [.int p0]) (rest := []) ⟨hx, hb, hml, hown, hts⟩ (kX11_isRule_1 l dC dI cy p0) (va_cwS 1 hts (gdS m_975 m_976 m_2 m_977) rfl rfl rfl (by decide +kernel) ⟨Nat.le_of_ble_eq_true rfl, Nat.le_of_ble_eq_true rfl⟩) ⟨fun a U g mk q => by obtain ⟨q0, qP, qE⟩ := q; exact ⟨q0, qP, qE.call⟩, fun U hU hW => ⟨rfl, by rw [hU]; exact hPc, hE.moved hW⟩⟩ rfl rfl hl.1 rfl (lv_room (Nat.le_of_ble_eq_true rfl)) dX11_round_1 ⟨(show 0 + 0 ≤ 0 from by decide +kernel), (show 0 + 0 ≤ 0 from by decide +kernel)⟩) (fun r_1 hw => ?_)
  rcases hw with ⟨hr1, c_2⟩ | ⟨hr1, c_3, c_4⟩ | ⟨hr1, c_5, c_6⟩
  · subst r_1
    refine lv_if_eq (tgt := 22) hx hb dX11_round_4 (by decide) (fun _ => ?_) (fun c_ => absurd (by decide +kernel) c_)
    refine lv_iconst (v := (-1)) hx hb dX11_round_22 (by decide +kernel) ?_
    exact W.iret (v := (-1)) hx hb hr (fun t ht hW => ⟨(-1), rfl, rfl, ht⟩) (fun _ h_ => (List.not_mem_nil h_).elim) dX11_round_23
  · subst r_1
    refine lv_if_eq (tgt := 22) hx hb dX11_round_4 (by decide) (fun _ => ?_) (fun c_ => absurd (by decide +kernel) c_)
    refine lv_iconst (v := (-1)) hx hb dX11_round_22 (by decide +kernel) ?_
    exact W.iret (v := (-1)) hx hb hr (fun t ht hW => ⟨(-1), rfl, rfl, ht⟩) (fun _ h_ => (List.not_mem_nil h_).elim) dX11_round_23
  · subst r_1
    refine lv_if_eq (tgt := 22) hx hb dX11_round_4 (by decide) (fun c_ => absurd c_ (by decide +kernel)) (fun _ => ?_)
    refine lv_aload_n hx hb dX11_round_7 rfl (lv_at hl 0 rfl) ?_
    refine va_get (D := (dC, dI)) (ci := 11) (v := .ref h2) (C := RX11) (T := TX11) (N := 9) hx hb hts inlX11 hown hK hP 0 rfl rfl 1 (by decide) (hts _ m_19) (fun _ h9 => h9) rfl dX11_round_8 ?_
    refine lv_aload_n hx hb dX11_round_11 rfl (lv_at hl 0 rfl) ?_
    refine va_get (D := (dC, dI)) (ci := 11) (v := .ref h9) (C := RX11) (T := TX11) (N := 9) hx hb hts inlX11 hown hK hP 0 rfl rfl 8 (by decide) (hts _ m_44) (fun _ h9 => h9) rfl dX11_round_12 ?_
    refine lv_iload_n hx hb dX11_round_15 rfl (lv_at hl 1 rfl) ?_
    have hPc := hP.sub (ws' := [(h2, .inr (5, [.ref h10, .ref h11, .ref h12, .ref h13, .ref h14, .int 0, .int 0])), (h10, .inr (8, [.ref h15, .int 0, .int 0])), (h15, .inr (1, [.ref h16, .int 0]))]) [1, 2, 3] rfl
    refine vp_callSi (W.runV (As := [.ref h9, .int p0]) (rest := []) ⟨hx, hb, hml, hown, hts⟩ (kX5_passOn_1 l dC dI cy h2 h9 h10 h11 h12 h13 h14 h15 h16 p0) (cwV 2 hts (gdV m_978 m_979 m_980 m_18 m_981) rfl rfl rfl (by decide +kernel) ⟨Nat.le_of_ble_eq_true rfl, Nat.le_of_ble_eq_true rfl⟩) ⟨fun a U g mk q => by obtain ⟨q0, qP, qE⟩ := q; exact ⟨q0, qP, qE.call⟩, va_recv hK hP (ci := 5) (q0 := 1) rfl rfl, fun U hU hW => ⟨rfl, by rw [hU]; exact hPc, hE.moved hW⟩⟩ rfl rfl hl.1 rfl (lv_room (Nat.le_of_ble_eq_true rfl)) dX11_round_16 ⟨(show 0 + 0 ≤ 0 from by decide +kernel), (show 0 + 0 ≤ 0 from by decide +kernel)⟩) (fun r_7 hw => ?_)
    subst r_7
    refine lv_goto (tgt := 23) hx hb dX11_round_19 (by decide) ?_
    exact W.iret (v := (-1)) hx hb hr (fun t ht hW => ⟨(-1), rfl, rfl, ht⟩) (fun _ h_ => (List.not_mem_nil h_).elim) dX11_round_23
set_option maxHeartbeats 4000000 in
set_option maxRecDepth 100000 in
theorem kX12_isRule_1 (l : Launch) (dC : Nat → ClassId) (dI : Nat → Nat → Nat) (cy : Nat → ClassId) (p0 : Int32) : Met l yX12_isRule wmX12_isRule ({ frames := 0, cells := 0, slots := 0, locals := 0 }) (va_Pc [.int p0] (fun U => va_P (dC, dI) classes [] U.heap ∧ EV dC dI cy U)) (vp_Si (fun r_ => (r_ = 0 ∧ p0 < 0) ∨ (r_ = 0 ∧ ¬ p0 < 0 ∧ 2 < p0) ∨ (r_ = 1 ∧ ¬ p0 < 0 ∧ ¬ 2 < p0))) 0 0 (fun _ => False) := by
  refine Met.ofW (cc := cX12_isRule) (maxL := 1) (ret := (some .boolean)) (by decide +kernel) rfl ?_
  intro p e s m args below meth c s₁ B hml hv
  obtain ⟨rfl, hP, hE⟩ := hv
  have hK := hE.1
  have hN := hE.2.1
  have hx := B.exec
  have hb := B.bytes
  have hr := B.returns
  have hts0 := atoms_spec (ws := wmX12_isRule) B.pre
  have hts : ∀ w ∈ wsL_law, w.before _ s = true := fun w h => hts0 w (List.mem_cons_of_mem _ h)
  have hown : s.vm.findClass RX12 = some m.cls := findClass_of_methodNamed B.named
  have hlocks := B.notSynchronized
  have hl := lv_entry ([.int p0]) (n := 1) (Nat.le_of_ble_eq_true rfl)
  rw [lg_entry_eq]
  generalize (lg_sl ([.int p0]) ++ List.replicate (1 - (lg_sl ([.int p0])).length) Slot.unset).toArray = ls at hl ⊢
  have hl : lv_has ls 1 [(0, .int p0)] := hl
  refine lv_iload_n hx hb dX12_isRule_0 rfl (lv_at hl 0 rfl) ?_
  refine lv_if_lt (tgt := 13) hx hb dX12_isRule_1 (by decide) (fun c_1 => ?_) (fun c_1 => ?_)
  · refine lv_iconst (v := 0) hx hb dX12_isRule_13 (by decide +kernel) ?_
    exact W.zret (v := 0) hx hb hr (by decide +kernel) (fun t ht hW => ⟨0, rfl, Or.inl ⟨rfl, c_1⟩, ht⟩) (fun _ h_ => (List.not_mem_nil h_).elim) dX12_isRule_14
  · refine lv_iload_n hx hb dX12_isRule_4 rfl (lv_at hl 0 rfl) ?_
    refine lv_iconst (v := 2) hx hb dX12_isRule_5 (by decide +kernel) ?_
    refine lv_icmp_gt (tgt := 13) hx hb dX12_isRule_6 (by decide) (fun c_2 => ?_) (fun c_2 => ?_)
    · refine lv_iconst (v := 0) hx hb dX12_isRule_13 (by decide +kernel) ?_
      exact W.zret (v := 0) hx hb hr (by decide +kernel) (fun t ht hW => ⟨0, rfl, Or.inr (Or.inl ⟨rfl, c_1, c_2⟩), ht⟩) (fun _ h_ => (List.not_mem_nil h_).elim) dX12_isRule_14
    · refine lv_iconst (v := 1) hx hb dX12_isRule_9 (by decide +kernel) ?_
      refine lv_goto (tgt := 14) hx hb dX12_isRule_10 (by decide) ?_
      exact W.zret (v := 1) hx hb hr (by decide +kernel) (fun t ht hW => ⟨1, rfl, Or.inr (Or.inr (⟨rfl, c_1, c_2⟩)), ht⟩) (fun _ h_ => (List.not_mem_nil h_).elim) dX12_isRule_14
set_option maxHeartbeats 4000000 in
set_option maxRecDepth 100000 in
theorem kX12_round_1 (l : Launch) (dC : Nat → ClassId) (dI : Nat → Nat → Nat) (cy : Nat → ClassId) (h0 : Nat) (r : Nat → Nat) (p0 : Int32) : Met l yX12_round wmX12_round ({ frames := 1, cells := 0, slots := 0, locals := 20 }) (va_Pc [.ref h0, .int p0] (fun U => va_P (dC, dI) classes [(h0, .inr (12, [.ref (r 0), .ref (r 1), .int 0, .int 0, .int 0, .int (-1), .int 0, .int 0, .int 0, .int 0, .long 0, .ref (r 11), .ref (r 12), .ref (r 13), .ref (r 14), .ref (r 15), .ref (r 16), .ref (r 17), .ref (r 18), .ref (r 19), .ref (r 20), .ref (r 21), .ref (r 22), .ref (r 23), .ref (r 24), .ref (r 25), .ref (r 26), .ref (r 27), .ref (r 28), .ref (r 29), .ref (r 30), .ref (r 31), .ref (r 32), .ref (r 33), .int 0, .int 0, .int 0, .int 0, .int 0, .int 0, .int 0, .ref (r 41), .ref (r 42), .ref (r 43), .ref (r 44), .int 0, .int 0, .int 0, .ref (r 48), .int 0, .int 0, .ref (r 51), .ref (r 52), .ref (r 53), .ref (r 54), .int 0, .ref (r 56), .ref (r 57), .ref (r 58), .int 0, .ref (r 60), .ref (r 61), .ref (r 62), .ref (r 63), .ref (r 64), .ref (r 65), .ref (r 66), .ref (r 67), .ref (r 68), .int 0, .int 0, .int 0, .ref (r 72), .ref (r 73)])), (r 41, .inl (cy 0, 15, .inl (fun _ => 0)))] U.heap ∧ EV dC dI cy U)) (vp_Si (fun r_ => r_ = (-1))) 0 0 (fun _ => False) := by
  refine Met.ofW (cc := cX12_round) (maxL := 2) (ret := (some .int)) (by decide +kernel) rfl ?_
  intro p e s m args below meth c s₁ B hml hv
  obtain ⟨rfl, hP, hE⟩ := hv
  have hK := hE.1
  have hN := hE.2.1
  have hx := B.exec
  have hb := B.bytes
  have hr := B.returns
  have hts0 := atoms_spec (ws := wmX12_round) B.pre
  have hts : ∀ w ∈ wsL_law, w.before _ s = true := fun w h => hts0 w (List.mem_cons_of_mem _ h)
  have hown : s.vm.findClass RX12 = some m.cls := findClass_of_methodNamed B.named
  have hlocks := B.notSynchronized
  have hl := lv_entry ([.ref h0, .int p0]) (n := 2) (Nat.le_of_ble_eq_true rfl)
  rw [lg_entry_eq]
  generalize (lg_sl ([.ref h0, .int p0]) ++ List.replicate (2 - (lg_sl ([.ref h0, .int p0])).length) Slot.unset).toArray = ls at hl ⊢
  have hl : lv_has ls 2 [(0, .ref h0), (1, .int p0)] := hl
  refine lv_iload_n hx hb dX12_round_0 rfl (lv_at hl 1 rfl) ?_
  have hPc := hP.sub (ws' := []) [] rfl
  refine vp_callSi (W.runS (As := [.int p0]) (rest := []) ⟨hx, hb, hml, hown, hts⟩ (kX12_isRule_1 l dC dI cy p0) (va_cwS 1 hts (gdS m_1004 m_1005 m_5 m_1006) rfl rfl rfl (by decide +kernel) ⟨Nat.le_of_ble_eq_true rfl, Nat.le_of_ble_eq_true rfl⟩) ⟨fun a U g mk q => by obtain ⟨q0, qP, qE⟩ := q; exact ⟨q0, qP, qE.call⟩, fun U hU hW => ⟨rfl, by rw [hU]; exact hPc, hE.moved hW⟩⟩ rfl rfl hl.1 rfl (lv_room (Nat.le_of_ble_eq_true rfl)) dX12_round_1 ⟨(show 0 + 0 ≤ 0 from by decide +kernel), (show 0 + 0 ≤ 0 from by decide +kernel)⟩) (fun r_1 hw => ?_)
  rcases hw with ⟨hr1, c_2⟩ | ⟨hr1, c_3, c_4⟩ | ⟨hr1, c_5, c_6⟩
  · subst r_1
    refine lv_if_eq (tgt := 30) hx hb dX12_round_4 (by decide) (fun _ => ?_) (fun c_ => absurd (by decide +kernel) c_)
    refine lv_iconst (v := (-1)) hx hb dX12_round_30 (by decide +kernel) ?_
    exact W.iret (v := (-1)) hx hb hr (fun t ht hW => ⟨(-1), rfl, rfl, ht⟩) (fun _ h_ => (List.not_mem_nil h_).elim) dX12_round_31
  · subst r_1
    refine lv_if_eq (tgt := 30) hx hb dX12_round_4 (by decide) (fun _ => ?_) (fun c_ => absurd (by decide +kernel) c_)
    refine lv_iconst (v := (-1)) hx hb dX12_round_30 (by decide +kernel) ?_
    exact W.iret (v := (-1)) hx hb hr (fun t ht hW => ⟨(-1), rfl, rfl, ht⟩) (fun _ h_ => (List.not_mem_nil h_).elim) dX12_round_31
  · subst r_1
    refine lv_if_eq (tgt := 30) hx hb dX12_round_4 (by decide) (fun c_ => absurd c_ (by decide +kernel)) (fun _ => ?_)
    refine lv_aload_n hx hb dX12_round_7 rfl (lv_at hl 0 rfl) ?_
    refine va_get (D := (dC, dI)) (ci := 12) (v := .ref (r 41)) (C := RX12) (T := TX12) (N := 74) hx hb hts inlX12 hown hK hP 0 rfl rfl 41 (by decide) (hts _ m_244) (fun _ h9 => h9) rfl dX12_round_8 ?_
    refine lv_bipush (v := 12) hx hb dX12_round_11 (by decide +kernel) ?_
    refine va_iald hx hb hK hP 1 0 rfl rfl vi_12_15 dX12_round_13 ?_
    refine W.eq (g2 := F0 m 14 ls [.int 0]) rfl ?_
    refine lv_if_eq (tgt := 30) hx hb dX12_round_14 (by decide) (fun _ => ?_) (fun c_ => absurd (by decide +kernel) c_)
    refine lv_iconst (v := (-1)) hx hb dX12_round_30 (by decide +kernel) ?_
    exact W.iret (v := (-1)) hx hb hr (fun t ht hW => ⟨(-1), rfl, rfl, ht⟩) (fun _ h_ => (List.not_mem_nil h_).elim) dX12_round_31
set_option maxHeartbeats 4000000 in
set_option maxRecDepth 100000 in
theorem kX5_dropAt_1 (l : Launch) (dC : Nat → ClassId) (dI : Nat → Nat → Nat) (cy : Nat → ClassId) (h0 h1 h2 h3 h4 h5 h6 h7 : Nat) (p0 : Int32) : Met l yX5_dropAt wmX5_dropAt ({ frames := 1, cells := 0, slots := 0, locals := 21 }) (va_Pc [.ref h0, .int p0] (fun U => va_P (dC, dI) classes [(h0, .inr (5, [.ref h1, .ref h2, .ref h3, .ref h4, .ref h5, .int 0, .int 0])), (h1, .inr (8, [.ref h6, .int 0, .int 0])), (h6, .inr (1, [.ref h7, .int 0]))] U.heap ∧ EV dC dI cy U)) (vp_Si (fun r_ => r_ = (-1))) 0 0 (fun _ => False) := by
  refine Met.ofW (cc := cX5_dropAt) (maxL := 3) (ret := (some .int)) (by decide +kernel) rfl ?_
  intro p e s m args below meth c s₁ B hml hv
  obtain ⟨rfl, hP, hE⟩ := hv
  have hK := hE.1
  have hN := hE.2.1
  have hx := B.exec
  have hb := B.bytes
  have hr := B.returns
  have hts0 := atoms_spec (ws := wmX5_dropAt) B.pre
  have hts : ∀ w ∈ wsL_law, w.before _ s = true := fun w h => hts0 w (List.mem_cons_of_mem _ h)
  have hown : s.vm.findClass RX5 = some m.cls := findClass_of_methodNamed B.named
  have hlocks := B.notSynchronized
  have hl := lv_entry ([.ref h0, .int p0]) (n := 3) (Nat.le_of_ble_eq_true rfl)
  rw [lg_entry_eq]
  generalize (lg_sl ([.ref h0, .int p0]) ++ List.replicate (3 - (lg_sl ([.ref h0, .int p0])).length) Slot.unset).toArray = ls at hl ⊢
  have hl : lv_has ls 3 [(0, .ref h0), (1, .int p0)] := hl
  refine lv_aload_n hx hb dX5_dropAt_0 rfl (lv_at hl 0 rfl) ?_
  refine va_get (D := (dC, dI)) (ci := 5) (v := .ref h1) (C := RX5) (T := TX5) (N := 7) hx hb hts inlX5 hown hK hP 0 rfl rfl 0 (by decide) (hts _ m_156) (fun _ h9 => h9) rfl dX5_dropAt_1 ?_
  refine va_getN (D := (dC, dI)) (ci := 8) (v := .ref h6) (C := RX8) (T := TX8) (N := 3) hx hb hts inlX8 hown hK hP 1 rfl rfl 0 (by decide) (va_Nw.use rfl (hN _ nw_32)) (fun _ h9 => h9) rfl dX5_dropAt_4 ?_
  refine lv_iload_n hx hb dX5_dropAt_7 rfl (lv_at hl 1 rfl) ?_
  have hPc := hP.sub (ws' := [(h6, .inr (1, [.ref h7, .int 0]))]) [2] rfl
  refine vp_callSi (W.runV (As := [.int p0]) (rest := []) ⟨hx, hb, hml, hown, hts⟩ (kX1_has_1 l dC dI cy h6 h7 p0) (cwV 1 hts (gdV m_1027 m_882 m_883 m_38 m_884) rfl rfl rfl (by decide +kernel) ⟨Nat.le_of_ble_eq_true rfl, Nat.le_of_ble_eq_true rfl⟩) ⟨fun a U g mk q => by obtain ⟨q0, qP, qE⟩ := q; exact ⟨q0, qP, qE.call⟩, va_recv hK hP (ci := 1) (q0 := 2) rfl rfl, fun U hU hW => ⟨rfl, by rw [hU]; exact hPc, hE.moved hW⟩⟩ rfl rfl hl.1 rfl (lv_room (Nat.le_of_ble_eq_true rfl)) dX5_dropAt_8 ⟨(show 0 + 0 ≤ 0 from by decide +kernel), (show 0 + 0 ≤ 0 from by decide +kernel)⟩) (fun r_1 hw => ?_)
  subst r_1
  refine lv_if_ne (tgt := 16) hx hb dX5_dropAt_11 (by decide) (fun c_ => absurd (by decide +kernel) c_) (fun _ => ?_)
  refine lv_iconst (v := (-1)) hx hb dX5_dropAt_14 (by decide +kernel) ?_
  exact W.iret (v := (-1)) hx hb hr (fun t ht hW => ⟨(-1), rfl, rfl, ht⟩) (fun _ h_ => (List.not_mem_nil h_).elim) dX5_dropAt_15
set_option maxHeartbeats 4000000 in
set_option maxRecDepth 100000 in
theorem kX11_leave_1 (l : Launch) (dC : Nat → ClassId) (dI : Nat → Nat → Nat) (cy : Nat → ClassId) (h0 h1 h2 h3 h4 h5 h6 h7 h8 h9 h10 h11 h12 h13 h14 h15 h16 : Nat) (p0 : Int32) : Met l yX11_leave wmX11_leave ({ frames := 2, cells := 0, slots := 0, locals := 43 }) (va_Pc [.ref h0, .int p0] (fun U => va_P (dC, dI) classes [(h0, .inr (11, [.ref h1, .ref h2, .ref h3, .ref h4, .ref h5, .ref h6, .ref h7, .ref h8, .ref h9])), (h2, .inr (5, [.ref h10, .ref h11, .ref h12, .ref h13, .ref h14, .int 0, .int 0])), (h10, .inr (8, [.ref h15, .int 0, .int 0])), (h15, .inr (1, [.ref h16, .int 0]))] U.heap ∧ EV dC dI cy U)) (vp_Si (fun r_ => r_ = (-1))) 0 0 (fun _ => False) := by
  refine Met.ofW (cc := cX11_leave) (maxL := 2) (ret := (some .int)) (by decide +kernel) rfl ?_
  intro p e s m args below meth c s₁ B hml hv
  obtain ⟨rfl, hP, hE⟩ := hv
  have hK := hE.1
  have hN := hE.2.1
  have hx := B.exec
  have hb := B.bytes
  have hr := B.returns
  have hts0 := atoms_spec (ws := wmX11_leave) B.pre
  have hts : ∀ w ∈ wsL_law, w.before _ s = true := fun w h => hts0 w (List.mem_cons_of_mem _ h)
  have hown : s.vm.findClass RX11 = some m.cls := findClass_of_methodNamed B.named
  have hlocks := B.notSynchronized
  have hl := lv_entry ([.ref h0, .int p0]) (n := 2) (Nat.le_of_ble_eq_true rfl)
  rw [lg_entry_eq]
  generalize (lg_sl ([.ref h0, .int p0]) ++ List.replicate (2 - (lg_sl ([.ref h0, .int p0])).length) Slot.unset).toArray = ls at hl ⊢
  have hl : lv_has ls 2 [(0, .ref h0), (1, .int p0)] := hl
  refine lv_aload_n hx hb dX11_leave_0 rfl (lv_at hl 0 rfl) ?_
  refine va_get (D := (dC, dI)) (ci := 11) (v := .ref h2) (C := RX11) (T := TX11) (N := 9) hx hb hts inlX11 hown hK hP 0 rfl rfl 1 (by decide) (hts _ m_19) (fun _ h9 => h9) rfl dX11_leave_1 ?_
  refine lv_iload_n hx hb dX11_leave_4 rfl (lv_at hl 1 rfl) ?_
  have hPc := hP.sub (ws' := [(h2, .inr (5, [.ref h10, .ref h11, .ref h12, .ref h13, .ref h14, .int 0, .int 0])), (h10, .inr (8, [.ref h15, .int 0, .int 0])), (h15, .inr (1, [.ref h16, .int 0]))]) [1, 2, 3] rfl
  refine vp_callSi (W.runV (As := [.int p0]) (rest := []) ⟨hx, hb, hml, hown, hts⟩ (kX5_dropAt_1 l dC dI cy h2 h10 h11 h12 h13 h14 h15 h16 p0) (cwV 1 hts (gdV m_1023 m_1024 m_1025 m_18 m_1026) rfl rfl rfl (by decide +kernel) ⟨Nat.le_of_ble_eq_true rfl, Nat.le_of_ble_eq_true rfl⟩) ⟨fun a U g mk q => by obtain ⟨q0, qP, qE⟩ := q; exact ⟨q0, qP, qE.call⟩, va_recv hK hP (ci := 5) (q0 := 1) rfl rfl, fun U hU hW => ⟨rfl, by rw [hU]; exact hPc, hE.moved hW⟩⟩ rfl rfl hl.1 rfl (lv_room (Nat.le_of_ble_eq_true rfl)) dX11_leave_5 ⟨(show 0 + 0 ≤ 0 from by decide +kernel), (show 0 + 0 ≤ 0 from by decide +kernel)⟩) (fun r_1 hw => ?_)
  subst r_1
  exact W.iret (v := (-1)) hx hb hr (fun t ht hW => ⟨(-1), rfl, rfl, ht⟩) (fun _ h_ => (List.not_mem_nil h_).elim) dX11_leave_8
set_option maxHeartbeats 4000000 in
set_option maxRecDepth 100000 in
theorem kX12_leave_1 (l : Launch) (dC : Nat → ClassId) (dI : Nat → Nat → Nat) (cy : Nat → ClassId) (h0 : Nat) (r : Nat → Nat) (p0 : Int32) : Met l yX12_leave wmX12_leave ({ frames := 2, cells := 0, slots := 0, locals := 43 }) (va_Pc [.ref h0, .int p0] (fun U => va_P (dC, dI) classes [(h0, .inr (12, [.ref (r 0), .ref (r 1), .int 0, .int 0, .int 0, .int (-1), .int 0, .int 0, .int 0, .int 0, .long 0, .ref (r 11), .ref (r 12), .ref (r 13), .ref (r 14), .ref (r 15), .ref (r 16), .ref (r 17), .ref (r 18), .ref (r 19), .ref (r 20), .ref (r 21), .ref (r 22), .ref (r 23), .ref (r 24), .ref (r 25), .ref (r 26), .ref (r 27), .ref (r 28), .ref (r 29), .ref (r 30), .ref (r 31), .ref (r 32), .ref (r 33), .int 0, .int 0, .int 0, .int 0, .int 0, .int 0, .int 0, .ref (r 41), .ref (r 42), .ref (r 43), .ref (r 44), .int 0, .int 0, .int 0, .ref (r 48), .int 0, .int 0, .ref (r 51), .ref (r 52), .ref (r 53), .ref (r 54), .int 0, .ref (r 56), .ref (r 57), .ref (r 58), .int 0, .ref (r 60), .ref (r 61), .ref (r 62), .ref (r 63), .ref (r 64), .ref (r 65), .ref (r 66), .ref (r 67), .ref (r 68), .int 0, .int 0, .int 0, .ref (r 72), .ref (r 73)])), (r 41, .inl (cy 0, 15, .inl (fun _ => 0)))] U.heap ∧ EV dC dI cy U)) (vp_Si (fun r_ => r_ = (-1))) 0 0 (fun _ => False) := by
  refine Met.ofW (cc := cX12_leave) (maxL := 3) (ret := (some .int)) (by decide +kernel) rfl ?_
  intro p e s m args below meth c s₁ B hml hv
  obtain ⟨rfl, hP, hE⟩ := hv
  have hK := hE.1
  have hN := hE.2.1
  have hx := B.exec
  have hb := B.bytes
  have hr := B.returns
  have hts0 := atoms_spec (ws := wmX12_leave) B.pre
  have hts : ∀ w ∈ wsL_law, w.before _ s = true := fun w h => hts0 w (List.mem_cons_of_mem _ h)
  have hown : s.vm.findClass RX12 = some m.cls := findClass_of_methodNamed B.named
  have hlocks := B.notSynchronized
  have hl := lv_entry ([.ref h0, .int p0]) (n := 3) (Nat.le_of_ble_eq_true rfl)
  rw [lg_entry_eq]
  generalize (lg_sl ([.ref h0, .int p0]) ++ List.replicate (3 - (lg_sl ([.ref h0, .int p0])).length) Slot.unset).toArray = ls at hl ⊢
  have hl : lv_has ls 3 [(0, .ref h0), (1, .int p0)] := hl
  refine lv_aload_n hx hb dX12_leave_0 rfl (lv_at hl 0 rfl) ?_
  refine lv_iload_n hx hb dX12_leave_1 rfl (lv_at hl 1 rfl) ?_
  have hPc := hP.sub (ws' := [(h0, .inr (12, [.ref (r 0), .ref (r 1), .int 0, .int 0, .int 0, .int (-1), .int 0, .int 0, .int 0, .int 0, .long 0, .ref (r 11), .ref (r 12), .ref (r 13), .ref (r 14), .ref (r 15), .ref (r 16), .ref (r 17), .ref (r 18), .ref (r 19), .ref (r 20), .ref (r 21), .ref (r 22), .ref (r 23), .ref (r 24), .ref (r 25), .ref (r 26), .ref (r 27), .ref (r 28), .ref (r 29), .ref (r 30), .ref (r 31), .ref (r 32), .ref (r 33), .int 0, .int 0, .int 0, .int 0, .int 0, .int 0, .int 0, .ref (r 41), .ref (r 42), .ref (r 43), .ref (r 44), .int 0, .int 0, .int 0, .ref (r 48), .int 0, .int 0, .ref (r 51), .ref (r 52), .ref (r 53), .ref (r 54), .int 0, .ref (r 56), .ref (r 57), .ref (r 58), .int 0, .ref (r 60), .ref (r 61), .ref (r 62), .ref (r 63), .ref (r 64), .ref (r 65), .ref (r 66), .ref (r 67), .ref (r 68), .int 0, .int 0, .int 0, .ref (r 72), .ref (r 73)])), (r 41, .inl (cy 0, 15, .inl (fun _ => 0)))]) [0, 1] rfl
  refine vp_callSi (W.runV (As := [.int p0]) (rest := []) ⟨hx, hb, hml, hown, hts⟩ (kX12_isPlace_1 l dC dI cy h0 r p0) (cwV 1 hts (gdV m_771 m_772 m_773 m_5 m_774) rfl rfl rfl (by decide +kernel) ⟨Nat.le_of_ble_eq_true rfl, Nat.le_of_ble_eq_true rfl⟩) ⟨fun a U g mk q => by obtain ⟨q0, qP, qE⟩ := q; exact ⟨q0, qP, qE.call⟩, va_recv hK hP (ci := 12) (q0 := 0) rfl rfl, fun U hU hW => ⟨rfl, by rw [hU]; exact hPc, hE.moved hW⟩⟩ rfl rfl hl.1 rfl (lv_room (Nat.le_of_ble_eq_true rfl)) dX12_leave_2 ⟨(show 0 + 0 ≤ 0 from by decide +kernel), (show 0 + 0 ≤ 0 from by decide +kernel)⟩) (fun r_1 hw => ?_)
  subst r_1
  refine lv_if_ne (tgt := 10) hx hb dX12_leave_5 (by decide) (fun c_ => absurd (by decide +kernel) c_) (fun _ => ?_)
  refine lv_iconst (v := (-1)) hx hb dX12_leave_8 (by decide +kernel) ?_
  exact W.iret (v := (-1)) hx hb hr (fun t ht hW => ⟨(-1), rfl, rfl, ht⟩) (fun _ h_ => (List.not_mem_nil h_).elim) dX12_leave_9
set_option maxHeartbeats 4000000 in
set_option maxRecDepth 100000 in
theorem kX11_put_1 (l : Launch) (dC : Nat → ClassId) (dI : Nat → Nat → Nat) (cy : Nat → ClassId) (h0 h1 h2 h3 h4 h5 h6 h7 h8 h9 h10 h11 h12 h13 h14 h15 h16 : Nat) (p0 p1 : Int32) : Met l yX11_put wmX11_put ({ frames := 1, cells := 0, slots := 0, locals := 21 }) (va_Pc [.ref h0, .int p0, .int p1] (fun U => va_P (dC, dI) classes [(h0, .inr (11, [.ref h1, .ref h2, .ref h3, .ref h4, .ref h5, .ref h6, .ref h7, .ref h8, .ref h9])), (h9, .inr (10, [.ref h10, .ref h11, .ref h12, .ref h13, .ref h14, .ref h15, .ref h16, .int 0, .int 0, .int 0, .int 0, .int 0]))] U.heap ∧ EV dC dI cy U)) (vp_Si (fun r_ => r_ = (-1))) 0 0 (fun _ => False) := by
  refine Met.ofW (cc := cX11_put) (maxL := 3) (ret := (some .int)) (by decide +kernel) rfl ?_
  intro p e s m args below meth c s₁ B hml hv
  obtain ⟨rfl, hP, hE⟩ := hv
  have hK := hE.1
  have hN := hE.2.1
  have hx := B.exec
  have hb := B.bytes
  have hr := B.returns
  have hts0 := atoms_spec (ws := wmX11_put) B.pre
  have hts : ∀ w ∈ wsL_law, w.before _ s = true := fun w h => hts0 w (List.mem_cons_of_mem _ h)
  have hown : s.vm.findClass RX11 = some m.cls := findClass_of_methodNamed B.named
  have hlocks := B.notSynchronized
  have hl := lv_entry ([.ref h0, .int p0, .int p1]) (n := 3) (Nat.le_of_ble_eq_true rfl)
  rw [lg_entry_eq]
  generalize (lg_sl ([.ref h0, .int p0, .int p1]) ++ List.replicate (3 - (lg_sl ([.ref h0, .int p0, .int p1])).length) Slot.unset).toArray = ls at hl ⊢
  have hl : lv_has ls 3 [(0, .ref h0), (1, .int p0), (2, .int p1)] := hl
  refine lv_aload_n hx hb dX11_put_0 rfl (lv_at hl 0 rfl) ?_
  refine va_get (D := (dC, dI)) (ci := 11) (v := .ref h9) (C := RX11) (T := TX11) (N := 9) hx hb hts inlX11 hown hK hP 0 rfl rfl 8 (by decide) (hts _ m_44) (fun _ h9 => h9) rfl dX11_put_1 ?_
  refine lv_iload_n hx hb dX11_put_4 rfl (lv_at hl 2 rfl) ?_
  have hPc := hP.sub (ws' := [(h9, .inr (10, [.ref h10, .ref h11, .ref h12, .ref h13, .ref h14, .ref h15, .ref h16, .int 0, .int 0, .int 0, .int 0, .int 0]))]) [1] rfl
  refine vp_callSi (W.runV (As := [.int p1]) (rest := []) ⟨hx, hb, hml, hown, hts⟩ (kX10_hasWord_1 l dC dI cy h9 h10 h11 h12 h13 h14 h15 h16 p1) (cwV 1 hts (gdV m_823 m_482 m_483 m_43 m_484) rfl rfl rfl (by decide +kernel) ⟨Nat.le_of_ble_eq_true rfl, Nat.le_of_ble_eq_true rfl⟩) ⟨fun a U g mk q => by obtain ⟨q0, qP, qE⟩ := q; exact ⟨q0, qP, qE.call⟩, va_recv hK hP (ci := 10) (q0 := 1) rfl rfl, fun U hU hW => ⟨rfl, by rw [hU]; exact hPc, hE.moved hW⟩⟩ rfl rfl hl.1 rfl (lv_room (Nat.le_of_ble_eq_true rfl)) dX11_put_5 ⟨(show 0 + 0 ≤ 0 from by decide +kernel), (show 0 + 0 ≤ 0 from by decide +kernel)⟩) (fun r_1 hw => ?_)
  subst r_1
  refine lv_if_eq (tgt := 23) hx hb dX11_put_8 (by decide) (fun _ => ?_) (fun c_ => absurd (by decide +kernel) c_)
  refine lv_iconst (v := (-1)) hx hb dX11_put_23 (by decide +kernel) ?_
  exact W.iret (v := (-1)) hx hb hr (fun t ht hW => ⟨(-1), rfl, rfl, ht⟩) (fun _ h_ => (List.not_mem_nil h_).elim) dX11_put_24
set_option maxHeartbeats 4000000 in
set_option maxRecDepth 100000 in
theorem kX12_isIn_3 (l : Launch) (dC : Nat → ClassId) (dI : Nat → Nat → Nat) (cy : Nat → ClassId) (p0 : Int32) : Met l yX12_isIn wmX12_isIn ({ frames := 0, cells := 0, slots := 0, locals := 0 }) (va_Pc [.int p0, .int 0, .int 0] (fun U => va_P (dC, dI) classes [] U.heap ∧ EV dC dI cy U)) (vp_Si (fun r_ => (r_ = 0 ∧ p0 < 0) ∨ (r_ = 0 ∧ ¬ p0 < 0 ∧ 0 < p0) ∨ (r_ = 1 ∧ ¬ p0 < 0 ∧ ¬ 0 < p0))) 0 0 (fun _ => False) := by
  refine Met.ofW (cc := cX12_isIn) (maxL := 3) (ret := (some .boolean)) (by decide +kernel) rfl ?_
  intro p e s m args below meth c s₁ B hml hv
  obtain ⟨rfl, hP, hE⟩ := hv
  have hK := hE.1
  have hN := hE.2.1
  have hx := B.exec
  have hb := B.bytes
  have hr := B.returns
  have hts0 := atoms_spec (ws := wmX12_isIn) B.pre
  have hts : ∀ w ∈ wsL_law, w.before _ s = true := fun w h => hts0 w (List.mem_cons_of_mem _ h)
  have hown : s.vm.findClass RX12 = some m.cls := findClass_of_methodNamed B.named
  have hlocks := B.notSynchronized
  have hl := lv_entry ([.int p0, .int 0, .int 0]) (n := 3) (Nat.le_of_ble_eq_true rfl)
  rw [lg_entry_eq]
  generalize (lg_sl ([.int p0, .int 0, .int 0]) ++ List.replicate (3 - (lg_sl ([.int p0, .int 0, .int 0])).length) Slot.unset).toArray = ls at hl ⊢
  have hl : lv_has ls 3 [(0, .int p0), (1, .int 0), (2, .int 0)] := hl
  refine lv_iload_n hx hb dX12_isIn_0 rfl (lv_at hl 0 rfl) ?_
  refine lv_iload_n hx hb dX12_isIn_1 rfl (lv_at hl 1 rfl) ?_
  refine lv_icmp_lt (tgt := 14) hx hb dX12_isIn_2 (by decide) (fun c_1 => ?_) (fun c_1 => ?_)
  · refine lv_iconst (v := 0) hx hb dX12_isIn_14 (by decide +kernel) ?_
    exact W.zret (v := 0) hx hb hr (by decide +kernel) (fun t ht hW => ⟨0, rfl, Or.inl ⟨rfl, c_1⟩, ht⟩) (fun _ h_ => (List.not_mem_nil h_).elim) dX12_isIn_15
  · refine lv_iload_n hx hb dX12_isIn_5 rfl (lv_at hl 0 rfl) ?_
    refine lv_iload_n hx hb dX12_isIn_6 rfl (lv_at hl 2 rfl) ?_
    refine lv_icmp_gt (tgt := 14) hx hb dX12_isIn_7 (by decide) (fun c_2 => ?_) (fun c_2 => ?_)
    · refine lv_iconst (v := 0) hx hb dX12_isIn_14 (by decide +kernel) ?_
      exact W.zret (v := 0) hx hb hr (by decide +kernel) (fun t ht hW => ⟨0, rfl, Or.inr (Or.inl ⟨rfl, c_1, c_2⟩), ht⟩) (fun _ h_ => (List.not_mem_nil h_).elim) dX12_isIn_15
    · refine lv_iconst (v := 1) hx hb dX12_isIn_10 (by decide +kernel) ?_
      refine lv_goto (tgt := 15) hx hb dX12_isIn_11 (by decide) ?_
      exact W.zret (v := 1) hx hb hr (by decide +kernel) (fun t ht hW => ⟨1, rfl, Or.inr (Or.inr (⟨rfl, c_1, c_2⟩)), ht⟩) (fun _ h_ => (List.not_mem_nil h_).elim) dX12_isIn_15
set_option maxHeartbeats 4000000 in
set_option maxRecDepth 100000 in
theorem kX12_put_1 (l : Launch) (dC : Nat → ClassId) (dI : Nat → Nat → Nat) (cy : Nat → ClassId) (h0 : Nat) (r : Nat → Nat) (p0 p1 : Int32) : Met l yX12_put wmX12_put ({ frames := 2, cells := 0, slots := 0, locals := 43 }) (va_Pc [.ref h0, .int p0, .int p1] (fun U => va_P (dC, dI) classes [(h0, .inr (12, [.ref (r 0), .ref (r 1), .int 0, .int 0, .int 0, .int (-1), .int 0, .int 0, .int 0, .int 0, .long 0, .ref (r 11), .ref (r 12), .ref (r 13), .ref (r 14), .ref (r 15), .ref (r 16), .ref (r 17), .ref (r 18), .ref (r 19), .ref (r 20), .ref (r 21), .ref (r 22), .ref (r 23), .ref (r 24), .ref (r 25), .ref (r 26), .ref (r 27), .ref (r 28), .ref (r 29), .ref (r 30), .ref (r 31), .ref (r 32), .ref (r 33), .int 0, .int 0, .int 0, .int 0, .int 0, .int 0, .int 0, .ref (r 41), .ref (r 42), .ref (r 43), .ref (r 44), .int 0, .int 0, .int 0, .ref (r 48), .int 0, .int 0, .ref (r 51), .ref (r 52), .ref (r 53), .ref (r 54), .int 0, .ref (r 56), .ref (r 57), .ref (r 58), .int 0, .ref (r 60), .ref (r 61), .ref (r 62), .ref (r 63), .ref (r 64), .ref (r 65), .ref (r 66), .ref (r 67), .ref (r 68), .int 0, .int 0, .int 0, .ref (r 72), .ref (r 73)])), (r 41, .inl (cy 0, 15, .inl (fun _ => 0))), (r 11, .inl (cy 0, 2, .inl (fun _ => 0)))] U.heap ∧ EV dC dI cy U)) (vp_Si (fun r_ => r_ = (-1))) 0 0 (fun _ => False) := by
  refine Met.ofW (cc := cX12_put) (maxL := 4) (ret := (some .int)) (by decide +kernel) rfl ?_
  intro p e s m args below meth c s₁ B hml hv
  obtain ⟨rfl, hP, hE⟩ := hv
  have hK := hE.1
  have hN := hE.2.1
  have hx := B.exec
  have hb := B.bytes
  have hr := B.returns
  have hts0 := atoms_spec (ws := wmX12_put) B.pre
  have hts : ∀ w ∈ wsL_law, w.before _ s = true := fun w h => hts0 w (List.mem_cons_of_mem _ h)
  have hown : s.vm.findClass RX12 = some m.cls := findClass_of_methodNamed B.named
  have hlocks := B.notSynchronized
  have hl := lv_entry ([.ref h0, .int p0, .int p1]) (n := 4) (Nat.le_of_ble_eq_true rfl)
  rw [lg_entry_eq]
  generalize (lg_sl ([.ref h0, .int p0, .int p1]) ++ List.replicate (4 - (lg_sl ([.ref h0, .int p0, .int p1])).length) Slot.unset).toArray = ls at hl ⊢
  have hl : lv_has ls 4 [(0, .ref h0), (1, .int p0), (2, .int p1)] := hl
  refine lv_iload_n hx hb dX12_put_0 rfl (lv_at hl 1 rfl) ?_
  refine lv_iconst (v := 0) hx hb dX12_put_1 (by decide +kernel) ?_
  refine lv_aload_n hx hb dX12_put_2 rfl (lv_at hl 0 rfl) ?_
  refine va_get (D := (dC, dI)) (ci := 12) (v := .ref (r 41)) (C := RX12) (T := TX12) (N := 74) hx hb hts inlX12 hown hK hP 0 rfl rfl 41 (by decide) (hts _ m_244) (fun _ h9 => h9) rfl dX12_put_3 ?_
  refine lv_bipush (v := 12) hx hb dX12_put_6 (by decide +kernel) ?_
  refine va_iald hx hb hK hP 1 0 rfl rfl vi_12_15 dX12_put_8 ?_
  refine W.eq (g2 := F0 m 9 ls [.int 0, .int 0, .int p0]) rfl ?_
  have hPc := hP.sub (ws' := []) [] rfl
  refine vp_callSi (W.runS (As := [.int p0, .int 0, .int 0]) (rest := []) ⟨hx, hb, hml, hown, hts⟩ (kX12_isIn_3 l dC dI cy p0) (va_cwS 3 hts (gdS m_775 m_776 m_5 m_777) rfl rfl rfl (by decide +kernel) ⟨Nat.le_of_ble_eq_true rfl, Nat.le_of_ble_eq_true rfl⟩) ⟨fun a U g mk q => by obtain ⟨q0, qP, qE⟩ := q; exact ⟨q0, qP, qE.call⟩, fun U hU hW => ⟨rfl, by rw [hU]; exact hPc, hE.moved hW⟩⟩ rfl rfl hl.1 rfl (lv_room (Nat.le_of_ble_eq_true rfl)) dX12_put_9 ⟨(show 0 + 0 ≤ 0 from by decide +kernel), (show 0 + 0 ≤ 0 from by decide +kernel)⟩) (fun r_1 hw => ?_)
  rcases hw with ⟨hr1, c_2⟩ | ⟨hr1, c_3, c_4⟩ | ⟨hr1, c_5, c_6⟩
  · subst r_1
    refine lv_if_eq (tgt := 35) hx hb dX12_put_12 (by decide) (fun _ => ?_) (fun c_ => absurd (by decide +kernel) c_)
    refine lv_iconst (v := (-1)) hx hb dX12_put_35 (by decide +kernel) ?_
    exact W.iret (v := (-1)) hx hb hr (fun t ht hW => ⟨(-1), rfl, rfl, ht⟩) (fun _ h_ => (List.not_mem_nil h_).elim) dX12_put_36
  · subst r_1
    refine lv_if_eq (tgt := 35) hx hb dX12_put_12 (by decide) (fun _ => ?_) (fun c_ => absurd (by decide +kernel) c_)
    refine lv_iconst (v := (-1)) hx hb dX12_put_35 (by decide +kernel) ?_
    exact W.iret (v := (-1)) hx hb hr (fun t ht hW => ⟨(-1), rfl, rfl, ht⟩) (fun _ h_ => (List.not_mem_nil h_).elim) dX12_put_36
  · subst r_1
    refine lv_if_eq (tgt := 35) hx hb dX12_put_12 (by decide) (fun c_ => absurd c_ (by decide +kernel)) (fun _ => ?_)
    refine lv_aload_n hx hb dX12_put_15 rfl (lv_at hl 0 rfl) ?_
    refine lv_iload_n hx hb dX12_put_16 rfl (lv_at hl 2 rfl) ?_
    have hPc := hP.sub (ws' := [(h0, .inr (12, [.ref (r 0), .ref (r 1), .int 0, .int 0, .int 0, .int (-1), .int 0, .int 0, .int 0, .int 0, .long 0, .ref (r 11), .ref (r 12), .ref (r 13), .ref (r 14), .ref (r 15), .ref (r 16), .ref (r 17), .ref (r 18), .ref (r 19), .ref (r 20), .ref (r 21), .ref (r 22), .ref (r 23), .ref (r 24), .ref (r 25), .ref (r 26), .ref (r 27), .ref (r 28), .ref (r 29), .ref (r 30), .ref (r 31), .ref (r 32), .ref (r 33), .int 0, .int 0, .int 0, .int 0, .int 0, .int 0, .int 0, .ref (r 41), .ref (r 42), .ref (r 43), .ref (r 44), .int 0, .int 0, .int 0, .ref (r 48), .int 0, .int 0, .ref (r 51), .ref (r 52), .ref (r 53), .ref (r 54), .int 0, .ref (r 56), .ref (r 57), .ref (r 58), .int 0, .ref (r 60), .ref (r 61), .ref (r 62), .ref (r 63), .ref (r 64), .ref (r 65), .ref (r 66), .ref (r 67), .ref (r 68), .int 0, .int 0, .int 0, .ref (r 72), .ref (r 73)])), (r 11, .inl (cy 0, 2, .inl (fun _ => 0)))]) [0, 2] rfl
    refine vp_callSi (W.runV (As := [.int p1]) (rest := []) ⟨hx, hb, hml, hown, hts⟩ (kX12_isSaying_1 l dC dI cy h0 r p1) (cwV 1 hts (gdV m_832 m_833 m_834 m_5 m_835) rfl rfl rfl (by decide +kernel) ⟨Nat.le_of_ble_eq_true rfl, Nat.le_of_ble_eq_true rfl⟩) ⟨fun a U g mk q => by obtain ⟨q0, qP, qE⟩ := q; exact ⟨q0, qP, qE.call⟩, va_recv hK hP (ci := 12) (q0 := 0) rfl rfl, fun U hU hW => ⟨rfl, by rw [hU]; exact hPc, hE.moved hW⟩⟩ rfl rfl hl.1 rfl (lv_room (Nat.le_of_ble_eq_true rfl)) dX12_put_17 ⟨(show 0 + 0 ≤ 0 from by decide +kernel), (show 0 + 0 ≤ 0 from by decide +kernel)⟩) (fun r_7 hw => ?_)
    subst r_7
    refine lv_if_eq (tgt := 35) hx hb dX12_put_20 (by decide) (fun _ => ?_) (fun c_ => absurd (by decide +kernel) c_)
    refine lv_iconst (v := (-1)) hx hb dX12_put_35 (by decide +kernel) ?_
    exact W.iret (v := (-1)) hx hb hr (fun t ht hW => ⟨(-1), rfl, rfl, ht⟩) (fun _ h_ => (List.not_mem_nil h_).elim) dX12_put_36
set_option maxHeartbeats 4000000 in
set_option maxRecDepth 100000 in
theorem kX11_change_1 (l : Launch) (dC : Nat → ClassId) (dI : Nat → Nat → Nat) (cy : Nat → ClassId) (h0 h1 h2 h3 h4 h5 h6 h7 h8 h9 h10 h11 h12 h13 h14 h15 h16 : Nat) (p0 p1 : Int32) : Met l yX11_change wmX11_change ({ frames := 1, cells := 0, slots := 0, locals := 21 }) (va_Pc [.ref h0, .int p0, .int p1] (fun U => va_P (dC, dI) classes [(h0, .inr (11, [.ref h1, .ref h2, .ref h3, .ref h4, .ref h5, .ref h6, .ref h7, .ref h8, .ref h9])), (h9, .inr (10, [.ref h10, .ref h11, .ref h12, .ref h13, .ref h14, .ref h15, .ref h16, .int 0, .int 0, .int 0, .int 0, .int 0]))] U.heap ∧ EV dC dI cy U)) (vp_Si (fun r_ => r_ = (-1))) 0 0 (fun _ => False) := by
  refine Met.ofW (cc := cX11_change) (maxL := 3) (ret := (some .int)) (by decide +kernel) rfl ?_
  intro p e s m args below meth c s₁ B hml hv
  obtain ⟨rfl, hP, hE⟩ := hv
  have hK := hE.1
  have hN := hE.2.1
  have hx := B.exec
  have hb := B.bytes
  have hr := B.returns
  have hts0 := atoms_spec (ws := wmX11_change) B.pre
  have hts : ∀ w ∈ wsL_law, w.before _ s = true := fun w h => hts0 w (List.mem_cons_of_mem _ h)
  have hown : s.vm.findClass RX11 = some m.cls := findClass_of_methodNamed B.named
  have hlocks := B.notSynchronized
  have hl := lv_entry ([.ref h0, .int p0, .int p1]) (n := 3) (Nat.le_of_ble_eq_true rfl)
  rw [lg_entry_eq]
  generalize (lg_sl ([.ref h0, .int p0, .int p1]) ++ List.replicate (3 - (lg_sl ([.ref h0, .int p0, .int p1])).length) Slot.unset).toArray = ls at hl ⊢
  have hl : lv_has ls 3 [(0, .ref h0), (1, .int p0), (2, .int p1)] := hl
  refine lv_aload_n hx hb dX11_change_0 rfl (lv_at hl 0 rfl) ?_
  refine va_get (D := (dC, dI)) (ci := 11) (v := .ref h9) (C := RX11) (T := TX11) (N := 9) hx hb hts inlX11 hown hK hP 0 rfl rfl 8 (by decide) (hts _ m_44) (fun _ h9 => h9) rfl dX11_change_1 ?_
  refine lv_iload_n hx hb dX11_change_4 rfl (lv_at hl 2 rfl) ?_
  have hPc := hP.sub (ws' := [(h9, .inr (10, [.ref h10, .ref h11, .ref h12, .ref h13, .ref h14, .ref h15, .ref h16, .int 0, .int 0, .int 0, .int 0, .int 0]))]) [1] rfl
  refine vp_callSi (W.runV (As := [.int p1]) (rest := []) ⟨hx, hb, hml, hown, hts⟩ (kX10_hasWord_1 l dC dI cy h9 h10 h11 h12 h13 h14 h15 h16 p1) (cwV 1 hts (gdV m_823 m_482 m_483 m_43 m_484) rfl rfl rfl (by decide +kernel) ⟨Nat.le_of_ble_eq_true rfl, Nat.le_of_ble_eq_true rfl⟩) ⟨fun a U g mk q => by obtain ⟨q0, qP, qE⟩ := q; exact ⟨q0, qP, qE.call⟩, va_recv hK hP (ci := 10) (q0 := 1) rfl rfl, fun U hU hW => ⟨rfl, by rw [hU]; exact hPc, hE.moved hW⟩⟩ rfl rfl hl.1 rfl (lv_room (Nat.le_of_ble_eq_true rfl)) dX11_change_5 ⟨(show 0 + 0 ≤ 0 from by decide +kernel), (show 0 + 0 ≤ 0 from by decide +kernel)⟩) (fun r_1 hw => ?_)
  subst r_1
  refine lv_if_eq (tgt := 23) hx hb dX11_change_8 (by decide) (fun _ => ?_) (fun c_ => absurd (by decide +kernel) c_)
  refine lv_iconst (v := (-1)) hx hb dX11_change_23 (by decide +kernel) ?_
  exact W.iret (v := (-1)) hx hb hr (fun t ht hW => ⟨(-1), rfl, rfl, ht⟩) (fun _ h_ => (List.not_mem_nil h_).elim) dX11_change_24
set_option maxHeartbeats 4000000 in
set_option maxRecDepth 100000 in
theorem kX12_change_1 (l : Launch) (dC : Nat → ClassId) (dI : Nat → Nat → Nat) (cy : Nat → ClassId) (h0 : Nat) (r : Nat → Nat) (p0 p1 : Int32) : Met l yX12_change wmX12_change ({ frames := 2, cells := 0, slots := 0, locals := 43 }) (va_Pc [.ref h0, .int p0, .int p1] (fun U => va_P (dC, dI) classes [(h0, .inr (12, [.ref (r 0), .ref (r 1), .int 0, .int 0, .int 0, .int (-1), .int 0, .int 0, .int 0, .int 0, .long 0, .ref (r 11), .ref (r 12), .ref (r 13), .ref (r 14), .ref (r 15), .ref (r 16), .ref (r 17), .ref (r 18), .ref (r 19), .ref (r 20), .ref (r 21), .ref (r 22), .ref (r 23), .ref (r 24), .ref (r 25), .ref (r 26), .ref (r 27), .ref (r 28), .ref (r 29), .ref (r 30), .ref (r 31), .ref (r 32), .ref (r 33), .int 0, .int 0, .int 0, .int 0, .int 0, .int 0, .int 0, .ref (r 41), .ref (r 42), .ref (r 43), .ref (r 44), .int 0, .int 0, .int 0, .ref (r 48), .int 0, .int 0, .ref (r 51), .ref (r 52), .ref (r 53), .ref (r 54), .int 0, .ref (r 56), .ref (r 57), .ref (r 58), .int 0, .ref (r 60), .ref (r 61), .ref (r 62), .ref (r 63), .ref (r 64), .ref (r 65), .ref (r 66), .ref (r 67), .ref (r 68), .int 0, .int 0, .int 0, .ref (r 72), .ref (r 73)])), (r 41, .inl (cy 0, 15, .inl (fun _ => 0)))] U.heap ∧ EV dC dI cy U)) (vp_Si (fun r_ => r_ = (-1))) 0 0 (fun _ => False) := by
  refine Met.ofW (cc := cX12_change) (maxL := 4) (ret := (some .int)) (by decide +kernel) rfl ?_
  intro p e s m args below meth c s₁ B hml hv
  obtain ⟨rfl, hP, hE⟩ := hv
  have hK := hE.1
  have hN := hE.2.1
  have hx := B.exec
  have hb := B.bytes
  have hr := B.returns
  have hts0 := atoms_spec (ws := wmX12_change) B.pre
  have hts : ∀ w ∈ wsL_law, w.before _ s = true := fun w h => hts0 w (List.mem_cons_of_mem _ h)
  have hown : s.vm.findClass RX12 = some m.cls := findClass_of_methodNamed B.named
  have hlocks := B.notSynchronized
  have hl := lv_entry ([.ref h0, .int p0, .int p1]) (n := 4) (Nat.le_of_ble_eq_true rfl)
  rw [lg_entry_eq]
  generalize (lg_sl ([.ref h0, .int p0, .int p1]) ++ List.replicate (4 - (lg_sl ([.ref h0, .int p0, .int p1])).length) Slot.unset).toArray = ls at hl ⊢
  have hl : lv_has ls 4 [(0, .ref h0), (1, .int p0), (2, .int p1)] := hl
  refine lv_aload_n hx hb dX12_change_0 rfl (lv_at hl 0 rfl) ?_
  refine lv_iload_n hx hb dX12_change_1 rfl (lv_at hl 1 rfl) ?_
  have hPc := hP.sub (ws' := [(h0, .inr (12, [.ref (r 0), .ref (r 1), .int 0, .int 0, .int 0, .int (-1), .int 0, .int 0, .int 0, .int 0, .long 0, .ref (r 11), .ref (r 12), .ref (r 13), .ref (r 14), .ref (r 15), .ref (r 16), .ref (r 17), .ref (r 18), .ref (r 19), .ref (r 20), .ref (r 21), .ref (r 22), .ref (r 23), .ref (r 24), .ref (r 25), .ref (r 26), .ref (r 27), .ref (r 28), .ref (r 29), .ref (r 30), .ref (r 31), .ref (r 32), .ref (r 33), .int 0, .int 0, .int 0, .int 0, .int 0, .int 0, .int 0, .ref (r 41), .ref (r 42), .ref (r 43), .ref (r 44), .int 0, .int 0, .int 0, .ref (r 48), .int 0, .int 0, .ref (r 51), .ref (r 52), .ref (r 53), .ref (r 54), .int 0, .ref (r 56), .ref (r 57), .ref (r 58), .int 0, .ref (r 60), .ref (r 61), .ref (r 62), .ref (r 63), .ref (r 64), .ref (r 65), .ref (r 66), .ref (r 67), .ref (r 68), .int 0, .int 0, .int 0, .ref (r 72), .ref (r 73)])), (r 41, .inl (cy 0, 15, .inl (fun _ => 0)))]) [0, 1] rfl
  refine vp_callSi (W.runV (As := [.int p0]) (rest := []) ⟨hx, hb, hml, hown, hts⟩ (kX12_isPlace_1 l dC dI cy h0 r p0) (cwV 1 hts (gdV m_771 m_772 m_773 m_5 m_774) rfl rfl rfl (by decide +kernel) ⟨Nat.le_of_ble_eq_true rfl, Nat.le_of_ble_eq_true rfl⟩) ⟨fun a U g mk q => by obtain ⟨q0, qP, qE⟩ := q; exact ⟨q0, qP, qE.call⟩, va_recv hK hP (ci := 12) (q0 := 0) rfl rfl, fun U hU hW => ⟨rfl, by rw [hU]; exact hPc, hE.moved hW⟩⟩ rfl rfl hl.1 rfl (lv_room (Nat.le_of_ble_eq_true rfl)) dX12_change_2 ⟨(show 0 + 0 ≤ 0 from by decide +kernel), (show 0 + 0 ≤ 0 from by decide +kernel)⟩) (fun r_1 hw => ?_)
  subst r_1
  refine lv_if_eq (tgt := 28) hx hb dX12_change_5 (by decide) (fun _ => ?_) (fun c_ => absurd (by decide +kernel) c_)
  refine lv_iconst (v := (-1)) hx hb dX12_change_28 (by decide +kernel) ?_
  exact W.iret (v := (-1)) hx hb hr (fun t ht hW => ⟨(-1), rfl, rfl, ht⟩) (fun _ h_ => (List.not_mem_nil h_).elim) dX12_change_29
set_option maxHeartbeats 4000000 in
set_option maxRecDepth 100000 in
theorem kX5_takeBack_1 (l : Launch) (dC : Nat → ClassId) (dI : Nat → Nat → Nat) (cy : Nat → ClassId) (h0 h1 h2 h3 h4 h5 : Nat) : Met l yX5_takeBack wmX5_takeBack ({ frames := 0, cells := 0, slots := 0, locals := 0 }) (va_Pc [.ref h0] (fun U => va_P (dC, dI) classes [(h0, .inr (5, [.ref h1, .ref h2, .ref h3, .ref h4, .ref h5, .int 0, .int 0]))] U.heap ∧ EV dC dI cy U)) (vp_Si (fun r_ => r_ = 0)) 0 0 (fun _ => False) := by
  refine Met.ofW (cc := cX5_takeBack) (maxL := 1) (ret := (some .boolean)) (by decide +kernel) rfl ?_
  intro p e s m args below meth c s₁ B hml hv
  obtain ⟨rfl, hP, hE⟩ := hv
  have hK := hE.1
  have hN := hE.2.1
  have hx := B.exec
  have hb := B.bytes
  have hr := B.returns
  have hts0 := atoms_spec (ws := wmX5_takeBack) B.pre
  have hts : ∀ w ∈ wsL_law, w.before _ s = true := fun w h => hts0 w (List.mem_cons_of_mem _ h)
  have hown : s.vm.findClass RX5 = some m.cls := findClass_of_methodNamed B.named
  have hlocks := B.notSynchronized
  have hl := lv_entry ([.ref h0]) (n := 1) (Nat.le_of_ble_eq_true rfl)
  rw [lg_entry_eq]
  generalize (lg_sl ([.ref h0]) ++ List.replicate (1 - (lg_sl ([.ref h0])).length) Slot.unset).toArray = ls at hl ⊢
  have hl : lv_has ls 1 [(0, .ref h0)] := hl
  refine lv_aload_n hx hb dX5_takeBack_0 rfl (lv_at hl 0 rfl) ?_
  refine va_get (D := (dC, dI)) (ci := 5) (v := .int 0) (C := RX5) (T := TX5) (N := 7) hx hb hts inlX5 hown hK hP 0 rfl rfl 5 (by decide) (hts _ m_582) (fun _ h9 => h9) rfl dX5_takeBack_1 ?_
  refine lv_iconst (v := 1) hx hb dX5_takeBack_4 (by decide +kernel) ?_
  refine lv_icmp_ge (tgt := 10) hx hb dX5_takeBack_5 (by decide) (fun c_ => absurd c_ (by decide +kernel)) (fun _ => ?_)
  refine lv_iconst (v := 0) hx hb dX5_takeBack_8 (by decide +kernel) ?_
  exact W.zret (v := 0) hx hb hr (by decide +kernel) (fun t ht hW => ⟨0, rfl, rfl, ht⟩) (fun _ h_ => (List.not_mem_nil h_).elim) dX5_takeBack_9
set_option maxHeartbeats 4000000 in
set_option maxRecDepth 100000 in
theorem kX11_undo_1 (l : Launch) (dC : Nat → ClassId) (dI : Nat → Nat → Nat) (cy : Nat → ClassId) (h0 h1 h2 h3 h4 h5 h6 h7 h8 h9 h10 h11 h12 h13 h14 : Nat) : Met l yX11_undo wmX11_undo ({ frames := 1, cells := 0, slots := 0, locals := 20 }) (va_Pc [.ref h0] (fun U => va_P (dC, dI) classes [(h0, .inr (11, [.ref h1, .ref h2, .ref h3, .ref h4, .ref h5, .ref h6, .ref h7, .ref h8, .ref h9])), (h2, .inr (5, [.ref h10, .ref h11, .ref h12, .ref h13, .ref h14, .int 0, .int 0]))] U.heap ∧ EV dC dI cy U)) (vp_Si (fun r_ => r_ = 0)) 0 0 (fun _ => False) := by
  refine Met.ofW (cc := cX11_undo) (maxL := 1) (ret := (some .boolean)) (by decide +kernel) rfl ?_
  intro p e s m args below meth c s₁ B hml hv
  obtain ⟨rfl, hP, hE⟩ := hv
  have hK := hE.1
  have hN := hE.2.1
  have hx := B.exec
  have hb := B.bytes
  have hr := B.returns
  have hts0 := atoms_spec (ws := wmX11_undo) B.pre
  have hts : ∀ w ∈ wsL_law, w.before _ s = true := fun w h => hts0 w (List.mem_cons_of_mem _ h)
  have hown : s.vm.findClass RX11 = some m.cls := findClass_of_methodNamed B.named
  have hlocks := B.notSynchronized
  have hl := lv_entry ([.ref h0]) (n := 1) (Nat.le_of_ble_eq_true rfl)
  rw [lg_entry_eq]
  generalize (lg_sl ([.ref h0]) ++ List.replicate (1 - (lg_sl ([.ref h0])).length) Slot.unset).toArray = ls at hl ⊢
  have hl : lv_has ls 1 [(0, .ref h0)] := hl
  refine lv_aload_n hx hb dX11_undo_0 rfl (lv_at hl 0 rfl) ?_
  refine va_get (D := (dC, dI)) (ci := 11) (v := .ref h2) (C := RX11) (T := TX11) (N := 9) hx hb hts inlX11 hown hK hP 0 rfl rfl 1 (by decide) (hts _ m_19) (fun _ h9 => h9) rfl dX11_undo_1 ?_
  have hPc := hP.sub (ws' := [(h2, .inr (5, [.ref h10, .ref h11, .ref h12, .ref h13, .ref h14, .int 0, .int 0]))]) [1] rfl
  refine vp_callSi (W.runV (As := []) (rest := []) ⟨hx, hb, hml, hown, hts⟩ (kX5_takeBack_1 l dC dI cy h2 h10 h11 h12 h13 h14) (cwV 0 hts (gdV m_1071 m_1072 m_1073 m_18 m_1074) rfl rfl rfl (by decide +kernel) ⟨Nat.le_of_ble_eq_true rfl, Nat.le_of_ble_eq_true rfl⟩) ⟨fun a U g mk q => by obtain ⟨q0, qP, qE⟩ := q; exact ⟨q0, qP, qE.call⟩, va_recv hK hP (ci := 5) (q0 := 1) rfl rfl, fun U hU hW => ⟨rfl, by rw [hU]; exact hPc, hE.moved hW⟩⟩ rfl rfl hl.1 rfl (lv_room (Nat.le_of_ble_eq_true rfl)) dX11_undo_4 ⟨(show 0 + 0 ≤ 0 from by decide +kernel), (show 0 + 0 ≤ 0 from by decide +kernel)⟩) (fun r_1 hw => ?_)
  subst r_1
  exact W.zret (v := 0) hx hb hr (by decide +kernel) (fun t ht hW => ⟨0, rfl, rfl, ht⟩) (fun _ h_ => (List.not_mem_nil h_).elim) dX11_undo_7
set_option maxHeartbeats 4000000 in
set_option maxRecDepth 100000 in
theorem kX12_undo_1 (l : Launch) (dC : Nat → ClassId) (dI : Nat → Nat → Nat) (cy : Nat → ClassId) (h0 : Nat) (r : Nat → Nat) : Met l yX12_undo wmX12_undo ({ frames := 0, cells := 0, slots := 0, locals := 0 }) (va_Pc [.ref h0] (fun U => va_P (dC, dI) classes [(h0, .inr (12, [.ref (r 0), .ref (r 1), .int 0, .int 0, .int 0, .int (-1), .int 0, .int 0, .int 0, .int 0, .long 0, .ref (r 11), .ref (r 12), .ref (r 13), .ref (r 14), .ref (r 15), .ref (r 16), .ref (r 17), .ref (r 18), .ref (r 19), .ref (r 20), .ref (r 21), .ref (r 22), .ref (r 23), .ref (r 24), .ref (r 25), .ref (r 26), .ref (r 27), .ref (r 28), .ref (r 29), .ref (r 30), .ref (r 31), .ref (r 32), .ref (r 33), .int 0, .int 0, .int 0, .int 0, .int 0, .int 0, .int 0, .ref (r 41), .ref (r 42), .ref (r 43), .ref (r 44), .int 0, .int 0, .int 0, .ref (r 48), .int 0, .int 0, .ref (r 51), .ref (r 52), .ref (r 53), .ref (r 54), .int 0, .ref (r 56), .ref (r 57), .ref (r 58), .int 0, .ref (r 60), .ref (r 61), .ref (r 62), .ref (r 63), .ref (r 64), .ref (r 65), .ref (r 66), .ref (r 67), .ref (r 68), .int 0, .int 0, .int 0, .ref (r 72), .ref (r 73)]))] U.heap ∧ EV dC dI cy U)) (vp_Si (fun r_ => r_ = 0)) 0 0 (fun _ => False) := by
  refine Met.ofW (cc := cX12_undo) (maxL := 1) (ret := (some .boolean)) (by decide +kernel) rfl ?_
  intro p e s m args below meth c s₁ B hml hv
  obtain ⟨rfl, hP, hE⟩ := hv
  have hK := hE.1
  have hN := hE.2.1
  have hx := B.exec
  have hb := B.bytes
  have hr := B.returns
  have hts0 := atoms_spec (ws := wmX12_undo) B.pre
  have hts : ∀ w ∈ wsL_law, w.before _ s = true := fun w h => hts0 w (List.mem_cons_of_mem _ h)
  have hown : s.vm.findClass RX12 = some m.cls := findClass_of_methodNamed B.named
  have hlocks := B.notSynchronized
  have hl := lv_entry ([.ref h0]) (n := 1) (Nat.le_of_ble_eq_true rfl)
  rw [lg_entry_eq]
  generalize (lg_sl ([.ref h0]) ++ List.replicate (1 - (lg_sl ([.ref h0])).length) Slot.unset).toArray = ls at hl ⊢
  have hl : lv_has ls 1 [(0, .ref h0)] := hl
  refine lv_aload_n hx hb dX12_undo_0 rfl (lv_at hl 0 rfl) ?_
  refine va_get (D := (dC, dI)) (ci := 12) (v := .int 0) (C := RX12) (T := TX12) (N := 74) hx hb hts inlX12 hown hK hP 0 rfl rfl 49 (by decide) (hts _ m_278) (fun _ h9 => h9) rfl dX12_undo_1 ?_
  refine lv_if_ne (tgt := 9) hx hb dX12_undo_4 (by decide) (fun c_ => absurd (by decide +kernel) c_) (fun _ => ?_)
  refine lv_iconst (v := 0) hx hb dX12_undo_7 (by decide +kernel) ?_
  exact W.zret (v := 0) hx hb hr (by decide +kernel) (fun t ht hW => ⟨0, rfl, rfl, ht⟩) (fun _ h_ => (List.not_mem_nil h_).elim) dX12_undo_8
set_option maxHeartbeats 4000000 in
set_option maxRecDepth 100000 in
theorem kX5_doAgain_1 (l : Launch) (dC : Nat → ClassId) (dI : Nat → Nat → Nat) (cy : Nat → ClassId) (h0 h1 h2 h3 h4 h5 : Nat) : Met l yX5_doAgain wmX5_doAgain ({ frames := 0, cells := 0, slots := 0, locals := 0 }) (va_Pc [.ref h0] (fun U => va_P (dC, dI) classes [(h0, .inr (5, [.ref h1, .ref h2, .ref h3, .ref h4, .ref h5, .int 0, .int 0]))] U.heap ∧ EV dC dI cy U)) (vp_Si (fun r_ => r_ = 0)) 0 0 (fun _ => False) := by
  refine Met.ofW (cc := cX5_doAgain) (maxL := 1) (ret := (some .boolean)) (by decide +kernel) rfl ?_
  intro p e s m args below meth c s₁ B hml hv
  obtain ⟨rfl, hP, hE⟩ := hv
  have hK := hE.1
  have hN := hE.2.1
  have hx := B.exec
  have hb := B.bytes
  have hr := B.returns
  have hts0 := atoms_spec (ws := wmX5_doAgain) B.pre
  have hts : ∀ w ∈ wsL_law, w.before _ s = true := fun w h => hts0 w (List.mem_cons_of_mem _ h)
  have hown : s.vm.findClass RX5 = some m.cls := findClass_of_methodNamed B.named
  have hlocks := B.notSynchronized
  have hl := lv_entry ([.ref h0]) (n := 1) (Nat.le_of_ble_eq_true rfl)
  rw [lg_entry_eq]
  generalize (lg_sl ([.ref h0]) ++ List.replicate (1 - (lg_sl ([.ref h0])).length) Slot.unset).toArray = ls at hl ⊢
  have hl : lv_has ls 1 [(0, .ref h0)] := hl
  refine lv_aload_n hx hb dX5_doAgain_0 rfl (lv_at hl 0 rfl) ?_
  refine va_get (D := (dC, dI)) (ci := 5) (v := .int 0) (C := RX5) (T := TX5) (N := 7) hx hb hts inlX5 hown hK hP 0 rfl rfl 5 (by decide) (hts _ m_582) (fun _ h9 => h9) rfl dX5_doAgain_1 ?_
  refine lv_aload_n hx hb dX5_doAgain_4 rfl (lv_at hl 0 rfl) ?_
  refine va_get (D := (dC, dI)) (ci := 5) (v := .int 0) (C := RX5) (T := TX5) (N := 7) hx hb hts inlX5 hown hK hP 0 rfl rfl 6 (by decide) (hts _ m_583) (fun _ h9 => h9) rfl dX5_doAgain_5 ?_
  refine lv_icmp_lt (tgt := 13) hx hb dX5_doAgain_8 (by decide) (fun c_ => absurd c_ (by decide +kernel)) (fun _ => ?_)
  refine lv_iconst (v := 0) hx hb dX5_doAgain_11 (by decide +kernel) ?_
  exact W.zret (v := 0) hx hb hr (by decide +kernel) (fun t ht hW => ⟨0, rfl, rfl, ht⟩) (fun _ h_ => (List.not_mem_nil h_).elim) dX5_doAgain_12
set_option maxHeartbeats 4000000 in
set_option maxRecDepth 100000 in
theorem kX11_redo_1 (l : Launch) (dC : Nat → ClassId) (dI : Nat → Nat → Nat) (cy : Nat → ClassId) (h0 h1 h2 h3 h4 h5 h6 h7 h8 h9 h10 h11 h12 h13 h14 : Nat) : Met l yX11_redo wmX11_redo ({ frames := 1, cells := 0, slots := 0, locals := 20 }) (va_Pc [.ref h0] (fun U => va_P (dC, dI) classes [(h0, .inr (11, [.ref h1, .ref h2, .ref h3, .ref h4, .ref h5, .ref h6, .ref h7, .ref h8, .ref h9])), (h2, .inr (5, [.ref h10, .ref h11, .ref h12, .ref h13, .ref h14, .int 0, .int 0]))] U.heap ∧ EV dC dI cy U)) (vp_Si (fun r_ => r_ = 0)) 0 0 (fun _ => False) := by
  refine Met.ofW (cc := cX11_redo) (maxL := 1) (ret := (some .boolean)) (by decide +kernel) rfl ?_
  intro p e s m args below meth c s₁ B hml hv
  obtain ⟨rfl, hP, hE⟩ := hv
  have hK := hE.1
  have hN := hE.2.1
  have hx := B.exec
  have hb := B.bytes
  have hr := B.returns
  have hts0 := atoms_spec (ws := wmX11_redo) B.pre
  have hts : ∀ w ∈ wsL_law, w.before _ s = true := fun w h => hts0 w (List.mem_cons_of_mem _ h)
  have hown : s.vm.findClass RX11 = some m.cls := findClass_of_methodNamed B.named
  have hlocks := B.notSynchronized
  have hl := lv_entry ([.ref h0]) (n := 1) (Nat.le_of_ble_eq_true rfl)
  rw [lg_entry_eq]
  generalize (lg_sl ([.ref h0]) ++ List.replicate (1 - (lg_sl ([.ref h0])).length) Slot.unset).toArray = ls at hl ⊢
  have hl : lv_has ls 1 [(0, .ref h0)] := hl
  refine lv_aload_n hx hb dX11_redo_0 rfl (lv_at hl 0 rfl) ?_
  refine va_get (D := (dC, dI)) (ci := 11) (v := .ref h2) (C := RX11) (T := TX11) (N := 9) hx hb hts inlX11 hown hK hP 0 rfl rfl 1 (by decide) (hts _ m_19) (fun _ h9 => h9) rfl dX11_redo_1 ?_
  have hPc := hP.sub (ws' := [(h2, .inr (5, [.ref h10, .ref h11, .ref h12, .ref h13, .ref h14, .int 0, .int 0]))]) [1] rfl
  refine vp_callSi (W.runV (As := []) (rest := []) ⟨hx, hb, hml, hown, hts⟩ (kX5_doAgain_1 l dC dI cy h2 h10 h11 h12 h13 h14) (cwV 0 hts (gdV m_1091 m_1092 m_1093 m_18 m_1094) rfl rfl rfl (by decide +kernel) ⟨Nat.le_of_ble_eq_true rfl, Nat.le_of_ble_eq_true rfl⟩) ⟨fun a U g mk q => by obtain ⟨q0, qP, qE⟩ := q; exact ⟨q0, qP, qE.call⟩, va_recv hK hP (ci := 5) (q0 := 1) rfl rfl, fun U hU hW => ⟨rfl, by rw [hU]; exact hPc, hE.moved hW⟩⟩ rfl rfl hl.1 rfl (lv_room (Nat.le_of_ble_eq_true rfl)) dX11_redo_4 ⟨(show 0 + 0 ≤ 0 from by decide +kernel), (show 0 + 0 ≤ 0 from by decide +kernel)⟩) (fun r_1 hw => ?_)
  subst r_1
  exact W.zret (v := 0) hx hb hr (by decide +kernel) (fun t ht hW => ⟨0, rfl, rfl, ht⟩) (fun _ h_ => (List.not_mem_nil h_).elim) dX11_redo_7
set_option maxHeartbeats 4000000 in
set_option maxRecDepth 100000 in
theorem kX12_redo_1 (l : Launch) (dC : Nat → ClassId) (dI : Nat → Nat → Nat) (cy : Nat → ClassId) (h0 : Nat) (r : Nat → Nat) : Met l yX12_redo wmX12_redo ({ frames := 0, cells := 0, slots := 0, locals := 0 }) (va_Pc [.ref h0] (fun U => va_P (dC, dI) classes [(h0, .inr (12, [.ref (r 0), .ref (r 1), .int 0, .int 0, .int 0, .int (-1), .int 0, .int 0, .int 0, .int 0, .long 0, .ref (r 11), .ref (r 12), .ref (r 13), .ref (r 14), .ref (r 15), .ref (r 16), .ref (r 17), .ref (r 18), .ref (r 19), .ref (r 20), .ref (r 21), .ref (r 22), .ref (r 23), .ref (r 24), .ref (r 25), .ref (r 26), .ref (r 27), .ref (r 28), .ref (r 29), .ref (r 30), .ref (r 31), .ref (r 32), .ref (r 33), .int 0, .int 0, .int 0, .int 0, .int 0, .int 0, .int 0, .ref (r 41), .ref (r 42), .ref (r 43), .ref (r 44), .int 0, .int 0, .int 0, .ref (r 48), .int 0, .int 0, .ref (r 51), .ref (r 52), .ref (r 53), .ref (r 54), .int 0, .ref (r 56), .ref (r 57), .ref (r 58), .int 0, .ref (r 60), .ref (r 61), .ref (r 62), .ref (r 63), .ref (r 64), .ref (r 65), .ref (r 66), .ref (r 67), .ref (r 68), .int 0, .int 0, .int 0, .ref (r 72), .ref (r 73)]))] U.heap ∧ EV dC dI cy U)) (vp_Si (fun r_ => r_ = 0)) 0 0 (fun _ => False) := by
  refine Met.ofW (cc := cX12_redo) (maxL := 1) (ret := (some .boolean)) (by decide +kernel) rfl ?_
  intro p e s m args below meth c s₁ B hml hv
  obtain ⟨rfl, hP, hE⟩ := hv
  have hK := hE.1
  have hN := hE.2.1
  have hx := B.exec
  have hb := B.bytes
  have hr := B.returns
  have hts0 := atoms_spec (ws := wmX12_redo) B.pre
  have hts : ∀ w ∈ wsL_law, w.before _ s = true := fun w h => hts0 w (List.mem_cons_of_mem _ h)
  have hown : s.vm.findClass RX12 = some m.cls := findClass_of_methodNamed B.named
  have hlocks := B.notSynchronized
  have hl := lv_entry ([.ref h0]) (n := 1) (Nat.le_of_ble_eq_true rfl)
  rw [lg_entry_eq]
  generalize (lg_sl ([.ref h0]) ++ List.replicate (1 - (lg_sl ([.ref h0])).length) Slot.unset).toArray = ls at hl ⊢
  have hl : lv_has ls 1 [(0, .ref h0)] := hl
  refine lv_aload_n hx hb dX12_redo_0 rfl (lv_at hl 0 rfl) ?_
  refine va_get (D := (dC, dI)) (ci := 12) (v := .int 0) (C := RX12) (T := TX12) (N := 74) hx hb hts inlX12 hown hK hP 0 rfl rfl 50 (by decide) (hts _ m_279) (fun _ h9 => h9) rfl dX12_redo_1 ?_
  refine lv_if_ne (tgt := 9) hx hb dX12_redo_4 (by decide) (fun c_ => absurd (by decide +kernel) c_) (fun _ => ?_)
  refine lv_iconst (v := 0) hx hb dX12_redo_7 (by decide +kernel) ?_
  exact W.zret (v := 0) hx hb hr (by decide +kernel) (fun t ht hW => ⟨0, rfl, rfl, ht⟩) (fun _ h_ => (List.not_mem_nil h_).elim) dX12_redo_8
set_option maxHeartbeats 4000000 in
set_option maxRecDepth 100000 in
theorem lpJ7_fill_53178_5_2 {p : Program} {l : Launch} {e : Env} {R : Room} {s : State} {m : MethodId} {args : Array Value} {below : List Frame} {meth : Method} {c : Code} {Q : State → Prop} {A : Nat → Prop} (dC : Nat → ClassId) (dI : Nat → Nat → Nat) (cy : Nat → ClassId) (h0 : Nat) (hx : p.tables.exec = Jvm.exec) (hb : c.code = cJ7_fill_53178) (hml : c.maxLocals = 4) (hown : s.vm.findClass RJ7 = some m.cls) (hts : ∀ w ∈ wsL_law, w.before args s = true) (hE : EV dC dI cy s) (hRf : 0 ≤ R.frames) (hRl : 0 ≤ R.locals) (hRc : 0 ≤ R.cells) (hRs : 0 ≤ R.slots) (kk : ∀ (x : Int32) (ls : Array Slot) (H : Heap) (locs : List Loc), va_P (dC, dI) classes [(h0, .inl (cy 0, 169, .inl (fun _ => 0)))] H → va_D A [(h0, .inl (cy 0, 169, .inl (fun _ => 0)))] → va_S A s.heap H locs → lv_has ls 4 [(3, .int 169), (2, .int x), (0, .ref h0), (1, .int 0)] → W p l e R s m args below meth c H locs 0 0 Q (F0 m 20 ls [])) : ∀ (n : Nat) (x : Int32) (ls : Array Slot) (H : Heap) (locs : List Loc), 0 ≤ x → ((169 : Int32).toInt - x.toInt).toNat < n → va_P (dC, dI) classes [(h0, .inl (cy 0, 169, .inl (fun _ => 0)))] H → va_D A [(h0, .inl (cy 0, 169, .inl (fun _ => 0)))] → va_S A s.heap H locs → lv_has ls 4 [(3, .int 169), (2, .int x), (0, .ref h0), (1, .int 0)] → W p l e R s m args below meth c H locs 0 0 Q (F0 m 5 ls []) := by
  have hK := hE.1
  have hN := hE.2.1
  intro n
  induction n with
  | zero => intro x ls H locs hlo hm; exact absurd hm (Nat.not_lt_zero _)
  | succ n ih =>
    intro x ls H locs hlo hm hP hD hS hl
    refine lv_iload_n hx hb dJ7_fill_53178_5 rfl (lv_at hl 1 rfl) ?_
    refine lv_iload_n hx hb dJ7_fill_53178_6 rfl (lv_at hl 0 rfl) ?_
    refine lv_icmp_ge (tgt := 20) hx hb dJ7_fill_53178_7 (by decide) (fun c_102 => ?_) (fun c_102 => ?_)
    · exact kk x ls _ _ hP hD hS hl
    · refine lv_aload_n hx hb dJ7_fill_53178_10 rfl (lv_at hl 2 rfl) ?_
      refine lv_iload_n hx hb dJ7_fill_53178_11 rfl (lv_at hl 1 rfl) ?_
      refine lv_iload_n hx hb dJ7_fill_53178_12 rfl (lv_at hl 3 rfl) ?_
      refine va_iast hx hb hK hP hD hS 0 0 rfl rfl (nn_9 hlo c_102) dJ7_fill_53178_13 (fun H locs hP hD hS => ?_)
      rw [show upd (fun _ => 0) (Int32.toNatClampNeg x) 0 = (fun _ => 0) from xa_upd0 rfl] at hP hD
      have hP : va_P (dC, dI) classes [(h0, .inl (cy 0, 169, .inl (fun _ => 0)))] H := hP
      have hD : va_D A [(h0, .inl (cy 0, 169, .inl (fun _ => 0)))] := hD
      obtain ⟨z_103, ez_103⟩ : ∃ y : Int32, y = x + Int32.ofInt 1 := ⟨_, rfl⟩
      refine lv_iinc (v := z_103) (lv' := [(2, .int z_103), (3, .int 169), (0, .ref h0), (1, .int 0)]) hx hb dJ7_fill_53178_14 hl (k := 1) rfl (by rw [ez_103]) (by decide) rfl (fun ls hl => ?_)
      refine lv_goto (tgt := 5) hx hb dJ7_fill_53178_17 (by decide) ?_
      obtain ⟨hs1, hs2⟩ := xl_step hlo (Int32.not_le.mp c_102) ez_103 hm
      exact ih z_103 ls _ _ hs1 hs2 (hP.sub [0] rfl) (hD.sub [0] (by decide) rfl) hS (lv_sub hl [1, 0, 2, 3] rfl)
set_option maxHeartbeats 4000000 in
set_option maxRecDepth 100000 in
theorem kJ7_fill_53178_2 (l : Launch) (dC : Nat → ClassId) (dI : Nat → Nat → Nat) (cy : Nat → ClassId) (h0 : Nat) (sz : Nat) : Met l yJ7_fill_53178 wmJ7_fill_53178 ({ frames := 0, cells := 0, slots := 0, locals := 0 }) (va_Pc [.ref h0, .int 0] (fun U => U.heap.size = sz ∧ va_P (dC, dI) classes [(h0, .inl (cy 0, 169, .inl (fun _ => 0)))] U.heap ∧ EV dC dI cy U ∧ va_D (fun _ => True) [(h0, .inl (cy 0, 169, .inl (fun _ => 0)))])) (va_Qv (S := Unit) (fun _ => True) (fun _ t => va_P (dC, dI) classes [(h0, .inl (cy 0, 169, .inl (fun _ => 0)))] t.heap ∧ va_D (va_A [(h0, .inl (cy 0, 169, .inl (fun _ => 0)))] sz) [(h0, .inl (cy 0, 169, .inl (fun _ => 0)))]) (va_A [(h0, .inl (cy 0, 169, .inl (fun _ => 0)))] sz)) 0 0 (va_A [(h0, .inl (cy 0, 169, .inl (fun _ => 0)))] sz) := by
  refine Met.ofW (cc := cJ7_fill_53178) (maxL := 4) (ret := none) (by decide +kernel) rfl ?_
  intro p e s m args below meth c s₁ B hml hv
  obtain ⟨rfl, hsz, hP, hE, hD0⟩ := hv
  have hK := hE.1
  have hN := hE.2.1
  have hx := B.exec
  have hb := B.bytes
  have hr := B.returns
  have hts0 := atoms_spec (ws := wmJ7_fill_53178) B.pre
  have hts : ∀ w ∈ wsL_law, w.before _ s = true := fun w h => hts0 w (List.mem_cons_of_mem _ h)
  have hown : s.vm.findClass RJ7 = some m.cls := findClass_of_methodNamed B.named
  have hlocks := B.notSynchronized
  subst hsz
  have hD := hD0.self (sz := s.heap.size)
  generalize hAe : va_A [(h0, .inl (cy 0, 169, .inl (fun _ => 0)))] s.heap.size = A at hD ⊢
  have hA : ∀ q : Nat, s.heap.size ≤ q → A q := fun q h => by rw [← hAe]; exact Or.inr h
  have hS : va_S A s.heap s.heap [] := va_S.rf
  have hP : va_P (dC, dI) classes [(h0, .inl (cy 0, 169, .inl (fun _ => 0)))] s.heap := hP
  have hl := lv_entry ([.ref h0, .int 0]) (n := 4) (Nat.le_of_ble_eq_true rfl)
  rw [lg_entry_eq]
  generalize (lg_sl ([.ref h0, .int 0]) ++ List.replicate (4 - (lg_sl ([.ref h0, .int 0])).length) Slot.unset).toArray = ls at hl ⊢
  have hl : lv_has ls 4 [(0, .ref h0), (1, .int 0)] := hl
  refine lv_iconst (v := 0) hx hb dJ7_fill_53178_0 (by decide +kernel) ?_
  refine lv_istore_n (lv' := [(2, .int 0), (0, .ref h0), (1, .int 0)]) hx hb dJ7_fill_53178_1 rfl hl (by decide) rfl (fun ls hl => ?_)
  refine lv_aload_n hx hb dJ7_fill_53178_2 rfl (lv_at hl 1 rfl) ?_
  refine va_alen (v := 169) hx hb hK hP 0 0 rfl rfl rfl dJ7_fill_53178_3 ?_
  refine lv_istore_n (lv' := [(3, .int 169), (2, .int 0), (0, .ref h0), (1, .int 0)]) hx hb dJ7_fill_53178_4 rfl hl (by decide) rfl (fun ls hl => ?_)
  refine lpJ7_fill_53178_5_2 dC dI cy h0 hx hb hml hown hts hE (Nat.le_of_ble_eq_true rfl) (Nat.le_of_ble_eq_true rfl) (show 0 ≤ 0 from by decide +kernel) (show 0 ≤ 0 from by decide +kernel) (fun z_1 ls H locs hP hD hS hl => ?_) ((169 : Int32).toInt - (0 : Int32).toInt).toNat.succ 0 ls _ _ (by decide +kernel) (Nat.lt_succ_self _) hP hD hS hl
  have hP : va_P (dC, dI) classes [(h0, .inl (cy 0, 169, .inl (fun _ => 0)))] H := hP
  have hD : va_D A [(h0, .inl (cy 0, 169, .inl (fun _ => 0)))] := hD
  have hP9 := hP.sub (ws' := [(h0, .inl (cy 0, 169, .inl (fun _ => 0)))]) [0] rfl
  have hD9 := hD.sub (ws' := [(h0, .inl (cy 0, 169, .inl (fun _ => 0)))]) [0] (by decide) rfl
  exact W.vret hx hb hr (fun t ht hW => ⟨⟨(), rfl, trivial, by rw [ht]; exact hP9, hD9⟩, hS.F ht⟩) hS.2.2 dJ7_fill_53178_20
set_option maxHeartbeats 4000000 in
set_option maxRecDepth 100000 in
theorem kX4_countWays_1 (l : Launch) (dC : Nat → ClassId) (dI : Nat → Nat → Nat) (cy : Nat → ClassId) (h0 h1 h2 h3 h4 h5 h6 h7 : Nat) (sz : Nat) : Met l yX4_countWays wmX4_countWays ({ frames := 1, cells := 0, slots := 0, locals := 23 }) (va_Pc [.ref h0, .ref h1, .ref h1] (fun U => U.heap.size = sz ∧ va_P (dC, dI) classes [(h0, .inr (4, [.ref h2, .ref h3, .ref h4, .ref h5, .ref h6, .ref h6, .ref h6])), (h2, .inl (cy 0, 169, .inl (fun _ => 0))), (h1, .inr (1, [.ref h7, .int 0]))] U.heap ∧ EV dC dI cy U ∧ va_D (fun _ => True) [(h0, .inr (4, [.ref h2, .ref h3, .ref h4, .ref h5, .ref h6, .ref h6, .ref h6])), (h2, .inl (cy 0, 169, .inl (fun _ => 0))), (h1, .inr (1, [.ref h7, .int 0]))])) (va_Qi (S := Unit) (fun r_ _ => r_ = 1) (fun _ t => ∃ (f_2 : Nat → Int32), va_P (dC, dI) classes [(h0, .inr (4, [.ref h2, .ref h3, .ref h4, .ref h5, .ref h6, .ref h6, .ref h6])), (h1, .inr (1, [.ref h7, .int 0])), (h2, .inl (cy 0, 169, .inl f_2))] t.heap ∧ va_D (va_A [(h0, .inr (4, [.ref h2, .ref h3, .ref h4, .ref h5, .ref h6, .ref h6, .ref h6])), (h2, .inl (cy 0, 169, .inl (fun _ => 0))), (h1, .inr (1, [.ref h7, .int 0]))] sz) [(h0, .inr (4, [.ref h2, .ref h3, .ref h4, .ref h5, .ref h6, .ref h6, .ref h6])), (h1, .inr (1, [.ref h7, .int 0])), (h2, .inl (cy 0, 169, .inl f_2))]) (va_A [(h0, .inr (4, [.ref h2, .ref h3, .ref h4, .ref h5, .ref h6, .ref h6, .ref h6])), (h2, .inl (cy 0, 169, .inl (fun _ => 0))), (h1, .inr (1, [.ref h7, .int 0]))] sz)) 0 0 (va_A [(h0, .inr (4, [.ref h2, .ref h3, .ref h4, .ref h5, .ref h6, .ref h6, .ref h6])), (h2, .inl (cy 0, 169, .inl (fun _ => 0))), (h1, .inr (1, [.ref h7, .int 0]))] sz) := by
  refine Met.ofW (cc := cX4_countWays) (maxL := 5) (ret := (some .int)) (by decide +kernel) rfl ?_
  intro p e s m args below meth c s₁ B hml hv
  obtain ⟨rfl, hsz, hP, hE, hD0⟩ := hv
  have hK := hE.1
  have hN := hE.2.1
  have hx := B.exec
  have hb := B.bytes
  have hr := B.returns
  have hts0 := atoms_spec (ws := wmX4_countWays) B.pre
  have hts : ∀ w ∈ wsL_law, w.before _ s = true := fun w h => hts0 w (List.mem_cons_of_mem _ h)
  have hown : s.vm.findClass RX4 = some m.cls := findClass_of_methodNamed B.named
  have hlocks := B.notSynchronized
  subst hsz
  have hD := hD0.self (sz := s.heap.size)
  generalize hAe : va_A [(h0, .inr (4, [.ref h2, .ref h3, .ref h4, .ref h5, .ref h6, .ref h6, .ref h6])), (h2, .inl (cy 0, 169, .inl (fun _ => 0))), (h1, .inr (1, [.ref h7, .int 0]))] s.heap.size = A at hD ⊢
  have hA : ∀ q : Nat, s.heap.size ≤ q → A q := fun q h => by rw [← hAe]; exact Or.inr h
  have hS : va_S A s.heap s.heap [] := va_S.rf
  have hP : va_P (dC, dI) classes [(h0, .inr (4, [.ref h2, .ref h3, .ref h4, .ref h5, .ref h6, .ref h6, .ref h6])), (h2, .inl (cy 0, 169, .inl (fun _ => 0))), (h1, .inr (1, [.ref h7, .int 0]))] s.heap := hP
  have hl := lv_entry ([.ref h0, .ref h1, .ref h1]) (n := 5) (Nat.le_of_ble_eq_true rfl)
  rw [lg_entry_eq]
  generalize (lg_sl ([.ref h0, .ref h1, .ref h1]) ++ List.replicate (5 - (lg_sl ([.ref h0, .ref h1, .ref h1])).length) Slot.unset).toArray = ls at hl ⊢
  have hl : lv_has ls 5 [(0, .ref h0), (1, .ref h1), (2, .ref h1)] := hl
  refine lv_aload_n hx hb dX4_countWays_0 rfl (lv_at hl 0 rfl) ?_
  refine va_get (D := (dC, dI)) (ci := 4) (v := .ref h2) (C := RX4) (T := TX4) (N := 7) hx hb hts inlX4 hown hK hP 0 rfl rfl 0 (by decide) (hts _ m_174) (fun _ h9 => h9) rfl dX4_countWays_1 ?_
  refine lv_iconst (v := 0) hx hb dX4_countWays_4 (by decide +kernel) ?_
  have hPc := hP.sub (ws' := [(h2, .inl (cy 0, 169, .inl (fun _ => 0)))]) [1] rfl
  have hDc := hD.sub (ws' := [(h2, .inl (cy 0, 169, .inl (fun _ => 0)))]) [1] (by decide) rfl
  have hFc := va_free (wc := [(h2, .inl (cy 0, 169, .inl (fun _ => 0)))]) hD hS hA [1] rfl
  refine va_callv (va_runS (As := [.ref h2, .int 0]) (rest := []) ⟨hx, hb, hml, hown, hts⟩ (kJ7_fill_53178_2 l dC dI cy h2 s.heap.size) (va_cwS 2 hts (gdS m_1108 m_337 m_338 m_339) rfl rfl rfl (by decide +kernel) ⟨Nat.le_of_ble_eq_true rfl, Nat.le_of_ble_eq_true rfl⟩) ⟨fun a U g mk q => by obtain ⟨q0, q1, qP, qE, qD⟩ := q; exact ⟨q0, q1, qP, qE.call, qD⟩, fun U hU hW => ⟨rfl, by rw [hU], by rw [hU]; exact hPc, hE.moved hW, hDc.weaken (fun _ _ _ _ => trivial)⟩⟩ rfl rfl hl.1 rfl (lv_room (Nat.le_of_ble_eq_true rfl)) dX4_countWays_5 ⟨(show 0 + 0 ≤ 0 from by decide +kernel), (show 0 + 0 ≤ 0 from by decide +kernel)⟩) hS (fun q _ h => hFc q h) hFc (fun u t H1 locs ht hvm hw hB hz1 hk1 hS => ?_)
  obtain ⟨hP1, hD1⟩ := hB
  rw [ht] at hP1
  obtain ⟨hP, hD⟩ := va_join (wr := [(h0, .inr (4, [.ref h2, .ref h3, .ref h4, .ref h5, .ref h6, .ref h6, .ref h6])), (h1, .inr (1, [.ref h7, .int 0]))]) (w1 := [(h2, .inl (cy 0, 169, .inl (fun _ => 0)))]) hP hD [1] [0, 2] rfl rfl (by decide) (by decide) hk1 hFc hP1 hD1
  generalize H1 = H at hP hS ⊢
  have hP : va_P (dC, dI) classes [(h0, .inr (4, [.ref h2, .ref h3, .ref h4, .ref h5, .ref h6, .ref h6, .ref h6])), (h1, .inr (1, [.ref h7, .int 0])), (h2, .inl (cy 0, 169, .inl (fun _ => 0)))] H := hP
  have hD : va_D A [(h0, .inr (4, [.ref h2, .ref h3, .ref h4, .ref h5, .ref h6, .ref h6, .ref h6])), (h1, .inr (1, [.ref h7, .int 0])), (h2, .inl (cy 0, 169, .inl (fun _ => 0)))] := hD
  refine W.widen (k := 0) (n := 0) (by decide +kernel) (by decide +kernel) ?_
  refine lv_aload_n hx hb dX4_countWays_8 rfl (lv_at hl 0 rfl) ?_
  refine va_get (D := (dC, dI)) (ci := 4) (v := .ref h2) (C := RX4) (T := TX4) (N := 7) hx hb hts inlX4 hown hK hP 0 rfl rfl 0 (by decide) (hts _ m_174) (fun _ h9 => h9) rfl dX4_countWays_9 ?_
  refine lv_iconst (v := 0) hx hb dX4_countWays_12 (by decide +kernel) ?_
  refine lv_iconst (v := 1) hx hb dX4_countWays_13 (by decide +kernel) ?_
  refine va_iast hx hb hK hP hD hS 2 0 rfl rfl vi_0_169 dX4_countWays_14 (fun H locs hP hD hS => ?_)
  obtain ⟨f_2, ef_3⟩ : ∃ g : Nat → Int32, g = upd (fun _ => 0) (Int32.toNatClampNeg 0) 1 := ⟨_, rfl⟩
  rw [← ef_3] at hP hD
  have ef_3 : f_2 0 = 1 := by rw [ef_3]; exact pk_us
  have hP : va_P (dC, dI) classes [(h0, .inr (4, [.ref h2, .ref h3, .ref h4, .ref h5, .ref h6, .ref h6, .ref h6])), (h1, .inr (1, [.ref h7, .int 0])), (h2, .inl (cy 0, 169, .inl f_2))] H := hP
  have hD : va_D A [(h0, .inr (4, [.ref h2, .ref h3, .ref h4, .ref h5, .ref h6, .ref h6, .ref h6])), (h1, .inr (1, [.ref h7, .int 0])), (h2, .inl (cy 0, 169, .inl f_2))] := hD
  refine lv_iconst (v := 0) hx hb dX4_countWays_15 (by decide +kernel) ?_
  refine lv_istore_n (lv' := [(3, .int 0), (0, .ref h0), (1, .ref h1), (2, .ref h1)]) hx hb dX4_countWays_16 rfl hl (by decide) rfl (fun ls hl => ?_)
  refine lv_iload_n hx hb dX4_countWays_17 rfl (lv_at hl 0 rfl) ?_
  refine lv_aload_n hx hb dX4_countWays_18 rfl (lv_at hl 3 rfl) ?_
  refine va_getN (D := (dC, dI)) (ci := 1) (v := .int 0) (C := RX1) (T := TX1) (N := 2) hx hb hts inlX1 hown hK hP 1 rfl rfl 1 (by decide) (va_Nw.use rfl (hN _ nw_5)) (fun _ h9 => h9) rfl dX4_countWays_19 ?_
  refine lv_icmp_ge (tgt := 88) hx hb dX4_countWays_22 (by decide) (fun _ => ?_) (fun c_ => absurd (by decide +kernel) c_)
  refine lv_aload_n hx hb dX4_countWays_88 rfl (lv_at hl 2 rfl) ?_
  refine va_getN (D := (dC, dI)) (ci := 1) (v := .int 0) (C := RX1) (T := TX1) (N := 2) hx hb hts inlX1 hown hK hP 1 rfl rfl 1 (by decide) (va_Nw.use rfl (hN _ nw_5)) (fun _ h9 => h9) rfl dX4_countWays_89 ?_
  refine lv_bipush (v := 13) hx hb dX4_countWays_92 (by decide +kernel) ?_
  refine lv_icmp_ge (tgt := 109) hx hb dX4_countWays_94 (by decide) (fun c_ => absurd c_ (by decide +kernel)) (fun _ => ?_)
  refine lv_aload_n hx hb dX4_countWays_97 rfl (lv_at hl 1 rfl) ?_
  refine va_get (D := (dC, dI)) (ci := 4) (v := .ref h2) (C := RX4) (T := TX4) (N := 7) hx hb hts inlX4 hown hK hP 0 rfl rfl 0 (by decide) (hts _ m_174) (fun _ h9 => h9) rfl dX4_countWays_98 ?_
  refine lv_aload_n hx hb dX4_countWays_101 rfl (lv_at hl 2 rfl) ?_
  refine va_getN (D := (dC, dI)) (ci := 1) (v := .int 0) (C := RX1) (T := TX1) (N := 2) hx hb hts inlX1 hown hK hP 1 rfl rfl 1 (by decide) (va_Nw.use rfl (hN _ nw_5)) (fun _ h9 => h9) rfl dX4_countWays_102 ?_
  refine va_iald hx hb hK hP 2 0 rfl rfl vi_0_169 dX4_countWays_105 ?_
  refine lv_topi (fun z_4 ez_4 => ?_)
  obtain rfl : z_4 = 1 := ez_4.trans ef_3
  refine lv_goto (tgt := 110) hx hb dX4_countWays_106 (by decide) ?_
  have hP9 := hP.sub (ws' := [(h0, .inr (4, [.ref h2, .ref h3, .ref h4, .ref h5, .ref h6, .ref h6, .ref h6])), (h1, .inr (1, [.ref h7, .int 0])), (h2, .inl (cy 0, 169, .inl f_2))]) [0, 1, 2] rfl
  have hD9 := hD.sub (ws' := [(h0, .inr (4, [.ref h2, .ref h3, .ref h4, .ref h5, .ref h6, .ref h6, .ref h6])), (h1, .inr (1, [.ref h7, .int 0])), (h2, .inl (cy 0, 169, .inl f_2))]) [0, 1, 2] (by decide) rfl
  exact W.iret (v := 1) hx hb hr (fun t ht hW => ⟨⟨1, (), rfl, rfl, f_2, by rw [ht]; exact hP9, hD9⟩, hS.F ht⟩) hS.2.2 dX4_countWays_110
set_option maxHeartbeats 4000000 in
set_option maxRecDepth 100000 in
theorem kX11_ways_1 (l : Launch) (dC : Nat → ClassId) (dI : Nat → Nat → Nat) (cy : Nat → ClassId) (h0 h1 h2 h3 h4 h5 h6 h7 h8 h9 h10 h11 h12 h13 h14 h15 h16 h17 h18 h19 h20 h21 h22 h23 h24 h25 h26 h27 h28 : Nat) (p0 p1 : Int32) (sz : Nat) : Met l yX11_ways wmX11_ways ({ frames := 2, cells := 0, slots := 0, locals := 47 }) (va_Pc [.ref h0, .int p0, .int p1] (fun U => U.heap.size = sz ∧ va_P (dC, dI) classes [(h0, .inr (11, [.ref h1, .ref h2, .ref h3, .ref h4, .ref h5, .ref h6, .ref h7, .ref h8, .ref h9])), (h9, .inr (10, [.ref h10, .ref h11, .ref h12, .ref h13, .ref h14, .ref h15, .ref h16, .int 0, .int 0, .int 0, .int 0, .int 0])), (h2, .inr (5, [.ref h17, .ref h18, .ref h19, .ref h20, .ref h21, .int 0, .int 0])), (h17, .inr (8, [.ref h22, .int 0, .int 0])), (h3, .inr (4, [.ref h23, .ref h24, .ref h25, .ref h26, .ref h27, .ref h27, .ref h27])), (h23, .inl (cy 0, 169, .inl (fun _ => 0))), (h22, .inr (1, [.ref h28, .int 0]))] U.heap ∧ EV dC dI cy U ∧ va_D (fun _ => True) [(h0, .inr (11, [.ref h1, .ref h2, .ref h3, .ref h4, .ref h5, .ref h6, .ref h7, .ref h8, .ref h9])), (h9, .inr (10, [.ref h10, .ref h11, .ref h12, .ref h13, .ref h14, .ref h15, .ref h16, .int 0, .int 0, .int 0, .int 0, .int 0])), (h2, .inr (5, [.ref h17, .ref h18, .ref h19, .ref h20, .ref h21, .int 0, .int 0])), (h17, .inr (8, [.ref h22, .int 0, .int 0])), (h3, .inr (4, [.ref h23, .ref h24, .ref h25, .ref h26, .ref h27, .ref h27, .ref h27])), (h23, .inl (cy 0, 169, .inl (fun _ => 0))), (h22, .inr (1, [.ref h28, .int 0]))])) (va_Qi (S := Unit) (fun r_ _ => (r_ = (-1) ∧ ¬ p0 = (-1) ∧ ¬ p1 = (-1)) ∨ (r_ = (-1) ∧ ¬ p0 = (-1) ∧ p1 = (-1)) ∨ (r_ = (-1) ∧ p0 = (-1) ∧ ¬ p1 = (-1)) ∨ (r_ = 1 ∧ p0 = (-1) ∧ p1 = (-1))) (fun _ _ => True) (va_A [(h0, .inr (11, [.ref h1, .ref h2, .ref h3, .ref h4, .ref h5, .ref h6, .ref h7, .ref h8, .ref h9])), (h9, .inr (10, [.ref h10, .ref h11, .ref h12, .ref h13, .ref h14, .ref h15, .ref h16, .int 0, .int 0, .int 0, .int 0, .int 0])), (h2, .inr (5, [.ref h17, .ref h18, .ref h19, .ref h20, .ref h21, .int 0, .int 0])), (h17, .inr (8, [.ref h22, .int 0, .int 0])), (h3, .inr (4, [.ref h23, .ref h24, .ref h25, .ref h26, .ref h27, .ref h27, .ref h27])), (h23, .inl (cy 0, 169, .inl (fun _ => 0))), (h22, .inr (1, [.ref h28, .int 0]))] sz)) 0 0 (va_A [(h0, .inr (11, [.ref h1, .ref h2, .ref h3, .ref h4, .ref h5, .ref h6, .ref h7, .ref h8, .ref h9])), (h9, .inr (10, [.ref h10, .ref h11, .ref h12, .ref h13, .ref h14, .ref h15, .ref h16, .int 0, .int 0, .int 0, .int 0, .int 0])), (h2, .inr (5, [.ref h17, .ref h18, .ref h19, .ref h20, .ref h21, .int 0, .int 0])), (h17, .inr (8, [.ref h22, .int 0, .int 0])), (h3, .inr (4, [.ref h23, .ref h24, .ref h25, .ref h26, .ref h27, .ref h27, .ref h27])), (h23, .inl (cy 0, 169, .inl (fun _ => 0))), (h22, .inr (1, [.ref h28, .int 0]))] sz) := by
  refine Met.ofW (cc := cX11_ways) (maxL := 5) (ret := (some .int)) (by decide +kernel) rfl ?_
  intro p e s m args below meth c s₁ B hml hv
  obtain ⟨rfl, hsz, hP, hE, hD0⟩ := hv
  have hK := hE.1
  have hN := hE.2.1
  have hx := B.exec
  have hb := B.bytes
  have hr := B.returns
  have hts0 := atoms_spec (ws := wmX11_ways) B.pre
  have hts : ∀ w ∈ wsL_law, w.before _ s = true := fun w h => hts0 w (List.mem_cons_of_mem _ h)
  have hown : s.vm.findClass RX11 = some m.cls := findClass_of_methodNamed B.named
  have hlocks := B.notSynchronized
  subst hsz
  have hD := hD0.self (sz := s.heap.size)
  generalize hAe : va_A [(h0, .inr (11, [.ref h1, .ref h2, .ref h3, .ref h4, .ref h5, .ref h6, .ref h7, .ref h8, .ref h9])), (h9, .inr (10, [.ref h10, .ref h11, .ref h12, .ref h13, .ref h14, .ref h15, .ref h16, .int 0, .int 0, .int 0, .int 0, .int 0])), (h2, .inr (5, [.ref h17, .ref h18, .ref h19, .ref h20, .ref h21, .int 0, .int 0])), (h17, .inr (8, [.ref h22, .int 0, .int 0])), (h3, .inr (4, [.ref h23, .ref h24, .ref h25, .ref h26, .ref h27, .ref h27, .ref h27])), (h23, .inl (cy 0, 169, .inl (fun _ => 0))), (h22, .inr (1, [.ref h28, .int 0]))] s.heap.size = A at hD ⊢
  have hA : ∀ q : Nat, s.heap.size ≤ q → A q := fun q h => by rw [← hAe]; exact Or.inr h
  have hS : va_S A s.heap s.heap [] := va_S.rf
  have hP : va_P (dC, dI) classes [(h0, .inr (11, [.ref h1, .ref h2, .ref h3, .ref h4, .ref h5, .ref h6, .ref h7, .ref h8, .ref h9])), (h9, .inr (10, [.ref h10, .ref h11, .ref h12, .ref h13, .ref h14, .ref h15, .ref h16, .int 0, .int 0, .int 0, .int 0, .int 0])), (h2, .inr (5, [.ref h17, .ref h18, .ref h19, .ref h20, .ref h21, .int 0, .int 0])), (h17, .inr (8, [.ref h22, .int 0, .int 0])), (h3, .inr (4, [.ref h23, .ref h24, .ref h25, .ref h26, .ref h27, .ref h27, .ref h27])), (h23, .inl (cy 0, 169, .inl (fun _ => 0))), (h22, .inr (1, [.ref h28, .int 0]))] s.heap := hP
  have hl := lv_entry ([.ref h0, .int p0, .int p1]) (n := 5) (Nat.le_of_ble_eq_true rfl)
  rw [lg_entry_eq]
  generalize (lg_sl ([.ref h0, .int p0, .int p1]) ++ List.replicate (5 - (lg_sl ([.ref h0, .int p0, .int p1])).length) Slot.unset).toArray = ls at hl ⊢
  have hl : lv_has ls 5 [(0, .ref h0), (1, .int p0), (2, .int p1)] := hl
  refine lv_aload_n hx hb dX11_ways_0 rfl (lv_at hl 0 rfl) ?_
  refine lv_iload_n hx hb dX11_ways_1 rfl (lv_at hl 1 rfl) ?_
  have hPc := hP.sub (ws' := [(h0, .inr (11, [.ref h1, .ref h2, .ref h3, .ref h4, .ref h5, .ref h6, .ref h7, .ref h8, .ref h9])), (h9, .inr (10, [.ref h10, .ref h11, .ref h12, .ref h13, .ref h14, .ref h15, .ref h16, .int 0, .int 0, .int 0, .int 0, .int 0])), (h2, .inr (5, [.ref h17, .ref h18, .ref h19, .ref h20, .ref h21, .int 0, .int 0])), (h17, .inr (8, [.ref h22, .int 0, .int 0]))]) [0, 1, 2, 3] rfl
  refine va_csq (W.runV (As := [.int p0]) (rest := []) ⟨hx, hb, hml, hown, hts⟩ (kX11_lineOf_1 l dC dI cy h0 h1 h2 h3 h4 h5 h6 h7 h8 h9 h10 h11 h12 h13 h14 h15 h16 h17 h18 h19 h20 h21 h22 p0) (cwV 1 hts (gdV m_807 m_808 m_809 m_2 m_810) rfl rfl rfl (by decide +kernel) ⟨Nat.le_of_ble_eq_true rfl, Nat.le_of_ble_eq_true rfl⟩) ⟨fun a U g mk q => by obtain ⟨q0, qP, qE⟩ := q; exact ⟨q0, qP, qE.call⟩, va_recv hK hP (ci := 11) (q0 := 0) rfl rfl, fun U hU hW => ⟨rfl, by rw [hU]; exact hPc, hE.moved hW⟩⟩ rfl rfl hl.1 rfl (lv_room (Nat.le_of_ble_eq_true rfl)) dX11_ways_2 ⟨(show 0 + 0 ≤ 0 from by decide +kernel), (show 0 + 0 ≤ 0 from by decide +kernel)⟩) (fun r_1 hw => ?_)
  rcases hw with ⟨hr1, c_2⟩ | ⟨hr1, c_3⟩
  · subst r_1
    refine W.eq (g2 := F0 m 5 ls [.null]) rfl ?_
    refine lv_astore_nN (lv' := [(3, .null), (0, .ref h0), (1, .int p0), (2, .int p1)]) hx hb dX11_ways_5 rfl hl (by decide) rfl (fun ls hl => ?_)
    refine lv_aload_n hx hb dX11_ways_6 rfl (lv_at hl 1 rfl) ?_
    refine lv_iload_n hx hb dX11_ways_7 rfl (lv_at hl 3 rfl) ?_
    have hPc := hP.sub (ws' := [(h0, .inr (11, [.ref h1, .ref h2, .ref h3, .ref h4, .ref h5, .ref h6, .ref h7, .ref h8, .ref h9])), (h9, .inr (10, [.ref h10, .ref h11, .ref h12, .ref h13, .ref h14, .ref h15, .ref h16, .int 0, .int 0, .int 0, .int 0, .int 0])), (h2, .inr (5, [.ref h17, .ref h18, .ref h19, .ref h20, .ref h21, .int 0, .int 0])), (h17, .inr (8, [.ref h22, .int 0, .int 0]))]) [0, 1, 2, 3] rfl
    refine va_csq (W.runV (As := [.int p1]) (rest := []) ⟨hx, hb, hml, hown, hts⟩ (kX11_lineOf_1 l dC dI cy h0 h1 h2 h3 h4 h5 h6 h7 h8 h9 h10 h11 h12 h13 h14 h15 h16 h17 h18 h19 h20 h21 h22 p1) (cwV 1 hts (gdV m_807 m_808 m_809 m_2 m_810) rfl rfl rfl (by decide +kernel) ⟨Nat.le_of_ble_eq_true rfl, Nat.le_of_ble_eq_true rfl⟩) ⟨fun a U g mk q => by obtain ⟨q0, qP, qE⟩ := q; exact ⟨q0, qP, qE.call⟩, va_recv hK hP (ci := 11) (q0 := 0) rfl rfl, fun U hU hW => ⟨rfl, by rw [hU]; exact hPc, hE.moved hW⟩⟩ rfl rfl hl.1 rfl (lv_room (Nat.le_of_ble_eq_true rfl)) dX11_ways_8 ⟨(show 0 + 0 ≤ 0 from by decide +kernel), (show 0 + 0 ≤ 0 from by decide +kernel)⟩) (fun r_4 hw => ?_)
    rcases hw with ⟨hr1, c_5⟩ | ⟨hr1, c_6⟩
    · subst r_4
      refine W.eq (g2 := F0 m 11 ls [.null]) rfl ?_
      refine lv_astoreN (lv' := [(4, .null), (3, .null), (0, .ref h0), (1, .int p0), (2, .int p1)]) hx hb dX11_ways_11 hl (by decide) rfl (fun ls hl => ?_)
      refine lv_aload_nN hx hb dX11_ways_13 rfl (lv_at hl 1 rfl) ?_
      refine lv_ifnullN (tgt := 22) hx hb dX11_ways_14 (by decide) ?_
      refine lv_iconst (v := (-1)) hx hb dX11_ways_22 (by decide +kernel) ?_
      refine lv_goto (tgt := 36) hx hb dX11_ways_23 (by decide) ?_
      exact W.iret (v := (-1)) hx hb hr (fun t ht hW => ⟨⟨(-1), (), rfl, Or.inl ⟨rfl, c_2, c_5⟩, trivial⟩, hS.F ht⟩) hS.2.2 dX11_ways_36
    · subst r_4
      refine W.eq (g2 := F0 m 11 ls [.ref h22]) rfl ?_
      subst c_6
      refine lv_astore (lv' := [(4, .ref h22), (3, .null), (0, .ref h0), (1, .int p0), (2, .int (-1))]) hx hb dX11_ways_11 hl (by decide) rfl (fun ls hl => ?_)
      refine lv_aload_nN hx hb dX11_ways_13 rfl (lv_at hl 1 rfl) ?_
      refine lv_ifnullN (tgt := 22) hx hb dX11_ways_14 (by decide) ?_
      refine lv_iconst (v := (-1)) hx hb dX11_ways_22 (by decide +kernel) ?_
      refine lv_goto (tgt := 36) hx hb dX11_ways_23 (by decide) ?_
      exact W.iret (v := (-1)) hx hb hr (fun t ht hW => ⟨⟨(-1), (), rfl, Or.inr (Or.inl ⟨rfl, c_2, rfl⟩), trivial⟩, hS.F ht⟩) hS.2.2 dX11_ways_36
  · subst r_1
    refine W.eq (g2 := F0 m 5 ls [.ref h22]) rfl ?_
    subst c_3
    refine lv_astore_n (lv' := [(3, .ref h22), (0, .ref h0), (1, .int (-1)), (2, .int p1)]) hx hb dX11_ways_5 rfl hl (by decide) rfl (fun ls hl => ?_)
    refine lv_aload_n hx hb dX11_ways_6 rfl (lv_at hl 1 rfl) ?_
    refine lv_iload_n hx hb dX11_ways_7 rfl (lv_at hl 3 rfl) ?_
    have hPc := hP.sub (ws' := [(h0, .inr (11, [.ref h1, .ref h2, .ref h3, .ref h4, .ref h5, .ref h6, .ref h7, .ref h8, .ref h9])), (h9, .inr (10, [.ref h10, .ref h11, .ref h12, .ref h13, .ref h14, .ref h15, .ref h16, .int 0, .int 0, .int 0, .int 0, .int 0])), (h2, .inr (5, [.ref h17, .ref h18, .ref h19, .ref h20, .ref h21, .int 0, .int 0])), (h17, .inr (8, [.ref h22, .int 0, .int 0]))]) [0, 1, 2, 3] rfl
    refine va_csq (W.runV (As := [.int p1]) (rest := []) ⟨hx, hb, hml, hown, hts⟩ (kX11_lineOf_1 l dC dI cy h0 h1 h2 h3 h4 h5 h6 h7 h8 h9 h10 h11 h12 h13 h14 h15 h16 h17 h18 h19 h20 h21 h22 p1) (cwV 1 hts (gdV m_807 m_808 m_809 m_2 m_810) rfl rfl rfl (by decide +kernel) ⟨Nat.le_of_ble_eq_true rfl, Nat.le_of_ble_eq_true rfl⟩) ⟨fun a U g mk q => by obtain ⟨q0, qP, qE⟩ := q; exact ⟨q0, qP, qE.call⟩, va_recv hK hP (ci := 11) (q0 := 0) rfl rfl, fun U hU hW => ⟨rfl, by rw [hU]; exact hPc, hE.moved hW⟩⟩ rfl rfl hl.1 rfl (lv_room (Nat.le_of_ble_eq_true rfl)) dX11_ways_8 ⟨(show 0 + 0 ≤ 0 from by decide +kernel), (show 0 + 0 ≤ 0 from by decide +kernel)⟩) (fun r_7 hw => ?_)
    rcases hw with ⟨hr1, c_8⟩ | ⟨hr1, c_9⟩
    · subst r_7
      refine W.eq (g2 := F0 m 11 ls [.null]) rfl ?_
      refine lv_astoreN (lv' := [(4, .null), (3, .ref h22), (0, .ref h0), (1, .int (-1)), (2, .int p1)]) hx hb dX11_ways_11 hl (by decide) rfl (fun ls hl => ?_)
      refine lv_aload_n hx hb dX11_ways_13 rfl (lv_at hl 1 rfl) ?_
      refine lv_ifnull hx hb dX11_ways_14 ?_
      refine lv_aloadN hx hb dX11_ways_17 (lv_at hl 0 rfl) ?_
      refine lv_ifnonnullN hx hb dX11_ways_19 ?_
      refine lv_iconst (v := (-1)) hx hb dX11_ways_22 (by decide +kernel) ?_
      refine lv_goto (tgt := 36) hx hb dX11_ways_23 (by decide) ?_
      exact W.iret (v := (-1)) hx hb hr (fun t ht hW => ⟨⟨(-1), (), rfl, Or.inr (Or.inr (Or.inl ⟨rfl, rfl, c_8⟩)), trivial⟩, hS.F ht⟩) hS.2.2 dX11_ways_36
    · subst r_7
      refine W.eq (g2 := F0 m 11 ls [.ref h22]) rfl ?_
      subst c_9
      refine lv_astore (lv' := [(4, .ref h22), (3, .ref h22), (0, .ref h0), (1, .int (-1)), (2, .int (-1))]) hx hb dX11_ways_11 hl (by decide) rfl (fun ls hl => ?_)
      refine lv_aload_n hx hb dX11_ways_13 rfl (lv_at hl 1 rfl) ?_
      refine lv_ifnull hx hb dX11_ways_14 ?_
      refine lv_aload hx hb dX11_ways_17 (lv_at hl 0 rfl) ?_
      refine lv_ifnonnull (tgt := 26) hx hb dX11_ways_19 (by decide) ?_
      refine lv_aload_n hx hb dX11_ways_26 rfl (lv_at hl 2 rfl) ?_
      refine va_get (D := (dC, dI)) (ci := 11) (v := .ref h3) (C := RX11) (T := TX11) (N := 9) hx hb hts inlX11 hown hK hP 0 rfl rfl 2 (by decide) (hts _ m_23) (fun _ h9 => h9) rfl dX11_ways_27 ?_
      refine lv_aload_n hx hb dX11_ways_30 rfl (lv_at hl 1 rfl) ?_
      refine lv_aload hx hb dX11_ways_31 (lv_at hl 0 rfl) ?_
      have hPc := hP.sub (ws' := [(h3, .inr (4, [.ref h23, .ref h24, .ref h25, .ref h26, .ref h27, .ref h27, .ref h27])), (h23, .inl (cy 0, 169, .inl (fun _ => 0))), (h22, .inr (1, [.ref h28, .int 0]))]) [4, 5, 6] rfl
      have hDc := hD.sub (ws' := [(h3, .inr (4, [.ref h23, .ref h24, .ref h25, .ref h26, .ref h27, .ref h27, .ref h27])), (h23, .inl (cy 0, 169, .inl (fun _ => 0))), (h22, .inr (1, [.ref h28, .int 0]))]) [4, 5, 6] (by decide) rfl
      have hFc := va_free (wc := [(h3, .inr (4, [.ref h23, .ref h24, .ref h25, .ref h26, .ref h27, .ref h27, .ref h27])), (h23, .inl (cy 0, 169, .inl (fun _ => 0))), (h22, .inr (1, [.ref h28, .int 0]))]) hD hS hA [4, 5, 6] rfl
      refine va_calli (va_runV (As := [.ref h22, .ref h22]) (rest := []) ⟨hx, hb, hml, hown, hts⟩ (kX4_countWays_1 l dC dI cy h3 h22 h23 h24 h25 h26 h27 h28 s.heap.size) (cwV 2 hts (gdV m_1103 m_1104 m_1105 m_22 m_1106) rfl rfl rfl (by decide +kernel) ⟨Nat.le_of_ble_eq_true rfl, Nat.le_of_ble_eq_true rfl⟩) ⟨fun a U g mk q => by obtain ⟨q0, q1, qP, qE, qD⟩ := q; exact ⟨q0, q1, qP, qE.call, qD⟩, va_recv hK hP (ci := 4) (q0 := 4) rfl rfl, fun U hU hW => ⟨rfl, by rw [hU], by rw [hU]; exact hPc, hE.moved hW, hDc.weaken (fun _ _ _ _ => trivial)⟩⟩ rfl rfl hl.1 rfl (lv_room (Nat.le_of_ble_eq_true rfl)) dX11_ways_33 ⟨(show 0 + 0 ≤ 0 from by decide +kernel), (show 0 + 0 ≤ 0 from by decide +kernel)⟩) hS (fun q _ h => hFc q h) hFc (fun r_10 u t H1 locs ht hvm hw hB hz1 hk1 hS => ?_)
      obtain ⟨f_11, hP1, hD1⟩ := hB
      rw [ht] at hP1
      obtain ⟨hP, hD⟩ := va_join (wr := [(h0, .inr (11, [.ref h1, .ref h2, .ref h3, .ref h4, .ref h5, .ref h6, .ref h7, .ref h8, .ref h9])), (h9, .inr (10, [.ref h10, .ref h11, .ref h12, .ref h13, .ref h14, .ref h15, .ref h16, .int 0, .int 0, .int 0, .int 0, .int 0])), (h2, .inr (5, [.ref h17, .ref h18, .ref h19, .ref h20, .ref h21, .int 0, .int 0])), (h17, .inr (8, [.ref h22, .int 0, .int 0]))]) (w1 := [(h3, .inr (4, [.ref h23, .ref h24, .ref h25, .ref h26, .ref h27, .ref h27, .ref h27])), (h22, .inr (1, [.ref h28, .int 0])), (h23, .inl (cy 0, 169, .inl f_11))]) hP hD [4, 5, 6] [0, 1, 2, 3] rfl rfl (by decide) (by decide) hk1 hFc hP1 hD1
      generalize H1 = H at hP hS ⊢
      have hP : va_P (dC, dI) classes [(h0, .inr (11, [.ref h1, .ref h2, .ref h3, .ref h4, .ref h5, .ref h6, .ref h7, .ref h8, .ref h9])), (h9, .inr (10, [.ref h10, .ref h11, .ref h12, .ref h13, .ref h14, .ref h15, .ref h16, .int 0, .int 0, .int 0, .int 0, .int 0])), (h2, .inr (5, [.ref h17, .ref h18, .ref h19, .ref h20, .ref h21, .int 0, .int 0])), (h17, .inr (8, [.ref h22, .int 0, .int 0])), (h3, .inr (4, [.ref h23, .ref h24, .ref h25, .ref h26, .ref h27, .ref h27, .ref h27])), (h22, .inr (1, [.ref h28, .int 0])), (h23, .inl (cy 0, 169, .inl f_11))] H := hP
      have hD : va_D A [(h0, .inr (11, [.ref h1, .ref h2, .ref h3, .ref h4, .ref h5, .ref h6, .ref h7, .ref h8, .ref h9])), (h9, .inr (10, [.ref h10, .ref h11, .ref h12, .ref h13, .ref h14, .ref h15, .ref h16, .int 0, .int 0, .int 0, .int 0, .int 0])), (h2, .inr (5, [.ref h17, .ref h18, .ref h19, .ref h20, .ref h21, .int 0, .int 0])), (h17, .inr (8, [.ref h22, .int 0, .int 0])), (h3, .inr (4, [.ref h23, .ref h24, .ref h25, .ref h26, .ref h27, .ref h27, .ref h27])), (h22, .inr (1, [.ref h28, .int 0])), (h23, .inl (cy 0, 169, .inl f_11))] := hD
      refine W.widen (k := 0) (n := 0) (by decide +kernel) (by decide +kernel) ?_
      subst r_10
      exact W.iret (v := 1) hx hb hr (fun t ht hW => ⟨⟨1, (), rfl, Or.inr (Or.inr (Or.inr (⟨rfl, rfl, rfl⟩))), trivial⟩, hS.F ht⟩) hS.2.2 dX11_ways_36
set_option maxHeartbeats 4000000 in
set_option maxRecDepth 100000 in
theorem kX12_layTwo_1 (l : Launch) (dC : Nat → ClassId) (dI : Nat → Nat → Nat) (cy : Nat → ClassId) (h0 : Nat) (r : Nat → Nat) (sz : Nat) : Met l yX12_layTwo wmX12_layTwo ({ frames := 1, cells := 0, slots := 0, locals := 21 }) (va_Pc [.ref h0, .int (-1)] (fun U => U.heap.size = sz ∧ va_P (dC, dI) classes [(h0, .inr (12, [.ref (r 0), .ref (r 1), .int 0, .int 0, .int 0, .int (-1), .int 0, .int 0, .int 0, .int 0, .long 0, .ref (r 11), .ref (r 12), .ref (r 13), .ref (r 14), .ref (r 15), .ref (r 16), .ref (r 17), .ref (r 18), .ref (r 19), .ref (r 20), .ref (r 21), .ref (r 22), .ref (r 23), .ref (r 24), .ref (r 25), .ref (r 26), .ref (r 27), .ref (r 28), .ref (r 29), .ref (r 30), .ref (r 31), .ref (r 32), .ref (r 33), .int 0, .int 0, .int 0, .int 0, .int 0, .int 0, .int 0, .ref (r 41), .ref (r 42), .ref (r 43), .ref (r 44), .int 0, .int 0, .int 0, .ref (r 48), .int 0, .int 0, .ref (r 51), .ref (r 52), .ref (r 53), .ref (r 54), .int 0, .ref (r 56), .ref (r 57), .ref (r 58), .int 0, .ref (r 60), .ref (r 61), .ref (r 62), .ref (r 63), .ref (r 64), .ref (r 65), .ref (r 66), .ref (r 67), .ref (r 68), .int 0, .int 0, .int 0, .ref (r 72), .ref (r 73)])), (r 41, .inl (cy 0, 15, .inl (fun _ => 0)))] U.heap ∧ EV dC dI cy U ∧ va_D (fun _ => True) [(h0, .inr (12, [.ref (r 0), .ref (r 1), .int 0, .int 0, .int 0, .int (-1), .int 0, .int 0, .int 0, .int 0, .long 0, .ref (r 11), .ref (r 12), .ref (r 13), .ref (r 14), .ref (r 15), .ref (r 16), .ref (r 17), .ref (r 18), .ref (r 19), .ref (r 20), .ref (r 21), .ref (r 22), .ref (r 23), .ref (r 24), .ref (r 25), .ref (r 26), .ref (r 27), .ref (r 28), .ref (r 29), .ref (r 30), .ref (r 31), .ref (r 32), .ref (r 33), .int 0, .int 0, .int 0, .int 0, .int 0, .int 0, .int 0, .ref (r 41), .ref (r 42), .ref (r 43), .ref (r 44), .int 0, .int 0, .int 0, .ref (r 48), .int 0, .int 0, .ref (r 51), .ref (r 52), .ref (r 53), .ref (r 54), .int 0, .ref (r 56), .ref (r 57), .ref (r 58), .int 0, .ref (r 60), .ref (r 61), .ref (r 62), .ref (r 63), .ref (r 64), .ref (r 65), .ref (r 66), .ref (r 67), .ref (r 68), .int 0, .int 0, .int 0, .ref (r 72), .ref (r 73)])), (r 41, .inl (cy 0, 15, .inl (fun _ => 0)))])) (va_Qv (S := Unit) (fun _ => True) (fun _ t => va_P (dC, dI) classes [(h0, .inr (12, [.ref (r 0), .ref (r 1), .int 0, .int 0, .int 0, .int (-1), .int 0, .int 0, .int 0, .int 0, .long 0, .ref (r 11), .ref (r 12), .ref (r 13), .ref (r 14), .ref (r 15), .ref (r 16), .ref (r 17), .ref (r 18), .ref (r 19), .ref (r 20), .ref (r 21), .ref (r 22), .ref (r 23), .ref (r 24), .ref (r 25), .ref (r 26), .ref (r 27), .ref (r 28), .ref (r 29), .ref (r 30), .ref (r 31), .ref (r 32), .ref (r 33), .int 0, .int 0, .int 0, .int 0, .int 0, .int 0, .int 0, .ref (r 41), .ref (r 42), .ref (r 43), .ref (r 44), .int 0, .int 0, .int 0, .ref (r 48), .int 0, .int 0, .ref (r 51), .ref (r 52), .ref (r 53), .ref (r 54), .int 0, .ref (r 56), .ref (r 57), .ref (r 58), .int 0, .ref (r 60), .ref (r 61), .ref (r 62), .ref (r 63), .ref (r 64), .ref (r 65), .ref (r 66), .ref (r 67), .ref (r 68), .int 0, .int 0, .int 0, .ref (r 72), .ref (r 73)])), (r 41, .inl (cy 0, 15, .inl (fun _ => 0)))] t.heap ∧ va_D (va_A [(h0, .inr (12, [.ref (r 0), .ref (r 1), .int 0, .int 0, .int 0, .int (-1), .int 0, .int 0, .int 0, .int 0, .long 0, .ref (r 11), .ref (r 12), .ref (r 13), .ref (r 14), .ref (r 15), .ref (r 16), .ref (r 17), .ref (r 18), .ref (r 19), .ref (r 20), .ref (r 21), .ref (r 22), .ref (r 23), .ref (r 24), .ref (r 25), .ref (r 26), .ref (r 27), .ref (r 28), .ref (r 29), .ref (r 30), .ref (r 31), .ref (r 32), .ref (r 33), .int 0, .int 0, .int 0, .int 0, .int 0, .int 0, .int 0, .ref (r 41), .ref (r 42), .ref (r 43), .ref (r 44), .int 0, .int 0, .int 0, .ref (r 48), .int 0, .int 0, .ref (r 51), .ref (r 52), .ref (r 53), .ref (r 54), .int 0, .ref (r 56), .ref (r 57), .ref (r 58), .int 0, .ref (r 60), .ref (r 61), .ref (r 62), .ref (r 63), .ref (r 64), .ref (r 65), .ref (r 66), .ref (r 67), .ref (r 68), .int 0, .int 0, .int 0, .ref (r 72), .ref (r 73)])), (r 41, .inl (cy 0, 15, .inl (fun _ => 0)))] sz) [(h0, .inr (12, [.ref (r 0), .ref (r 1), .int 0, .int 0, .int 0, .int (-1), .int 0, .int 0, .int 0, .int 0, .long 0, .ref (r 11), .ref (r 12), .ref (r 13), .ref (r 14), .ref (r 15), .ref (r 16), .ref (r 17), .ref (r 18), .ref (r 19), .ref (r 20), .ref (r 21), .ref (r 22), .ref (r 23), .ref (r 24), .ref (r 25), .ref (r 26), .ref (r 27), .ref (r 28), .ref (r 29), .ref (r 30), .ref (r 31), .ref (r 32), .ref (r 33), .int 0, .int 0, .int 0, .int 0, .int 0, .int 0, .int 0, .ref (r 41), .ref (r 42), .ref (r 43), .ref (r 44), .int 0, .int 0, .int 0, .ref (r 48), .int 0, .int 0, .ref (r 51), .ref (r 52), .ref (r 53), .ref (r 54), .int 0, .ref (r 56), .ref (r 57), .ref (r 58), .int 0, .ref (r 60), .ref (r 61), .ref (r 62), .ref (r 63), .ref (r 64), .ref (r 65), .ref (r 66), .ref (r 67), .ref (r 68), .int 0, .int 0, .int 0, .ref (r 72), .ref (r 73)])), (r 41, .inl (cy 0, 15, .inl (fun _ => 0)))]) (va_A [(h0, .inr (12, [.ref (r 0), .ref (r 1), .int 0, .int 0, .int 0, .int (-1), .int 0, .int 0, .int 0, .int 0, .long 0, .ref (r 11), .ref (r 12), .ref (r 13), .ref (r 14), .ref (r 15), .ref (r 16), .ref (r 17), .ref (r 18), .ref (r 19), .ref (r 20), .ref (r 21), .ref (r 22), .ref (r 23), .ref (r 24), .ref (r 25), .ref (r 26), .ref (r 27), .ref (r 28), .ref (r 29), .ref (r 30), .ref (r 31), .ref (r 32), .ref (r 33), .int 0, .int 0, .int 0, .int 0, .int 0, .int 0, .int 0, .ref (r 41), .ref (r 42), .ref (r 43), .ref (r 44), .int 0, .int 0, .int 0, .ref (r 48), .int 0, .int 0, .ref (r 51), .ref (r 52), .ref (r 53), .ref (r 54), .int 0, .ref (r 56), .ref (r 57), .ref (r 58), .int 0, .ref (r 60), .ref (r 61), .ref (r 62), .ref (r 63), .ref (r 64), .ref (r 65), .ref (r 66), .ref (r 67), .ref (r 68), .int 0, .int 0, .int 0, .ref (r 72), .ref (r 73)])), (r 41, .inl (cy 0, 15, .inl (fun _ => 0)))] sz)) 0 0 (va_A [(h0, .inr (12, [.ref (r 0), .ref (r 1), .int 0, .int 0, .int 0, .int (-1), .int 0, .int 0, .int 0, .int 0, .long 0, .ref (r 11), .ref (r 12), .ref (r 13), .ref (r 14), .ref (r 15), .ref (r 16), .ref (r 17), .ref (r 18), .ref (r 19), .ref (r 20), .ref (r 21), .ref (r 22), .ref (r 23), .ref (r 24), .ref (r 25), .ref (r 26), .ref (r 27), .ref (r 28), .ref (r 29), .ref (r 30), .ref (r 31), .ref (r 32), .ref (r 33), .int 0, .int 0, .int 0, .int 0, .int 0, .int 0, .int 0, .ref (r 41), .ref (r 42), .ref (r 43), .ref (r 44), .int 0, .int 0, .int 0, .ref (r 48), .int 0, .int 0, .ref (r 51), .ref (r 52), .ref (r 53), .ref (r 54), .int 0, .ref (r 56), .ref (r 57), .ref (r 58), .int 0, .ref (r 60), .ref (r 61), .ref (r 62), .ref (r 63), .ref (r 64), .ref (r 65), .ref (r 66), .ref (r 67), .ref (r 68), .int 0, .int 0, .int 0, .ref (r 72), .ref (r 73)])), (r 41, .inl (cy 0, 15, .inl (fun _ => 0)))] sz) := by
  refine Met.ofW (cc := cX12_layTwo) (maxL := 3) (ret := none) (by decide +kernel) rfl ?_
  intro p e s m args below meth c s₁ B hml hv
  obtain ⟨rfl, hsz, hP, hE, hD0⟩ := hv
  have hK := hE.1
  have hN := hE.2.1
  have hx := B.exec
  have hb := B.bytes
  have hr := B.returns
  have hts0 := atoms_spec (ws := wmX12_layTwo) B.pre
  have hts : ∀ w ∈ wsL_law, w.before _ s = true := fun w h => hts0 w (List.mem_cons_of_mem _ h)
  have hown : s.vm.findClass RX12 = some m.cls := findClass_of_methodNamed B.named
  have hlocks := B.notSynchronized
  subst hsz
  have hD := hD0.self (sz := s.heap.size)
  generalize hAe : va_A [(h0, .inr (12, [.ref (r 0), .ref (r 1), .int 0, .int 0, .int 0, .int (-1), .int 0, .int 0, .int 0, .int 0, .long 0, .ref (r 11), .ref (r 12), .ref (r 13), .ref (r 14), .ref (r 15), .ref (r 16), .ref (r 17), .ref (r 18), .ref (r 19), .ref (r 20), .ref (r 21), .ref (r 22), .ref (r 23), .ref (r 24), .ref (r 25), .ref (r 26), .ref (r 27), .ref (r 28), .ref (r 29), .ref (r 30), .ref (r 31), .ref (r 32), .ref (r 33), .int 0, .int 0, .int 0, .int 0, .int 0, .int 0, .int 0, .ref (r 41), .ref (r 42), .ref (r 43), .ref (r 44), .int 0, .int 0, .int 0, .ref (r 48), .int 0, .int 0, .ref (r 51), .ref (r 52), .ref (r 53), .ref (r 54), .int 0, .ref (r 56), .ref (r 57), .ref (r 58), .int 0, .ref (r 60), .ref (r 61), .ref (r 62), .ref (r 63), .ref (r 64), .ref (r 65), .ref (r 66), .ref (r 67), .ref (r 68), .int 0, .int 0, .int 0, .ref (r 72), .ref (r 73)])), (r 41, .inl (cy 0, 15, .inl (fun _ => 0)))] s.heap.size = A at hD ⊢
  have hA : ∀ q : Nat, s.heap.size ≤ q → A q := fun q h => by rw [← hAe]; exact Or.inr h
  have hS : va_S A s.heap s.heap [] := va_S.rf
  have hP : va_P (dC, dI) classes [(h0, .inr (12, [.ref (r 0), .ref (r 1), .int 0, .int 0, .int 0, .int (-1), .int 0, .int 0, .int 0, .int 0, .long 0, .ref (r 11), .ref (r 12), .ref (r 13), .ref (r 14), .ref (r 15), .ref (r 16), .ref (r 17), .ref (r 18), .ref (r 19), .ref (r 20), .ref (r 21), .ref (r 22), .ref (r 23), .ref (r 24), .ref (r 25), .ref (r 26), .ref (r 27), .ref (r 28), .ref (r 29), .ref (r 30), .ref (r 31), .ref (r 32), .ref (r 33), .int 0, .int 0, .int 0, .int 0, .int 0, .int 0, .int 0, .ref (r 41), .ref (r 42), .ref (r 43), .ref (r 44), .int 0, .int 0, .int 0, .ref (r 48), .int 0, .int 0, .ref (r 51), .ref (r 52), .ref (r 53), .ref (r 54), .int 0, .ref (r 56), .ref (r 57), .ref (r 58), .int 0, .ref (r 60), .ref (r 61), .ref (r 62), .ref (r 63), .ref (r 64), .ref (r 65), .ref (r 66), .ref (r 67), .ref (r 68), .int 0, .int 0, .int 0, .ref (r 72), .ref (r 73)])), (r 41, .inl (cy 0, 15, .inl (fun _ => 0)))] s.heap := hP
  have hl := lv_entry ([.ref h0, .int (-1)]) (n := 3) (Nat.le_of_ble_eq_true rfl)
  rw [lg_entry_eq]
  generalize (lg_sl ([.ref h0, .int (-1)]) ++ List.replicate (3 - (lg_sl ([.ref h0, .int (-1)])).length) Slot.unset).toArray = ls at hl ⊢
  have hl : lv_has ls 3 [(0, .ref h0), (1, .int (-1))] := hl
  refine lv_aload_n hx hb dX12_layTwo_0 rfl (lv_at hl 0 rfl) ?_
  refine lv_aload_n hx hb dX12_layTwo_1 rfl (lv_at hl 0 rfl) ?_
  refine lv_iload_n hx hb dX12_layTwo_2 rfl (lv_at hl 1 rfl) ?_
  have hPc := hP.sub (ws' := [(h0, .inr (12, [.ref (r 0), .ref (r 1), .int 0, .int 0, .int 0, .int (-1), .int 0, .int 0, .int 0, .int 0, .long 0, .ref (r 11), .ref (r 12), .ref (r 13), .ref (r 14), .ref (r 15), .ref (r 16), .ref (r 17), .ref (r 18), .ref (r 19), .ref (r 20), .ref (r 21), .ref (r 22), .ref (r 23), .ref (r 24), .ref (r 25), .ref (r 26), .ref (r 27), .ref (r 28), .ref (r 29), .ref (r 30), .ref (r 31), .ref (r 32), .ref (r 33), .int 0, .int 0, .int 0, .int 0, .int 0, .int 0, .int 0, .ref (r 41), .ref (r 42), .ref (r 43), .ref (r 44), .int 0, .int 0, .int 0, .ref (r 48), .int 0, .int 0, .ref (r 51), .ref (r 52), .ref (r 53), .ref (r 54), .int 0, .ref (r 56), .ref (r 57), .ref (r 58), .int 0, .ref (r 60), .ref (r 61), .ref (r 62), .ref (r 63), .ref (r 64), .ref (r 65), .ref (r 66), .ref (r 67), .ref (r 68), .int 0, .int 0, .int 0, .ref (r 72), .ref (r 73)])), (r 41, .inl (cy 0, 15, .inl (fun _ => 0)))]) [0, 1] rfl
  refine vp_callSi (W.runV (As := [.int (-1)]) (rest := [.ref h0]) ⟨hx, hb, hml, hown, hts⟩ (kX12_longOf_1 l dC dI cy h0 r) (cwV 1 hts (gdV m_795 m_796 m_797 m_5 m_798) rfl rfl rfl (by decide +kernel) ⟨Nat.le_of_ble_eq_true rfl, Nat.le_of_ble_eq_true rfl⟩) ⟨fun a U g mk q => by obtain ⟨q0, qP, qE⟩ := q; exact ⟨q0, qP, qE.call⟩, va_recv hK hP (ci := 12) (q0 := 0) rfl rfl, fun U hU hW => ⟨rfl, by rw [hU]; exact hPc, hE.moved hW⟩⟩ rfl rfl hl.1 rfl (lv_room (Nat.le_of_ble_eq_true rfl)) dX12_layTwo_3 ⟨(show 0 + 0 ≤ 0 from by decide +kernel), (show 0 + 0 ≤ 0 from by decide +kernel)⟩) (fun r_1 hw => ?_)
  subst r_1
  refine va_put (D := (dC, dI)) (ci := 12) (v := .int 0) (ty := .int) (C := RX12) (T := TX12) (N := 74) hx hb hts inlX12 tyX12 tyX12_ok nmX12 hown hK hP hD hS 0 rfl rfl 46 (by decide) (hts _ m_1117) (fun _ h9 => h9) rfl (by decide +kernel) rfl rfl (Nat.le_of_ble_eq_true rfl) dX12_layTwo_6 (fun H locs hP hD hS => ?_)
  have hP : va_P (dC, dI) classes [(h0, .inr (12, [.ref (r 0), .ref (r 1), .int 0, .int 0, .int 0, .int (-1), .int 0, .int 0, .int 0, .int 0, .long 0, .ref (r 11), .ref (r 12), .ref (r 13), .ref (r 14), .ref (r 15), .ref (r 16), .ref (r 17), .ref (r 18), .ref (r 19), .ref (r 20), .ref (r 21), .ref (r 22), .ref (r 23), .ref (r 24), .ref (r 25), .ref (r 26), .ref (r 27), .ref (r 28), .ref (r 29), .ref (r 30), .ref (r 31), .ref (r 32), .ref (r 33), .int 0, .int 0, .int 0, .int 0, .int 0, .int 0, .int 0, .ref (r 41), .ref (r 42), .ref (r 43), .ref (r 44), .int 0, .int 0, .int 0, .ref (r 48), .int 0, .int 0, .ref (r 51), .ref (r 52), .ref (r 53), .ref (r 54), .int 0, .ref (r 56), .ref (r 57), .ref (r 58), .int 0, .ref (r 60), .ref (r 61), .ref (r 62), .ref (r 63), .ref (r 64), .ref (r 65), .ref (r 66), .ref (r 67), .ref (r 68), .int 0, .int 0, .int 0, .ref (r 72), .ref (r 73)])), (r 41, .inl (cy 0, 15, .inl (fun _ => 0)))] H := hP
  have hD : va_D A [(h0, .inr (12, [.ref (r 0), .ref (r 1), .int 0, .int 0, .int 0, .int (-1), .int 0, .int 0, .int 0, .int 0, .long 0, .ref (r 11), .ref (r 12), .ref (r 13), .ref (r 14), .ref (r 15), .ref (r 16), .ref (r 17), .ref (r 18), .ref (r 19), .ref (r 20), .ref (r 21), .ref (r 22), .ref (r 23), .ref (r 24), .ref (r 25), .ref (r 26), .ref (r 27), .ref (r 28), .ref (r 29), .ref (r 30), .ref (r 31), .ref (r 32), .ref (r 33), .int 0, .int 0, .int 0, .int 0, .int 0, .int 0, .int 0, .ref (r 41), .ref (r 42), .ref (r 43), .ref (r 44), .int 0, .int 0, .int 0, .ref (r 48), .int 0, .int 0, .ref (r 51), .ref (r 52), .ref (r 53), .ref (r 54), .int 0, .ref (r 56), .ref (r 57), .ref (r 58), .int 0, .ref (r 60), .ref (r 61), .ref (r 62), .ref (r 63), .ref (r 64), .ref (r 65), .ref (r 66), .ref (r 67), .ref (r 68), .int 0, .int 0, .int 0, .ref (r 72), .ref (r 73)])), (r 41, .inl (cy 0, 15, .inl (fun _ => 0)))] := hD
  refine lv_iconst (v := 0) hx hb dX12_layTwo_9 (by decide +kernel) ?_
  refine lv_istore_n (lv' := [(2, .int 0), (0, .ref h0), (1, .int (-1))]) hx hb dX12_layTwo_10 rfl hl (by decide) rfl (fun ls hl => ?_)
  refine lv_iload_n hx hb dX12_layTwo_11 rfl (lv_at hl 0 rfl) ?_
  refine lv_aload_n hx hb dX12_layTwo_12 rfl (lv_at hl 1 rfl) ?_
  refine va_get (D := (dC, dI)) (ci := 12) (v := .int 0) (C := RX12) (T := TX12) (N := 74) hx hb hts inlX12 hown hK hP 0 rfl rfl 46 (by decide) (hts _ m_1117) (fun _ h9 => h9) rfl dX12_layTwo_13 ?_
  refine lv_icmp_ge (tgt := 37) hx hb dX12_layTwo_16 (by decide) (fun _ => ?_) (fun c_ => absurd (by decide +kernel) c_)
  have hP9 := hP.sub (ws' := [(h0, .inr (12, [.ref (r 0), .ref (r 1), .int 0, .int 0, .int 0, .int (-1), .int 0, .int 0, .int 0, .int 0, .long 0, .ref (r 11), .ref (r 12), .ref (r 13), .ref (r 14), .ref (r 15), .ref (r 16), .ref (r 17), .ref (r 18), .ref (r 19), .ref (r 20), .ref (r 21), .ref (r 22), .ref (r 23), .ref (r 24), .ref (r 25), .ref (r 26), .ref (r 27), .ref (r 28), .ref (r 29), .ref (r 30), .ref (r 31), .ref (r 32), .ref (r 33), .int 0, .int 0, .int 0, .int 0, .int 0, .int 0, .int 0, .ref (r 41), .ref (r 42), .ref (r 43), .ref (r 44), .int 0, .int 0, .int 0, .ref (r 48), .int 0, .int 0, .ref (r 51), .ref (r 52), .ref (r 53), .ref (r 54), .int 0, .ref (r 56), .ref (r 57), .ref (r 58), .int 0, .ref (r 60), .ref (r 61), .ref (r 62), .ref (r 63), .ref (r 64), .ref (r 65), .ref (r 66), .ref (r 67), .ref (r 68), .int 0, .int 0, .int 0, .ref (r 72), .ref (r 73)])), (r 41, .inl (cy 0, 15, .inl (fun _ => 0)))]) [0, 1] rfl
  have hD9 := hD.sub (ws' := [(h0, .inr (12, [.ref (r 0), .ref (r 1), .int 0, .int 0, .int 0, .int (-1), .int 0, .int 0, .int 0, .int 0, .long 0, .ref (r 11), .ref (r 12), .ref (r 13), .ref (r 14), .ref (r 15), .ref (r 16), .ref (r 17), .ref (r 18), .ref (r 19), .ref (r 20), .ref (r 21), .ref (r 22), .ref (r 23), .ref (r 24), .ref (r 25), .ref (r 26), .ref (r 27), .ref (r 28), .ref (r 29), .ref (r 30), .ref (r 31), .ref (r 32), .ref (r 33), .int 0, .int 0, .int 0, .int 0, .int 0, .int 0, .int 0, .ref (r 41), .ref (r 42), .ref (r 43), .ref (r 44), .int 0, .int 0, .int 0, .ref (r 48), .int 0, .int 0, .ref (r 51), .ref (r 52), .ref (r 53), .ref (r 54), .int 0, .ref (r 56), .ref (r 57), .ref (r 58), .int 0, .ref (r 60), .ref (r 61), .ref (r 62), .ref (r 63), .ref (r 64), .ref (r 65), .ref (r 66), .ref (r 67), .ref (r 68), .int 0, .int 0, .int 0, .ref (r 72), .ref (r 73)])), (r 41, .inl (cy 0, 15, .inl (fun _ => 0)))]) [0, 1] (by decide) rfl
  exact W.vret hx hb hr (fun t ht hW => ⟨⟨(), rfl, trivial, by rw [ht]; exact hP9, hD9⟩, hS.F ht⟩) hS.2.2 dX12_layTwo_37
set_option maxHeartbeats 4000000 in
set_option maxRecDepth 100000 in
theorem kX12_countWays_1 (l : Launch) (dC : Nat → ClassId) (dI : Nat → Nat → Nat) (cy : Nat → ClassId) (h0 : Nat) (r : Nat → Nat) (sz : Nat) : Met l yX12_countWays wmX12_countWays ({ frames := 0, cells := 0, slots := 0, locals := 0 }) (va_Pc [.ref h0] (fun U => U.heap.size = sz ∧ va_P (dC, dI) classes [(h0, .inr (12, [.ref (r 0), .ref (r 1), .int 0, .int 0, .int 0, .int (-1), .int 0, .int 0, .int 0, .int 0, .long 0, .ref (r 11), .ref (r 12), .ref (r 13), .ref (r 14), .ref (r 15), .ref (r 16), .ref (r 17), .ref (r 18), .ref (r 19), .ref (r 20), .ref (r 21), .ref (r 22), .ref (r 23), .ref (r 24), .ref (r 25), .ref (r 26), .ref (r 27), .ref (r 28), .ref (r 29), .ref (r 30), .ref (r 31), .ref (r 32), .ref (r 33), .int 0, .int 0, .int 0, .int 0, .int 0, .int 0, .int 0, .ref (r 41), .ref (r 42), .ref (r 43), .ref (r 44), .int 0, .int 0, .int 0, .ref (r 48), .int 0, .int 0, .ref (r 51), .ref (r 52), .ref (r 53), .ref (r 54), .int 0, .ref (r 56), .ref (r 57), .ref (r 58), .int 0, .ref (r 60), .ref (r 61), .ref (r 62), .ref (r 63), .ref (r 64), .ref (r 65), .ref (r 66), .ref (r 67), .ref (r 68), .int 0, .int 0, .int 0, .ref (r 72), .ref (r 73)])), (r 51, .inl (cy 0, 13, .inl (fun _ => 0)))] U.heap ∧ EV dC dI cy U ∧ va_D (fun _ => True) [(h0, .inr (12, [.ref (r 0), .ref (r 1), .int 0, .int 0, .int 0, .int (-1), .int 0, .int 0, .int 0, .int 0, .long 0, .ref (r 11), .ref (r 12), .ref (r 13), .ref (r 14), .ref (r 15), .ref (r 16), .ref (r 17), .ref (r 18), .ref (r 19), .ref (r 20), .ref (r 21), .ref (r 22), .ref (r 23), .ref (r 24), .ref (r 25), .ref (r 26), .ref (r 27), .ref (r 28), .ref (r 29), .ref (r 30), .ref (r 31), .ref (r 32), .ref (r 33), .int 0, .int 0, .int 0, .int 0, .int 0, .int 0, .int 0, .ref (r 41), .ref (r 42), .ref (r 43), .ref (r 44), .int 0, .int 0, .int 0, .ref (r 48), .int 0, .int 0, .ref (r 51), .ref (r 52), .ref (r 53), .ref (r 54), .int 0, .ref (r 56), .ref (r 57), .ref (r 58), .int 0, .ref (r 60), .ref (r 61), .ref (r 62), .ref (r 63), .ref (r 64), .ref (r 65), .ref (r 66), .ref (r 67), .ref (r 68), .int 0, .int 0, .int 0, .ref (r 72), .ref (r 73)])), (r 51, .inl (cy 0, 13, .inl (fun _ => 0)))])) (va_Qi (S := Unit) (fun r_ _ => r_ = 1) (fun _ t => ∃ (f_1 : Nat → Int32), va_P (dC, dI) classes [(h0, .inr (12, [.ref (r 0), .ref (r 1), .int 0, .int 0, .int 0, .int (-1), .int 0, .int 0, .int 0, .int 0, .long 0, .ref (r 11), .ref (r 12), .ref (r 13), .ref (r 14), .ref (r 15), .ref (r 16), .ref (r 17), .ref (r 18), .ref (r 19), .ref (r 20), .ref (r 21), .ref (r 22), .ref (r 23), .ref (r 24), .ref (r 25), .ref (r 26), .ref (r 27), .ref (r 28), .ref (r 29), .ref (r 30), .ref (r 31), .ref (r 32), .ref (r 33), .int 0, .int 0, .int 0, .int 0, .int 0, .int 0, .int 0, .ref (r 41), .ref (r 42), .ref (r 43), .ref (r 44), .int 0, .int 0, .int 0, .ref (r 48), .int 0, .int 0, .ref (r 51), .ref (r 52), .ref (r 53), .ref (r 54), .int 0, .ref (r 56), .ref (r 57), .ref (r 58), .int 0, .ref (r 60), .ref (r 61), .ref (r 62), .ref (r 63), .ref (r 64), .ref (r 65), .ref (r 66), .ref (r 67), .ref (r 68), .int 0, .int 0, .int 0, .ref (r 72), .ref (r 73)])), (r 51, .inl (cy 0, 13, .inl f_1))] t.heap ∧ va_D (va_A [(h0, .inr (12, [.ref (r 0), .ref (r 1), .int 0, .int 0, .int 0, .int (-1), .int 0, .int 0, .int 0, .int 0, .long 0, .ref (r 11), .ref (r 12), .ref (r 13), .ref (r 14), .ref (r 15), .ref (r 16), .ref (r 17), .ref (r 18), .ref (r 19), .ref (r 20), .ref (r 21), .ref (r 22), .ref (r 23), .ref (r 24), .ref (r 25), .ref (r 26), .ref (r 27), .ref (r 28), .ref (r 29), .ref (r 30), .ref (r 31), .ref (r 32), .ref (r 33), .int 0, .int 0, .int 0, .int 0, .int 0, .int 0, .int 0, .ref (r 41), .ref (r 42), .ref (r 43), .ref (r 44), .int 0, .int 0, .int 0, .ref (r 48), .int 0, .int 0, .ref (r 51), .ref (r 52), .ref (r 53), .ref (r 54), .int 0, .ref (r 56), .ref (r 57), .ref (r 58), .int 0, .ref (r 60), .ref (r 61), .ref (r 62), .ref (r 63), .ref (r 64), .ref (r 65), .ref (r 66), .ref (r 67), .ref (r 68), .int 0, .int 0, .int 0, .ref (r 72), .ref (r 73)])), (r 51, .inl (cy 0, 13, .inl (fun _ => 0)))] sz) [(h0, .inr (12, [.ref (r 0), .ref (r 1), .int 0, .int 0, .int 0, .int (-1), .int 0, .int 0, .int 0, .int 0, .long 0, .ref (r 11), .ref (r 12), .ref (r 13), .ref (r 14), .ref (r 15), .ref (r 16), .ref (r 17), .ref (r 18), .ref (r 19), .ref (r 20), .ref (r 21), .ref (r 22), .ref (r 23), .ref (r 24), .ref (r 25), .ref (r 26), .ref (r 27), .ref (r 28), .ref (r 29), .ref (r 30), .ref (r 31), .ref (r 32), .ref (r 33), .int 0, .int 0, .int 0, .int 0, .int 0, .int 0, .int 0, .ref (r 41), .ref (r 42), .ref (r 43), .ref (r 44), .int 0, .int 0, .int 0, .ref (r 48), .int 0, .int 0, .ref (r 51), .ref (r 52), .ref (r 53), .ref (r 54), .int 0, .ref (r 56), .ref (r 57), .ref (r 58), .int 0, .ref (r 60), .ref (r 61), .ref (r 62), .ref (r 63), .ref (r 64), .ref (r 65), .ref (r 66), .ref (r 67), .ref (r 68), .int 0, .int 0, .int 0, .ref (r 72), .ref (r 73)])), (r 51, .inl (cy 0, 13, .inl f_1))]) (va_A [(h0, .inr (12, [.ref (r 0), .ref (r 1), .int 0, .int 0, .int 0, .int (-1), .int 0, .int 0, .int 0, .int 0, .long 0, .ref (r 11), .ref (r 12), .ref (r 13), .ref (r 14), .ref (r 15), .ref (r 16), .ref (r 17), .ref (r 18), .ref (r 19), .ref (r 20), .ref (r 21), .ref (r 22), .ref (r 23), .ref (r 24), .ref (r 25), .ref (r 26), .ref (r 27), .ref (r 28), .ref (r 29), .ref (r 30), .ref (r 31), .ref (r 32), .ref (r 33), .int 0, .int 0, .int 0, .int 0, .int 0, .int 0, .int 0, .ref (r 41), .ref (r 42), .ref (r 43), .ref (r 44), .int 0, .int 0, .int 0, .ref (r 48), .int 0, .int 0, .ref (r 51), .ref (r 52), .ref (r 53), .ref (r 54), .int 0, .ref (r 56), .ref (r 57), .ref (r 58), .int 0, .ref (r 60), .ref (r 61), .ref (r 62), .ref (r 63), .ref (r 64), .ref (r 65), .ref (r 66), .ref (r 67), .ref (r 68), .int 0, .int 0, .int 0, .ref (r 72), .ref (r 73)])), (r 51, .inl (cy 0, 13, .inl (fun _ => 0)))] sz)) 0 0 (va_A [(h0, .inr (12, [.ref (r 0), .ref (r 1), .int 0, .int 0, .int 0, .int (-1), .int 0, .int 0, .int 0, .int 0, .long 0, .ref (r 11), .ref (r 12), .ref (r 13), .ref (r 14), .ref (r 15), .ref (r 16), .ref (r 17), .ref (r 18), .ref (r 19), .ref (r 20), .ref (r 21), .ref (r 22), .ref (r 23), .ref (r 24), .ref (r 25), .ref (r 26), .ref (r 27), .ref (r 28), .ref (r 29), .ref (r 30), .ref (r 31), .ref (r 32), .ref (r 33), .int 0, .int 0, .int 0, .int 0, .int 0, .int 0, .int 0, .ref (r 41), .ref (r 42), .ref (r 43), .ref (r 44), .int 0, .int 0, .int 0, .ref (r 48), .int 0, .int 0, .ref (r 51), .ref (r 52), .ref (r 53), .ref (r 54), .int 0, .ref (r 56), .ref (r 57), .ref (r 58), .int 0, .ref (r 60), .ref (r 61), .ref (r 62), .ref (r 63), .ref (r 64), .ref (r 65), .ref (r 66), .ref (r 67), .ref (r 68), .int 0, .int 0, .int 0, .ref (r 72), .ref (r 73)])), (r 51, .inl (cy 0, 13, .inl (fun _ => 0)))] sz) := by
  refine Met.ofW (cc := cX12_countWays) (maxL := 3) (ret := (some .int)) (by decide +kernel) rfl ?_
  intro p e s m args below meth c s₁ B hml hv
  obtain ⟨rfl, hsz, hP, hE, hD0⟩ := hv
  have hK := hE.1
  have hN := hE.2.1
  have hx := B.exec
  have hb := B.bytes
  have hr := B.returns
  have hts0 := atoms_spec (ws := wmX12_countWays) B.pre
  have hts : ∀ w ∈ wsL_law, w.before _ s = true := fun w h => hts0 w (List.mem_cons_of_mem _ h)
  have hown : s.vm.findClass RX12 = some m.cls := findClass_of_methodNamed B.named
  have hlocks := B.notSynchronized
  subst hsz
  have hD := hD0.self (sz := s.heap.size)
  generalize hAe : va_A [(h0, .inr (12, [.ref (r 0), .ref (r 1), .int 0, .int 0, .int 0, .int (-1), .int 0, .int 0, .int 0, .int 0, .long 0, .ref (r 11), .ref (r 12), .ref (r 13), .ref (r 14), .ref (r 15), .ref (r 16), .ref (r 17), .ref (r 18), .ref (r 19), .ref (r 20), .ref (r 21), .ref (r 22), .ref (r 23), .ref (r 24), .ref (r 25), .ref (r 26), .ref (r 27), .ref (r 28), .ref (r 29), .ref (r 30), .ref (r 31), .ref (r 32), .ref (r 33), .int 0, .int 0, .int 0, .int 0, .int 0, .int 0, .int 0, .ref (r 41), .ref (r 42), .ref (r 43), .ref (r 44), .int 0, .int 0, .int 0, .ref (r 48), .int 0, .int 0, .ref (r 51), .ref (r 52), .ref (r 53), .ref (r 54), .int 0, .ref (r 56), .ref (r 57), .ref (r 58), .int 0, .ref (r 60), .ref (r 61), .ref (r 62), .ref (r 63), .ref (r 64), .ref (r 65), .ref (r 66), .ref (r 67), .ref (r 68), .int 0, .int 0, .int 0, .ref (r 72), .ref (r 73)])), (r 51, .inl (cy 0, 13, .inl (fun _ => 0)))] s.heap.size = A at hD ⊢
  have hA : ∀ q : Nat, s.heap.size ≤ q → A q := fun q h => by rw [← hAe]; exact Or.inr h
  have hS : va_S A s.heap s.heap [] := va_S.rf
  have hP : va_P (dC, dI) classes [(h0, .inr (12, [.ref (r 0), .ref (r 1), .int 0, .int 0, .int 0, .int (-1), .int 0, .int 0, .int 0, .int 0, .long 0, .ref (r 11), .ref (r 12), .ref (r 13), .ref (r 14), .ref (r 15), .ref (r 16), .ref (r 17), .ref (r 18), .ref (r 19), .ref (r 20), .ref (r 21), .ref (r 22), .ref (r 23), .ref (r 24), .ref (r 25), .ref (r 26), .ref (r 27), .ref (r 28), .ref (r 29), .ref (r 30), .ref (r 31), .ref (r 32), .ref (r 33), .int 0, .int 0, .int 0, .int 0, .int 0, .int 0, .int 0, .ref (r 41), .ref (r 42), .ref (r 43), .ref (r 44), .int 0, .int 0, .int 0, .ref (r 48), .int 0, .int 0, .ref (r 51), .ref (r 52), .ref (r 53), .ref (r 54), .int 0, .ref (r 56), .ref (r 57), .ref (r 58), .int 0, .ref (r 60), .ref (r 61), .ref (r 62), .ref (r 63), .ref (r 64), .ref (r 65), .ref (r 66), .ref (r 67), .ref (r 68), .int 0, .int 0, .int 0, .ref (r 72), .ref (r 73)])), (r 51, .inl (cy 0, 13, .inl (fun _ => 0)))] s.heap := hP
  have hl := lv_entry ([.ref h0]) (n := 3) (Nat.le_of_ble_eq_true rfl)
  rw [lg_entry_eq]
  generalize (lg_sl ([.ref h0]) ++ List.replicate (3 - (lg_sl ([.ref h0])).length) Slot.unset).toArray = ls at hl ⊢
  have hl : lv_has ls 3 [(0, .ref h0)] := hl
  refine lv_iconst (v := 0) hx hb dX12_countWays_0 (by decide +kernel) ?_
  refine lv_istore_n (lv' := [(1, .int 0), (0, .ref h0)]) hx hb dX12_countWays_1 rfl hl (by decide) rfl (fun ls hl => ?_)
  refine lv_iload_n hx hb dX12_countWays_2 rfl (lv_at hl 0 rfl) ?_
  refine lv_aload_n hx hb dX12_countWays_3 rfl (lv_at hl 1 rfl) ?_
  refine va_get (D := (dC, dI)) (ci := 12) (v := .int 0) (C := RX12) (T := TX12) (N := 74) hx hb hts inlX12 hown hK hP 0 rfl rfl 45 (by decide) (hts _ m_868) (fun _ h9 => h9) rfl dX12_countWays_4 ?_
  refine lv_icmp_gt (tgt := 31) hx hb dX12_countWays_7 (by decide) (fun c_ => absurd c_ (by decide +kernel)) (fun _ => ?_)
  refine lv_aload_n hx hb dX12_countWays_10 rfl (lv_at hl 1 rfl) ?_
  refine va_get (D := (dC, dI)) (ci := 12) (v := .ref (r 51)) (C := RX12) (T := TX12) (N := 74) hx hb hts inlX12 hown hK hP 0 rfl rfl 51 (by decide) (hts _ m_249) (fun _ h9 => h9) rfl dX12_countWays_11 ?_
  refine lv_iload_n hx hb dX12_countWays_14 rfl (lv_at hl 0 rfl) ?_
  refine lv_iload_n hx hb dX12_countWays_15 rfl (lv_at hl 0 rfl) ?_
  refine lv_if_ne (tgt := 23) hx hb dX12_countWays_16 (by decide) (fun c_ => absurd (by decide +kernel) c_) (fun _ => ?_)
  refine lv_iconst (v := 1) hx hb dX12_countWays_19 (by decide +kernel) ?_
  refine lv_goto (tgt := 24) hx hb dX12_countWays_20 (by decide) ?_
  refine va_iast hx hb hK hP hD hS 1 0 rfl rfl vi_0_13 dX12_countWays_24 (fun H locs hP hD hS => ?_)
  obtain ⟨f_1, ef_2⟩ : ∃ g : Nat → Int32, g = upd (fun _ => 0) (Int32.toNatClampNeg 0) 1 := ⟨_, rfl⟩
  rw [← ef_2] at hP hD
  have ef_2 : f_1 0 = 1 := by rw [ef_2]; exact pk_us
  have hP : va_P (dC, dI) classes [(h0, .inr (12, [.ref (r 0), .ref (r 1), .int 0, .int 0, .int 0, .int (-1), .int 0, .int 0, .int 0, .int 0, .long 0, .ref (r 11), .ref (r 12), .ref (r 13), .ref (r 14), .ref (r 15), .ref (r 16), .ref (r 17), .ref (r 18), .ref (r 19), .ref (r 20), .ref (r 21), .ref (r 22), .ref (r 23), .ref (r 24), .ref (r 25), .ref (r 26), .ref (r 27), .ref (r 28), .ref (r 29), .ref (r 30), .ref (r 31), .ref (r 32), .ref (r 33), .int 0, .int 0, .int 0, .int 0, .int 0, .int 0, .int 0, .ref (r 41), .ref (r 42), .ref (r 43), .ref (r 44), .int 0, .int 0, .int 0, .ref (r 48), .int 0, .int 0, .ref (r 51), .ref (r 52), .ref (r 53), .ref (r 54), .int 0, .ref (r 56), .ref (r 57), .ref (r 58), .int 0, .ref (r 60), .ref (r 61), .ref (r 62), .ref (r 63), .ref (r 64), .ref (r 65), .ref (r 66), .ref (r 67), .ref (r 68), .int 0, .int 0, .int 0, .ref (r 72), .ref (r 73)])), (r 51, .inl (cy 0, 13, .inl f_1))] H := hP
  have hD : va_D A [(h0, .inr (12, [.ref (r 0), .ref (r 1), .int 0, .int 0, .int 0, .int (-1), .int 0, .int 0, .int 0, .int 0, .long 0, .ref (r 11), .ref (r 12), .ref (r 13), .ref (r 14), .ref (r 15), .ref (r 16), .ref (r 17), .ref (r 18), .ref (r 19), .ref (r 20), .ref (r 21), .ref (r 22), .ref (r 23), .ref (r 24), .ref (r 25), .ref (r 26), .ref (r 27), .ref (r 28), .ref (r 29), .ref (r 30), .ref (r 31), .ref (r 32), .ref (r 33), .int 0, .int 0, .int 0, .int 0, .int 0, .int 0, .int 0, .ref (r 41), .ref (r 42), .ref (r 43), .ref (r 44), .int 0, .int 0, .int 0, .ref (r 48), .int 0, .int 0, .ref (r 51), .ref (r 52), .ref (r 53), .ref (r 54), .int 0, .ref (r 56), .ref (r 57), .ref (r 58), .int 0, .ref (r 60), .ref (r 61), .ref (r 62), .ref (r 63), .ref (r 64), .ref (r 65), .ref (r 66), .ref (r 67), .ref (r 68), .int 0, .int 0, .int 0, .ref (r 72), .ref (r 73)])), (r 51, .inl (cy 0, 13, .inl f_1))] := hD
  refine lv_iinc (v := 1) (lv' := [(1, .int 1), (0, .ref h0)]) hx hb dX12_countWays_25 hl (k := 0) rfl (by decide +kernel) (by decide) rfl (fun ls hl => ?_)
  refine lv_goto (tgt := 2) hx hb dX12_countWays_28 (by decide) ?_
  refine lv_iload_n hx hb dX12_countWays_2 rfl (lv_at hl 0 rfl) ?_
  refine lv_aload_n hx hb dX12_countWays_3 rfl (lv_at hl 1 rfl) ?_
  refine va_get (D := (dC, dI)) (ci := 12) (v := .int 0) (C := RX12) (T := TX12) (N := 74) hx hb hts inlX12 hown hK hP 0 rfl rfl 45 (by decide) (hts _ m_868) (fun _ h9 => h9) rfl dX12_countWays_4 ?_
  refine lv_icmp_gt (tgt := 31) hx hb dX12_countWays_7 (by decide) (fun _ => ?_) (fun c_ => absurd (by decide +kernel) c_)
  refine lv_iconst (v := 0) hx hb dX12_countWays_31 (by decide +kernel) ?_
  refine lv_istore_n (lv' := [(1, .int 0), (0, .ref h0)]) hx hb dX12_countWays_32 rfl hl (by decide) rfl (fun ls hl => ?_)
  refine lv_iload_n hx hb dX12_countWays_33 rfl (lv_at hl 0 rfl) ?_
  refine lv_aload_n hx hb dX12_countWays_34 rfl (lv_at hl 1 rfl) ?_
  refine va_get (D := (dC, dI)) (ci := 12) (v := .int 0) (C := RX12) (T := TX12) (N := 74) hx hb hts inlX12 hown hK hP 0 rfl rfl 46 (by decide) (hts _ m_1117) (fun _ h9 => h9) rfl dX12_countWays_35 ?_
  refine lv_icmp_ge (tgt := 96) hx hb dX12_countWays_38 (by decide) (fun _ => ?_) (fun c_ => absurd (by decide +kernel) c_)
  refine lv_aload_n hx hb dX12_countWays_96 rfl (lv_at hl 1 rfl) ?_
  refine va_get (D := (dC, dI)) (ci := 12) (v := .ref (r 51)) (C := RX12) (T := TX12) (N := 74) hx hb hts inlX12 hown hK hP 0 rfl rfl 51 (by decide) (hts _ m_249) (fun _ h9 => h9) rfl dX12_countWays_97 ?_
  refine lv_aload_n hx hb dX12_countWays_100 rfl (lv_at hl 1 rfl) ?_
  refine va_get (D := (dC, dI)) (ci := 12) (v := .int 0) (C := RX12) (T := TX12) (N := 74) hx hb hts inlX12 hown hK hP 0 rfl rfl 45 (by decide) (hts _ m_868) (fun _ h9 => h9) rfl dX12_countWays_101 ?_
  refine va_iald hx hb hK hP 1 0 rfl rfl vi_0_13 dX12_countWays_104 ?_
  refine lv_topi (fun z_3 ez_3 => ?_)
  obtain rfl : z_3 = 1 := ez_3.trans ef_2
  have hP9 := hP.sub (ws' := [(h0, .inr (12, [.ref (r 0), .ref (r 1), .int 0, .int 0, .int 0, .int (-1), .int 0, .int 0, .int 0, .int 0, .long 0, .ref (r 11), .ref (r 12), .ref (r 13), .ref (r 14), .ref (r 15), .ref (r 16), .ref (r 17), .ref (r 18), .ref (r 19), .ref (r 20), .ref (r 21), .ref (r 22), .ref (r 23), .ref (r 24), .ref (r 25), .ref (r 26), .ref (r 27), .ref (r 28), .ref (r 29), .ref (r 30), .ref (r 31), .ref (r 32), .ref (r 33), .int 0, .int 0, .int 0, .int 0, .int 0, .int 0, .int 0, .ref (r 41), .ref (r 42), .ref (r 43), .ref (r 44), .int 0, .int 0, .int 0, .ref (r 48), .int 0, .int 0, .ref (r 51), .ref (r 52), .ref (r 53), .ref (r 54), .int 0, .ref (r 56), .ref (r 57), .ref (r 58), .int 0, .ref (r 60), .ref (r 61), .ref (r 62), .ref (r 63), .ref (r 64), .ref (r 65), .ref (r 66), .ref (r 67), .ref (r 68), .int 0, .int 0, .int 0, .ref (r 72), .ref (r 73)])), (r 51, .inl (cy 0, 13, .inl f_1))]) [0, 1] rfl
  have hD9 := hD.sub (ws' := [(h0, .inr (12, [.ref (r 0), .ref (r 1), .int 0, .int 0, .int 0, .int (-1), .int 0, .int 0, .int 0, .int 0, .long 0, .ref (r 11), .ref (r 12), .ref (r 13), .ref (r 14), .ref (r 15), .ref (r 16), .ref (r 17), .ref (r 18), .ref (r 19), .ref (r 20), .ref (r 21), .ref (r 22), .ref (r 23), .ref (r 24), .ref (r 25), .ref (r 26), .ref (r 27), .ref (r 28), .ref (r 29), .ref (r 30), .ref (r 31), .ref (r 32), .ref (r 33), .int 0, .int 0, .int 0, .int 0, .int 0, .int 0, .int 0, .ref (r 41), .ref (r 42), .ref (r 43), .ref (r 44), .int 0, .int 0, .int 0, .ref (r 48), .int 0, .int 0, .ref (r 51), .ref (r 52), .ref (r 53), .ref (r 54), .int 0, .ref (r 56), .ref (r 57), .ref (r 58), .int 0, .ref (r 60), .ref (r 61), .ref (r 62), .ref (r 63), .ref (r 64), .ref (r 65), .ref (r 66), .ref (r 67), .ref (r 68), .int 0, .int 0, .int 0, .ref (r 72), .ref (r 73)])), (r 51, .inl (cy 0, 13, .inl f_1))]) [0, 1] (by decide) rfl
  exact W.iret (v := 1) hx hb hr (fun t ht hW => ⟨⟨1, (), rfl, rfl, f_1, by rw [ht]; exact hP9, hD9⟩, hS.F ht⟩) hS.2.2 dX12_countWays_105
set_option maxHeartbeats 4000000 in
set_option maxRecDepth 100000 in
theorem kX12_ways_1 (l : Launch) (dC : Nat → ClassId) (dI : Nat → Nat → Nat) (cy : Nat → ClassId) (h0 : Nat) (r : Nat → Nat) (p0 p1 : Int32) (sz : Nat) : Met l yX12_ways wmX12_ways ({ frames := 3, cells := 0, slots := 0, locals := 64 }) (va_Pc [.ref h0, .int p0, .int p1] (fun U => U.heap.size = sz ∧ va_P (dC, dI) classes [(h0, .inr (12, [.ref (r 0), .ref (r 1), .int 0, .int 0, .int 0, .int (-1), .int 0, .int 0, .int 0, .int 0, .long 0, .ref (r 11), .ref (r 12), .ref (r 13), .ref (r 14), .ref (r 15), .ref (r 16), .ref (r 17), .ref (r 18), .ref (r 19), .ref (r 20), .ref (r 21), .ref (r 22), .ref (r 23), .ref (r 24), .ref (r 25), .ref (r 26), .ref (r 27), .ref (r 28), .ref (r 29), .ref (r 30), .ref (r 31), .ref (r 32), .ref (r 33), .int 0, .int 0, .int 0, .int 0, .int 0, .int 0, .int 0, .ref (r 41), .ref (r 42), .ref (r 43), .ref (r 44), .int 0, .int 0, .int 0, .ref (r 48), .int 0, .int 0, .ref (r 51), .ref (r 52), .ref (r 53), .ref (r 54), .int 0, .ref (r 56), .ref (r 57), .ref (r 58), .int 0, .ref (r 60), .ref (r 61), .ref (r 62), .ref (r 63), .ref (r 64), .ref (r 65), .ref (r 66), .ref (r 67), .ref (r 68), .int 0, .int 0, .int 0, .ref (r 72), .ref (r 73)])), (r 13, .inl (cy 0, 2, .inl (fun _ => 0))), (r 41, .inl (cy 0, 15, .inl (fun _ => 0))), (r 51, .inl (cy 0, 13, .inl (fun _ => 0)))] U.heap ∧ EV dC dI cy U ∧ va_D (fun _ => True) [(h0, .inr (12, [.ref (r 0), .ref (r 1), .int 0, .int 0, .int 0, .int (-1), .int 0, .int 0, .int 0, .int 0, .long 0, .ref (r 11), .ref (r 12), .ref (r 13), .ref (r 14), .ref (r 15), .ref (r 16), .ref (r 17), .ref (r 18), .ref (r 19), .ref (r 20), .ref (r 21), .ref (r 22), .ref (r 23), .ref (r 24), .ref (r 25), .ref (r 26), .ref (r 27), .ref (r 28), .ref (r 29), .ref (r 30), .ref (r 31), .ref (r 32), .ref (r 33), .int 0, .int 0, .int 0, .int 0, .int 0, .int 0, .int 0, .ref (r 41), .ref (r 42), .ref (r 43), .ref (r 44), .int 0, .int 0, .int 0, .ref (r 48), .int 0, .int 0, .ref (r 51), .ref (r 52), .ref (r 53), .ref (r 54), .int 0, .ref (r 56), .ref (r 57), .ref (r 58), .int 0, .ref (r 60), .ref (r 61), .ref (r 62), .ref (r 63), .ref (r 64), .ref (r 65), .ref (r 66), .ref (r 67), .ref (r 68), .int 0, .int 0, .int 0, .ref (r 72), .ref (r 73)])), (r 13, .inl (cy 0, 2, .inl (fun _ => 0))), (r 41, .inl (cy 0, 15, .inl (fun _ => 0))), (r 51, .inl (cy 0, 13, .inl (fun _ => 0)))])) (va_Qi (S := Unit) (fun r_ _ => (r_ = 1 ∧ p0 = (-1) ∧ p1 = (-1)) ∨ (r_ = (-1) ∧ p0 = (-1) ∧ ¬ p1 = (-1)) ∨ (r_ = (-1) ∧ ¬ p0 = (-1))) (fun _ _ => True) (va_A [(h0, .inr (12, [.ref (r 0), .ref (r 1), .int 0, .int 0, .int 0, .int (-1), .int 0, .int 0, .int 0, .int 0, .long 0, .ref (r 11), .ref (r 12), .ref (r 13), .ref (r 14), .ref (r 15), .ref (r 16), .ref (r 17), .ref (r 18), .ref (r 19), .ref (r 20), .ref (r 21), .ref (r 22), .ref (r 23), .ref (r 24), .ref (r 25), .ref (r 26), .ref (r 27), .ref (r 28), .ref (r 29), .ref (r 30), .ref (r 31), .ref (r 32), .ref (r 33), .int 0, .int 0, .int 0, .int 0, .int 0, .int 0, .int 0, .ref (r 41), .ref (r 42), .ref (r 43), .ref (r 44), .int 0, .int 0, .int 0, .ref (r 48), .int 0, .int 0, .ref (r 51), .ref (r 52), .ref (r 53), .ref (r 54), .int 0, .ref (r 56), .ref (r 57), .ref (r 58), .int 0, .ref (r 60), .ref (r 61), .ref (r 62), .ref (r 63), .ref (r 64), .ref (r 65), .ref (r 66), .ref (r 67), .ref (r 68), .int 0, .int 0, .int 0, .ref (r 72), .ref (r 73)])), (r 13, .inl (cy 0, 2, .inl (fun _ => 0))), (r 41, .inl (cy 0, 15, .inl (fun _ => 0))), (r 51, .inl (cy 0, 13, .inl (fun _ => 0)))] sz)) 0 0 (va_A [(h0, .inr (12, [.ref (r 0), .ref (r 1), .int 0, .int 0, .int 0, .int (-1), .int 0, .int 0, .int 0, .int 0, .long 0, .ref (r 11), .ref (r 12), .ref (r 13), .ref (r 14), .ref (r 15), .ref (r 16), .ref (r 17), .ref (r 18), .ref (r 19), .ref (r 20), .ref (r 21), .ref (r 22), .ref (r 23), .ref (r 24), .ref (r 25), .ref (r 26), .ref (r 27), .ref (r 28), .ref (r 29), .ref (r 30), .ref (r 31), .ref (r 32), .ref (r 33), .int 0, .int 0, .int 0, .int 0, .int 0, .int 0, .int 0, .ref (r 41), .ref (r 42), .ref (r 43), .ref (r 44), .int 0, .int 0, .int 0, .ref (r 48), .int 0, .int 0, .ref (r 51), .ref (r 52), .ref (r 53), .ref (r 54), .int 0, .ref (r 56), .ref (r 57), .ref (r 58), .int 0, .ref (r 60), .ref (r 61), .ref (r 62), .ref (r 63), .ref (r 64), .ref (r 65), .ref (r 66), .ref (r 67), .ref (r 68), .int 0, .int 0, .int 0, .ref (r 72), .ref (r 73)])), (r 13, .inl (cy 0, 2, .inl (fun _ => 0))), (r 41, .inl (cy 0, 15, .inl (fun _ => 0))), (r 51, .inl (cy 0, 13, .inl (fun _ => 0)))] sz) := by
  refine Met.ofW (cc := cX12_ways) (maxL := 3) (ret := (some .int)) (by decide +kernel) rfl ?_
  intro p e s m args below meth c s₁ B hml hv
  obtain ⟨rfl, hsz, hP, hE, hD0⟩ := hv
  have hK := hE.1
  have hN := hE.2.1
  have hx := B.exec
  have hb := B.bytes
  have hr := B.returns
  have hts0 := atoms_spec (ws := wmX12_ways) B.pre
  have hts : ∀ w ∈ wsL_law, w.before _ s = true := fun w h => hts0 w (List.mem_cons_of_mem _ h)
  have hown : s.vm.findClass RX12 = some m.cls := findClass_of_methodNamed B.named
  have hlocks := B.notSynchronized
  subst hsz
  have hD := hD0.self (sz := s.heap.size)
  generalize hAe : va_A [(h0, .inr (12, [.ref (r 0), .ref (r 1), .int 0, .int 0, .int 0, .int (-1), .int 0, .int 0, .int 0, .int 0, .long 0, .ref (r 11), .ref (r 12), .ref (r 13), .ref (r 14), .ref (r 15), .ref (r 16), .ref (r 17), .ref (r 18), .ref (r 19), .ref (r 20), .ref (r 21), .ref (r 22), .ref (r 23), .ref (r 24), .ref (r 25), .ref (r 26), .ref (r 27), .ref (r 28), .ref (r 29), .ref (r 30), .ref (r 31), .ref (r 32), .ref (r 33), .int 0, .int 0, .int 0, .int 0, .int 0, .int 0, .int 0, .ref (r 41), .ref (r 42), .ref (r 43), .ref (r 44), .int 0, .int 0, .int 0, .ref (r 48), .int 0, .int 0, .ref (r 51), .ref (r 52), .ref (r 53), .ref (r 54), .int 0, .ref (r 56), .ref (r 57), .ref (r 58), .int 0, .ref (r 60), .ref (r 61), .ref (r 62), .ref (r 63), .ref (r 64), .ref (r 65), .ref (r 66), .ref (r 67), .ref (r 68), .int 0, .int 0, .int 0, .ref (r 72), .ref (r 73)])), (r 13, .inl (cy 0, 2, .inl (fun _ => 0))), (r 41, .inl (cy 0, 15, .inl (fun _ => 0))), (r 51, .inl (cy 0, 13, .inl (fun _ => 0)))] s.heap.size = A at hD ⊢
  have hA : ∀ q : Nat, s.heap.size ≤ q → A q := fun q h => by rw [← hAe]; exact Or.inr h
  have hS : va_S A s.heap s.heap [] := va_S.rf
  have hP : va_P (dC, dI) classes [(h0, .inr (12, [.ref (r 0), .ref (r 1), .int 0, .int 0, .int 0, .int (-1), .int 0, .int 0, .int 0, .int 0, .long 0, .ref (r 11), .ref (r 12), .ref (r 13), .ref (r 14), .ref (r 15), .ref (r 16), .ref (r 17), .ref (r 18), .ref (r 19), .ref (r 20), .ref (r 21), .ref (r 22), .ref (r 23), .ref (r 24), .ref (r 25), .ref (r 26), .ref (r 27), .ref (r 28), .ref (r 29), .ref (r 30), .ref (r 31), .ref (r 32), .ref (r 33), .int 0, .int 0, .int 0, .int 0, .int 0, .int 0, .int 0, .ref (r 41), .ref (r 42), .ref (r 43), .ref (r 44), .int 0, .int 0, .int 0, .ref (r 48), .int 0, .int 0, .ref (r 51), .ref (r 52), .ref (r 53), .ref (r 54), .int 0, .ref (r 56), .ref (r 57), .ref (r 58), .int 0, .ref (r 60), .ref (r 61), .ref (r 62), .ref (r 63), .ref (r 64), .ref (r 65), .ref (r 66), .ref (r 67), .ref (r 68), .int 0, .int 0, .int 0, .ref (r 72), .ref (r 73)])), (r 13, .inl (cy 0, 2, .inl (fun _ => 0))), (r 41, .inl (cy 0, 15, .inl (fun _ => 0))), (r 51, .inl (cy 0, 13, .inl (fun _ => 0)))] s.heap := hP
  have hl := lv_entry ([.ref h0, .int p0, .int p1]) (n := 3) (Nat.le_of_ble_eq_true rfl)
  rw [lg_entry_eq]
  generalize (lg_sl ([.ref h0, .int p0, .int p1]) ++ List.replicate (3 - (lg_sl ([.ref h0, .int p0, .int p1])).length) Slot.unset).toArray = ls at hl ⊢
  have hl : lv_has ls 3 [(0, .ref h0), (1, .int p0), (2, .int p1)] := hl
  refine lv_aload_n hx hb dX12_ways_0 rfl (lv_at hl 0 rfl) ?_
  refine lv_iload_n hx hb dX12_ways_1 rfl (lv_at hl 1 rfl) ?_
  have hPc := hP.sub (ws' := [(h0, .inr (12, [.ref (r 0), .ref (r 1), .int 0, .int 0, .int 0, .int (-1), .int 0, .int 0, .int 0, .int 0, .long 0, .ref (r 11), .ref (r 12), .ref (r 13), .ref (r 14), .ref (r 15), .ref (r 16), .ref (r 17), .ref (r 18), .ref (r 19), .ref (r 20), .ref (r 21), .ref (r 22), .ref (r 23), .ref (r 24), .ref (r 25), .ref (r 26), .ref (r 27), .ref (r 28), .ref (r 29), .ref (r 30), .ref (r 31), .ref (r 32), .ref (r 33), .int 0, .int 0, .int 0, .int 0, .int 0, .int 0, .int 0, .ref (r 41), .ref (r 42), .ref (r 43), .ref (r 44), .int 0, .int 0, .int 0, .ref (r 48), .int 0, .int 0, .ref (r 51), .ref (r 52), .ref (r 53), .ref (r 54), .int 0, .ref (r 56), .ref (r 57), .ref (r 58), .int 0, .ref (r 60), .ref (r 61), .ref (r 62), .ref (r 63), .ref (r 64), .ref (r 65), .ref (r 66), .ref (r 67), .ref (r 68), .int 0, .int 0, .int 0, .ref (r 72), .ref (r 73)])), (r 13, .inl (cy 0, 2, .inl (fun _ => 0)))]) [0, 1] rfl
  refine vp_callSi (W.runV (As := [.int p0]) (rest := []) ⟨hx, hb, hml, hown, hts⟩ (kX12_isSlipOrRow_1 l dC dI cy h0 r p0) (cwV 1 hts (gdV m_815 m_816 m_817 m_5 m_818) rfl rfl rfl (by decide +kernel) ⟨Nat.le_of_ble_eq_true rfl, Nat.le_of_ble_eq_true rfl⟩) ⟨fun a U g mk q => by obtain ⟨q0, qP, qE⟩ := q; exact ⟨q0, qP, qE.call⟩, va_recv hK hP (ci := 12) (q0 := 0) rfl rfl, fun U hU hW => ⟨rfl, by rw [hU]; exact hPc, hE.moved hW⟩⟩ rfl rfl hl.1 rfl (lv_room (Nat.le_of_ble_eq_true rfl)) dX12_ways_2 ⟨(show 0 + 0 ≤ 0 from by decide +kernel), (show 0 + 0 ≤ 0 from by decide +kernel)⟩) (fun r_1 hw => ?_)
  rcases hw with ⟨hr1, c_2⟩ | ⟨hr1, c_3⟩
  · subst r_1
    subst c_2
    refine lv_if_eq (tgt := 16) hx hb dX12_ways_5 (by decide) (fun c_ => absurd c_ (by decide +kernel)) (fun _ => ?_)
    refine lv_aload_n hx hb dX12_ways_8 rfl (lv_at hl 0 rfl) ?_
    refine lv_iload_n hx hb dX12_ways_9 rfl (lv_at hl 2 rfl) ?_
    have hPc := hP.sub (ws' := [(h0, .inr (12, [.ref (r 0), .ref (r 1), .int 0, .int 0, .int 0, .int (-1), .int 0, .int 0, .int 0, .int 0, .long 0, .ref (r 11), .ref (r 12), .ref (r 13), .ref (r 14), .ref (r 15), .ref (r 16), .ref (r 17), .ref (r 18), .ref (r 19), .ref (r 20), .ref (r 21), .ref (r 22), .ref (r 23), .ref (r 24), .ref (r 25), .ref (r 26), .ref (r 27), .ref (r 28), .ref (r 29), .ref (r 30), .ref (r 31), .ref (r 32), .ref (r 33), .int 0, .int 0, .int 0, .int 0, .int 0, .int 0, .int 0, .ref (r 41), .ref (r 42), .ref (r 43), .ref (r 44), .int 0, .int 0, .int 0, .ref (r 48), .int 0, .int 0, .ref (r 51), .ref (r 52), .ref (r 53), .ref (r 54), .int 0, .ref (r 56), .ref (r 57), .ref (r 58), .int 0, .ref (r 60), .ref (r 61), .ref (r 62), .ref (r 63), .ref (r 64), .ref (r 65), .ref (r 66), .ref (r 67), .ref (r 68), .int 0, .int 0, .int 0, .ref (r 72), .ref (r 73)])), (r 13, .inl (cy 0, 2, .inl (fun _ => 0)))]) [0, 1] rfl
    refine vp_callSi (W.runV (As := [.int p1]) (rest := []) ⟨hx, hb, hml, hown, hts⟩ (kX12_isSlipOrRow_1 l dC dI cy h0 r p1) (cwV 1 hts (gdV m_815 m_816 m_817 m_5 m_818) rfl rfl rfl (by decide +kernel) ⟨Nat.le_of_ble_eq_true rfl, Nat.le_of_ble_eq_true rfl⟩) ⟨fun a U g mk q => by obtain ⟨q0, qP, qE⟩ := q; exact ⟨q0, qP, qE.call⟩, va_recv hK hP (ci := 12) (q0 := 0) rfl rfl, fun U hU hW => ⟨rfl, by rw [hU]; exact hPc, hE.moved hW⟩⟩ rfl rfl hl.1 rfl (lv_room (Nat.le_of_ble_eq_true rfl)) dX12_ways_10 ⟨(show 0 + 0 ≤ 0 from by decide +kernel), (show 0 + 0 ≤ 0 from by decide +kernel)⟩) (fun r_4 hw => ?_)
    rcases hw with ⟨hr1, c_5⟩ | ⟨hr1, c_6⟩
    · subst r_4
      subst c_5
      refine lv_if_ne (tgt := 18) hx hb dX12_ways_13 (by decide) (fun _ => ?_) (fun c_ => absurd c_ (by decide +kernel))
      refine lv_aload_n hx hb dX12_ways_18 rfl (lv_at hl 0 rfl) ?_
      refine lv_iload_n hx hb dX12_ways_19 rfl (lv_at hl 1 rfl) ?_
      have hPc := hP.sub (ws' := [(h0, .inr (12, [.ref (r 0), .ref (r 1), .int 0, .int 0, .int 0, .int (-1), .int 0, .int 0, .int 0, .int 0, .long 0, .ref (r 11), .ref (r 12), .ref (r 13), .ref (r 14), .ref (r 15), .ref (r 16), .ref (r 17), .ref (r 18), .ref (r 19), .ref (r 20), .ref (r 21), .ref (r 22), .ref (r 23), .ref (r 24), .ref (r 25), .ref (r 26), .ref (r 27), .ref (r 28), .ref (r 29), .ref (r 30), .ref (r 31), .ref (r 32), .ref (r 33), .int 0, .int 0, .int 0, .int 0, .int 0, .int 0, .int 0, .ref (r 41), .ref (r 42), .ref (r 43), .ref (r 44), .int 0, .int 0, .int 0, .ref (r 48), .int 0, .int 0, .ref (r 51), .ref (r 52), .ref (r 53), .ref (r 54), .int 0, .ref (r 56), .ref (r 57), .ref (r 58), .int 0, .ref (r 60), .ref (r 61), .ref (r 62), .ref (r 63), .ref (r 64), .ref (r 65), .ref (r 66), .ref (r 67), .ref (r 68), .int 0, .int 0, .int 0, .ref (r 72), .ref (r 73)])), (r 41, .inl (cy 0, 15, .inl (fun _ => 0)))]) [0, 2] rfl
      have hDc := hD.sub (ws' := [(h0, .inr (12, [.ref (r 0), .ref (r 1), .int 0, .int 0, .int 0, .int (-1), .int 0, .int 0, .int 0, .int 0, .long 0, .ref (r 11), .ref (r 12), .ref (r 13), .ref (r 14), .ref (r 15), .ref (r 16), .ref (r 17), .ref (r 18), .ref (r 19), .ref (r 20), .ref (r 21), .ref (r 22), .ref (r 23), .ref (r 24), .ref (r 25), .ref (r 26), .ref (r 27), .ref (r 28), .ref (r 29), .ref (r 30), .ref (r 31), .ref (r 32), .ref (r 33), .int 0, .int 0, .int 0, .int 0, .int 0, .int 0, .int 0, .ref (r 41), .ref (r 42), .ref (r 43), .ref (r 44), .int 0, .int 0, .int 0, .ref (r 48), .int 0, .int 0, .ref (r 51), .ref (r 52), .ref (r 53), .ref (r 54), .int 0, .ref (r 56), .ref (r 57), .ref (r 58), .int 0, .ref (r 60), .ref (r 61), .ref (r 62), .ref (r 63), .ref (r 64), .ref (r 65), .ref (r 66), .ref (r 67), .ref (r 68), .int 0, .int 0, .int 0, .ref (r 72), .ref (r 73)])), (r 41, .inl (cy 0, 15, .inl (fun _ => 0)))]) [0, 2] (by decide) rfl
      have hFc := va_free (wc := [(h0, .inr (12, [.ref (r 0), .ref (r 1), .int 0, .int 0, .int 0, .int (-1), .int 0, .int 0, .int 0, .int 0, .long 0, .ref (r 11), .ref (r 12), .ref (r 13), .ref (r 14), .ref (r 15), .ref (r 16), .ref (r 17), .ref (r 18), .ref (r 19), .ref (r 20), .ref (r 21), .ref (r 22), .ref (r 23), .ref (r 24), .ref (r 25), .ref (r 26), .ref (r 27), .ref (r 28), .ref (r 29), .ref (r 30), .ref (r 31), .ref (r 32), .ref (r 33), .int 0, .int 0, .int 0, .int 0, .int 0, .int 0, .int 0, .ref (r 41), .ref (r 42), .ref (r 43), .ref (r 44), .int 0, .int 0, .int 0, .ref (r 48), .int 0, .int 0, .ref (r 51), .ref (r 52), .ref (r 53), .ref (r 54), .int 0, .ref (r 56), .ref (r 57), .ref (r 58), .int 0, .ref (r 60), .ref (r 61), .ref (r 62), .ref (r 63), .ref (r 64), .ref (r 65), .ref (r 66), .ref (r 67), .ref (r 68), .int 0, .int 0, .int 0, .ref (r 72), .ref (r 73)])), (r 41, .inl (cy 0, 15, .inl (fun _ => 0)))]) hD hS hA [0, 2] rfl
      refine va_callv (va_runV (As := [.int (-1)]) (rest := []) ⟨hx, hb, hml, hown, hts⟩ (kX12_layOne_1 l dC dI cy h0 r s.heap.size) (cwV 1 hts (gdV m_869 m_870 m_871 m_5 m_872) rfl rfl rfl (by decide +kernel) ⟨Nat.le_of_ble_eq_true rfl, Nat.le_of_ble_eq_true rfl⟩) ⟨fun a U g mk q => by obtain ⟨q0, q1, qP, qE, qD⟩ := q; exact ⟨q0, q1, qP, qE.call, qD⟩, va_recv hK hP (ci := 12) (q0 := 0) rfl rfl, fun U hU hW => ⟨rfl, by rw [hU], by rw [hU]; exact hPc, hE.moved hW, hDc.weaken (fun _ _ _ _ => trivial)⟩⟩ rfl rfl hl.1 rfl (lv_room (Nat.le_of_ble_eq_true rfl)) dX12_ways_20 ⟨(show 0 + 0 ≤ 0 from by decide +kernel), (show 0 + 0 ≤ 0 from by decide +kernel)⟩) hS (fun q _ h => hFc q h) hFc (fun u t H1 locs ht hvm hw hB hz1 hk1 hS => ?_)
      obtain ⟨hP1, hD1⟩ := hB
      rw [ht] at hP1
      obtain ⟨hP, hD⟩ := va_join (wr := [(r 13, .inl (cy 0, 2, .inl (fun _ => 0))), (r 51, .inl (cy 0, 13, .inl (fun _ => 0)))]) (w1 := [(h0, .inr (12, [.ref (r 0), .ref (r 1), .int 0, .int 0, .int 0, .int (-1), .int 0, .int 0, .int 0, .int 0, .long 0, .ref (r 11), .ref (r 12), .ref (r 13), .ref (r 14), .ref (r 15), .ref (r 16), .ref (r 17), .ref (r 18), .ref (r 19), .ref (r 20), .ref (r 21), .ref (r 22), .ref (r 23), .ref (r 24), .ref (r 25), .ref (r 26), .ref (r 27), .ref (r 28), .ref (r 29), .ref (r 30), .ref (r 31), .ref (r 32), .ref (r 33), .int 0, .int 0, .int 0, .int 0, .int 0, .int 0, .int 0, .ref (r 41), .ref (r 42), .ref (r 43), .ref (r 44), .int 0, .int 0, .int 0, .ref (r 48), .int 0, .int 0, .ref (r 51), .ref (r 52), .ref (r 53), .ref (r 54), .int 0, .ref (r 56), .ref (r 57), .ref (r 58), .int 0, .ref (r 60), .ref (r 61), .ref (r 62), .ref (r 63), .ref (r 64), .ref (r 65), .ref (r 66), .ref (r 67), .ref (r 68), .int 0, .int 0, .int 0, .ref (r 72), .ref (r 73)])), (r 41, .inl (cy 0, 15, .inl (fun _ => 0)))]) hP hD [0, 2] [1, 3] rfl rfl (by decide) (by decide) hk1 hFc hP1 hD1
      generalize H1 = H at hP hS ⊢
      have hP : va_P (dC, dI) classes [(r 13, .inl (cy 0, 2, .inl (fun _ => 0))), (r 51, .inl (cy 0, 13, .inl (fun _ => 0))), (h0, .inr (12, [.ref (r 0), .ref (r 1), .int 0, .int 0, .int 0, .int (-1), .int 0, .int 0, .int 0, .int 0, .long 0, .ref (r 11), .ref (r 12), .ref (r 13), .ref (r 14), .ref (r 15), .ref (r 16), .ref (r 17), .ref (r 18), .ref (r 19), .ref (r 20), .ref (r 21), .ref (r 22), .ref (r 23), .ref (r 24), .ref (r 25), .ref (r 26), .ref (r 27), .ref (r 28), .ref (r 29), .ref (r 30), .ref (r 31), .ref (r 32), .ref (r 33), .int 0, .int 0, .int 0, .int 0, .int 0, .int 0, .int 0, .ref (r 41), .ref (r 42), .ref (r 43), .ref (r 44), .int 0, .int 0, .int 0, .ref (r 48), .int 0, .int 0, .ref (r 51), .ref (r 52), .ref (r 53), .ref (r 54), .int 0, .ref (r 56), .ref (r 57), .ref (r 58), .int 0, .ref (r 60), .ref (r 61), .ref (r 62), .ref (r 63), .ref (r 64), .ref (r 65), .ref (r 66), .ref (r 67), .ref (r 68), .int 0, .int 0, .int 0, .ref (r 72), .ref (r 73)])), (r 41, .inl (cy 0, 15, .inl (fun _ => 0)))] H := hP
      have hD : va_D A [(r 13, .inl (cy 0, 2, .inl (fun _ => 0))), (r 51, .inl (cy 0, 13, .inl (fun _ => 0))), (h0, .inr (12, [.ref (r 0), .ref (r 1), .int 0, .int 0, .int 0, .int (-1), .int 0, .int 0, .int 0, .int 0, .long 0, .ref (r 11), .ref (r 12), .ref (r 13), .ref (r 14), .ref (r 15), .ref (r 16), .ref (r 17), .ref (r 18), .ref (r 19), .ref (r 20), .ref (r 21), .ref (r 22), .ref (r 23), .ref (r 24), .ref (r 25), .ref (r 26), .ref (r 27), .ref (r 28), .ref (r 29), .ref (r 30), .ref (r 31), .ref (r 32), .ref (r 33), .int 0, .int 0, .int 0, .int 0, .int 0, .int 0, .int 0, .ref (r 41), .ref (r 42), .ref (r 43), .ref (r 44), .int 0, .int 0, .int 0, .ref (r 48), .int 0, .int 0, .ref (r 51), .ref (r 52), .ref (r 53), .ref (r 54), .int 0, .ref (r 56), .ref (r 57), .ref (r 58), .int 0, .ref (r 60), .ref (r 61), .ref (r 62), .ref (r 63), .ref (r 64), .ref (r 65), .ref (r 66), .ref (r 67), .ref (r 68), .int 0, .int 0, .int 0, .ref (r 72), .ref (r 73)])), (r 41, .inl (cy 0, 15, .inl (fun _ => 0)))] := hD
      refine W.widen (k := 0) (n := 0) (by decide +kernel) (by decide +kernel) ?_
      refine lv_aload_n hx hb dX12_ways_23 rfl (lv_at hl 0 rfl) ?_
      refine lv_iload_n hx hb dX12_ways_24 rfl (lv_at hl 2 rfl) ?_
      have hPc := hP.sub (ws' := [(h0, .inr (12, [.ref (r 0), .ref (r 1), .int 0, .int 0, .int 0, .int (-1), .int 0, .int 0, .int 0, .int 0, .long 0, .ref (r 11), .ref (r 12), .ref (r 13), .ref (r 14), .ref (r 15), .ref (r 16), .ref (r 17), .ref (r 18), .ref (r 19), .ref (r 20), .ref (r 21), .ref (r 22), .ref (r 23), .ref (r 24), .ref (r 25), .ref (r 26), .ref (r 27), .ref (r 28), .ref (r 29), .ref (r 30), .ref (r 31), .ref (r 32), .ref (r 33), .int 0, .int 0, .int 0, .int 0, .int 0, .int 0, .int 0, .ref (r 41), .ref (r 42), .ref (r 43), .ref (r 44), .int 0, .int 0, .int 0, .ref (r 48), .int 0, .int 0, .ref (r 51), .ref (r 52), .ref (r 53), .ref (r 54), .int 0, .ref (r 56), .ref (r 57), .ref (r 58), .int 0, .ref (r 60), .ref (r 61), .ref (r 62), .ref (r 63), .ref (r 64), .ref (r 65), .ref (r 66), .ref (r 67), .ref (r 68), .int 0, .int 0, .int 0, .ref (r 72), .ref (r 73)])), (r 41, .inl (cy 0, 15, .inl (fun _ => 0)))]) [2, 3] rfl
      have hDc := hD.sub (ws' := [(h0, .inr (12, [.ref (r 0), .ref (r 1), .int 0, .int 0, .int 0, .int (-1), .int 0, .int 0, .int 0, .int 0, .long 0, .ref (r 11), .ref (r 12), .ref (r 13), .ref (r 14), .ref (r 15), .ref (r 16), .ref (r 17), .ref (r 18), .ref (r 19), .ref (r 20), .ref (r 21), .ref (r 22), .ref (r 23), .ref (r 24), .ref (r 25), .ref (r 26), .ref (r 27), .ref (r 28), .ref (r 29), .ref (r 30), .ref (r 31), .ref (r 32), .ref (r 33), .int 0, .int 0, .int 0, .int 0, .int 0, .int 0, .int 0, .ref (r 41), .ref (r 42), .ref (r 43), .ref (r 44), .int 0, .int 0, .int 0, .ref (r 48), .int 0, .int 0, .ref (r 51), .ref (r 52), .ref (r 53), .ref (r 54), .int 0, .ref (r 56), .ref (r 57), .ref (r 58), .int 0, .ref (r 60), .ref (r 61), .ref (r 62), .ref (r 63), .ref (r 64), .ref (r 65), .ref (r 66), .ref (r 67), .ref (r 68), .int 0, .int 0, .int 0, .ref (r 72), .ref (r 73)])), (r 41, .inl (cy 0, 15, .inl (fun _ => 0)))]) [2, 3] (by decide) rfl
      have hFc := va_free (wc := [(h0, .inr (12, [.ref (r 0), .ref (r 1), .int 0, .int 0, .int 0, .int (-1), .int 0, .int 0, .int 0, .int 0, .long 0, .ref (r 11), .ref (r 12), .ref (r 13), .ref (r 14), .ref (r 15), .ref (r 16), .ref (r 17), .ref (r 18), .ref (r 19), .ref (r 20), .ref (r 21), .ref (r 22), .ref (r 23), .ref (r 24), .ref (r 25), .ref (r 26), .ref (r 27), .ref (r 28), .ref (r 29), .ref (r 30), .ref (r 31), .ref (r 32), .ref (r 33), .int 0, .int 0, .int 0, .int 0, .int 0, .int 0, .int 0, .ref (r 41), .ref (r 42), .ref (r 43), .ref (r 44), .int 0, .int 0, .int 0, .ref (r 48), .int 0, .int 0, .ref (r 51), .ref (r 52), .ref (r 53), .ref (r 54), .int 0, .ref (r 56), .ref (r 57), .ref (r 58), .int 0, .ref (r 60), .ref (r 61), .ref (r 62), .ref (r 63), .ref (r 64), .ref (r 65), .ref (r 66), .ref (r 67), .ref (r 68), .int 0, .int 0, .int 0, .ref (r 72), .ref (r 73)])), (r 41, .inl (cy 0, 15, .inl (fun _ => 0)))]) hD hS hA [2, 3] rfl
      refine va_callv (va_runV (As := [.int (-1)]) (rest := []) ⟨hx, hb, hml, hown, hts⟩ (kX12_layTwo_1 l dC dI cy h0 r H.size) (cwV 1 hts (gdV m_1113 m_1114 m_1115 m_5 m_1116) rfl rfl rfl (by decide +kernel) ⟨Nat.le_of_ble_eq_true rfl, Nat.le_of_ble_eq_true rfl⟩) ⟨fun a U g mk q => by obtain ⟨q0, q1, qP, qE, qD⟩ := q; exact ⟨q0, q1, qP, qE.call, qD⟩, va_recv hK hP (ci := 12) (q0 := 2) rfl rfl, fun U hU hW => ⟨rfl, by rw [hU], by rw [hU]; exact hPc, hE.moved hW, hDc.weaken (fun _ _ _ _ => trivial)⟩⟩ rfl rfl hl.1 rfl (lv_room (Nat.le_of_ble_eq_true rfl)) dX12_ways_25 ⟨(show 0 + 0 ≤ 0 from by decide +kernel), (show 0 + 0 ≤ 0 from by decide +kernel)⟩) hS (fun q _ h => hFc q h) hFc (fun u t H1 locs ht hvm hw hB hz1 hk1 hS => ?_)
      obtain ⟨hP1, hD1⟩ := hB
      rw [ht] at hP1
      obtain ⟨hP, hD⟩ := va_join (wr := [(r 13, .inl (cy 0, 2, .inl (fun _ => 0))), (r 51, .inl (cy 0, 13, .inl (fun _ => 0)))]) (w1 := [(h0, .inr (12, [.ref (r 0), .ref (r 1), .int 0, .int 0, .int 0, .int (-1), .int 0, .int 0, .int 0, .int 0, .long 0, .ref (r 11), .ref (r 12), .ref (r 13), .ref (r 14), .ref (r 15), .ref (r 16), .ref (r 17), .ref (r 18), .ref (r 19), .ref (r 20), .ref (r 21), .ref (r 22), .ref (r 23), .ref (r 24), .ref (r 25), .ref (r 26), .ref (r 27), .ref (r 28), .ref (r 29), .ref (r 30), .ref (r 31), .ref (r 32), .ref (r 33), .int 0, .int 0, .int 0, .int 0, .int 0, .int 0, .int 0, .ref (r 41), .ref (r 42), .ref (r 43), .ref (r 44), .int 0, .int 0, .int 0, .ref (r 48), .int 0, .int 0, .ref (r 51), .ref (r 52), .ref (r 53), .ref (r 54), .int 0, .ref (r 56), .ref (r 57), .ref (r 58), .int 0, .ref (r 60), .ref (r 61), .ref (r 62), .ref (r 63), .ref (r 64), .ref (r 65), .ref (r 66), .ref (r 67), .ref (r 68), .int 0, .int 0, .int 0, .ref (r 72), .ref (r 73)])), (r 41, .inl (cy 0, 15, .inl (fun _ => 0)))]) hP hD [2, 3] [0, 1] rfl rfl (by decide) (by decide) hk1 hFc hP1 hD1
      generalize H1 = H at hP hS ⊢
      have hP : va_P (dC, dI) classes [(r 13, .inl (cy 0, 2, .inl (fun _ => 0))), (r 51, .inl (cy 0, 13, .inl (fun _ => 0))), (h0, .inr (12, [.ref (r 0), .ref (r 1), .int 0, .int 0, .int 0, .int (-1), .int 0, .int 0, .int 0, .int 0, .long 0, .ref (r 11), .ref (r 12), .ref (r 13), .ref (r 14), .ref (r 15), .ref (r 16), .ref (r 17), .ref (r 18), .ref (r 19), .ref (r 20), .ref (r 21), .ref (r 22), .ref (r 23), .ref (r 24), .ref (r 25), .ref (r 26), .ref (r 27), .ref (r 28), .ref (r 29), .ref (r 30), .ref (r 31), .ref (r 32), .ref (r 33), .int 0, .int 0, .int 0, .int 0, .int 0, .int 0, .int 0, .ref (r 41), .ref (r 42), .ref (r 43), .ref (r 44), .int 0, .int 0, .int 0, .ref (r 48), .int 0, .int 0, .ref (r 51), .ref (r 52), .ref (r 53), .ref (r 54), .int 0, .ref (r 56), .ref (r 57), .ref (r 58), .int 0, .ref (r 60), .ref (r 61), .ref (r 62), .ref (r 63), .ref (r 64), .ref (r 65), .ref (r 66), .ref (r 67), .ref (r 68), .int 0, .int 0, .int 0, .ref (r 72), .ref (r 73)])), (r 41, .inl (cy 0, 15, .inl (fun _ => 0)))] H := hP
      have hD : va_D A [(r 13, .inl (cy 0, 2, .inl (fun _ => 0))), (r 51, .inl (cy 0, 13, .inl (fun _ => 0))), (h0, .inr (12, [.ref (r 0), .ref (r 1), .int 0, .int 0, .int 0, .int (-1), .int 0, .int 0, .int 0, .int 0, .long 0, .ref (r 11), .ref (r 12), .ref (r 13), .ref (r 14), .ref (r 15), .ref (r 16), .ref (r 17), .ref (r 18), .ref (r 19), .ref (r 20), .ref (r 21), .ref (r 22), .ref (r 23), .ref (r 24), .ref (r 25), .ref (r 26), .ref (r 27), .ref (r 28), .ref (r 29), .ref (r 30), .ref (r 31), .ref (r 32), .ref (r 33), .int 0, .int 0, .int 0, .int 0, .int 0, .int 0, .int 0, .ref (r 41), .ref (r 42), .ref (r 43), .ref (r 44), .int 0, .int 0, .int 0, .ref (r 48), .int 0, .int 0, .ref (r 51), .ref (r 52), .ref (r 53), .ref (r 54), .int 0, .ref (r 56), .ref (r 57), .ref (r 58), .int 0, .ref (r 60), .ref (r 61), .ref (r 62), .ref (r 63), .ref (r 64), .ref (r 65), .ref (r 66), .ref (r 67), .ref (r 68), .int 0, .int 0, .int 0, .ref (r 72), .ref (r 73)])), (r 41, .inl (cy 0, 15, .inl (fun _ => 0)))] := hD
      refine W.widen (k := 0) (n := 0) (by decide +kernel) (by decide +kernel) ?_
      refine lv_aload_n hx hb dX12_ways_28 rfl (lv_at hl 0 rfl) ?_
      have hPc := hP.sub (ws' := [(h0, .inr (12, [.ref (r 0), .ref (r 1), .int 0, .int 0, .int 0, .int (-1), .int 0, .int 0, .int 0, .int 0, .long 0, .ref (r 11), .ref (r 12), .ref (r 13), .ref (r 14), .ref (r 15), .ref (r 16), .ref (r 17), .ref (r 18), .ref (r 19), .ref (r 20), .ref (r 21), .ref (r 22), .ref (r 23), .ref (r 24), .ref (r 25), .ref (r 26), .ref (r 27), .ref (r 28), .ref (r 29), .ref (r 30), .ref (r 31), .ref (r 32), .ref (r 33), .int 0, .int 0, .int 0, .int 0, .int 0, .int 0, .int 0, .ref (r 41), .ref (r 42), .ref (r 43), .ref (r 44), .int 0, .int 0, .int 0, .ref (r 48), .int 0, .int 0, .ref (r 51), .ref (r 52), .ref (r 53), .ref (r 54), .int 0, .ref (r 56), .ref (r 57), .ref (r 58), .int 0, .ref (r 60), .ref (r 61), .ref (r 62), .ref (r 63), .ref (r 64), .ref (r 65), .ref (r 66), .ref (r 67), .ref (r 68), .int 0, .int 0, .int 0, .ref (r 72), .ref (r 73)])), (r 51, .inl (cy 0, 13, .inl (fun _ => 0)))]) [2, 1] rfl
      have hDc := hD.sub (ws' := [(h0, .inr (12, [.ref (r 0), .ref (r 1), .int 0, .int 0, .int 0, .int (-1), .int 0, .int 0, .int 0, .int 0, .long 0, .ref (r 11), .ref (r 12), .ref (r 13), .ref (r 14), .ref (r 15), .ref (r 16), .ref (r 17), .ref (r 18), .ref (r 19), .ref (r 20), .ref (r 21), .ref (r 22), .ref (r 23), .ref (r 24), .ref (r 25), .ref (r 26), .ref (r 27), .ref (r 28), .ref (r 29), .ref (r 30), .ref (r 31), .ref (r 32), .ref (r 33), .int 0, .int 0, .int 0, .int 0, .int 0, .int 0, .int 0, .ref (r 41), .ref (r 42), .ref (r 43), .ref (r 44), .int 0, .int 0, .int 0, .ref (r 48), .int 0, .int 0, .ref (r 51), .ref (r 52), .ref (r 53), .ref (r 54), .int 0, .ref (r 56), .ref (r 57), .ref (r 58), .int 0, .ref (r 60), .ref (r 61), .ref (r 62), .ref (r 63), .ref (r 64), .ref (r 65), .ref (r 66), .ref (r 67), .ref (r 68), .int 0, .int 0, .int 0, .ref (r 72), .ref (r 73)])), (r 51, .inl (cy 0, 13, .inl (fun _ => 0)))]) [2, 1] (by decide) rfl
      have hFc := va_free (wc := [(h0, .inr (12, [.ref (r 0), .ref (r 1), .int 0, .int 0, .int 0, .int (-1), .int 0, .int 0, .int 0, .int 0, .long 0, .ref (r 11), .ref (r 12), .ref (r 13), .ref (r 14), .ref (r 15), .ref (r 16), .ref (r 17), .ref (r 18), .ref (r 19), .ref (r 20), .ref (r 21), .ref (r 22), .ref (r 23), .ref (r 24), .ref (r 25), .ref (r 26), .ref (r 27), .ref (r 28), .ref (r 29), .ref (r 30), .ref (r 31), .ref (r 32), .ref (r 33), .int 0, .int 0, .int 0, .int 0, .int 0, .int 0, .int 0, .ref (r 41), .ref (r 42), .ref (r 43), .ref (r 44), .int 0, .int 0, .int 0, .ref (r 48), .int 0, .int 0, .ref (r 51), .ref (r 52), .ref (r 53), .ref (r 54), .int 0, .ref (r 56), .ref (r 57), .ref (r 58), .int 0, .ref (r 60), .ref (r 61), .ref (r 62), .ref (r 63), .ref (r 64), .ref (r 65), .ref (r 66), .ref (r 67), .ref (r 68), .int 0, .int 0, .int 0, .ref (r 72), .ref (r 73)])), (r 51, .inl (cy 0, 13, .inl (fun _ => 0)))]) hD hS hA [2, 1] rfl
      refine va_calli (va_runV (As := []) (rest := []) ⟨hx, hb, hml, hown, hts⟩ (kX12_countWays_1 l dC dI cy h0 r H.size) (cwV 0 hts (gdV m_1118 m_1119 m_1120 m_5 m_1121) rfl rfl rfl (by decide +kernel) ⟨Nat.le_of_ble_eq_true rfl, Nat.le_of_ble_eq_true rfl⟩) ⟨fun a U g mk q => by obtain ⟨q0, q1, qP, qE, qD⟩ := q; exact ⟨q0, q1, qP, qE.call, qD⟩, va_recv hK hP (ci := 12) (q0 := 2) rfl rfl, fun U hU hW => ⟨rfl, by rw [hU], by rw [hU]; exact hPc, hE.moved hW, hDc.weaken (fun _ _ _ _ => trivial)⟩⟩ rfl rfl hl.1 rfl (lv_room (Nat.le_of_ble_eq_true rfl)) dX12_ways_29 ⟨(show 0 + 0 ≤ 0 from by decide +kernel), (show 0 + 0 ≤ 0 from by decide +kernel)⟩) hS (fun q _ h => hFc q h) hFc (fun r_9 u t H1 locs ht hvm hw hB hz1 hk1 hS => ?_)
      obtain ⟨f_10, hP1, hD1⟩ := hB
      rw [ht] at hP1
      obtain ⟨hP, hD⟩ := va_join (wr := [(r 13, .inl (cy 0, 2, .inl (fun _ => 0))), (r 41, .inl (cy 0, 15, .inl (fun _ => 0)))]) (w1 := [(h0, .inr (12, [.ref (r 0), .ref (r 1), .int 0, .int 0, .int 0, .int (-1), .int 0, .int 0, .int 0, .int 0, .long 0, .ref (r 11), .ref (r 12), .ref (r 13), .ref (r 14), .ref (r 15), .ref (r 16), .ref (r 17), .ref (r 18), .ref (r 19), .ref (r 20), .ref (r 21), .ref (r 22), .ref (r 23), .ref (r 24), .ref (r 25), .ref (r 26), .ref (r 27), .ref (r 28), .ref (r 29), .ref (r 30), .ref (r 31), .ref (r 32), .ref (r 33), .int 0, .int 0, .int 0, .int 0, .int 0, .int 0, .int 0, .ref (r 41), .ref (r 42), .ref (r 43), .ref (r 44), .int 0, .int 0, .int 0, .ref (r 48), .int 0, .int 0, .ref (r 51), .ref (r 52), .ref (r 53), .ref (r 54), .int 0, .ref (r 56), .ref (r 57), .ref (r 58), .int 0, .ref (r 60), .ref (r 61), .ref (r 62), .ref (r 63), .ref (r 64), .ref (r 65), .ref (r 66), .ref (r 67), .ref (r 68), .int 0, .int 0, .int 0, .ref (r 72), .ref (r 73)])), (r 51, .inl (cy 0, 13, .inl f_10))]) hP hD [2, 1] [0, 3] rfl rfl (by decide) (by decide) hk1 hFc hP1 hD1
      generalize H1 = H at hP hS ⊢
      have hP : va_P (dC, dI) classes [(r 13, .inl (cy 0, 2, .inl (fun _ => 0))), (r 41, .inl (cy 0, 15, .inl (fun _ => 0))), (h0, .inr (12, [.ref (r 0), .ref (r 1), .int 0, .int 0, .int 0, .int (-1), .int 0, .int 0, .int 0, .int 0, .long 0, .ref (r 11), .ref (r 12), .ref (r 13), .ref (r 14), .ref (r 15), .ref (r 16), .ref (r 17), .ref (r 18), .ref (r 19), .ref (r 20), .ref (r 21), .ref (r 22), .ref (r 23), .ref (r 24), .ref (r 25), .ref (r 26), .ref (r 27), .ref (r 28), .ref (r 29), .ref (r 30), .ref (r 31), .ref (r 32), .ref (r 33), .int 0, .int 0, .int 0, .int 0, .int 0, .int 0, .int 0, .ref (r 41), .ref (r 42), .ref (r 43), .ref (r 44), .int 0, .int 0, .int 0, .ref (r 48), .int 0, .int 0, .ref (r 51), .ref (r 52), .ref (r 53), .ref (r 54), .int 0, .ref (r 56), .ref (r 57), .ref (r 58), .int 0, .ref (r 60), .ref (r 61), .ref (r 62), .ref (r 63), .ref (r 64), .ref (r 65), .ref (r 66), .ref (r 67), .ref (r 68), .int 0, .int 0, .int 0, .ref (r 72), .ref (r 73)])), (r 51, .inl (cy 0, 13, .inl f_10))] H := hP
      have hD : va_D A [(r 13, .inl (cy 0, 2, .inl (fun _ => 0))), (r 41, .inl (cy 0, 15, .inl (fun _ => 0))), (h0, .inr (12, [.ref (r 0), .ref (r 1), .int 0, .int 0, .int 0, .int (-1), .int 0, .int 0, .int 0, .int 0, .long 0, .ref (r 11), .ref (r 12), .ref (r 13), .ref (r 14), .ref (r 15), .ref (r 16), .ref (r 17), .ref (r 18), .ref (r 19), .ref (r 20), .ref (r 21), .ref (r 22), .ref (r 23), .ref (r 24), .ref (r 25), .ref (r 26), .ref (r 27), .ref (r 28), .ref (r 29), .ref (r 30), .ref (r 31), .ref (r 32), .ref (r 33), .int 0, .int 0, .int 0, .int 0, .int 0, .int 0, .int 0, .ref (r 41), .ref (r 42), .ref (r 43), .ref (r 44), .int 0, .int 0, .int 0, .ref (r 48), .int 0, .int 0, .ref (r 51), .ref (r 52), .ref (r 53), .ref (r 54), .int 0, .ref (r 56), .ref (r 57), .ref (r 58), .int 0, .ref (r 60), .ref (r 61), .ref (r 62), .ref (r 63), .ref (r 64), .ref (r 65), .ref (r 66), .ref (r 67), .ref (r 68), .int 0, .int 0, .int 0, .ref (r 72), .ref (r 73)])), (r 51, .inl (cy 0, 13, .inl f_10))] := hD
      refine W.widen (k := 0) (n := 0) (by decide +kernel) (by decide +kernel) ?_
      subst r_9
      exact W.iret (v := 1) hx hb hr (fun t ht hW => ⟨⟨1, (), rfl, Or.inl ⟨rfl, rfl, rfl⟩, trivial⟩, hS.F ht⟩) hS.2.2 dX12_ways_32
    · subst r_4
      refine lv_if_ne (tgt := 18) hx hb dX12_ways_13 (by decide) (fun c_ => absurd (by decide +kernel) c_) (fun _ => ?_)
      refine lv_iconst (v := (-1)) hx hb dX12_ways_16 (by decide +kernel) ?_
      exact W.iret (v := (-1)) hx hb hr (fun t ht hW => ⟨⟨(-1), (), rfl, Or.inr (Or.inl ⟨rfl, rfl, c_6⟩), trivial⟩, hS.F ht⟩) hS.2.2 dX12_ways_17
  · subst r_1
    refine lv_if_eq (tgt := 16) hx hb dX12_ways_5 (by decide) (fun _ => ?_) (fun c_ => absurd (by decide +kernel) c_)
    refine lv_iconst (v := (-1)) hx hb dX12_ways_16 (by decide +kernel) ?_
    exact W.iret (v := (-1)) hx hb hr (fun t ht hW => ⟨⟨(-1), (), rfl, Or.inr (Or.inr (⟨rfl, c_3⟩)), trivial⟩, hS.F ht⟩) hS.2.2 dX12_ways_17
set_option maxHeartbeats 4000000 in
set_option maxRecDepth 100000 in
theorem kX11_odds_1 (l : Launch) (dC : Nat → ClassId) (dI : Nat → Nat → Nat) (cy : Nat → ClassId) (h0 h1 h2 h3 h4 h5 h6 h7 h8 h9 h10 h11 h12 h13 h14 h15 h16 h17 h18 h19 h20 h21 h22 : Nat) (p0 p1 : Int32) : Met l yX11_odds wmX11_odds ({ frames := 2, cells := 0, slots := 0, locals := 42 }) (va_Pc [.ref h0, .int p0, .int p1] (fun U => va_P (dC, dI) classes [(h0, .inr (11, [.ref h1, .ref h2, .ref h3, .ref h4, .ref h5, .ref h6, .ref h7, .ref h8, .ref h9])), (h9, .inr (10, [.ref h10, .ref h11, .ref h12, .ref h13, .ref h14, .ref h15, .ref h16, .int 0, .int 0, .int 0, .int 0, .int 0])), (h2, .inr (5, [.ref h17, .ref h18, .ref h19, .ref h20, .ref h21, .int 0, .int 0])), (h17, .inr (8, [.ref h22, .int 0, .int 0]))] U.heap ∧ EV dC dI cy U)) (vp_Si (fun r_ => r_ = (-1))) 0 0 (fun _ => False) := by
  refine Met.ofW (cc := cX11_odds) (maxL := 5) (ret := (some .int)) (by decide +kernel) rfl ?_
  intro p e s m args below meth c s₁ B hml hv
  obtain ⟨rfl, hP, hE⟩ := hv
  have hK := hE.1
  have hN := hE.2.1
  have hx := B.exec
  have hb := B.bytes
  have hr := B.returns
  have hts0 := atoms_spec (ws := wmX11_odds) B.pre
  have hts : ∀ w ∈ wsL_law, w.before _ s = true := fun w h => hts0 w (List.mem_cons_of_mem _ h)
  have hown : s.vm.findClass RX11 = some m.cls := findClass_of_methodNamed B.named
  have hlocks := B.notSynchronized
  have hl := lv_entry ([.ref h0, .int p0, .int p1]) (n := 5) (Nat.le_of_ble_eq_true rfl)
  rw [lg_entry_eq]
  generalize (lg_sl ([.ref h0, .int p0, .int p1]) ++ List.replicate (5 - (lg_sl ([.ref h0, .int p0, .int p1])).length) Slot.unset).toArray = ls at hl ⊢
  have hl : lv_has ls 5 [(0, .ref h0), (1, .int p0), (2, .int p1)] := hl
  refine lv_aload_n hx hb dX11_odds_0 rfl (lv_at hl 0 rfl) ?_
  refine lv_iload_n hx hb dX11_odds_1 rfl (lv_at hl 1 rfl) ?_
  have hPc := hP.sub (ws' := [(h0, .inr (11, [.ref h1, .ref h2, .ref h3, .ref h4, .ref h5, .ref h6, .ref h7, .ref h8, .ref h9])), (h9, .inr (10, [.ref h10, .ref h11, .ref h12, .ref h13, .ref h14, .ref h15, .ref h16, .int 0, .int 0, .int 0, .int 0, .int 0]))]) [0, 1] rfl
  refine va_csq (W.runV (As := [.int p0]) (rest := []) ⟨hx, hb, hml, hown, hts⟩ (kX11_slipOf_1 l dC dI cy h0 h1 h2 h3 h4 h5 h6 h7 h8 h9 h10 h11 h12 h13 h14 h15 h16 p0) (cwV 1 hts (gdV m_782 m_783 m_784 m_2 m_785) rfl rfl rfl (by decide +kernel) ⟨Nat.le_of_ble_eq_true rfl, Nat.le_of_ble_eq_true rfl⟩) ⟨fun a U g mk q => by obtain ⟨q0, qP, qE⟩ := q; exact ⟨q0, qP, qE.call⟩, va_recv hK hP (ci := 11) (q0 := 0) rfl rfl, fun U hU hW => ⟨rfl, by rw [hU]; exact hPc, hE.moved hW⟩⟩ rfl rfl hl.1 rfl (lv_room (Nat.le_of_ble_eq_true rfl)) dX11_odds_2 ⟨(show 0 + 0 ≤ 0 from by decide +kernel), (show 0 + 0 ≤ 0 from by decide +kernel)⟩) (fun r_1 hw => ?_)
  subst r_1
  refine W.eq (g2 := F0 m 5 ls [.null]) rfl ?_
  refine lv_astore_nN (lv' := [(3, .null), (0, .ref h0), (1, .int p0), (2, .int p1)]) hx hb dX11_odds_5 rfl hl (by decide) rfl (fun ls hl => ?_)
  refine lv_aload_n hx hb dX11_odds_6 rfl (lv_at hl 1 rfl) ?_
  refine va_get (D := (dC, dI)) (ci := 11) (v := .ref h2) (C := RX11) (T := TX11) (N := 9) hx hb hts inlX11 hown hK hP 0 rfl rfl 1 (by decide) (hts _ m_19) (fun _ h9 => h9) rfl dX11_odds_7 ?_
  refine va_getN (D := (dC, dI)) (ci := 5) (v := .ref h17) (C := RX5) (T := TX5) (N := 7) hx hb hts inlX5 hown hK hP 2 rfl rfl 0 (by decide) (va_Nw.use rfl (hN _ nw_38)) (fun _ h9 => h9) rfl dX11_odds_10 ?_
  refine va_getN (D := (dC, dI)) (ci := 8) (v := .ref h22) (C := RX8) (T := TX8) (N := 3) hx hb hts inlX8 hown hK hP 3 rfl rfl 0 (by decide) (va_Nw.use rfl (hN _ nw_33)) (fun _ h9 => h9) rfl dX11_odds_13 ?_
  refine lv_astore (lv' := [(4, .ref h22), (3, .null), (0, .ref h0), (1, .int p0), (2, .int p1)]) hx hb dX11_odds_16 hl (by decide) rfl (fun ls hl => ?_)
  refine lv_aload_nN hx hb dX11_odds_18 rfl (lv_at hl 1 rfl) ?_
  refine lv_ifnullN (tgt := 41) hx hb dX11_odds_19 (by decide) ?_
  refine lv_iconst (v := (-1)) hx hb dX11_odds_41 (by decide +kernel) ?_
  exact W.iret (v := (-1)) hx hb hr (fun t ht hW => ⟨(-1), rfl, rfl, ht⟩) (fun _ h_ => (List.not_mem_nil h_).elim) dX11_odds_42
set_option maxHeartbeats 4000000 in
set_option maxRecDepth 100000 in
theorem kX12_odds_1 (l : Launch) (dC : Nat → ClassId) (dI : Nat → Nat → Nat) (cy : Nat → ClassId) (h0 : Nat) (r : Nat → Nat) (p0 p1 : Int32) : Met l yX12_odds wmX12_odds ({ frames := 2, cells := 0, slots := 0, locals := 43 }) (va_Pc [.ref h0, .int p0, .int p1] (fun U => va_P (dC, dI) classes [(h0, .inr (12, [.ref (r 0), .ref (r 1), .int 0, .int 0, .int 0, .int (-1), .int 0, .int 0, .int 0, .int 0, .long 0, .ref (r 11), .ref (r 12), .ref (r 13), .ref (r 14), .ref (r 15), .ref (r 16), .ref (r 17), .ref (r 18), .ref (r 19), .ref (r 20), .ref (r 21), .ref (r 22), .ref (r 23), .ref (r 24), .ref (r 25), .ref (r 26), .ref (r 27), .ref (r 28), .ref (r 29), .ref (r 30), .ref (r 31), .ref (r 32), .ref (r 33), .int 0, .int 0, .int 0, .int 0, .int 0, .int 0, .int 0, .ref (r 41), .ref (r 42), .ref (r 43), .ref (r 44), .int 0, .int 0, .int 0, .ref (r 48), .int 0, .int 0, .ref (r 51), .ref (r 52), .ref (r 53), .ref (r 54), .int 0, .ref (r 56), .ref (r 57), .ref (r 58), .int 0, .ref (r 60), .ref (r 61), .ref (r 62), .ref (r 63), .ref (r 64), .ref (r 65), .ref (r 66), .ref (r 67), .ref (r 68), .int 0, .int 0, .int 0, .ref (r 72), .ref (r 73)])), (r 13, .inl (cy 0, 2, .inl (fun _ => 0)))] U.heap ∧ EV dC dI cy U)) (vp_Si (fun r_ => r_ = (-1))) 0 0 (fun _ => False) := by
  refine Met.ofW (cc := cX12_odds) (maxL := 5) (ret := (some .int)) (by decide +kernel) rfl ?_
  intro p e s m args below meth c s₁ B hml hv
  obtain ⟨rfl, hP, hE⟩ := hv
  have hK := hE.1
  have hN := hE.2.1
  have hx := B.exec
  have hb := B.bytes
  have hr := B.returns
  have hts0 := atoms_spec (ws := wmX12_odds) B.pre
  have hts : ∀ w ∈ wsL_law, w.before _ s = true := fun w h => hts0 w (List.mem_cons_of_mem _ h)
  have hown : s.vm.findClass RX12 = some m.cls := findClass_of_methodNamed B.named
  have hlocks := B.notSynchronized
  have hl := lv_entry ([.ref h0, .int p0, .int p1]) (n := 5) (Nat.le_of_ble_eq_true rfl)
  rw [lg_entry_eq]
  generalize (lg_sl ([.ref h0, .int p0, .int p1]) ++ List.replicate (5 - (lg_sl ([.ref h0, .int p0, .int p1])).length) Slot.unset).toArray = ls at hl ⊢
  have hl : lv_has ls 5 [(0, .ref h0), (1, .int p0), (2, .int p1)] := hl
  refine lv_aload_n hx hb dX12_odds_0 rfl (lv_at hl 0 rfl) ?_
  refine lv_iload_n hx hb dX12_odds_1 rfl (lv_at hl 1 rfl) ?_
  have hPc := hP.sub (ws' := [(h0, .inr (12, [.ref (r 0), .ref (r 1), .int 0, .int 0, .int 0, .int (-1), .int 0, .int 0, .int 0, .int 0, .long 0, .ref (r 11), .ref (r 12), .ref (r 13), .ref (r 14), .ref (r 15), .ref (r 16), .ref (r 17), .ref (r 18), .ref (r 19), .ref (r 20), .ref (r 21), .ref (r 22), .ref (r 23), .ref (r 24), .ref (r 25), .ref (r 26), .ref (r 27), .ref (r 28), .ref (r 29), .ref (r 30), .ref (r 31), .ref (r 32), .ref (r 33), .int 0, .int 0, .int 0, .int 0, .int 0, .int 0, .int 0, .ref (r 41), .ref (r 42), .ref (r 43), .ref (r 44), .int 0, .int 0, .int 0, .ref (r 48), .int 0, .int 0, .ref (r 51), .ref (r 52), .ref (r 53), .ref (r 54), .int 0, .ref (r 56), .ref (r 57), .ref (r 58), .int 0, .ref (r 60), .ref (r 61), .ref (r 62), .ref (r 63), .ref (r 64), .ref (r 65), .ref (r 66), .ref (r 67), .ref (r 68), .int 0, .int 0, .int 0, .ref (r 72), .ref (r 73)])), (r 13, .inl (cy 0, 2, .inl (fun _ => 0)))]) [0, 1] rfl
  refine vp_callSi (W.runV (As := [.int p0]) (rest := []) ⟨hx, hb, hml, hown, hts⟩ (kX12_isSlip_1 l dC dI cy h0 r p0) (cwV 1 hts (gdV m_791 m_792 m_793 m_5 m_794) rfl rfl rfl (by decide +kernel) ⟨Nat.le_of_ble_eq_true rfl, Nat.le_of_ble_eq_true rfl⟩) ⟨fun a U g mk q => by obtain ⟨q0, qP, qE⟩ := q; exact ⟨q0, qP, qE.call⟩, va_recv hK hP (ci := 12) (q0 := 0) rfl rfl, fun U hU hW => ⟨rfl, by rw [hU]; exact hPc, hE.moved hW⟩⟩ rfl rfl hl.1 rfl (lv_room (Nat.le_of_ble_eq_true rfl)) dX12_odds_2 ⟨(show 0 + 0 ≤ 0 from by decide +kernel), (show 0 + 0 ≤ 0 from by decide +kernel)⟩) (fun r_1 hw => ?_)
  subst r_1
  refine lv_if_eq (tgt := 32) hx hb dX12_odds_5 (by decide) (fun _ => ?_) (fun c_ => absurd (by decide +kernel) c_)
  refine lv_iconst (v := (-1)) hx hb dX12_odds_32 (by decide +kernel) ?_
  exact W.iret (v := (-1)) hx hb hr (fun t ht hW => ⟨(-1), rfl, rfl, ht⟩) (fun _ h_ => (List.not_mem_nil h_).elim) dX12_odds_33
set_option maxHeartbeats 4000000 in
set_option maxRecDepth 100000 in
theorem kX11_layShortest_1 (l : Launch) (dC : Nat → ClassId) (dI : Nat → Nat → Nat) (cy : Nat → ClassId) (h0 h1 h2 h3 h4 h5 h6 h7 h8 h9 h10 : Nat) (sz : Nat) : Met l yX11_layShortest wmX11_layShortest ({ frames := 1, cells := 0, slots := 0, locals := 20 }) (va_Pc [.ref h0, .null, .null, .ref h1] (fun U => U.heap.size = sz ∧ va_P (dC, dI) classes [(h0, .inr (11, [.ref h2, .ref h3, .ref h4, .ref h5, .ref h6, .ref h7, .ref h8, .ref h1, .ref h9])), (h8, .inr (1, [.ref h10, .int 0]))] U.heap ∧ EV dC dI cy U ∧ va_D (fun _ => True) [(h0, .inr (11, [.ref h2, .ref h3, .ref h4, .ref h5, .ref h6, .ref h7, .ref h8, .ref h1, .ref h9])), (h8, .inr (1, [.ref h10, .int 0]))])) (va_Qi (S := Unit) (fun r_ _ => r_ = (-1)) (fun _ t => va_P (dC, dI) classes [(h0, .inr (11, [.ref h2, .ref h3, .ref h4, .ref h5, .ref h6, .ref h7, .ref h8, .ref h1, .ref h9])), (h8, .inr (1, [.ref h10, .int 0]))] t.heap ∧ va_D (va_A [(h0, .inr (11, [.ref h2, .ref h3, .ref h4, .ref h5, .ref h6, .ref h7, .ref h8, .ref h1, .ref h9])), (h8, .inr (1, [.ref h10, .int 0]))] sz) [(h0, .inr (11, [.ref h2, .ref h3, .ref h4, .ref h5, .ref h6, .ref h7, .ref h8, .ref h1, .ref h9])), (h8, .inr (1, [.ref h10, .int 0]))]) (va_A [(h0, .inr (11, [.ref h2, .ref h3, .ref h4, .ref h5, .ref h6, .ref h7, .ref h8, .ref h1, .ref h9])), (h8, .inr (1, [.ref h10, .int 0]))] sz)) 0 0 (va_A [(h0, .inr (11, [.ref h2, .ref h3, .ref h4, .ref h5, .ref h6, .ref h7, .ref h8, .ref h1, .ref h9])), (h8, .inr (1, [.ref h10, .int 0]))] sz) := by
  refine Met.ofW (cc := cX11_layShortest) (maxL := 4) (ret := (some .int)) (by decide +kernel) rfl ?_
  intro p e s m args below meth c s₁ B hml hv
  obtain ⟨rfl, hsz, hP, hE, hD0⟩ := hv
  have hK := hE.1
  have hN := hE.2.1
  have hx := B.exec
  have hb := B.bytes
  have hr := B.returns
  have hts0 := atoms_spec (ws := wmX11_layShortest) B.pre
  have hts : ∀ w ∈ wsL_law, w.before _ s = true := fun w h => hts0 w (List.mem_cons_of_mem _ h)
  have hown : s.vm.findClass RX11 = some m.cls := findClass_of_methodNamed B.named
  have hlocks := B.notSynchronized
  subst hsz
  have hD := hD0.self (sz := s.heap.size)
  generalize hAe : va_A [(h0, .inr (11, [.ref h2, .ref h3, .ref h4, .ref h5, .ref h6, .ref h7, .ref h8, .ref h1, .ref h9])), (h8, .inr (1, [.ref h10, .int 0]))] s.heap.size = A at hD ⊢
  have hA : ∀ q : Nat, s.heap.size ≤ q → A q := fun q h => by rw [← hAe]; exact Or.inr h
  have hS : va_S A s.heap s.heap [] := va_S.rf
  have hP : va_P (dC, dI) classes [(h0, .inr (11, [.ref h2, .ref h3, .ref h4, .ref h5, .ref h6, .ref h7, .ref h8, .ref h1, .ref h9])), (h8, .inr (1, [.ref h10, .int 0]))] s.heap := hP
  have hl := lv_entry ([.ref h0, .null, .null, .ref h1]) (n := 4) (Nat.le_of_ble_eq_true rfl)
  rw [lg_entry_eq]
  generalize (lg_sl ([.ref h0, .null, .null, .ref h1]) ++ List.replicate (4 - (lg_sl ([.ref h0, .null, .null, .ref h1])).length) Slot.unset).toArray = ls at hl ⊢
  have hl : lv_has ls 4 [(0, .ref h0), (1, .null), (2, .null), (3, .ref h1)] := hl
  refine lv_aload_n hx hb dX11_layShortest_0 rfl (lv_at hl 0 rfl) ?_
  refine va_get (D := (dC, dI)) (ci := 11) (v := .ref h8) (C := RX11) (T := TX11) (N := 9) hx hb hts inlX11 hown hK hP 0 rfl rfl 6 (by decide) (hts _ m_39) (fun _ h9 => h9) rfl dX11_layShortest_1 ?_
  have hPc := hP.sub (ws' := [(h8, .inr (1, [.ref h10, .int 0]))]) [1] rfl
  have hDc := hD.sub (ws' := [(h8, .inr (1, [.ref h10, .int 0]))]) [1] (by decide) rfl
  have hFc := va_free (wc := [(h8, .inr (1, [.ref h10, .int 0]))]) hD hS hA [1] rfl
  refine va_callv (va_runV (As := []) (rest := []) ⟨hx, hb, hml, hown, hts⟩ (kX1_clear_1 l dC dI cy h8 h10 s.heap.size) (cwV 0 hts (gdV m_563 m_326 m_327 m_38 m_328) rfl rfl rfl (by decide +kernel) ⟨Nat.le_of_ble_eq_true rfl, Nat.le_of_ble_eq_true rfl⟩) ⟨fun a U g mk q => by obtain ⟨q0, q1, qP, qE, qD⟩ := q; exact ⟨q0, q1, qP, qE.call, qD⟩, va_recv hK hP (ci := 1) (q0 := 1) rfl rfl, fun U hU hW => ⟨rfl, by rw [hU], by rw [hU]; exact hPc, hE.moved hW, hDc.weaken (fun _ _ _ _ => trivial)⟩⟩ rfl rfl hl.1 rfl (lv_room (Nat.le_of_ble_eq_true rfl)) dX11_layShortest_4 ⟨(show 0 + 0 ≤ 0 from by decide +kernel), (show 0 + 0 ≤ 0 from by decide +kernel)⟩) hS (fun q _ h => hFc q h) hFc (fun u t H1 locs ht hvm hw hB hz1 hk1 hS => ?_)
  obtain ⟨hP1, hD1⟩ := hB
  rw [ht] at hP1
  obtain ⟨hP, hD⟩ := va_join (wr := [(h0, .inr (11, [.ref h2, .ref h3, .ref h4, .ref h5, .ref h6, .ref h7, .ref h8, .ref h1, .ref h9]))]) (w1 := [(h8, .inr (1, [.ref h10, .int 0]))]) hP hD [1] [0] rfl rfl (by decide) (by decide) hk1 hFc hP1 hD1
  generalize H1 = H at hP hS ⊢
  have hP : va_P (dC, dI) classes [(h0, .inr (11, [.ref h2, .ref h3, .ref h4, .ref h5, .ref h6, .ref h7, .ref h8, .ref h1, .ref h9])), (h8, .inr (1, [.ref h10, .int 0]))] H := hP
  have hD : va_D A [(h0, .inr (11, [.ref h2, .ref h3, .ref h4, .ref h5, .ref h6, .ref h7, .ref h8, .ref h1, .ref h9])), (h8, .inr (1, [.ref h10, .int 0]))] := hD
  refine W.widen (k := 0) (n := 0) (by decide +kernel) (by decide +kernel) ?_
  refine lv_aload_nN hx hb dX11_layShortest_7 rfl (lv_at hl 1 rfl) ?_
  refine lv_ifnullN (tgt := 19) hx hb dX11_layShortest_8 (by decide) ?_
  refine lv_iconst (v := (-1)) hx hb dX11_layShortest_19 (by decide +kernel) ?_
  have hP9 := hP.sub (ws' := [(h0, .inr (11, [.ref h2, .ref h3, .ref h4, .ref h5, .ref h6, .ref h7, .ref h8, .ref h1, .ref h9])), (h8, .inr (1, [.ref h10, .int 0]))]) [0, 1] rfl
  have hD9 := hD.sub (ws' := [(h0, .inr (11, [.ref h2, .ref h3, .ref h4, .ref h5, .ref h6, .ref h7, .ref h8, .ref h1, .ref h9])), (h8, .inr (1, [.ref h10, .int 0]))]) [0, 1] (by decide) rfl
  exact W.iret (v := (-1)) hx hb hr (fun t ht hW => ⟨⟨(-1), (), rfl, rfl, by rw [ht]; exact hP9, hD9⟩, hS.F ht⟩) hS.2.2 dX11_layShortest_20
set_option maxHeartbeats 4000000 in
set_option maxRecDepth 100000 in
theorem kX11_source_1 (l : Launch) (dC : Nat → ClassId) (dI : Nat → Nat → Nat) (cy : Nat → ClassId) (h0 h1 h2 h3 h4 h5 h6 h7 h8 h9 h10 h11 h12 h13 h14 h15 h16 h17 : Nat) (p0 p1 : Int32) (sz : Nat) : Met l yX11_source wmX11_source ({ frames := 2, cells := 0, slots := 0, locals := 43 }) (va_Pc [.ref h0, .int p0, .int p1] (fun U => U.heap.size = sz ∧ va_P (dC, dI) classes [(h0, .inr (11, [.ref h1, .ref h2, .ref h3, .ref h4, .ref h5, .ref h6, .ref h7, .ref h8, .ref h9])), (h9, .inr (10, [.ref h10, .ref h11, .ref h12, .ref h13, .ref h14, .ref h15, .ref h16, .int 0, .int 0, .int 0, .int 0, .int 0])), (h7, .inr (1, [.ref h17, .int 0]))] U.heap ∧ EV dC dI cy U ∧ va_D (fun _ => True) [(h0, .inr (11, [.ref h1, .ref h2, .ref h3, .ref h4, .ref h5, .ref h6, .ref h7, .ref h8, .ref h9])), (h9, .inr (10, [.ref h10, .ref h11, .ref h12, .ref h13, .ref h14, .ref h15, .ref h16, .int 0, .int 0, .int 0, .int 0, .int 0])), (h7, .inr (1, [.ref h17, .int 0]))])) (va_Qi (S := Unit) (fun r_ _ => r_ = (-1)) (fun _ _ => True) (va_A [(h0, .inr (11, [.ref h1, .ref h2, .ref h3, .ref h4, .ref h5, .ref h6, .ref h7, .ref h8, .ref h9])), (h9, .inr (10, [.ref h10, .ref h11, .ref h12, .ref h13, .ref h14, .ref h15, .ref h16, .int 0, .int 0, .int 0, .int 0, .int 0])), (h7, .inr (1, [.ref h17, .int 0]))] sz)) 0 0 (va_A [(h0, .inr (11, [.ref h1, .ref h2, .ref h3, .ref h4, .ref h5, .ref h6, .ref h7, .ref h8, .ref h9])), (h9, .inr (10, [.ref h10, .ref h11, .ref h12, .ref h13, .ref h14, .ref h15, .ref h16, .int 0, .int 0, .int 0, .int 0, .int 0])), (h7, .inr (1, [.ref h17, .int 0]))] sz) := by
  refine Met.ofW (cc := cX11_source) (maxL := 3) (ret := (some .int)) (by decide +kernel) rfl ?_
  intro p e s m args below meth c s₁ B hml hv
  obtain ⟨rfl, hsz, hP, hE, hD0⟩ := hv
  have hK := hE.1
  have hN := hE.2.1
  have hx := B.exec
  have hb := B.bytes
  have hr := B.returns
  have hts0 := atoms_spec (ws := wmX11_source) B.pre
  have hts : ∀ w ∈ wsL_law, w.before _ s = true := fun w h => hts0 w (List.mem_cons_of_mem _ h)
  have hown : s.vm.findClass RX11 = some m.cls := findClass_of_methodNamed B.named
  have hlocks := B.notSynchronized
  subst hsz
  have hD := hD0.self (sz := s.heap.size)
  generalize hAe : va_A [(h0, .inr (11, [.ref h1, .ref h2, .ref h3, .ref h4, .ref h5, .ref h6, .ref h7, .ref h8, .ref h9])), (h9, .inr (10, [.ref h10, .ref h11, .ref h12, .ref h13, .ref h14, .ref h15, .ref h16, .int 0, .int 0, .int 0, .int 0, .int 0])), (h7, .inr (1, [.ref h17, .int 0]))] s.heap.size = A at hD ⊢
  have hA : ∀ q : Nat, s.heap.size ≤ q → A q := fun q h => by rw [← hAe]; exact Or.inr h
  have hS : va_S A s.heap s.heap [] := va_S.rf
  have hP : va_P (dC, dI) classes [(h0, .inr (11, [.ref h1, .ref h2, .ref h3, .ref h4, .ref h5, .ref h6, .ref h7, .ref h8, .ref h9])), (h9, .inr (10, [.ref h10, .ref h11, .ref h12, .ref h13, .ref h14, .ref h15, .ref h16, .int 0, .int 0, .int 0, .int 0, .int 0])), (h7, .inr (1, [.ref h17, .int 0]))] s.heap := hP
  have hl := lv_entry ([.ref h0, .int p0, .int p1]) (n := 3) (Nat.le_of_ble_eq_true rfl)
  rw [lg_entry_eq]
  generalize (lg_sl ([.ref h0, .int p0, .int p1]) ++ List.replicate (3 - (lg_sl ([.ref h0, .int p0, .int p1])).length) Slot.unset).toArray = ls at hl ⊢
  have hl : lv_has ls 3 [(0, .ref h0), (1, .int p0), (2, .int p1)] := hl
  refine lv_aload_n hx hb dX11_source_0 rfl (lv_at hl 0 rfl) ?_
  refine lv_aload_n hx hb dX11_source_1 rfl (lv_at hl 0 rfl) ?_
  refine lv_iload_n hx hb dX11_source_2 rfl (lv_at hl 1 rfl) ?_
  have hPc := hP.sub (ws' := [(h0, .inr (11, [.ref h1, .ref h2, .ref h3, .ref h4, .ref h5, .ref h6, .ref h7, .ref h8, .ref h9])), (h9, .inr (10, [.ref h10, .ref h11, .ref h12, .ref h13, .ref h14, .ref h15, .ref h16, .int 0, .int 0, .int 0, .int 0, .int 0]))]) [0, 1] rfl
  refine va_csq (W.runV (As := [.int p0]) (rest := [.ref h0]) ⟨hx, hb, hml, hown, hts⟩ (kX11_slipOf_1 l dC dI cy h0 h1 h2 h3 h4 h5 h6 h7 h8 h9 h10 h11 h12 h13 h14 h15 h16 p0) (cwV 1 hts (gdV m_782 m_783 m_784 m_2 m_785) rfl rfl rfl (by decide +kernel) ⟨Nat.le_of_ble_eq_true rfl, Nat.le_of_ble_eq_true rfl⟩) ⟨fun a U g mk q => by obtain ⟨q0, qP, qE⟩ := q; exact ⟨q0, qP, qE.call⟩, va_recv hK hP (ci := 11) (q0 := 0) rfl rfl, fun U hU hW => ⟨rfl, by rw [hU]; exact hPc, hE.moved hW⟩⟩ rfl rfl hl.1 rfl (lv_room (Nat.le_of_ble_eq_true rfl)) dX11_source_3 ⟨(show 0 + 0 ≤ 0 from by decide +kernel), (show 0 + 0 ≤ 0 from by decide +kernel)⟩) (fun r_1 hw => ?_)
  subst r_1
  refine W.eq (g2 := F0 m 6 ls [.null, .ref h0]) rfl ?_
  refine lv_aload_n hx hb dX11_source_6 rfl (lv_at hl 0 rfl) ?_
  refine lv_iload_n hx hb dX11_source_7 rfl (lv_at hl 2 rfl) ?_
  have hPc := hP.sub (ws' := [(h0, .inr (11, [.ref h1, .ref h2, .ref h3, .ref h4, .ref h5, .ref h6, .ref h7, .ref h8, .ref h9])), (h9, .inr (10, [.ref h10, .ref h11, .ref h12, .ref h13, .ref h14, .ref h15, .ref h16, .int 0, .int 0, .int 0, .int 0, .int 0]))]) [0, 1] rfl
  refine va_csq (W.runV (As := [.int p1]) (rest := [.null, .ref h0]) ⟨hx, hb, hml, hown, hts⟩ (kX11_slipOf_1 l dC dI cy h0 h1 h2 h3 h4 h5 h6 h7 h8 h9 h10 h11 h12 h13 h14 h15 h16 p1) (cwV 1 hts (gdV m_782 m_783 m_784 m_2 m_785) rfl rfl rfl (by decide +kernel) ⟨Nat.le_of_ble_eq_true rfl, Nat.le_of_ble_eq_true rfl⟩) ⟨fun a U g mk q => by obtain ⟨q0, qP, qE⟩ := q; exact ⟨q0, qP, qE.call⟩, va_recv hK hP (ci := 11) (q0 := 0) rfl rfl, fun U hU hW => ⟨rfl, by rw [hU]; exact hPc, hE.moved hW⟩⟩ rfl rfl hl.1 rfl (lv_room (Nat.le_of_ble_eq_true rfl)) dX11_source_8 ⟨(show 0 + 0 ≤ 0 from by decide +kernel), (show 0 + 0 ≤ 0 from by decide +kernel)⟩) (fun r_2 hw => ?_)
  subst r_2
  refine W.eq (g2 := F0 m 11 ls [.null, .null, .ref h0]) rfl ?_
  refine lv_aload_n hx hb dX11_source_11 rfl (lv_at hl 0 rfl) ?_
  refine va_get (D := (dC, dI)) (ci := 11) (v := .ref h8) (C := RX11) (T := TX11) (N := 9) hx hb hts inlX11 hown hK hP 0 rfl rfl 7 (by decide) (hts _ m_40) (fun _ h9 => h9) rfl dX11_source_12 ?_
  have hPc := hP.sub (ws' := [(h0, .inr (11, [.ref h1, .ref h2, .ref h3, .ref h4, .ref h5, .ref h6, .ref h7, .ref h8, .ref h9])), (h7, .inr (1, [.ref h17, .int 0]))]) [0, 2] rfl
  have hDc := hD.sub (ws' := [(h0, .inr (11, [.ref h1, .ref h2, .ref h3, .ref h4, .ref h5, .ref h6, .ref h7, .ref h8, .ref h9])), (h7, .inr (1, [.ref h17, .int 0]))]) [0, 2] (by decide) rfl
  have hFc := va_free (wc := [(h0, .inr (11, [.ref h1, .ref h2, .ref h3, .ref h4, .ref h5, .ref h6, .ref h7, .ref h8, .ref h9])), (h7, .inr (1, [.ref h17, .int 0]))]) hD hS hA [0, 2] rfl
  refine va_calli (va_runV (As := [.null, .null, .ref h8]) (rest := []) ⟨hx, hb, hml, hown, hts⟩ (kX11_layShortest_1 l dC dI cy h0 h8 h1 h2 h3 h4 h5 h6 h7 h9 h17 s.heap.size) (cwV 3 hts (gdV m_1155 m_1156 m_1157 m_2 m_1158) rfl rfl rfl (by decide +kernel) ⟨Nat.le_of_ble_eq_true rfl, Nat.le_of_ble_eq_true rfl⟩) ⟨fun a U g mk q => by obtain ⟨q0, q1, qP, qE, qD⟩ := q; exact ⟨q0, q1, qP, qE.call, qD⟩, va_recv hK hP (ci := 11) (q0 := 0) rfl rfl, fun U hU hW => ⟨rfl, by rw [hU], by rw [hU]; exact hPc, hE.moved hW, hDc.weaken (fun _ _ _ _ => trivial)⟩⟩ rfl rfl hl.1 rfl (lv_room (Nat.le_of_ble_eq_true rfl)) dX11_source_15 ⟨(show 0 + 0 ≤ 0 from by decide +kernel), (show 0 + 0 ≤ 0 from by decide +kernel)⟩) hS (fun q _ h => hFc q h) hFc (fun r_3 u t H1 locs ht hvm hw hB hz1 hk1 hS => ?_)
  obtain ⟨hP1, hD1⟩ := hB
  rw [ht] at hP1
  obtain ⟨hP, hD⟩ := va_join (wr := [(h9, .inr (10, [.ref h10, .ref h11, .ref h12, .ref h13, .ref h14, .ref h15, .ref h16, .int 0, .int 0, .int 0, .int 0, .int 0]))]) (w1 := [(h0, .inr (11, [.ref h1, .ref h2, .ref h3, .ref h4, .ref h5, .ref h6, .ref h7, .ref h8, .ref h9])), (h7, .inr (1, [.ref h17, .int 0]))]) hP hD [0, 2] [1] rfl rfl (by decide) (by decide) hk1 hFc hP1 hD1
  generalize H1 = H at hP hS ⊢
  have hP : va_P (dC, dI) classes [(h9, .inr (10, [.ref h10, .ref h11, .ref h12, .ref h13, .ref h14, .ref h15, .ref h16, .int 0, .int 0, .int 0, .int 0, .int 0])), (h0, .inr (11, [.ref h1, .ref h2, .ref h3, .ref h4, .ref h5, .ref h6, .ref h7, .ref h8, .ref h9])), (h7, .inr (1, [.ref h17, .int 0]))] H := hP
  have hD : va_D A [(h9, .inr (10, [.ref h10, .ref h11, .ref h12, .ref h13, .ref h14, .ref h15, .ref h16, .int 0, .int 0, .int 0, .int 0, .int 0])), (h0, .inr (11, [.ref h1, .ref h2, .ref h3, .ref h4, .ref h5, .ref h6, .ref h7, .ref h8, .ref h9])), (h7, .inr (1, [.ref h17, .int 0]))] := hD
  refine W.widen (k := 0) (n := 0) (by decide +kernel) (by decide +kernel) ?_
  subst r_3
  exact W.iret (v := (-1)) hx hb hr (fun t ht hW => ⟨⟨(-1), (), rfl, rfl, trivial⟩, hS.F ht⟩) hS.2.2 dX11_source_18
