theorem m_241 : Cond.fieldLink RX12 83 "LostWordsModel" "eWhat" "[I" ∈ wsL_law := in_wsL_law_r11 _ (List.mem_of_getElem? (i := 1) rfl)
theorem m_242 : Cond.fieldLink RX12 86 "LostWordsModel" "eSign" "[I" ∈ wsL_law := in_wsL_law_r11 _ (List.mem_of_getElem? (i := 2) rfl)
theorem m_272 : Cond.fieldLink RX12 268 "LostWordsModel" "codes" "I" ∈ wsL_law := in_wsL_law_r12 _ (List.mem_of_getElem? (i := 8) rfl)
theorem in_wsL_law_r31 : ∀ w ∈ wsL_law_r31, w ∈ wsL_law := fun w h => List.mem_append_left _ (List.mem_append_left _ (List.mem_append_left _ (List.mem_append_left _ (List.mem_append_left _ (List.mem_append_left _ (List.mem_append_left _ (List.mem_append_left _ (List.mem_append_left _ (List.mem_append_left _ (List.mem_append_left _ (List.mem_append_left _ (List.mem_append_left _ (List.mem_append_left _ (List.mem_append_right _ (List.mem_append_right _ (List.mem_append_right _ (List.mem_append_right _ (List.mem_append_right _ (List.mem_append_right _ (List.mem_append_right _ (List.mem_append_right _ (List.mem_append_right _ (List.mem_append_right _ (List.mem_append_right _ (List.mem_append_right _ (List.mem_append_right _ (List.mem_append_right _ (List.mem_append_right _ (List.mem_append_right _ (List.mem_append_right _ (List.mem_append_right _ (List.mem_append_right _ (List.mem_append_right _ (List.mem_append_right _ (List.mem_append_right _ (List.mem_append_right _ (List.mem_append_right _ (List.mem_append_right _ (List.mem_append_right _ (List.mem_append_right _ (List.mem_append_right _ (List.mem_append_right _ (List.mem_append_right _ (List.mem_append_left _ (h)))))))))))))))))))))))))))))))))))))))))))))
theorem m_724 : Cond.fieldLink RX12 317 "LostWordsModel" "piled" "I" ∈ wsL_law := in_wsL_law_r31 _ (List.mem_of_getElem? (i := 4) rfl)
theorem fl_X12_268 : fx_gl wsL_law nestW classes RX12 (268, 12, 36) := ⟨RX12, TX12, 74, rfl, by decide, inlX12, Or.inl m_272⟩
theorem pl_X12_268 : fx_pl wsL_law nestW classes RX12 (268, 12, 36, 0) := ⟨RX12, TX12, 74, tyX12, tyX12 36, rfl, by decide, inlX12, tyX12_ok, nmX12, rfl, tyX12_ok 36 (by decide), rfl, Or.inl m_272⟩
theorem fl_X12_83 : fx_gl wsL_law nestW classes RX12 (83, 12, 31) := ⟨RX12, TX12, 74, rfl, by decide, inlX12, Or.inl m_241⟩
theorem fl_X12_317 : fx_gl wsL_law nestW classes RX12 (317, 12, 38) := ⟨RX12, TX12, 74, rfl, by decide, inlX12, Or.inl m_724⟩
theorem fl_X12_86 : fx_gl wsL_law nestW classes RX12 (86, 12, 32) := ⟨RX12, TX12, 74, rfl, by decide, inlX12, Or.inl m_242⟩
theorem pl_X12_317 : fx_pl wsL_law nestW classes RX12 (317, 12, 38, 0) := ⟨RX12, TX12, 74, tyX12, tyX12 38, rfl, by decide, inlX12, tyX12_ok, nmX12, rfl, tyX12_ok 38 (by decide), rfl, Or.inl m_724⟩
theorem dX12_back_22 : decode cX12_back 22 = .ok (.iload_n 2, 1) := by decide +kernel
theorem dX12_back_23 : decode cX12_back 23 = .ok (.bipush 15, 2) := by decide +kernel
theorem dX12_back_25 : decode cX12_back 25 = .ok (.if_icmp .ge 26, 3) := by decide +kernel
theorem dX12_back_51 : decode cX12_back 51 = .ok (.aload_n 0, 1) := by decide +kernel
theorem dX12_back_52 : decode cX12_back 52 = .ok (.iconst 0, 1) := by decide +kernel
theorem dX12_back_53 : decode cX12_back 53 = .ok (.putfield 366, 3) := by decide +kernel
theorem dX12_back_56 : decode cX12_back 56 = .ok (.aload_n 0, 1) := by decide +kernel
theorem dX12_back_57 : decode cX12_back 57 = .ok (.iconst 0, 1) := by decide +kernel
theorem dX12_back_58 : decode cX12_back 58 = .ok (.putfield 369, 3) := by decide +kernel
theorem dX12_back_61 : decode cX12_back 61 = .ok (.aload_n 0, 1) := by decide +kernel
theorem dX12_back_62 : decode cX12_back 62 = .ok (.getfield 92, 3) := by decide +kernel
theorem dX12_back_65 : decode cX12_back 65 = .ok (.bipush 13, 2) := by decide +kernel
theorem dX12_back_67 : decode cX12_back 67 = .ok (.iaload, 1) := by decide +kernel
theorem dX12_back_68 : decode cX12_back 68 = .ok (.ireturn, 1) := by decide +kernel
theorem dX12_back_28 : decode cX12_back 28 = .ok (.aload_n 0, 1) := by decide +kernel
theorem dX12_back_29 : decode cX12_back 29 = .ok (.getfield 92, 3) := by decide +kernel
theorem dX12_back_32 : decode cX12_back 32 = .ok (.iload_n 2, 1) := by decide +kernel
theorem dX12_back_33 : decode cX12_back 33 = .ok (.aload_n 0, 1) := by decide +kernel
theorem dX12_back_34 : decode cX12_back 34 = .ok (.getfield 155, 3) := by decide +kernel
theorem dX12_back_37 : decode cX12_back 37 = .ok (.bipush 15, 2) := by decide +kernel
theorem dX12_back_39 : decode cX12_back 39 = .ok (.iload_n 1, 1) := by decide +kernel
theorem dX12_back_40 : decode cX12_back 40 = .ok (.imul, 1) := by decide +kernel
theorem dX12_back_41 : decode cX12_back 41 = .ok (.iload_n 2, 1) := by decide +kernel
theorem dX12_back_42 : decode cX12_back 42 = .ok (.iadd, 1) := by decide +kernel
theorem dX12_back_43 : decode cX12_back 43 = .ok (.iaload, 1) := by decide +kernel
theorem dX12_back_44 : decode cX12_back 44 = .ok (.iastore, 1) := by decide +kernel
theorem dX12_back_45 : decode cX12_back 45 = .ok (.iinc 2 1, 3) := by decide +kernel
theorem dX12_back_48 : decode cX12_back 48 = .ok (.goto (-26), 3) := by decide +kernel
theorem dX12_back_0 : decode cX12_back 0 = .ok (.iload_n 1, 1) := by decide +kernel
theorem dX12_back_1 : decode cX12_back 1 = .ok (.iconst 0, 1) := by decide +kernel
theorem dX12_back_2 : decode cX12_back 2 = .ok (.iconst 2, 1) := by decide +kernel
theorem dX12_back_3 : decode cX12_back 3 = .ok (.invokestatic 359, 3) := by decide +kernel
theorem dX12_back_6 : decode cX12_back 6 = .ok (.ifCond .eq 12, 3) := by decide +kernel
theorem dX12_back_18 : decode cX12_back 18 = .ok (.iconst (-1), 1) := by decide +kernel
theorem dX12_back_19 : decode cX12_back 19 = .ok (.ireturn, 1) := by decide +kernel
theorem dX12_back_9 : decode cX12_back 9 = .ok (.aload_n 0, 1) := by decide +kernel
theorem dX12_back_10 : decode cX12_back 10 = .ok (.getfield 158, 3) := by decide +kernel
theorem dX12_back_13 : decode cX12_back 13 = .ok (.iload_n 1, 1) := by decide +kernel
theorem dX12_back_14 : decode cX12_back 14 = .ok (.baload, 1) := by decide +kernel
theorem dX12_back_15 : decode cX12_back 15 = .ok (.ifCond .ne 5, 3) := by decide +kernel
theorem dX12_back_20 : decode cX12_back 20 = .ok (.iconst 0, 1) := by decide +kernel
theorem dX12_back_21 : decode cX12_back 21 = .ok (.istore_n 2, 1) := by decide +kernel
theorem dX12_emit_0 : decode cX12_emit 0 = .ok (.aload_n 0, 1) := by decide +kernel
theorem dX12_emit_1 : decode cX12_emit 1 = .ok (.getfield 77, 3) := by decide +kernel
theorem dX12_emit_4 : decode cX12_emit 4 = .ok (.aload_n 0, 1) := by decide +kernel
theorem dX12_emit_5 : decode cX12_emit 5 = .ok (.getfield 268, 3) := by decide +kernel
theorem dX12_emit_8 : decode cX12_emit 8 = .ok (.iload_n 1, 1) := by decide +kernel
theorem dX12_emit_9 : decode cX12_emit 9 = .ok (.iastore, 1) := by decide +kernel
theorem dX12_emit_10 : decode cX12_emit 10 = .ok (.aload_n 0, 1) := by decide +kernel
theorem dX12_emit_11 : decode cX12_emit 11 = .ok (.getfield 80, 3) := by decide +kernel
theorem dX12_emit_14 : decode cX12_emit 14 = .ok (.aload_n 0, 1) := by decide +kernel
theorem dX12_emit_15 : decode cX12_emit 15 = .ok (.getfield 268, 3) := by decide +kernel
theorem dX12_emit_18 : decode cX12_emit 18 = .ok (.iload_n 2, 1) := by decide +kernel
theorem dX12_emit_19 : decode cX12_emit 19 = .ok (.iastore, 1) := by decide +kernel
theorem dX12_emit_20 : decode cX12_emit 20 = .ok (.aload_n 0, 1) := by decide +kernel
theorem dX12_emit_21 : decode cX12_emit 21 = .ok (.dup, 1) := by decide +kernel
theorem dX12_emit_22 : decode cX12_emit 22 = .ok (.getfield 268, 3) := by decide +kernel
theorem dX12_emit_25 : decode cX12_emit 25 = .ok (.iconst 1, 1) := by decide +kernel
theorem dX12_emit_26 : decode cX12_emit 26 = .ok (.iadd, 1) := by decide +kernel
theorem dX12_emit_27 : decode cX12_emit 27 = .ok (.putfield 268, 3) := by decide +kernel
theorem dX12_emit_30 : decode cX12_emit 30 = .ok (.return_, 1) := by decide +kernel
theorem dX12_pushE_0 : decode cX12_pushE 0 = .ok (.aload_n 0, 1) := by decide +kernel
theorem dX12_pushE_1 : decode cX12_pushE 1 = .ok (.getfield 83, 3) := by decide +kernel
theorem dX12_pushE_4 : decode cX12_pushE 4 = .ok (.aload_n 0, 1) := by decide +kernel
theorem dX12_pushE_5 : decode cX12_pushE 5 = .ok (.getfield 317, 3) := by decide +kernel
theorem dX12_pushE_8 : decode cX12_pushE 8 = .ok (.iload_n 1, 1) := by decide +kernel
theorem dX12_pushE_9 : decode cX12_pushE 9 = .ok (.iastore, 1) := by decide +kernel
theorem dX12_pushE_10 : decode cX12_pushE 10 = .ok (.aload_n 0, 1) := by decide +kernel
theorem dX12_pushE_11 : decode cX12_pushE 11 = .ok (.getfield 86, 3) := by decide +kernel
theorem dX12_pushE_14 : decode cX12_pushE 14 = .ok (.aload_n 0, 1) := by decide +kernel
theorem dX12_pushE_15 : decode cX12_pushE 15 = .ok (.getfield 317, 3) := by decide +kernel
theorem dX12_pushE_18 : decode cX12_pushE 18 = .ok (.iload_n 2, 1) := by decide +kernel
theorem dX12_pushE_19 : decode cX12_pushE 19 = .ok (.iastore, 1) := by decide +kernel
theorem dX12_pushE_20 : decode cX12_pushE 20 = .ok (.aload_n 0, 1) := by decide +kernel
theorem dX12_pushE_21 : decode cX12_pushE 21 = .ok (.dup, 1) := by decide +kernel
theorem dX12_pushE_22 : decode cX12_pushE 22 = .ok (.getfield 317, 3) := by decide +kernel
theorem dX12_pushE_25 : decode cX12_pushE 25 = .ok (.iconst 1, 1) := by decide +kernel
theorem dX12_pushE_26 : decode cX12_pushE 26 = .ok (.iadd, 1) := by decide +kernel
theorem dX12_pushE_27 : decode cX12_pushE 27 = .ok (.putfield 317, 3) := by decide +kernel
theorem dX12_pushE_30 : decode cX12_pushE 30 = .ok (.return_, 1) := by decide +kernel
theorem dX12_isCompared_7 : decode cX12_isCompared 7 = .ok (.aload_n 0, 1) := by decide +kernel
theorem dX12_isCompared_8 : decode cX12_isCompared 8 = .ok (.getfield 83, 3) := by decide +kernel
theorem dX12_isCompared_11 : decode cX12_isCompared 11 = .ok (.iload_n 1, 1) := by decide +kernel
theorem dX12_isCompared_12 : decode cX12_isCompared 12 = .ok (.iaload, 1) := by decide +kernel
theorem dX12_isCompared_13 : decode cX12_isCompared 13 = .ok (.iconst 5, 1) := by decide +kernel
theorem dX12_isCompared_14 : decode cX12_isCompared 14 = .ok (.if_icmp .eq 14, 3) := by decide +kernel
theorem dX12_isCompared_28 : decode cX12_isCompared 28 = .ok (.iinc 1 (-1), 3) := by decide +kernel
theorem dX12_isCompared_31 : decode cX12_isCompared 31 = .ok (.goto (-24), 3) := by decide +kernel
theorem dX12_isCompared_17 : decode cX12_isCompared 17 = .ok (.aload_n 0, 1) := by decide +kernel
theorem dX12_isCompared_18 : decode cX12_isCompared 18 = .ok (.getfield 83, 3) := by decide +kernel
theorem dX12_isCompared_21 : decode cX12_isCompared 21 = .ok (.iload_n 1, 1) := by decide +kernel
theorem dX12_isCompared_22 : decode cX12_isCompared 22 = .ok (.iaload, 1) := by decide +kernel
theorem dX12_isCompared_23 : decode cX12_isCompared 23 = .ok (.bipush 6, 2) := by decide +kernel
theorem dX12_isCompared_25 : decode cX12_isCompared 25 = .ok (.if_icmp .ne 9, 3) := by decide +kernel
theorem dX12_isCompared_34 : decode cX12_isCompared 34 = .ok (.aload_n 0, 1) := by decide +kernel
theorem dX12_isCompared_35 : decode cX12_isCompared 35 = .ok (.getfield 83, 3) := by decide +kernel
theorem dX12_isCompared_38 : decode cX12_isCompared 38 = .ok (.iload_n 1, 1) := by decide +kernel
theorem dX12_isCompared_39 : decode cX12_isCompared 39 = .ok (.iaload, 1) := by decide +kernel
theorem dX12_isCompared_40 : decode cX12_isCompared 40 = .ok (.iconst 4, 1) := by decide +kernel
theorem dX12_isCompared_41 : decode cX12_isCompared 41 = .ok (.if_icmp .ne 7, 3) := by decide +kernel
theorem dX12_isCompared_48 : decode cX12_isCompared 48 = .ok (.iconst 0, 1) := by decide +kernel
theorem dX12_isCompared_49 : decode cX12_isCompared 49 = .ok (.ireturn, 1) := by decide +kernel
theorem dX12_isCompared_44 : decode cX12_isCompared 44 = .ok (.iconst 1, 1) := by decide +kernel
theorem dX12_isCompared_45 : decode cX12_isCompared 45 = .ok (.goto 4, 3) := by decide +kernel
theorem dX12_isCompared_0 : decode cX12_isCompared 0 = .ok (.aload_n 0, 1) := by decide +kernel
theorem dX12_isCompared_1 : decode cX12_isCompared 1 = .ok (.getfield 317, 3) := by decide +kernel
theorem dX12_isCompared_4 : decode cX12_isCompared 4 = .ok (.iconst 1, 1) := by decide +kernel
theorem dX12_isCompared_5 : decode cX12_isCompared 5 = .ok (.isub, 1) := by decide +kernel
theorem dX12_isCompared_6 : decode cX12_isCompared 6 = .ok (.istore_n 1, 1) := by decide +kernel
section HW6
variable {l : Launch} {E : (Nat → Prop) → State → Prop} {ad : List Nat} {D : va_G} {cy : Nat → ClassId} {A : Nat → Prop} {H0 : Heap} {p : Program} {e : Env} {R : Room} {s : State} {m : MethodId} {args : Array Value} {below : List Frame} {meth : Method} {c : Code} {Q : State → Prop} {cc : ByteArray} {nL : Nat} {own : String} {pc pc' : Nat} {lv lv' : List (Nat × Value)} {st : List Value} {ws : va_W}
theorem hr_zld (C : hC l E ad D cy A H0 p e R s m args below meth c Q cc nL own) {g a n : Nat} {z : Int} (ha : ad[g]? = some a) (hT : TM[g]? = some (.inr (3, n, [.inl (0, 1)]))) (h0 : 0 ≤ z) (h1 : z < n) (hn : n ≤ 100000) (hdg : decode cc pc = .ok (.baload, 1)) (hp : pc + 1 = pc') (kk : 0 ≤ vi ws g z.toNat → vi ws g z.toNat ≤ 1 → HW l E ad D cy A H0 p e R s m args below meth c Q cc nL own pc' lv (zv (vi ws g z.toNat) :: st) ws) : HW l E ad D cy A H0 p e R s m args below meth c Q cc nL own pc lv (zv z :: .ref a :: st) ws := fun H locs ls hl hh => by
  subst hp
  obtain ⟨x, g1, ⟨f, rfl⟩, g3, -⟩ := tm_arr hh.1 ha hT
  have hK := (C.2.2.2.2.2.1.1 _ _ C.2.2.2.2.2.2.1)
  have en := zv_n h0 (show z ≤ 2147483647 by omega)
  have e : vi ws g z.toNat = (f z.toNat).toInt := vi_a g1
  obtain ⟨y, y1, y2, y3⟩ := g3 z.toNat (.inl (0, 1)) (by omega) (by rw [show z.toNat % ([(.inl (0, 1) : fx_T)]).length = 0 from Nat.mod_one _]; rfl)
  cases y1
  have kk' := kk (by rw [e]; exact y2) (by rw [e]; exact y3)
  rw [e, ← zv_of] at kk'
  refine va_zald C.1 C.2.1 hK.1 hh.2.1 g 3 g1 (ht_tys cy).2.2.2.1 (vp_in_iff.mpr ⟨by rw [zv_i ⟨by omega, by omega⟩]; omega, by rw [zv_i ⟨by omega, by omega⟩]; omega⟩) hdg ?_
  rw [en]
  exact kk' H locs ls hl hh
theorem hr_zst (C : hC l E ad D cy A H0 p e R s m args below meth c Q cc nL own) {g a n : Nat} {z y : Int} (ha : ad[g]? = some a) (hT : TM[g]? = some (.inr (3, n, [.inl (0, 1)]))) (h0 : 0 ≤ z) (h1 : z < n) (hn : n ≤ 100000) (hy : y = 0 ∨ y = 1) (hdg : decode cc pc = .ok (.bastore, 1)) (hp : pc + 1 = pc') (kk : ∀ ws', fx_wo (gsM, TM, cy, fun _ => True) ad ws' → fx_sm (gsM, TM, cy, fun _ => True) [(1000, g)] ws ws' → (∀ g' j, vi ws' g' j = if g' = g ∧ j = z.toNat then y else vi ws g' j) → HW l E ad D cy A H0 p e R s m args below meth c Q cc nL own pc' lv st ws') : HW l E ad D cy A H0 p e R s m args below meth c Q cc nL own pc lv (zv y :: zv z :: .ref a :: st) ws := fun H locs ls hl hh => by
  subst hp
  obtain ⟨x, g1, ⟨f, rfl⟩, g3, g4⟩ := tm_arr hh.1 ha hT
  have hK := (C.2.2.2.2.2.1.1 _ _ C.2.2.2.2.2.2.1)
  have en := zv_n h0 (show z ≤ 2147483647 by omega)
  have hr : rg y := by rcases hy with rfl | rfl <;> exact ⟨by omega, by omega⟩
  have enr : vp_nar .boolean (Int32.ofInt y) = Int32.ofInt y := by rcases hy with rfl | rfl <;> decide +kernel
  refine va_zast C.1 C.2.1 hK.1 hh.2.1 hh.2.2.1 hh.2.2.2 g 3 g1 (ht_tys cy).2.2.2.1 (vp_in_iff.mpr ⟨by rw [zv_i ⟨by omega, by omega⟩]; omega, by rw [zv_i ⟨by omega, by omega⟩]; omega⟩) hdg ?_
  rw [en, enr]
  intro H1 locs1 hP1 hD1 hS1
  have hwo : fx_wo (gsM, TM, cy, fun _ => True) ad (ws.set g (a, .inl (cy 3, n, .inl (upd f z.toNat (Int32.ofInt y))))) := by
    refine fx_wo_set hh.1 g1 g4 hT ⟨rfl, rfl, ⟨_, rfl⟩, fun j t hj ht => ?_⟩
    by_cases e : j = z.toNat
    · subst e
      rw [show z.toNat % ([(.inl (0, 1) : fx_T)]).length = 0 from Nat.mod_one _] at ht
      simp only [List.getElem?_cons_zero, Option.some.injEq] at ht
      subst ht
      refine ⟨Int32.ofInt y, ?_, by rw [zv_i hr]; simp only []; omega, by rw [zv_i hr]; simp only []; omega⟩
      simp only [fx_el, upd, if_true]
    · have := g3 j t hj ht
      simp only [fx_el, upd, e, if_false] at this ⊢
      exact this
  exact kk _ hwo (fx_sm_arr fx_sm_refl g1 g4 (List.mem_singleton.mpr rfl)) (vi_seta hr g1) H1 locs1 ls hl ⟨hwo, hP1, hD1, hS1⟩
end HW6

set_option maxRecDepth 100000 in
set_option maxHeartbeats 4000000 in
theorem h_back {l : Launch} {E : (Nat → Prop) → State → Prop} {ad : List Nat} {D : va_G} {cy : Nat → ClassId} (h : fx_env E D classes (tys cy) nestW) (r : Nat) (v : Int) (hr0 : ad[0]? = some r) (hv : rg v) : hM l yX12_back cX12_back 3 (some .int) ({ frames := 1, cells := 0, slots := 0, locals := 22 }) E ad D cy (fun av ws => av = [.ref r, zv v] ∧ True) (fun _ ws rv ws1 => fx_sm (gsM, TM, cy, fun _ => True) [(12, 49), (12, 50), (1000, 26)] ws ws1 ∧ (∃ z, rv = some (zv z)) ∧ ((vi ws1 0 49 = 0 ∧ vi ws1 0 50 = 0) ∨ (vi ws1 0 49 = vi ws 0 49 ∧ vi ws1 0 50 = vi ws 0 50))) := by
  refine hM_of h (by decide) ?_
  intro av ws p e s m below meth c hwo hnd hpre hlocks hr C
  obtain ⟨rfl, hpre⟩ := hpre
  refine ⟨Nat.le_of_ble_eq_true rfl, ?_⟩
  simp only [rg] at hv
  refine hr_pick (lv' := [(0, .ref r), (1, zv v)]) [0, 1] rfl ?_
  have loop : 0 ≤ v → v ≤ 2 → ∀ (q : Nat) (k : Int) (w : va_W), (15 - k).toNat < q → fx_wo (gsM, TM, cy, fun _ => True) ad w → 0 ≤ k → k ≤ 15 → fx_sm (gsM, TM, cy, fun _ => True) [(12, 49), (12, 50), (1000, 26)] ws w → HW l E ad D cy (va_A ws s.heap.size) s.heap p e ({ frames := 1, cells := 0, slots := 0, locals := 22 }) s m ([.ref r, zv v]).toArray below meth c (MQ below (hQ ad D cy (fun _ ws rv ws1 => fx_sm (gsM, TM, cy, fun _ => True) [(12, 49), (12, 50), (1000, 26)] ws ws1 ∧ (∃ z, rv = some (zv z)) ∧ ((vi ws1 0 49 = 0 ∧ vi ws1 0 50 = 0) ∨ (vi ws1 0 49 = vi ws 0 49 ∧ vi ws1 0 50 = vi ws 0 50))) ([.ref r, zv v]) ws s.heap.size) ([.ref r, zv v]).toArray s 0 0 (va_A ws s.heap.size)) cX12_back 3 yX12_back.cls 22 [(0, .ref r), (1, zv v), (2, zv k)] [] w := by
    intro hv0 hv1 q
    induction q with
    | zero => intro k w hq; omega
    | succ q ih =>
      intro k w hq how h0 h1 sm
      refine hr_iln C 2 dX12_back_22 rfl rfl rfl ?_
      refine hr_bi C dX12_back_23 (by decide +kernel) rfl ?_
      refine hr_cmp C 51 dX12_back_25 (by decide) ⟨by omega, by omega⟩ ⟨by omega, by omega⟩ rfl (fun c1 => ?_) (fun c1 => ?_)
      · have c1 : (15 : Int) ≤ k := c1
        refine hr_aln C 0 dX12_back_51 rfl rfl rfl ?_
        refine hr_ic C dX12_back_52 rfl ?_
        refine hr_pI (lo := 0) (hi := 40) C hr0 TM0 rfl ⟨by decide, by decide⟩ pl_X12_366 dX12_back_53 (by omega) (by omega) rfl (fun w2 o3 s4 e5 => ?_)
        refine hr_aln C 0 dX12_back_56 rfl rfl rfl ?_
        refine hr_ic C dX12_back_57 rfl ?_
        refine hr_pI (lo := 0) (hi := 40) C hr0 TM0 rfl ⟨by decide, by decide⟩ pl_X12_369 dX12_back_58 (by omega) (by omega) rfl (fun w6 o7 s8 e9 => ?_)
        refine hr_aln C 0 dX12_back_61 rfl rfl rfl ?_
        refine hr_gA (g := 26) C hr0 TM0 rfl (by decide) fl_X12_92 dX12_back_62 rfl (fun a10 ha11 => ?_)
        refine hr_bi C dX12_back_65 (by decide +kernel) rfl ?_
        refine hr_ald C ha11 TMa_26 (by omega) (by omega) (by decide) dX12_back_67 rfl (fun b12 b13 => ?_)
        have b12 := b12 (-2147483648) (2147483647) (by decide +kernel)
        have q14 : vi w6 26 (Int.toNat (13)) = vi w 26 13 := by show vi w6 26 13 = _; rw [e9, if_neg (by omega)]; rw [e5, if_neg (by omega)]
        rw [q14] at b12 b13 ⊢
        simp only [rg] at b13
        exact hr_iret C hlocks hr dX12_back_68 ⟨(fx_sm_tr (fx_sm_tr sm s4 (by decide)) s8 (by decide)), ⟨_, rfl⟩, Or.inl ⟨by rw [e9, if_neg (by omega)]; rw [e5, if_pos ⟨rfl, rfl⟩], by rw [e9, if_pos ⟨rfl, rfl⟩]⟩⟩
      · have c1 : (k : Int) < 15 := c1
        refine hr_aln C 0 dX12_back_28 rfl rfl rfl ?_
        refine hr_gA (g := 26) C hr0 TM0 rfl (by decide) fl_X12_92 dX12_back_29 rfl (fun a15 ha16 => ?_)
        refine hr_iln C 2 dX12_back_32 rfl rfl rfl ?_
        refine hr_aln C 0 dX12_back_33 rfl rfl rfl ?_
        refine hr_gA (g := 47) C hr0 TM0 rfl (by decide) fl_X12_155 dX12_back_34 rfl (fun a17 ha18 => ?_)
        refine hr_bi C dX12_back_37 (by decide +kernel) rfl ?_
        refine hr_iln C 1 dX12_back_39 rfl rfl rfl ?_
        refine hr_mul C dX12_back_40 rfl ?_
        refine hr_iln C 2 dX12_back_41 rfl rfl rfl ?_
        refine hr_add C dX12_back_42 rfl ?_
        refine hr_ald C ha18 TMa_47 (by omega) (by omega) (by decide) dX12_back_43 rfl (fun b19 b20 => ?_)
        simp only [rg] at b20
        refine hr_ast C ha16 TMa_26 (by omega) (by omega) (by decide) ⟨by omega, by omega⟩ (hpp (by decide) b19 (by show Int.toNat _ % 15 = Int.toNat _ % 15; omega)) dX12_back_44 rfl (fun w21 o22 s23 e24 => ?_)
        refine hr_inc (lv' := [(2, zv (k + 1)), (0, .ref r), (1, zv (v))]) C 2 dX12_back_45 rfl (by decide) rfl rfl ?_
        refine hr_goto C 22 dX12_back_48 (by decide) ?_
        refine hr_pick (lv' := [(0, .ref r), (1, zv (v)), (2, zv (k + 1))]) [1, 2, 0] rfl ?_
        exact ih _ _ (by omega) o22 (by omega) (by omega) (fx_sm_tr sm s23 (by decide))
  refine hr_iln C 1 dX12_back_0 rfl rfl rfl ?_
  refine hr_ic C dX12_back_1 rfl ?_
  refine hr_ic C dX12_back_2 rfl ?_
  refine hr_cS (As := [zv (v), zv (0), zv (2)]) (rest := []) C (h_isIn h (v) (0) (2) ⟨by omega, by omega⟩ ⟨by omega, by omega⟩ ⟨by omega, by omega⟩) ⟨by decide, by decide⟩ iS_X12_isIn g_X12_359 dX12_back_3 rfl rfl (Nat.le_of_ble_eq_true rfl) rfl ⟨rfl, trivial⟩ (fun w1 rv o2 q3 => ?_)
  obtain ⟨rfl, rfl⟩ := q3
  obtain ⟨t4, et5⟩ : ∃ t, t = (if 0 ≤ v ∧ v ≤ 2 then 1 else 0 : Int) := ⟨_, rfl⟩
  rw [← et5]
  have e6 : (t4 = 1 ∧ (0 ≤ v ∧ v ≤ 2)) ∨ (t4 = 0 ∧ ¬ (0 ≤ v ∧ v ≤ 2)) := by rw [et5]; split <;> simp_all
  clear et5
  refine hr_norm (st' := [zv (t4)]) rfl ?_
  refine hr_if C 18 dX12_back_6 (by decide) ⟨by omega, by omega⟩ rfl (fun c7 => ?_) (fun c7 => ?_)
  · have c7 : (t4 : Int) = 0 := c7
    refine hr_ic C dX12_back_18 rfl ?_
    exact hr_iret C hlocks hr dX12_back_19 ⟨fx_sm_refl, ⟨_, rfl⟩, Or.inr ⟨rfl, rfl⟩⟩
  · have c7 : ¬ (t4 : Int) = 0 := c7
    refine hr_aln C 0 dX12_back_9 rfl rfl rfl ?_
    refine hr_gA (g := 48) C hr0 TM0 rfl (by decide) fl_X12_158 dX12_back_10 rfl (fun a8 ha9 => ?_)
    refine hr_iln C 1 dX12_back_13 rfl rfl rfl ?_
    refine hr_zld C ha9 TMa_48 (by omega) (by omega) (by decide) dX12_back_14 rfl (fun b10 b11 => ?_)
    refine hr_if C 20 dX12_back_15 (by decide) ⟨by omega, by omega⟩ rfl (fun c12 => ?_) (fun c12 => ?_)
    · have c12 : ¬ (vi ws 48 (Int.toNat (v)) : Int) = 0 := c12
      refine hr_ic C dX12_back_20 rfl ?_
      refine hr_isn (lv' := [(2, zv (0)), (0, .ref r), (1, zv (v))]) C dX12_back_21 rfl (by decide) rfl rfl ?_
      refine hr_pick (lv' := [(0, .ref r), (1, zv (v)), (2, zv (0))]) [1, 2, 0] rfl ?_
      exact loop (by omega) (by omega) _ _ _ (Nat.lt_succ_self _) hwo (by omega) (by omega) fx_sm_refl
    · have c12 : (vi ws 48 (Int.toNat (v)) : Int) = 0 := c12
      refine hr_ic C dX12_back_18 rfl ?_
      exact hr_iret C hlocks hr dX12_back_19 ⟨fx_sm_refl, ⟨_, rfl⟩, Or.inr ⟨rfl, rfl⟩⟩
set_option maxRecDepth 100000 in
set_option maxHeartbeats 4000000 in
theorem h_emit {l : Launch} {E : (Nat → Prop) → State → Prop} {ad : List Nat} {D : va_G} {cy : Nat → ClassId} (h : fx_env E D classes (tys cy) nestW) (r : Nat) (c0 n0 : Int) (hr0 : ad[0]? = some r) (hc : rg c0) (hn : rg n0) : hM l yX12_emit cX12_emit 3 none ({ frames := 0, cells := 0, slots := 0, locals := 0 }) E ad D cy (fun av ws => av = [.ref r, zv c0, zv n0] ∧ vi ws 0 36 < 1120) (fun _ ws rv ws1 => fx_sm (gsM, TM, cy, fun _ => True) [(12, 36), (1000, 21), (1000, 22)] ws ws1 ∧ rv = none ∧ vi ws1 0 36 = vi ws 0 36 + 1 ∧ ∀ j : Nat, vi ws1 21 j = if j = Int.toNat (vi ws 0 36) then c0 else vi ws 21 j) := by
  refine hM_of h (by decide) ?_
  intro av ws p e s m below meth c hwo hnd hpre hlocks hr C
  obtain ⟨rfl, hpre⟩ := hpre
  refine ⟨Nat.le_of_ble_eq_true rfl, ?_⟩
  simp only [rg] at hc hn
  refine hr_pick (lv' := [(0, .ref r), (1, zv c0), (2, zv n0)]) [0, 1, 2] rfl ?_
  refine hr_aln C 0 dX12_emit_0 rfl rfl rfl ?_
  refine hr_gA (g := 21) C hr0 TM0 rfl (by decide) fl_X12_77 dX12_emit_1 rfl (fun a1 ha2 => ?_)
  refine hr_aln C 0 dX12_emit_4 rfl rfl rfl ?_
  refine hr_gI (lo := 0) (hi := 1120) C hr0 TM0 rfl fl_X12_268 dX12_emit_5 rfl (fun b3 b4 => ?_)
  refine hr_iln C 1 dX12_emit_8 rfl rfl rfl ?_
  refine hr_ast C ha2 TMa_21 (by omega) (by omega) (by decide) ⟨by omega, by omega⟩ (hp1 (by omega) (by omega)) dX12_emit_9 rfl (fun w5 o6 s7 e8 => ?_)
  refine hr_aln C 0 dX12_emit_10 rfl rfl rfl ?_
  refine hr_gA (g := 22) C hr0 TM0 rfl (by decide) fl_X12_80 dX12_emit_11 rfl (fun a9 ha10 => ?_)
  refine hr_aln C 0 dX12_emit_14 rfl rfl rfl ?_
  refine hr_gI (lo := 0) (hi := 1120) C hr0 TM0 rfl fl_X12_268 dX12_emit_15 rfl (fun b11 b12 => ?_)
  have q13 : vi w5 0 36 = vi ws 0 36 := by rw [e8, if_neg (by omega)]
  rw [q13] at b11 b12 ⊢
  refine hr_iln C 2 dX12_emit_18 rfl rfl rfl ?_
  refine hr_ast C ha10 TMa_22 (by omega) (by omega) (by decide) ⟨by omega, by omega⟩ (hp1 (by omega) (by omega)) dX12_emit_19 rfl (fun w14 o15 s16 e17 => ?_)
  refine hr_aln C 0 dX12_emit_20 rfl rfl rfl ?_
  refine hr_dup C dX12_emit_21 rfl rfl ?_
  refine hr_gI (lo := 0) (hi := 1120) C hr0 TM0 rfl fl_X12_268 dX12_emit_22 rfl (fun b18 b19 => ?_)
  have q20 : vi w14 0 36 = vi ws 0 36 := by rw [e17, if_neg (by omega)]; rw [e8, if_neg (by omega)]
  rw [q20] at b18 b19 ⊢
  refine hr_ic C dX12_emit_25 rfl ?_
  refine hr_add C dX12_emit_26 rfl ?_
  refine hr_pI (lo := 0) (hi := 1120) C hr0 TM0 rfl ⟨by decide, by decide⟩ pl_X12_268 dX12_emit_27 (by omega) (by omega) rfl (fun w21 o22 s23 e24 => ?_)
  have kj : ∀ j : Nat, vi w21 21 j = if j = Int.toNat (vi ws 0 36) then c0 else vi ws 21 j := by
    intro j
    rw [e24, if_neg (by omega), e17, if_neg (by omega), e8]
    by_cases ej : j = Int.toNat (vi ws 0 36)
    · rw [if_pos ⟨rfl, ej⟩, if_pos ej]
    · rw [if_neg (fun q => ej q.2), if_neg ej]
  exact hr_vret C hlocks hr dX12_emit_30 ⟨(fx_sm_tr (fx_sm_tr (fx_sm_tr fx_sm_refl s7 (by decide)) s16 (by decide)) s23 (by decide)), rfl, by rw [e24, if_pos ⟨rfl, rfl⟩], kj⟩
set_option maxRecDepth 100000 in
set_option maxHeartbeats 4000000 in
theorem h_pushE {l : Launch} {E : (Nat → Prop) → State → Prop} {ad : List Nat} {D : va_G} {cy : Nat → ClassId} (h : fx_env E D classes (tys cy) nestW) (r : Nat) (c0 n0 : Int) (hr0 : ad[0]? = some r) (hc : rg c0) (hn : rg n0) : hM l yX12_pushE cX12_pushE 3 none ({ frames := 0, cells := 0, slots := 0, locals := 0 }) E ad D cy (fun av ws => av = [.ref r, zv c0, zv n0] ∧ vi ws 0 38 < 90) (fun _ ws rv ws1 => fx_sm (gsM, TM, cy, fun _ => True) [(12, 38), (1000, 23), (1000, 24)] ws ws1 ∧ rv = none ∧ vi ws1 0 38 = vi ws 0 38 + 1 ∧ (∀ j : Nat, vi ws1 23 j = if j = Int.toNat (vi ws 0 38) then c0 else vi ws 23 j) ∧ ∀ j : Nat, vi ws1 24 j = if j = Int.toNat (vi ws 0 38) then n0 else vi ws 24 j) := by
  refine hM_of h (by decide) ?_
  intro av ws p e s m below meth c hwo hnd hpre hlocks hr C
  obtain ⟨rfl, hpre⟩ := hpre
  refine ⟨Nat.le_of_ble_eq_true rfl, ?_⟩
  simp only [rg] at hc hn
  refine hr_pick (lv' := [(0, .ref r), (1, zv c0), (2, zv n0)]) [0, 1, 2] rfl ?_
  refine hr_aln C 0 dX12_pushE_0 rfl rfl rfl ?_
  refine hr_gA (g := 23) C hr0 TM0 rfl (by decide) fl_X12_83 dX12_pushE_1 rfl (fun a1 ha2 => ?_)
  refine hr_aln C 0 dX12_pushE_4 rfl rfl rfl ?_
  refine hr_gI (lo := 0) (hi := 90) C hr0 TM0 rfl fl_X12_317 dX12_pushE_5 rfl (fun b3 b4 => ?_)
  refine hr_iln C 1 dX12_pushE_8 rfl rfl rfl ?_
  refine hr_ast C ha2 TMa_23 (by omega) (by omega) (by decide) ⟨by omega, by omega⟩ (hp1 (by omega) (by omega)) dX12_pushE_9 rfl (fun w5 o6 s7 e8 => ?_)
  refine hr_aln C 0 dX12_pushE_10 rfl rfl rfl ?_
  refine hr_gA (g := 24) C hr0 TM0 rfl (by decide) fl_X12_86 dX12_pushE_11 rfl (fun a9 ha10 => ?_)
  refine hr_aln C 0 dX12_pushE_14 rfl rfl rfl ?_
  refine hr_gI (lo := 0) (hi := 90) C hr0 TM0 rfl fl_X12_317 dX12_pushE_15 rfl (fun b11 b12 => ?_)
  have q13 : vi w5 0 38 = vi ws 0 38 := by rw [e8, if_neg (by omega)]
  rw [q13] at b11 b12 ⊢
  refine hr_iln C 2 dX12_pushE_18 rfl rfl rfl ?_
  refine hr_ast C ha10 TMa_24 (by omega) (by omega) (by decide) ⟨by omega, by omega⟩ (hp1 (by omega) (by omega)) dX12_pushE_19 rfl (fun w14 o15 s16 e17 => ?_)
  refine hr_aln C 0 dX12_pushE_20 rfl rfl rfl ?_
  refine hr_dup C dX12_pushE_21 rfl rfl ?_
  refine hr_gI (lo := 0) (hi := 90) C hr0 TM0 rfl fl_X12_317 dX12_pushE_22 rfl (fun b18 b19 => ?_)
  have q20 : vi w14 0 38 = vi ws 0 38 := by rw [e17, if_neg (by omega)]; rw [e8, if_neg (by omega)]
  rw [q20] at b18 b19 ⊢
  refine hr_ic C dX12_pushE_25 rfl ?_
  refine hr_add C dX12_pushE_26 rfl ?_
  refine hr_pI (lo := 0) (hi := 90) C hr0 TM0 rfl ⟨by decide, by decide⟩ pl_X12_317 dX12_pushE_27 (by omega) (by omega) rfl (fun w21 o22 s23 e24 => ?_)
  have kj : ∀ j : Nat, vi w21 23 j = if j = Int.toNat (vi ws 0 38) then c0 else vi ws 23 j := by
    intro j
    rw [e24, if_neg (by omega), e17, if_neg (by omega), e8]
    by_cases ej : j = Int.toNat (vi ws 0 38)
    · rw [if_pos ⟨rfl, ej⟩, if_pos ej]
    · rw [if_neg (fun q => ej q.2), if_neg ej]
  have kj2 : ∀ j : Nat, vi w21 24 j = if j = Int.toNat (vi ws 0 38) then n0 else vi ws 24 j := by
    intro j
    rw [e24, if_neg (by omega), e17]
    by_cases ej : j = Int.toNat (vi ws 0 38)
    · rw [if_pos ⟨rfl, ej⟩, if_pos ej]
    · rw [if_neg (fun q => ej q.2), if_neg ej, e8, if_neg (by omega)]
  exact hr_vret C hlocks hr dX12_pushE_30 ⟨(fx_sm_tr (fx_sm_tr (fx_sm_tr fx_sm_refl s7 (by decide)) s16 (by decide)) s23 (by decide)), rfl, by rw [e24, if_pos ⟨rfl, rfl⟩], kj, kj2⟩
set_option maxRecDepth 100000 in
set_option maxHeartbeats 4000000 in
theorem h_isCompared {l : Launch} {E : (Nat → Prop) → State → Prop} {ad : List Nat} {D : va_G} {cy : Nat → ClassId} (h : fx_env E D classes (tys cy) nestW) (r : Nat) (hr0 : ad[0]? = some r) : hM l yX12_isCompared cX12_isCompared 2 (some .boolean) ({ frames := 0, cells := 0, slots := 0, locals := 0 }) E ad D cy (fun av ws => av = [.ref r] ∧ 1 ≤ vi ws 0 38 ∧ vi ws 0 38 ≤ 90 ∧ vi ws 23 0 = 8) (fun _ ws rv ws1 => ws = ws1 ∧ ∃ z, rv = some (zv z) ∧ (z = 0 ∨ z = 1)) := by
  refine hM_of h (by decide) ?_
  intro av ws p e s m below meth c hwo hnd hpre hlocks hr C
  obtain ⟨rfl, hpre⟩ := hpre
  refine ⟨Nat.le_of_ble_eq_true rfl, ?_⟩
  refine hr_pick (lv' := [(0, .ref r)]) [0] rfl ?_
  obtain ⟨p1, p2, p3⟩ := hpre
  have loop : ∀ (q : Nat) (k : Int), k.toNat < q → 0 ≤ k → k ≤ 89 → HW l E ad D cy (va_A ws s.heap.size) s.heap p e ({ frames := 0, cells := 0, slots := 0, locals := 0 }) s m ([.ref r]).toArray below meth c (MQ below (hQ ad D cy (fun _ ws rv ws1 => ws = ws1 ∧ ∃ z, rv = some (zv z) ∧ (z = 0 ∨ z = 1)) ([.ref r]) ws s.heap.size) ([.ref r]).toArray s 0 0 (va_A ws s.heap.size)) cX12_isCompared 2 yX12_isCompared.cls 7 [(0, .ref r), (1, zv k)] [] ws := by
    intro q
    induction q with
    | zero => intro k hq; omega
    | succ q ih =>
      intro k hq h0 h1
      have hk0 : k = 0 → vi ws 23 (Int.toNat k) = 8 := fun e => by rw [e]; exact p3
      refine hr_aln C 0 dX12_isCompared_7 rfl rfl rfl ?_
      refine hr_gA (g := 23) C hr0 TM0 rfl (by decide) fl_X12_83 dX12_isCompared_8 rfl (fun a1 ha2 => ?_)
      refine hr_iln C 1 dX12_isCompared_11 rfl rfl rfl ?_
      refine hr_ald C ha2 TMa_23 (by omega) (by omega) (by decide) dX12_isCompared_12 rfl (fun b3 b4 => ?_)
      have b3 := gp1 b3
      simp only [rg] at b4
      refine hr_ic C dX12_isCompared_13 rfl ?_
      refine hr_cmp C 28 dX12_isCompared_14 (by decide) ⟨by omega, by omega⟩ ⟨by omega, by omega⟩ rfl (fun c5 => ?_) (fun c5 => ?_)
      · have c5 : (vi ws 23 (Int.toNat (k)) : Int) = 5 := c5
        refine hr_inc (lv' := [(1, zv (k + (-1))), (0, .ref r)]) C 1 dX12_isCompared_28 rfl (by decide) rfl rfl ?_
        refine hr_goto C 7 dX12_isCompared_31 (by decide) ?_
        refine hr_pick (lv' := [(0, .ref r), (1, zv (k + (-1)))]) [1, 0] rfl ?_
        exact ih _ (by omega) (by omega) (by omega)
      · have c5 : ¬ (vi ws 23 (Int.toNat (k)) : Int) = 5 := c5
        refine hr_aln C 0 dX12_isCompared_17 rfl rfl rfl ?_
        refine hr_gA (g := 23) C hr0 TM0 rfl (by decide) fl_X12_83 dX12_isCompared_18 rfl (fun a6 ha7 => ?_)
        refine hr_iln C 1 dX12_isCompared_21 rfl rfl rfl ?_
        refine hr_ald C ha7 TMa_23 (by omega) (by omega) (by decide) dX12_isCompared_22 rfl (fun b8 b9 => ?_)
        have b8 := gp1 b8
        simp only [rg] at b9
        refine hr_bi C dX12_isCompared_23 (by decide +kernel) rfl ?_
        refine hr_cmp C 34 dX12_isCompared_25 (by decide) ⟨by omega, by omega⟩ ⟨by omega, by omega⟩ rfl (fun c10 => ?_) (fun c10 => ?_)
        · have c10 : ¬ (vi ws 23 (Int.toNat (k)) : Int) = 6 := c10
          refine hr_aln C 0 dX12_isCompared_34 rfl rfl rfl ?_
          refine hr_gA (g := 23) C hr0 TM0 rfl (by decide) fl_X12_83 dX12_isCompared_35 rfl (fun a11 ha12 => ?_)
          refine hr_iln C 1 dX12_isCompared_38 rfl rfl rfl ?_
          refine hr_ald C ha12 TMa_23 (by omega) (by omega) (by decide) dX12_isCompared_39 rfl (fun b13 b14 => ?_)
          have b13 := gp1 b13
          simp only [rg] at b14
          refine hr_ic C dX12_isCompared_40 rfl ?_
          refine hr_cmp C 48 dX12_isCompared_41 (by decide) ⟨by omega, by omega⟩ ⟨by omega, by omega⟩ rfl (fun c15 => ?_) (fun c15 => ?_)
          · have c15 : ¬ (vi ws 23 (Int.toNat (k)) : Int) = 4 := c15
            refine hr_ic C dX12_isCompared_48 rfl ?_
            exact hr_zret C hlocks hr (by omega) dX12_isCompared_49 ⟨rfl, _, rfl, by omega⟩
          · have c15 : (vi ws 23 (Int.toNat (k)) : Int) = 4 := c15
            refine hr_ic C dX12_isCompared_44 rfl ?_
            refine hr_goto C 49 dX12_isCompared_45 (by decide) ?_
            exact hr_zret C hlocks hr (by omega) dX12_isCompared_49 ⟨rfl, _, rfl, by omega⟩
        · have c10 : (vi ws 23 (Int.toNat (k)) : Int) = 6 := c10
          refine hr_inc (lv' := [(1, zv (k + (-1))), (0, .ref r)]) C 1 dX12_isCompared_28 rfl (by decide) rfl rfl ?_
          refine hr_goto C 7 dX12_isCompared_31 (by decide) ?_
          refine hr_pick (lv' := [(0, .ref r), (1, zv (k + (-1)))]) [1, 0] rfl ?_
          exact ih _ (by omega) (by omega) (by omega)
  refine hr_aln C 0 dX12_isCompared_0 rfl rfl rfl ?_
  refine hr_gI (lo := 0) (hi := 90) C hr0 TM0 rfl fl_X12_317 dX12_isCompared_1 rfl (fun b1 b2 => ?_)
  refine hr_ic C dX12_isCompared_4 rfl ?_
  refine hr_sub C dX12_isCompared_5 rfl ?_
  refine hr_isn (lv' := [(1, zv ((vi ws 0 38) - 1)), (0, .ref r)]) C dX12_isCompared_6 rfl (by decide) rfl rfl ?_
  refine hr_pick (lv' := [(0, .ref r), (1, zv ((vi ws 0 38) - 1))]) [1, 0] rfl ?_
  exact loop _ _ (Nat.lt_succ_self _) (by omega) (by omega)
