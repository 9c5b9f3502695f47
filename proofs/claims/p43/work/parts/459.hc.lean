theorem dX12_odds_0 : decode cX12_odds 0 = .ok (.aload_n 0, 1) := by decide +kernel
theorem dX12_odds_1 : decode cX12_odds 1 = .ok (.iload_n 1, 1) := by decide +kernel
theorem dX12_odds_2 : decode cX12_odds 2 = .ok (.invokevirtual 363, 3) := by decide +kernel
theorem dX12_odds_5 : decode cX12_odds 5 = .ok (.ifCond .eq 27, 3) := by decide +kernel
theorem dX12_odds_32 : decode cX12_odds 32 = .ok (.iconst (-1), 1) := by decide +kernel
theorem dX12_odds_33 : decode cX12_odds 33 = .ok (.ireturn, 1) := by decide +kernel
theorem dX12_odds_8 : decode cX12_odds 8 = .ok (.iload_n 2, 1) := by decide +kernel
theorem dX12_odds_9 : decode cX12_odds 9 = .ok (.iconst 0, 1) := by decide +kernel
theorem dX12_odds_10 : decode cX12_odds 10 = .ok (.iconst 1, 1) := by decide +kernel
theorem dX12_odds_11 : decode cX12_odds 11 = .ok (.invokestatic 359, 3) := by decide +kernel
theorem dX12_odds_14 : decode cX12_odds 14 = .ok (.ifCond .eq 18, 3) := by decide +kernel
theorem dX12_odds_17 : decode cX12_odds 17 = .ok (.aload_n 0, 1) := by decide +kernel
theorem dX12_odds_18 : decode cX12_odds 18 = .ok (.iload_n 1, 1) := by decide +kernel
theorem dX12_odds_19 : decode cX12_odds 19 = .ok (.invokevirtual 381, 3) := by decide +kernel
theorem dX12_odds_22 : decode cX12_odds 22 = .ok (.aload_n 0, 1) := by decide +kernel
theorem dX12_odds_23 : decode cX12_odds 23 = .ok (.getfield 92, 3) := by decide +kernel
theorem dX12_odds_26 : decode cX12_odds 26 = .ok (.bipush 12, 2) := by decide +kernel
theorem dX12_odds_28 : decode cX12_odds 28 = .ok (.iaload, 1) := by decide +kernel
theorem dX12_odds_29 : decode cX12_odds 29 = .ok (.if_icmp .le 5, 3) := by decide +kernel
theorem dX12_odds_34 : decode cX12_odds 34 = .ok (.aload_n 0, 1) := by decide +kernel
theorem dX12_odds_35 : decode cX12_odds 35 = .ok (.iload_n 1, 1) := by decide +kernel
theorem dX12_odds_36 : decode cX12_odds 36 = .ok (.invokevirtual 403, 3) := by decide +kernel
theorem dX12_odds_39 : decode cX12_odds 39 = .ok (.aload_n 0, 1) := by decide +kernel
theorem dX12_odds_40 : decode cX12_odds 40 = .ok (.iconst (-1), 1) := by decide +kernel
theorem dX12_odds_41 : decode cX12_odds 41 = .ok (.invokevirtual 431, 3) := by decide +kernel
theorem dX12_odds_44 : decode cX12_odds 44 = .ok (.aload_n 0, 1) := by decide +kernel
theorem dX12_odds_45 : decode cX12_odds 45 = .ok (.invokevirtual 434, 3) := by decide +kernel
theorem dX12_odds_48 : decode cX12_odds 48 = .ok (.istore_n 3, 1) := by decide +kernel
theorem dX12_odds_49 : decode cX12_odds 49 = .ok (.aload_n 0, 1) := by decide +kernel
theorem dX12_odds_50 : decode cX12_odds 50 = .ok (.getfield 390, 3) := by decide +kernel
theorem dX12_odds_53 : decode cX12_odds 53 = .ok (.aload_n 0, 1) := by decide +kernel
theorem dX12_odds_54 : decode cX12_odds 54 = .ok (.getfield 384, 3) := by decide +kernel
theorem dX12_odds_57 : decode cX12_odds 57 = .ok (.invokestatic 437, 3) := by decide +kernel
theorem dX12_odds_60 : decode cX12_odds 60 = .ok (.istore 4, 2) := by decide +kernel
theorem dX12_odds_62 : decode cX12_odds 62 = .ok (.iload_n 2, 1) := by decide +kernel
theorem dX12_odds_63 : decode cX12_odds 63 = .ok (.ifCond .ne 7, 3) := by decide +kernel
theorem dX12_odds_70 : decode cX12_odds 70 = .ok (.iload 4, 2) := by decide +kernel
theorem dX12_odds_72 : decode cX12_odds 72 = .ok (.iload 4, 2) := by decide +kernel
theorem dX12_odds_74 : decode cX12_odds 74 = .ok (.iload_n 3, 1) := by decide +kernel
theorem dX12_odds_75 : decode cX12_odds 75 = .ok (.invokestatic 440, 3) := by decide +kernel
theorem dX12_odds_78 : decode cX12_odds 78 = .ok (.idiv, 1) := by decide +kernel
theorem dX12_odds_79 : decode cX12_odds 79 = .ok (.ireturn, 1) := by decide +kernel
theorem dX12_odds_66 : decode cX12_odds 66 = .ok (.iload_n 3, 1) := by decide +kernel
theorem dX12_odds_67 : decode cX12_odds 67 = .ok (.goto 5, 3) := by decide +kernel
section HW5
variable {l : Launch} {E : (Nat → Prop) → State → Prop} {ad : List Nat} {D : va_G} {cy : Nat → ClassId} {A : Nat → Prop} {H0 : Heap} {p : Program} {e : Env} {R : Room} {s : State} {m : MethodId} {args : Array Value} {below : List Frame} {meth : Method} {c : Code} {Q : State → Prop} {cc : ByteArray} {nL : Nat} {own : String} {pc pc' : Nat} {lv lv' : List (Nat × Value)} {st : List Value} {ws : va_W}
theorem hr_divg (C : hC l E ad D cy A H0 p e R s m args below meth c Q cc nL own) {x y : Int} (hdg : decode cc pc = .ok (.idiv, 1)) (hy : rg y) (hy0 : ¬ y = 0) (hp : pc + 1 = pc') (kk : ∀ r, HW l E ad D cy A H0 p e R s m args below meth c Q cc nL own pc' lv (zv r :: st) ws) : HW l E ad D cy A H0 p e R s m args below meth c Q cc nL own pc lv (zv y :: zv x :: st) ws := fun H locs ls hl hh => by
  subst hp
  have hne : ¬ Int32.ofInt y = 0 := fun h => by have := congrArg Int32.toInt h; rw [zv_i hy] at this; exact hy0 this
  refine lv_idiv C.1 C.2.1 hdg hne ?_
  rw [zv_of]
  exact kk _ H locs ls hl hh
theorem hr_gL (C : hC l E ad D cy A H0 p e R s m args below meth c Q cc nL own) {ts : List fx_T} {i fi a : Nat} {q : Int × Int} (ha : ad[0]? = some a) (hT : TM[0]? = some (.inl (12, ts))) (ht : ts[fi]? = some (.inr (.inl q))) (hfl : fx_gl wsL_law nestW classes own (i, 12, fi)) (hdg : decode cc pc = .ok (.getfield i, 3)) (hp : pc + 3 = pc') (kk : ∀ x : Int64, HW l E ad D cy A H0 p e R s m args below meth c Q cc nL own pc' lv (.long x :: st) ws) : HW l E ad D cy A H0 p e R s m args below meth c Q cc nL own pc lv (.ref a :: st) ws := fun H locs ls hl hh => by
  subst hp
  obtain ⟨vs, h1, h2, h3, -⟩ := tm_obj hh.1 ha hT
  obtain ⟨v, v1, x, rfl, x1, x2⟩ := h3 fi _ ht
  have kk' := kk x
  obtain ⟨C', T', N', c1, c2, c3, c4⟩ := hfl
  have hK := (C.2.2.2.2.2.1.1 _ _ C.2.2.2.2.2.2.1)
  rcases c4 with c4 | ⟨host, c4⟩
  · exact va_get C.1 C.2.1 C.2.2.2.1 c3 C.2.2.2.2.1 hK.1 hh.2.1 0 h1 c1 fi c2 (C.2.2.2.1 _ c4) (fun _ h9 => h9) v1 hdg (kk' H locs ls hl hh)
  · exact va_getN C.1 C.2.1 C.2.2.2.1 c3 C.2.2.2.2.1 hK.1 hh.2.1 0 h1 c1 fi c2 (va_Nw.use rfl (hK.2 _ c4)) (fun _ h9 => h9) v1 hdg (kk' H locs ls hl hh)
theorem hr_lld (C : hC l E ad D cy A H0 p e R s m args below meth c Q cc nL own) {g a n : Nat} {q : Int × Int} {z : Int} (ha : ad[g]? = some a) (hT : TM[g]? = some (.inr (1, n, [.inr (.inl q)]))) (h0 : 0 ≤ z) (h1 : z < n) (hn : n ≤ 100000) (hdg : decode cc pc = .ok (.laload, 1)) (hp : pc + 1 = pc') (kk : ∀ x : Int64, HW l E ad D cy A H0 p e R s m args below meth c Q cc nL own pc' lv (.long x :: st) ws) : HW l E ad D cy A H0 p e R s m args below meth c Q cc nL own pc lv (zv z :: .ref a :: st) ws := fun H locs ls hl hh => by
  subst hp
  obtain ⟨x, g1, ⟨f, rfl⟩, g3, -⟩ := tm_arr hh.1 ha hT
  have hK := (C.2.2.2.2.2.1.1 _ _ C.2.2.2.2.2.2.1)
  exact va_lald C.1 C.2.1 hK.1 hh.2.1 g 1 g1 (ht_tys cy).2.1 (vp_in_iff.mpr ⟨by rw [zv_i ⟨by omega, by omega⟩]; omega, by rw [zv_i ⟨by omega, by omega⟩]; omega⟩) hdg (kk _ H locs ls hl hh)
theorem hr_lcmp (C : hC l E ad D cy A H0 p e R s m args below meth c Q cc nL own) {x y : Int64} (hdg : decode cc pc = .ok (.lcmp, 1)) (hp : pc + 1 = pc') (kk : ∀ z, (z = -1 ∨ z = 0 ∨ z = 1) → HW l E ad D cy A H0 p e R s m args below meth c Q cc nL own pc' lv (zv z :: st) ws) : HW l E ad D cy A H0 p e R s m args below meth c Q cc nL own pc lv (.long y :: .long x :: st) ws := fun H locs ls hl hh => by
  subst hp
  refine W.lcmp C.1 C.2.1 hdg ?_
  have e : ∃ z, (z = -1 ∨ z = 0 ∨ z = 1) ∧ Value.int (lg_cmp x y) = zv z := by
    unfold lg_cmp
    split
    · exact ⟨1, Or.inr (Or.inr rfl), rfl⟩
    · split
      · exact ⟨0, Or.inr (Or.inl rfl), rfl⟩
      · exact ⟨-1, Or.inl rfl, rfl⟩
  obtain ⟨z, hz, e⟩ := e
  rw [e]
  exact kk z hz H locs ls hl hh
theorem hr_ll (C : hC l E ad D cy A H0 p e R s m args below meth c Q cc nL own) {i : Nat} {x : Int64} (k : Nat) (hdg : decode cc pc = .ok (.lload i, 2)) (hk : lv[k]? = some (i, .long x)) (hp : pc + 2 = pc') (kk : HW l E ad D cy A H0 p e R s m args below meth c Q cc nL own pc' lv (.long x :: st) ws) : HW l E ad D cy A H0 p e R s m args below meth c Q cc nL own pc lv st ws := fun H locs ls hl hh => by
  subst hp; exact lv_lload C.1 C.2.1 hdg (lv_at hl k hk) (kk H locs ls hl hh)
theorem hr_lln (C : hC l E ad D cy A H0 p e R s m args below meth c Q cc nL own) {j : Fin 4} {i : Nat} {x : Int64} (k : Nat) (hdg : decode cc pc = .ok (.lload_n j, 1)) (hi : (j : Nat) = i) (hk : lv[k]? = some (i, .long x)) (hp : pc + 1 = pc') (kk : HW l E ad D cy A H0 p e R s m args below meth c Q cc nL own pc' lv (.long x :: st) ws) : HW l E ad D cy A H0 p e R s m args below meth c Q cc nL own pc lv st ws := fun H locs ls hl hh => by
  subst hp; exact lv_lload_n C.1 C.2.1 hdg hi (lv_at hl k hk) (kk H locs ls hl hh)
theorem hr_lsn (C : hC l E ad D cy A H0 p e R s m args below meth c Q cc nL own) {j : Fin 4} {i : Nat} {x : Int64} (hdg : decode cc pc = .ok (.lstore_n j, 1)) (hi : (j : Nat) = i) (hn : i + 1 < nL) (hl' : (i, Value.long x) :: lv.filter (fun q => !(q.1 == i) && (!(q.1 == i + 1) && !(q.1 + 1 == i && q.2.category == 2))) = lv') (hp : pc + 1 = pc') (kk : HW l E ad D cy A H0 p e R s m args below meth c Q cc nL own pc' lv' st ws) : HW l E ad D cy A H0 p e R s m args below meth c Q cc nL own pc lv (.long x :: st) ws := fun H locs ls hl hh => by
  subst hp; exact lv_lstore_n C.1 C.2.1 hdg hi hl hn hl' (fun ls hl => kk H locs ls hl hh)
end HW5

set_option maxRecDepth 100000 in
set_option maxHeartbeats 4000000 in
theorem h_odds {l : Launch} {E : (Nat → Prop) → State → Prop} {ad : List Nat} {D : va_G} {cy : Nat → ClassId} (h : fx_env E D classes (tys cy) nestW) (r : Nat) (v p0 : Int) (hr0 : ad[0]? = some r) (hv : rg v) (hp0 : rg p0) : hM l yX12_odds cX12_odds 5 (some .int) ({ frames := 2, cells := 0, slots := 0, locals := 44 }) E ad D cy (fun av ws => av = [.ref r, zv v, zv p0] ∧ True) (fun _ ws rv ws1 => fx_sm (gsM, TM, cy, fun _ => True) [(12, 45), (12, 46), (1000, 27), (1000, 28), (1000, 31)] ws ws1 ∧ ∃ z, rv = some (zv z)) := by
  refine hM_of h (by decide) ?_
  intro av ws p e s m below meth c hwo hnd hpre hlocks hr C
  obtain ⟨rfl, hpre⟩ := hpre
  refine ⟨Nat.le_of_ble_eq_true rfl, ?_⟩
  simp only [rg] at hv hp0
  have hB := fl_b (fi := 34) (lo := 0) (hi := 1) hwo hr0 rfl
  have hS := el_b (fi := 13) (g := 5) (n := 2) (lo := 0) (hi := 5) (j := Int.toNat (vi ws 0 34)) hwo hr0 rfl (by decide) TMa_5 (by omega)
  refine hr_pick (lv' := [(0, .ref r), (1, zv v), (2, zv p0)]) [0, 1, 2] rfl ?_
  refine hr_aln C 0 dX12_odds_0 rfl rfl rfl ?_
  refine hr_iln C 1 dX12_odds_1 rfl rfl rfl ?_
  refine hr_cV (As := [zv (v)]) (rest := []) C (h_isSlip h r (v) hr0 ⟨by omega, by omega⟩) ⟨by decide, by decide⟩ iV_X12_isSlip g_X12_363 TM0 hr0 dX12_odds_2 rfl rfl (Nat.le_of_ble_eq_true rfl) rfl ⟨rfl, trivial⟩ (fun w1 rv o2 q3 => ?_)
  obtain ⟨rfl, rfl⟩ := q3
  obtain ⟨t4, et5⟩ : ∃ t, t = (if 0 ≤ v ∧ v ≤ vi ws 5 (Int.toNat (vi ws 0 34)) - 1 then 1 else 0 : Int) := ⟨_, rfl⟩
  rw [← et5]
  have e6 : (t4 = 1 ∧ (0 ≤ v ∧ v ≤ vi ws 5 (Int.toNat (vi ws 0 34)) - 1)) ∨ (t4 = 0 ∧ ¬ (0 ≤ v ∧ v ≤ vi ws 5 (Int.toNat (vi ws 0 34)) - 1)) := by rw [et5]; split <;> simp_all
  clear et5
  refine hr_norm (st' := [zv (t4)]) rfl ?_
  refine hr_if C 32 dX12_odds_5 (by decide) ⟨by omega, by omega⟩ rfl (fun c7 => ?_) (fun c7 => ?_)
  · have c7 : (t4 : Int) = 0 := c7
    refine hr_ic C dX12_odds_32 rfl ?_
    exact hr_iret C hlocks hr dX12_odds_33 ⟨fx_sm_refl, _, rfl⟩
  · have c7 : ¬ (t4 : Int) = 0 := c7
    refine hr_iln C 2 dX12_odds_8 rfl rfl rfl ?_
    refine hr_ic C dX12_odds_9 rfl ?_
    refine hr_ic C dX12_odds_10 rfl ?_
    refine hr_cS (As := [zv (p0), zv (0), zv (1)]) (rest := []) C (h_isIn h (p0) (0) (1) ⟨by omega, by omega⟩ ⟨by omega, by omega⟩ ⟨by omega, by omega⟩) ⟨by decide, by decide⟩ iS_X12_isIn g_X12_359 dX12_odds_11 rfl rfl (Nat.le_of_ble_eq_true rfl) rfl ⟨rfl, trivial⟩ (fun w8 rv o9 q10 => ?_)
    obtain ⟨rfl, rfl⟩ := q10
    obtain ⟨t11, et12⟩ : ∃ t, t = (if 0 ≤ p0 ∧ p0 ≤ 1 then 1 else 0 : Int) := ⟨_, rfl⟩
    rw [← et12]
    have e13 : (t11 = 1 ∧ (0 ≤ p0 ∧ p0 ≤ 1)) ∨ (t11 = 0 ∧ ¬ (0 ≤ p0 ∧ p0 ≤ 1)) := by rw [et12]; split <;> simp_all
    clear et12
    refine hr_norm (st' := [zv (t11)]) rfl ?_
    refine hr_if C 32 dX12_odds_14 (by decide) ⟨by omega, by omega⟩ rfl (fun c14 => ?_) (fun c14 => ?_)
    · have c14 : (t11 : Int) = 0 := c14
      refine hr_ic C dX12_odds_32 rfl ?_
      exact hr_iret C hlocks hr dX12_odds_33 ⟨fx_sm_refl, _, rfl⟩
    · have c14 : ¬ (t11 : Int) = 0 := c14
      refine hr_aln C 0 dX12_odds_17 rfl rfl rfl ?_
      refine hr_iln C 1 dX12_odds_18 rfl rfl rfl ?_
      refine hr_cV (As := [zv (v)]) (rest := []) C (h_longOf h r v hr0 ⟨by omega, by omega⟩) ⟨by decide, by decide⟩ iV_X12_longOf g_X12_381 TM0 hr0 dX12_odds_19 rfl rfl (Nat.le_of_ble_eq_true rfl) rfl ⟨rfl, trivial⟩ (fun w15 rv o16 q17 => ?_)
      obtain ⟨rfl, rfl, g1, g2, g3⟩ := q17
      have g4 := g3 (by omega)
      refine hr_norm (st' := [zv (lenW ws v)]) rfl ?_
      refine hr_aln C 0 dX12_odds_22 rfl rfl rfl ?_
      refine hr_gA (g := 26) C hr0 TM0 rfl (by decide) fl_X12_92 dX12_odds_23 rfl (fun a18 ha19 => ?_)
      refine hr_bi C dX12_odds_26 (by decide +kernel) rfl ?_
      refine hr_ald C ha19 TMa_26 (by omega) (by omega) (by decide) dX12_odds_28 rfl (fun b20 b21 => ?_)
      have b20 := b20 (0) (12) (by decide +kernel)
      have q22 : vi ws 26 (Int.toNat (12)) = vi ws 26 12 := by rfl
      rw [q22] at b20 b21 ⊢
      simp only [rg] at b21
      refine hr_cmp C 34 dX12_odds_29 (by decide) ⟨by omega, by omega⟩ ⟨by omega, by omega⟩ rfl (fun c23 => ?_) (fun c23 => ?_)
      · have c23 : (lenW ws v : Int) ≤ vi ws 26 12 := c23
        refine hr_aln C 0 dX12_odds_34 rfl rfl rfl ?_
        refine hr_iln C 1 dX12_odds_35 rfl rfl rfl ?_
        refine hr_cV (As := [zv (v)]) (rest := []) C (h_layOne h r (v) hr0 ⟨by omega, by omega⟩) ⟨by decide, by decide⟩ iV_X12_layOne g_X12_403 TM0 hr0 dX12_odds_36 rfl rfl (Nat.le_of_ble_eq_true rfl) rfl ⟨rfl, trivial⟩ (fun w24 rv o25 q26 => ?_)
        obtain ⟨s27, rfl, l28, l29, l30, l31, l32⟩ := q26
        have lam33 : LAID ws w24 45 27 (v) := ⟨l28, l29, l31 (by omega), l32⟩
        refine hr_aln C 0 dX12_odds_39 rfl rfl rfl ?_
        refine hr_ic C dX12_odds_40 rfl ?_
        refine hr_cV (As := [zv ((-1))]) (rest := []) C (h_layTwo h r ((-1)) hr0 ⟨by omega, by omega⟩) ⟨by decide, by decide⟩ iV_X12_layTwo g_X12_431 TM0 hr0 dX12_odds_41 rfl rfl (Nat.le_of_ble_eq_true rfl) rfl ⟨rfl, trivial⟩ (fun w34 rv o35 q36 => ?_)
        obtain ⟨s37, rfl, l38, l39, l40, l41, l42⟩ := q36
        refine hr_aln C 0 dX12_odds_44 rfl rfl rfl ?_
        refine hr_cV (As := []) (rest := []) C (hM_fx (km42 h)) ⟨by decide, by decide⟩ iV_X12_countWays g_X12_434 TM0 hr0 dX12_odds_45 rfl rfl (Nat.le_of_ble_eq_true rfl) rfl ⟨(ty_cons (ok_r hr0 (by decide) (by decide)) ty_nil), ⟨_, rfl⟩⟩ (fun w44 rv o45 q46 => ?_)
        obtain ⟨s47, po, hpo48, hrv49, hty50, rt, hfs51⟩ := q46
        replace s47 : fx_sm (gsM, TM, cy, fun _ => True) [(1000, 31)] w34 w44 := s47
        simp only [km42_c, List.mem_cons, List.not_mem_nil, or_false] at hpo48
        subst hpo48
        obtain ⟨v52, rfl, hv53⟩ := hrv49
        obtain ⟨z54, rfl, b55, b56, b57⟩ := ok_iz hv53
        simp only [rg] at b57
        refine hr_norm (st' := [zv (z54)]) rfl ?_
        refine hr_isn (lv' := [(3, zv (z54)), (0, .ref r), (1, zv (v)), (2, zv (p0))]) C dX12_odds_48 rfl (by decide) rfl rfl ?_
        refine hr_aln C 1 dX12_odds_49 rfl rfl rfl ?_
        refine hr_gI (lo := 0) (hi := 12) C hr0 TM0 rfl fl_X12_390 dX12_odds_50 rfl (fun b58 b59 => ?_)
        have q60 : vi w44 0 46 = vi w34 0 46 := by rw [sm_f o35 o45 s47 (by decide)]
        rw [q60] at b58 b59 ⊢
        refine hr_aln C 1 dX12_odds_53 rfl rfl rfl ?_
        refine hr_gI (lo := 0) (hi := 12) C hr0 TM0 rfl fl_X12_384 dX12_odds_54 rfl (fun b61 b62 => ?_)
        have q63 : vi w44 0 45 = vi w24 0 45 := by rw [sm_f o35 o45 s47 (by decide)]; rw [sm_f o25 o35 s37 (by decide)]
        rw [q63] at b61 b62 ⊢
        have r1 : vi w24 0 45 = lenW ws v := l28
        have r2 : vi w34 0 46 = lenW w24 (-1) := l38
        have r3 : lenW w24 (-1) = vi ws 26 12 := by unfold lenW; rw [if_pos rfl]; exact sm_a hwo o25 s27 TMa_26 (by decide)
        have hcase : lenW ws v = 0 ∨ lenW ws v = 1 ∨ lenW ws v = 2 ∨ lenW ws v = 3 ∨ lenW ws v = 4 ∨ lenW ws v = 5 ∨ lenW ws v = 6 ∨ lenW ws v = 7 ∨ lenW ws v = 8 := by omega
        rcases hcase with hk | hk | hk | hk | hk | hk | hk | hk | hk
        · refine hr_norm (st' := [zv (0), zv (vi w34 0 46)]) (by rw [show vi w24 0 45 = 0 by omega]) ?_
          refine hr_cS (As := [zv (vi w34 0 46), zv (0)]) (rest := []) C (hM_fx (km70 h)) ⟨by decide, by decide⟩ iS_X12_choices g_X12_437 dX12_odds_57 rfl rfl (Nat.le_of_ble_eq_true rfl) rfl ⟨(ty_cons (ok_z (by decide) (by decide) (by omega) (by omega)) (ty_cons (ok_z (by decide) (by decide) (by omega) (by omega)) ty_nil)), ⟨_, rfl⟩⟩ (fun w64 rv o65 q66 => ?_)
          obtain ⟨s67, po, hpo68, hrv69, hty70, rt, hfs71⟩ := q66
          replace s67 : fx_sm (gsM, TM, cy, fun _ => True) [] w44 w64 := s67
          simp only [km70_c, List.mem_cons, List.not_mem_nil, or_false] at hpo68
          subst hpo68
          obtain ⟨v72, rfl, hv73⟩ := hrv69
          obtain ⟨z74, rfl, b75, b76, b77⟩ := ok_iz hv73
          simp only [rg] at b77
          obtain rfl : z74 = 1 := by omega
          refine hr_norm (st' := [zv (1)]) rfl ?_
          refine hr_is (lv' := [(4, zv (1)), (3, zv (z54)), (0, .ref r), (1, zv (v)), (2, zv (p0))]) C dX12_odds_60 (by decide) rfl rfl ?_
          refine hr_iln C 4 dX12_odds_62 rfl rfl rfl ?_
          refine hr_if C 70 dX12_odds_63 (by decide) ⟨by omega, by omega⟩ rfl (fun c78 => ?_) (fun c78 => ?_)
          · have c78 : ¬ (p0 : Int) = 0 := c78
            refine hr_il C 0 dX12_odds_70 rfl rfl ?_
            refine hr_il C 0 dX12_odds_72 rfl rfl ?_
            refine hr_iln C 1 dX12_odds_74 rfl rfl rfl ?_
            refine hr_cS (As := [zv (1), zv (z54)]) (rest := [zv (1)]) C (h_divisor h (1) (z54) ⟨by omega, by omega⟩ ⟨by omega, by omega⟩ (Or.inr (by omega))) ⟨by decide, by decide⟩ iS_X12_divisor g_X12_440 dX12_odds_75 rfl rfl (Nat.le_of_ble_eq_true rfl) rfl ⟨rfl, trivial⟩ (fun w79 rv o80 q81 => ?_)
            obtain ⟨rfl, z82, rfl, y1, y2⟩ := q81
            refine hr_norm (st' := [zv (z82), zv (1)]) rfl ?_
            refine hr_divg C dX12_odds_78 ⟨by omega, by omega⟩ (by omega) rfl (fun r83 => ?_)
            exact hr_iret C hlocks hr dX12_odds_79 ⟨(fx_sm_tr (fx_sm_tr (fx_sm_tr (fx_sm_tr fx_sm_refl s27 (by decide)) s37 (by decide)) s47 (by decide)) s67 (by decide)), _, rfl⟩
          · have c78 : (p0 : Int) = 0 := c78
            refine hr_iln C 1 dX12_odds_66 rfl rfl rfl ?_
            refine hr_goto C 72 dX12_odds_67 (by decide) ?_
            refine hr_il C 0 dX12_odds_72 rfl rfl ?_
            refine hr_iln C 1 dX12_odds_74 rfl rfl rfl ?_
            refine hr_cS (As := [zv (1), zv (z54)]) (rest := [zv (z54)]) C (h_divisor h (1) (z54) ⟨by omega, by omega⟩ ⟨by omega, by omega⟩ (Or.inr (by omega))) ⟨by decide, by decide⟩ iS_X12_divisor g_X12_440 dX12_odds_75 rfl rfl (Nat.le_of_ble_eq_true rfl) rfl ⟨rfl, trivial⟩ (fun w84 rv o85 q86 => ?_)
            obtain ⟨rfl, z87, rfl, y1, y2⟩ := q86
            refine hr_norm (st' := [zv (z87), zv (z54)]) rfl ?_
            refine hr_divg C dX12_odds_78 ⟨by omega, by omega⟩ (by omega) rfl (fun r88 => ?_)
            exact hr_iret C hlocks hr dX12_odds_79 ⟨(fx_sm_tr (fx_sm_tr (fx_sm_tr (fx_sm_tr fx_sm_refl s27 (by decide)) s37 (by decide)) s47 (by decide)) s67 (by decide)), _, rfl⟩
        · refine hr_norm (st' := [zv (1), zv (vi w34 0 46)]) (by rw [show vi w24 0 45 = 1 by omega]) ?_
          refine hr_cS (As := [zv (vi w34 0 46), zv (1)]) (rest := []) C (hM_fx (km69 h)) ⟨by decide, by decide⟩ iS_X12_choices g_X12_437 dX12_odds_57 rfl rfl (Nat.le_of_ble_eq_true rfl) rfl ⟨(ty_cons (ok_z (by decide) (by decide) (by omega) (by omega)) (ty_cons (ok_z (by decide) (by decide) (by omega) (by omega)) ty_nil)), ⟨_, rfl⟩⟩ (fun w89 rv o90 q91 => ?_)
          obtain ⟨s92, po, hpo93, hrv94, hty95, rt, hfs96⟩ := q91
          replace s92 : fx_sm (gsM, TM, cy, fun _ => True) [] w44 w89 := s92
          simp only [km69_c, List.mem_cons, List.not_mem_nil, or_false] at hpo93
          subst hpo93
          obtain ⟨v97, rfl, hv98⟩ := hrv94
          obtain ⟨z99, rfl, b100, b101, b102⟩ := ok_iz hv98
          simp only [rg] at b102
          refine hr_norm (st' := [zv (z99)]) rfl ?_
          refine hr_is (lv' := [(4, zv (z99)), (3, zv (z54)), (0, .ref r), (1, zv (v)), (2, zv (p0))]) C dX12_odds_60 (by decide) rfl rfl ?_
          refine hr_iln C 4 dX12_odds_62 rfl rfl rfl ?_
          refine hr_if C 70 dX12_odds_63 (by decide) ⟨by omega, by omega⟩ rfl (fun c103 => ?_) (fun c103 => ?_)
          · have c103 : ¬ (p0 : Int) = 0 := c103
            refine hr_il C 0 dX12_odds_70 rfl rfl ?_
            refine hr_il C 0 dX12_odds_72 rfl rfl ?_
            refine hr_iln C 1 dX12_odds_74 rfl rfl rfl ?_
            refine hr_cS (As := [zv (z99), zv (z54)]) (rest := [zv (z99)]) C (h_divisor h (z99) (z54) ⟨by omega, by omega⟩ ⟨by omega, by omega⟩ (Or.inr (by omega))) ⟨by decide, by decide⟩ iS_X12_divisor g_X12_440 dX12_odds_75 rfl rfl (Nat.le_of_ble_eq_true rfl) rfl ⟨rfl, trivial⟩ (fun w104 rv o105 q106 => ?_)
            obtain ⟨rfl, z107, rfl, y1, y2⟩ := q106
            refine hr_norm (st' := [zv (z107), zv (z99)]) rfl ?_
            refine hr_divg C dX12_odds_78 ⟨by omega, by omega⟩ (by omega) rfl (fun r108 => ?_)
            exact hr_iret C hlocks hr dX12_odds_79 ⟨(fx_sm_tr (fx_sm_tr (fx_sm_tr (fx_sm_tr fx_sm_refl s27 (by decide)) s37 (by decide)) s47 (by decide)) s92 (by decide)), _, rfl⟩
          · have c103 : (p0 : Int) = 0 := c103
            refine hr_iln C 1 dX12_odds_66 rfl rfl rfl ?_
            refine hr_goto C 72 dX12_odds_67 (by decide) ?_
            refine hr_il C 0 dX12_odds_72 rfl rfl ?_
            refine hr_iln C 1 dX12_odds_74 rfl rfl rfl ?_
            refine hr_cS (As := [zv (z99), zv (z54)]) (rest := [zv (z54)]) C (h_divisor h (z99) (z54) ⟨by omega, by omega⟩ ⟨by omega, by omega⟩ (Or.inr (by omega))) ⟨by decide, by decide⟩ iS_X12_divisor g_X12_440 dX12_odds_75 rfl rfl (Nat.le_of_ble_eq_true rfl) rfl ⟨rfl, trivial⟩ (fun w109 rv o110 q111 => ?_)
            obtain ⟨rfl, z112, rfl, y1, y2⟩ := q111
            refine hr_norm (st' := [zv (z112), zv (z54)]) rfl ?_
            refine hr_divg C dX12_odds_78 ⟨by omega, by omega⟩ (by omega) rfl (fun r113 => ?_)
            exact hr_iret C hlocks hr dX12_odds_79 ⟨(fx_sm_tr (fx_sm_tr (fx_sm_tr (fx_sm_tr fx_sm_refl s27 (by decide)) s37 (by decide)) s47 (by decide)) s92 (by decide)), _, rfl⟩
        · refine hr_norm (st' := [zv (2), zv (vi w34 0 46)]) (by rw [show vi w24 0 45 = 2 by omega]) ?_
          refine hr_cS (As := [zv (vi w34 0 46), zv (2)]) (rest := []) C (hM_fx (km68 h)) ⟨by decide, by decide⟩ iS_X12_choices g_X12_437 dX12_odds_57 rfl rfl (Nat.le_of_ble_eq_true rfl) rfl ⟨(ty_cons (ok_z (by decide) (by decide) (by omega) (by omega)) (ty_cons (ok_z (by decide) (by decide) (by omega) (by omega)) ty_nil)), ⟨_, rfl⟩⟩ (fun w114 rv o115 q116 => ?_)
          obtain ⟨s117, po, hpo118, hrv119, hty120, rt, hfs121⟩ := q116
          replace s117 : fx_sm (gsM, TM, cy, fun _ => True) [] w44 w114 := s117
          simp only [km68_c, List.mem_cons, List.not_mem_nil, or_false] at hpo118
          subst hpo118
          obtain ⟨v122, rfl, hv123⟩ := hrv119
          obtain ⟨z124, rfl, b125, b126, b127⟩ := ok_iz hv123
          simp only [rg] at b127
          refine hr_norm (st' := [zv (z124)]) rfl ?_
          refine hr_is (lv' := [(4, zv (z124)), (3, zv (z54)), (0, .ref r), (1, zv (v)), (2, zv (p0))]) C dX12_odds_60 (by decide) rfl rfl ?_
          refine hr_iln C 4 dX12_odds_62 rfl rfl rfl ?_
          refine hr_if C 70 dX12_odds_63 (by decide) ⟨by omega, by omega⟩ rfl (fun c128 => ?_) (fun c128 => ?_)
          · have c128 : ¬ (p0 : Int) = 0 := c128
            refine hr_il C 0 dX12_odds_70 rfl rfl ?_
            refine hr_il C 0 dX12_odds_72 rfl rfl ?_
            refine hr_iln C 1 dX12_odds_74 rfl rfl rfl ?_
            refine hr_cS (As := [zv (z124), zv (z54)]) (rest := [zv (z124)]) C (h_divisor h (z124) (z54) ⟨by omega, by omega⟩ ⟨by omega, by omega⟩ (Or.inr (by omega))) ⟨by decide, by decide⟩ iS_X12_divisor g_X12_440 dX12_odds_75 rfl rfl (Nat.le_of_ble_eq_true rfl) rfl ⟨rfl, trivial⟩ (fun w129 rv o130 q131 => ?_)
            obtain ⟨rfl, z132, rfl, y1, y2⟩ := q131
            refine hr_norm (st' := [zv (z132), zv (z124)]) rfl ?_
            refine hr_divg C dX12_odds_78 ⟨by omega, by omega⟩ (by omega) rfl (fun r133 => ?_)
            exact hr_iret C hlocks hr dX12_odds_79 ⟨(fx_sm_tr (fx_sm_tr (fx_sm_tr (fx_sm_tr fx_sm_refl s27 (by decide)) s37 (by decide)) s47 (by decide)) s117 (by decide)), _, rfl⟩
          · have c128 : (p0 : Int) = 0 := c128
            refine hr_iln C 1 dX12_odds_66 rfl rfl rfl ?_
            refine hr_goto C 72 dX12_odds_67 (by decide) ?_
            refine hr_il C 0 dX12_odds_72 rfl rfl ?_
            refine hr_iln C 1 dX12_odds_74 rfl rfl rfl ?_
            refine hr_cS (As := [zv (z124), zv (z54)]) (rest := [zv (z54)]) C (h_divisor h (z124) (z54) ⟨by omega, by omega⟩ ⟨by omega, by omega⟩ (Or.inr (by omega))) ⟨by decide, by decide⟩ iS_X12_divisor g_X12_440 dX12_odds_75 rfl rfl (Nat.le_of_ble_eq_true rfl) rfl ⟨rfl, trivial⟩ (fun w134 rv o135 q136 => ?_)
            obtain ⟨rfl, z137, rfl, y1, y2⟩ := q136
            refine hr_norm (st' := [zv (z137), zv (z54)]) rfl ?_
            refine hr_divg C dX12_odds_78 ⟨by omega, by omega⟩ (by omega) rfl (fun r138 => ?_)
            exact hr_iret C hlocks hr dX12_odds_79 ⟨(fx_sm_tr (fx_sm_tr (fx_sm_tr (fx_sm_tr fx_sm_refl s27 (by decide)) s37 (by decide)) s47 (by decide)) s117 (by decide)), _, rfl⟩
        · refine hr_norm (st' := [zv (3), zv (vi w34 0 46)]) (by rw [show vi w24 0 45 = 3 by omega]) ?_
          refine hr_cS (As := [zv (vi w34 0 46), zv (3)]) (rest := []) C (hM_fx (km67 h)) ⟨by decide, by decide⟩ iS_X12_choices g_X12_437 dX12_odds_57 rfl rfl (Nat.le_of_ble_eq_true rfl) rfl ⟨(ty_cons (ok_z (by decide) (by decide) (by omega) (by omega)) (ty_cons (ok_z (by decide) (by decide) (by omega) (by omega)) ty_nil)), ⟨_, rfl⟩⟩ (fun w139 rv o140 q141 => ?_)
          obtain ⟨s142, po, hpo143, hrv144, hty145, rt, hfs146⟩ := q141
          replace s142 : fx_sm (gsM, TM, cy, fun _ => True) [] w44 w139 := s142
          simp only [km67_c, List.mem_cons, List.not_mem_nil, or_false] at hpo143
          subst hpo143
          obtain ⟨v147, rfl, hv148⟩ := hrv144
          obtain ⟨z149, rfl, b150, b151, b152⟩ := ok_iz hv148
          simp only [rg] at b152
          refine hr_norm (st' := [zv (z149)]) rfl ?_
          refine hr_is (lv' := [(4, zv (z149)), (3, zv (z54)), (0, .ref r), (1, zv (v)), (2, zv (p0))]) C dX12_odds_60 (by decide) rfl rfl ?_
          refine hr_iln C 4 dX12_odds_62 rfl rfl rfl ?_
          refine hr_if C 70 dX12_odds_63 (by decide) ⟨by omega, by omega⟩ rfl (fun c153 => ?_) (fun c153 => ?_)
          · have c153 : ¬ (p0 : Int) = 0 := c153
            refine hr_il C 0 dX12_odds_70 rfl rfl ?_
            refine hr_il C 0 dX12_odds_72 rfl rfl ?_
            refine hr_iln C 1 dX12_odds_74 rfl rfl rfl ?_
            refine hr_cS (As := [zv (z149), zv (z54)]) (rest := [zv (z149)]) C (h_divisor h (z149) (z54) ⟨by omega, by omega⟩ ⟨by omega, by omega⟩ (Or.inr (by omega))) ⟨by decide, by decide⟩ iS_X12_divisor g_X12_440 dX12_odds_75 rfl rfl (Nat.le_of_ble_eq_true rfl) rfl ⟨rfl, trivial⟩ (fun w154 rv o155 q156 => ?_)
            obtain ⟨rfl, z157, rfl, y1, y2⟩ := q156
            refine hr_norm (st' := [zv (z157), zv (z149)]) rfl ?_
            refine hr_divg C dX12_odds_78 ⟨by omega, by omega⟩ (by omega) rfl (fun r158 => ?_)
            exact hr_iret C hlocks hr dX12_odds_79 ⟨(fx_sm_tr (fx_sm_tr (fx_sm_tr (fx_sm_tr fx_sm_refl s27 (by decide)) s37 (by decide)) s47 (by decide)) s142 (by decide)), _, rfl⟩
          · have c153 : (p0 : Int) = 0 := c153
            refine hr_iln C 1 dX12_odds_66 rfl rfl rfl ?_
            refine hr_goto C 72 dX12_odds_67 (by decide) ?_
            refine hr_il C 0 dX12_odds_72 rfl rfl ?_
            refine hr_iln C 1 dX12_odds_74 rfl rfl rfl ?_
            refine hr_cS (As := [zv (z149), zv (z54)]) (rest := [zv (z54)]) C (h_divisor h (z149) (z54) ⟨by omega, by omega⟩ ⟨by omega, by omega⟩ (Or.inr (by omega))) ⟨by decide, by decide⟩ iS_X12_divisor g_X12_440 dX12_odds_75 rfl rfl (Nat.le_of_ble_eq_true rfl) rfl ⟨rfl, trivial⟩ (fun w159 rv o160 q161 => ?_)
            obtain ⟨rfl, z162, rfl, y1, y2⟩ := q161
            refine hr_norm (st' := [zv (z162), zv (z54)]) rfl ?_
            refine hr_divg C dX12_odds_78 ⟨by omega, by omega⟩ (by omega) rfl (fun r163 => ?_)
            exact hr_iret C hlocks hr dX12_odds_79 ⟨(fx_sm_tr (fx_sm_tr (fx_sm_tr (fx_sm_tr fx_sm_refl s27 (by decide)) s37 (by decide)) s47 (by decide)) s142 (by decide)), _, rfl⟩
        · refine hr_norm (st' := [zv (4), zv (vi w34 0 46)]) (by rw [show vi w24 0 45 = 4 by omega]) ?_
          refine hr_cS (As := [zv (vi w34 0 46), zv (4)]) (rest := []) C (hM_fx (km66 h)) ⟨by decide, by decide⟩ iS_X12_choices g_X12_437 dX12_odds_57 rfl rfl (Nat.le_of_ble_eq_true rfl) rfl ⟨(ty_cons (ok_z (by decide) (by decide) (by omega) (by omega)) (ty_cons (ok_z (by decide) (by decide) (by omega) (by omega)) ty_nil)), ⟨_, rfl⟩⟩ (fun w164 rv o165 q166 => ?_)
          obtain ⟨s167, po, hpo168, hrv169, hty170, rt, hfs171⟩ := q166
          replace s167 : fx_sm (gsM, TM, cy, fun _ => True) [] w44 w164 := s167
          simp only [km66_c, List.mem_cons, List.not_mem_nil, or_false] at hpo168
          subst hpo168
          obtain ⟨v172, rfl, hv173⟩ := hrv169
          obtain ⟨z174, rfl, b175, b176, b177⟩ := ok_iz hv173
          simp only [rg] at b177
          refine hr_norm (st' := [zv (z174)]) rfl ?_
          refine hr_is (lv' := [(4, zv (z174)), (3, zv (z54)), (0, .ref r), (1, zv (v)), (2, zv (p0))]) C dX12_odds_60 (by decide) rfl rfl ?_
          refine hr_iln C 4 dX12_odds_62 rfl rfl rfl ?_
          refine hr_if C 70 dX12_odds_63 (by decide) ⟨by omega, by omega⟩ rfl (fun c178 => ?_) (fun c178 => ?_)
          · have c178 : ¬ (p0 : Int) = 0 := c178
            refine hr_il C 0 dX12_odds_70 rfl rfl ?_
            refine hr_il C 0 dX12_odds_72 rfl rfl ?_
            refine hr_iln C 1 dX12_odds_74 rfl rfl rfl ?_
            refine hr_cS (As := [zv (z174), zv (z54)]) (rest := [zv (z174)]) C (h_divisor h (z174) (z54) ⟨by omega, by omega⟩ ⟨by omega, by omega⟩ (Or.inr (by omega))) ⟨by decide, by decide⟩ iS_X12_divisor g_X12_440 dX12_odds_75 rfl rfl (Nat.le_of_ble_eq_true rfl) rfl ⟨rfl, trivial⟩ (fun w179 rv o180 q181 => ?_)
            obtain ⟨rfl, z182, rfl, y1, y2⟩ := q181
            refine hr_norm (st' := [zv (z182), zv (z174)]) rfl ?_
            refine hr_divg C dX12_odds_78 ⟨by omega, by omega⟩ (by omega) rfl (fun r183 => ?_)
            exact hr_iret C hlocks hr dX12_odds_79 ⟨(fx_sm_tr (fx_sm_tr (fx_sm_tr (fx_sm_tr fx_sm_refl s27 (by decide)) s37 (by decide)) s47 (by decide)) s167 (by decide)), _, rfl⟩
          · have c178 : (p0 : Int) = 0 := c178
            refine hr_iln C 1 dX12_odds_66 rfl rfl rfl ?_
            refine hr_goto C 72 dX12_odds_67 (by decide) ?_
            refine hr_il C 0 dX12_odds_72 rfl rfl ?_
            refine hr_iln C 1 dX12_odds_74 rfl rfl rfl ?_
            refine hr_cS (As := [zv (z174), zv (z54)]) (rest := [zv (z54)]) C (h_divisor h (z174) (z54) ⟨by omega, by omega⟩ ⟨by omega, by omega⟩ (Or.inr (by omega))) ⟨by decide, by decide⟩ iS_X12_divisor g_X12_440 dX12_odds_75 rfl rfl (Nat.le_of_ble_eq_true rfl) rfl ⟨rfl, trivial⟩ (fun w184 rv o185 q186 => ?_)
            obtain ⟨rfl, z187, rfl, y1, y2⟩ := q186
            refine hr_norm (st' := [zv (z187), zv (z54)]) rfl ?_
            refine hr_divg C dX12_odds_78 ⟨by omega, by omega⟩ (by omega) rfl (fun r188 => ?_)
            exact hr_iret C hlocks hr dX12_odds_79 ⟨(fx_sm_tr (fx_sm_tr (fx_sm_tr (fx_sm_tr fx_sm_refl s27 (by decide)) s37 (by decide)) s47 (by decide)) s167 (by decide)), _, rfl⟩
        · refine hr_norm (st' := [zv (5), zv (vi w34 0 46)]) (by rw [show vi w24 0 45 = 5 by omega]) ?_
          refine hr_cS (As := [zv (vi w34 0 46), zv (5)]) (rest := []) C (hM_fx (km312 h)) ⟨by decide, by decide⟩ iS_X12_choices g_X12_437 dX12_odds_57 rfl rfl (Nat.le_of_ble_eq_true rfl) rfl ⟨(ty_cons (ok_z (by decide) (by decide) (by omega) (by omega)) (ty_cons (ok_z (by decide) (by decide) (by omega) (by omega)) ty_nil)), ⟨_, rfl⟩⟩ (fun w189 rv o190 q191 => ?_)
          obtain ⟨s192, po, hpo193, hrv194, hty195, rt, hfs196⟩ := q191
          replace s192 : fx_sm (gsM, TM, cy, fun _ => True) [] w44 w189 := s192
          simp only [km312_c, List.mem_cons, List.not_mem_nil, or_false] at hpo193
          subst hpo193
          obtain ⟨v197, rfl, hv198⟩ := hrv194
          obtain ⟨z199, rfl, b200, b201, b202⟩ := ok_iz hv198
          simp only [rg] at b202
          refine hr_norm (st' := [zv (z199)]) rfl ?_
          refine hr_is (lv' := [(4, zv (z199)), (3, zv (z54)), (0, .ref r), (1, zv (v)), (2, zv (p0))]) C dX12_odds_60 (by decide) rfl rfl ?_
          refine hr_iln C 4 dX12_odds_62 rfl rfl rfl ?_
          refine hr_if C 70 dX12_odds_63 (by decide) ⟨by omega, by omega⟩ rfl (fun c203 => ?_) (fun c203 => ?_)
          · have c203 : ¬ (p0 : Int) = 0 := c203
            refine hr_il C 0 dX12_odds_70 rfl rfl ?_
            refine hr_il C 0 dX12_odds_72 rfl rfl ?_
            refine hr_iln C 1 dX12_odds_74 rfl rfl rfl ?_
            refine hr_cS (As := [zv (z199), zv (z54)]) (rest := [zv (z199)]) C (h_divisor h (z199) (z54) ⟨by omega, by omega⟩ ⟨by omega, by omega⟩ (Or.inr (by omega))) ⟨by decide, by decide⟩ iS_X12_divisor g_X12_440 dX12_odds_75 rfl rfl (Nat.le_of_ble_eq_true rfl) rfl ⟨rfl, trivial⟩ (fun w204 rv o205 q206 => ?_)
            obtain ⟨rfl, z207, rfl, y1, y2⟩ := q206
            refine hr_norm (st' := [zv (z207), zv (z199)]) rfl ?_
            refine hr_divg C dX12_odds_78 ⟨by omega, by omega⟩ (by omega) rfl (fun r208 => ?_)
            exact hr_iret C hlocks hr dX12_odds_79 ⟨(fx_sm_tr (fx_sm_tr (fx_sm_tr (fx_sm_tr fx_sm_refl s27 (by decide)) s37 (by decide)) s47 (by decide)) s192 (by decide)), _, rfl⟩
          · have c203 : (p0 : Int) = 0 := c203
            refine hr_iln C 1 dX12_odds_66 rfl rfl rfl ?_
            refine hr_goto C 72 dX12_odds_67 (by decide) ?_
            refine hr_il C 0 dX12_odds_72 rfl rfl ?_
            refine hr_iln C 1 dX12_odds_74 rfl rfl rfl ?_
            refine hr_cS (As := [zv (z199), zv (z54)]) (rest := [zv (z54)]) C (h_divisor h (z199) (z54) ⟨by omega, by omega⟩ ⟨by omega, by omega⟩ (Or.inr (by omega))) ⟨by decide, by decide⟩ iS_X12_divisor g_X12_440 dX12_odds_75 rfl rfl (Nat.le_of_ble_eq_true rfl) rfl ⟨rfl, trivial⟩ (fun w209 rv o210 q211 => ?_)
            obtain ⟨rfl, z212, rfl, y1, y2⟩ := q211
            refine hr_norm (st' := [zv (z212), zv (z54)]) rfl ?_
            refine hr_divg C dX12_odds_78 ⟨by omega, by omega⟩ (by omega) rfl (fun r213 => ?_)
            exact hr_iret C hlocks hr dX12_odds_79 ⟨(fx_sm_tr (fx_sm_tr (fx_sm_tr (fx_sm_tr fx_sm_refl s27 (by decide)) s37 (by decide)) s47 (by decide)) s192 (by decide)), _, rfl⟩
        · refine hr_norm (st' := [zv (6), zv (vi w34 0 46)]) (by rw [show vi w24 0 45 = 6 by omega]) ?_
          refine hr_cS (As := [zv (vi w34 0 46), zv (6)]) (rest := []) C (hM_fx (km313 h)) ⟨by decide, by decide⟩ iS_X12_choices g_X12_437 dX12_odds_57 rfl rfl (Nat.le_of_ble_eq_true rfl) rfl ⟨(ty_cons (ok_z (by decide) (by decide) (by omega) (by omega)) (ty_cons (ok_z (by decide) (by decide) (by omega) (by omega)) ty_nil)), ⟨_, rfl⟩⟩ (fun w214 rv o215 q216 => ?_)
          obtain ⟨s217, po, hpo218, hrv219, hty220, rt, hfs221⟩ := q216
          replace s217 : fx_sm (gsM, TM, cy, fun _ => True) [] w44 w214 := s217
          simp only [km313_c, List.mem_cons, List.not_mem_nil, or_false] at hpo218
          subst hpo218
          obtain ⟨v222, rfl, hv223⟩ := hrv219
          obtain ⟨z224, rfl, b225, b226, b227⟩ := ok_iz hv223
          simp only [rg] at b227
          refine hr_norm (st' := [zv (z224)]) rfl ?_
          refine hr_is (lv' := [(4, zv (z224)), (3, zv (z54)), (0, .ref r), (1, zv (v)), (2, zv (p0))]) C dX12_odds_60 (by decide) rfl rfl ?_
          refine hr_iln C 4 dX12_odds_62 rfl rfl rfl ?_
          refine hr_if C 70 dX12_odds_63 (by decide) ⟨by omega, by omega⟩ rfl (fun c228 => ?_) (fun c228 => ?_)
          · have c228 : ¬ (p0 : Int) = 0 := c228
            refine hr_il C 0 dX12_odds_70 rfl rfl ?_
            refine hr_il C 0 dX12_odds_72 rfl rfl ?_
            refine hr_iln C 1 dX12_odds_74 rfl rfl rfl ?_
            refine hr_cS (As := [zv (z224), zv (z54)]) (rest := [zv (z224)]) C (h_divisor h (z224) (z54) ⟨by omega, by omega⟩ ⟨by omega, by omega⟩ (Or.inr (by omega))) ⟨by decide, by decide⟩ iS_X12_divisor g_X12_440 dX12_odds_75 rfl rfl (Nat.le_of_ble_eq_true rfl) rfl ⟨rfl, trivial⟩ (fun w229 rv o230 q231 => ?_)
            obtain ⟨rfl, z232, rfl, y1, y2⟩ := q231
            refine hr_norm (st' := [zv (z232), zv (z224)]) rfl ?_
            refine hr_divg C dX12_odds_78 ⟨by omega, by omega⟩ (by omega) rfl (fun r233 => ?_)
            exact hr_iret C hlocks hr dX12_odds_79 ⟨(fx_sm_tr (fx_sm_tr (fx_sm_tr (fx_sm_tr fx_sm_refl s27 (by decide)) s37 (by decide)) s47 (by decide)) s217 (by decide)), _, rfl⟩
          · have c228 : (p0 : Int) = 0 := c228
            refine hr_iln C 1 dX12_odds_66 rfl rfl rfl ?_
            refine hr_goto C 72 dX12_odds_67 (by decide) ?_
            refine hr_il C 0 dX12_odds_72 rfl rfl ?_
            refine hr_iln C 1 dX12_odds_74 rfl rfl rfl ?_
            refine hr_cS (As := [zv (z224), zv (z54)]) (rest := [zv (z54)]) C (h_divisor h (z224) (z54) ⟨by omega, by omega⟩ ⟨by omega, by omega⟩ (Or.inr (by omega))) ⟨by decide, by decide⟩ iS_X12_divisor g_X12_440 dX12_odds_75 rfl rfl (Nat.le_of_ble_eq_true rfl) rfl ⟨rfl, trivial⟩ (fun w234 rv o235 q236 => ?_)
            obtain ⟨rfl, z237, rfl, y1, y2⟩ := q236
            refine hr_norm (st' := [zv (z237), zv (z54)]) rfl ?_
            refine hr_divg C dX12_odds_78 ⟨by omega, by omega⟩ (by omega) rfl (fun r238 => ?_)
            exact hr_iret C hlocks hr dX12_odds_79 ⟨(fx_sm_tr (fx_sm_tr (fx_sm_tr (fx_sm_tr fx_sm_refl s27 (by decide)) s37 (by decide)) s47 (by decide)) s217 (by decide)), _, rfl⟩
        · refine hr_norm (st' := [zv (7), zv (vi w34 0 46)]) (by rw [show vi w24 0 45 = 7 by omega]) ?_
          refine hr_cS (As := [zv (vi w34 0 46), zv (7)]) (rest := []) C (hM_fx (km314 h)) ⟨by decide, by decide⟩ iS_X12_choices g_X12_437 dX12_odds_57 rfl rfl (Nat.le_of_ble_eq_true rfl) rfl ⟨(ty_cons (ok_z (by decide) (by decide) (by omega) (by omega)) (ty_cons (ok_z (by decide) (by decide) (by omega) (by omega)) ty_nil)), ⟨_, rfl⟩⟩ (fun w239 rv o240 q241 => ?_)
          obtain ⟨s242, po, hpo243, hrv244, hty245, rt, hfs246⟩ := q241
          replace s242 : fx_sm (gsM, TM, cy, fun _ => True) [] w44 w239 := s242
          simp only [km314_c, List.mem_cons, List.not_mem_nil, or_false] at hpo243
          subst hpo243
          obtain ⟨v247, rfl, hv248⟩ := hrv244
          obtain ⟨z249, rfl, b250, b251, b252⟩ := ok_iz hv248
          simp only [rg] at b252
          refine hr_norm (st' := [zv (z249)]) rfl ?_
          refine hr_is (lv' := [(4, zv (z249)), (3, zv (z54)), (0, .ref r), (1, zv (v)), (2, zv (p0))]) C dX12_odds_60 (by decide) rfl rfl ?_
          refine hr_iln C 4 dX12_odds_62 rfl rfl rfl ?_
          refine hr_if C 70 dX12_odds_63 (by decide) ⟨by omega, by omega⟩ rfl (fun c253 => ?_) (fun c253 => ?_)
          · have c253 : ¬ (p0 : Int) = 0 := c253
            refine hr_il C 0 dX12_odds_70 rfl rfl ?_
            refine hr_il C 0 dX12_odds_72 rfl rfl ?_
            refine hr_iln C 1 dX12_odds_74 rfl rfl rfl ?_
            refine hr_cS (As := [zv (z249), zv (z54)]) (rest := [zv (z249)]) C (h_divisor h (z249) (z54) ⟨by omega, by omega⟩ ⟨by omega, by omega⟩ (Or.inr (by omega))) ⟨by decide, by decide⟩ iS_X12_divisor g_X12_440 dX12_odds_75 rfl rfl (Nat.le_of_ble_eq_true rfl) rfl ⟨rfl, trivial⟩ (fun w254 rv o255 q256 => ?_)
            obtain ⟨rfl, z257, rfl, y1, y2⟩ := q256
            refine hr_norm (st' := [zv (z257), zv (z249)]) rfl ?_
            refine hr_divg C dX12_odds_78 ⟨by omega, by omega⟩ (by omega) rfl (fun r258 => ?_)
            exact hr_iret C hlocks hr dX12_odds_79 ⟨(fx_sm_tr (fx_sm_tr (fx_sm_tr (fx_sm_tr fx_sm_refl s27 (by decide)) s37 (by decide)) s47 (by decide)) s242 (by decide)), _, rfl⟩
          · have c253 : (p0 : Int) = 0 := c253
            refine hr_iln C 1 dX12_odds_66 rfl rfl rfl ?_
            refine hr_goto C 72 dX12_odds_67 (by decide) ?_
            refine hr_il C 0 dX12_odds_72 rfl rfl ?_
            refine hr_iln C 1 dX12_odds_74 rfl rfl rfl ?_
            refine hr_cS (As := [zv (z249), zv (z54)]) (rest := [zv (z54)]) C (h_divisor h (z249) (z54) ⟨by omega, by omega⟩ ⟨by omega, by omega⟩ (Or.inr (by omega))) ⟨by decide, by decide⟩ iS_X12_divisor g_X12_440 dX12_odds_75 rfl rfl (Nat.le_of_ble_eq_true rfl) rfl ⟨rfl, trivial⟩ (fun w259 rv o260 q261 => ?_)
            obtain ⟨rfl, z262, rfl, y1, y2⟩ := q261
            refine hr_norm (st' := [zv (z262), zv (z54)]) rfl ?_
            refine hr_divg C dX12_odds_78 ⟨by omega, by omega⟩ (by omega) rfl (fun r263 => ?_)
            exact hr_iret C hlocks hr dX12_odds_79 ⟨(fx_sm_tr (fx_sm_tr (fx_sm_tr (fx_sm_tr fx_sm_refl s27 (by decide)) s37 (by decide)) s47 (by decide)) s242 (by decide)), _, rfl⟩
        · refine hr_norm (st' := [zv (8), zv (vi w34 0 46)]) (by rw [show vi w24 0 45 = 8 by omega]) ?_
          refine hr_cS (As := [zv (vi w34 0 46), zv (8)]) (rest := []) C (hM_fx (km315 h)) ⟨by decide, by decide⟩ iS_X12_choices g_X12_437 dX12_odds_57 rfl rfl (Nat.le_of_ble_eq_true rfl) rfl ⟨(ty_cons (ok_z (by decide) (by decide) (by omega) (by omega)) (ty_cons (ok_z (by decide) (by decide) (by omega) (by omega)) ty_nil)), ⟨_, rfl⟩⟩ (fun w264 rv o265 q266 => ?_)
          obtain ⟨s267, po, hpo268, hrv269, hty270, rt, hfs271⟩ := q266
          replace s267 : fx_sm (gsM, TM, cy, fun _ => True) [] w44 w264 := s267
          simp only [km315_c, List.mem_cons, List.not_mem_nil, or_false] at hpo268
          subst hpo268
          obtain ⟨v272, rfl, hv273⟩ := hrv269
          obtain ⟨z274, rfl, b275, b276, b277⟩ := ok_iz hv273
          simp only [rg] at b277
          refine hr_norm (st' := [zv (z274)]) rfl ?_
          refine hr_is (lv' := [(4, zv (z274)), (3, zv (z54)), (0, .ref r), (1, zv (v)), (2, zv (p0))]) C dX12_odds_60 (by decide) rfl rfl ?_
          refine hr_iln C 4 dX12_odds_62 rfl rfl rfl ?_
          refine hr_if C 70 dX12_odds_63 (by decide) ⟨by omega, by omega⟩ rfl (fun c278 => ?_) (fun c278 => ?_)
          · have c278 : ¬ (p0 : Int) = 0 := c278
            refine hr_il C 0 dX12_odds_70 rfl rfl ?_
            refine hr_il C 0 dX12_odds_72 rfl rfl ?_
            refine hr_iln C 1 dX12_odds_74 rfl rfl rfl ?_
            refine hr_cS (As := [zv (z274), zv (z54)]) (rest := [zv (z274)]) C (h_divisor h (z274) (z54) ⟨by omega, by omega⟩ ⟨by omega, by omega⟩ (Or.inr (by omega))) ⟨by decide, by decide⟩ iS_X12_divisor g_X12_440 dX12_odds_75 rfl rfl (Nat.le_of_ble_eq_true rfl) rfl ⟨rfl, trivial⟩ (fun w279 rv o280 q281 => ?_)
            obtain ⟨rfl, z282, rfl, y1, y2⟩ := q281
            refine hr_norm (st' := [zv (z282), zv (z274)]) rfl ?_
            refine hr_divg C dX12_odds_78 ⟨by omega, by omega⟩ (by omega) rfl (fun r283 => ?_)
            exact hr_iret C hlocks hr dX12_odds_79 ⟨(fx_sm_tr (fx_sm_tr (fx_sm_tr (fx_sm_tr fx_sm_refl s27 (by decide)) s37 (by decide)) s47 (by decide)) s267 (by decide)), _, rfl⟩
          · have c278 : (p0 : Int) = 0 := c278
            refine hr_iln C 1 dX12_odds_66 rfl rfl rfl ?_
            refine hr_goto C 72 dX12_odds_67 (by decide) ?_
            refine hr_il C 0 dX12_odds_72 rfl rfl ?_
            refine hr_iln C 1 dX12_odds_74 rfl rfl rfl ?_
            refine hr_cS (As := [zv (z274), zv (z54)]) (rest := [zv (z54)]) C (h_divisor h (z274) (z54) ⟨by omega, by omega⟩ ⟨by omega, by omega⟩ (Or.inr (by omega))) ⟨by decide, by decide⟩ iS_X12_divisor g_X12_440 dX12_odds_75 rfl rfl (Nat.le_of_ble_eq_true rfl) rfl ⟨rfl, trivial⟩ (fun w284 rv o285 q286 => ?_)
            obtain ⟨rfl, z287, rfl, y1, y2⟩ := q286
            refine hr_norm (st' := [zv (z287), zv (z54)]) rfl ?_
            refine hr_divg C dX12_odds_78 ⟨by omega, by omega⟩ (by omega) rfl (fun r288 => ?_)
            exact hr_iret C hlocks hr dX12_odds_79 ⟨(fx_sm_tr (fx_sm_tr (fx_sm_tr (fx_sm_tr fx_sm_refl s27 (by decide)) s37 (by decide)) s47 (by decide)) s267 (by decide)), _, rfl⟩
      · have c23 : (vi ws 26 12 : Int) < lenW ws v := c23
        refine hr_ic C dX12_odds_32 rfl ?_
        exact hr_iret C hlocks hr dX12_odds_33 ⟨fx_sm_refl, _, rfl⟩
