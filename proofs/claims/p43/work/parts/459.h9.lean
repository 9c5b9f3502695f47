theorem dX12_three_0 : decode cX12_three 0 = .ok (.aload_n 0, 1) := by decide +kernel
theorem dX12_three_1 : decode cX12_three 1 = .ok (.iconst 0, 1) := by decide +kernel
theorem dX12_three_2 : decode cX12_three 2 = .ok (.putfield 375, 3) := by decide +kernel
theorem dX12_three_5 : decode cX12_three 5 = .ok (.aload_n 0, 1) := by decide +kernel
theorem dX12_three_6 : decode cX12_three 6 = .ok (.iload_n 3, 1) := by decide +kernel
theorem dX12_three_7 : decode cX12_three 7 = .ok (.invokevirtual 363, 3) := by decide +kernel
theorem dX12_three_10 : decode cX12_three 10 = .ok (.ifCond .eq 12, 3) := by decide +kernel
theorem dX12_three_22 : decode cX12_three 22 = .ok (.iconst (-1), 1) := by decide +kernel
theorem dX12_three_23 : decode cX12_three 23 = .ok (.ireturn, 1) := by decide +kernel
theorem dX12_three_13 : decode cX12_three 13 = .ok (.aload_n 0, 1) := by decide +kernel
theorem dX12_three_14 : decode cX12_three 14 = .ok (.iload_n 1, 1) := by decide +kernel
theorem dX12_three_15 : decode cX12_three 15 = .ok (.iload_n 2, 1) := by decide +kernel
theorem dX12_three_16 : decode cX12_three 16 = .ok (.invokevirtual 460, 3) := by decide +kernel
theorem dX12_three_19 : decode cX12_three 19 = .ok (.ifCond .ne 5, 3) := by decide +kernel
theorem dX12_three_36 : decode cX12_three 36 = .ok (.iload 4, 2) := by decide +kernel
theorem dX12_three_38 : decode cX12_three 38 = .ok (.aload_n 0, 1) := by decide +kernel
theorem dX12_three_39 : decode cX12_three 39 = .ok (.getfield 443, 3) := by decide +kernel
theorem dX12_three_42 : decode cX12_three 42 = .ok (.if_icmp .ge 23, 3) := by decide +kernel
theorem dX12_three_65 : decode cX12_three 65 = .ok (.aload_n 0, 1) := by decide +kernel
theorem dX12_three_66 : decode cX12_three 66 = .ok (.invokevirtual 464, 3) := by decide +kernel
theorem dX12_three_69 : decode cX12_three 69 = .ok (.ireturn, 1) := by decide +kernel
theorem dX12_three_45 : decode cX12_three 45 = .ok (.aload_n 0, 1) := by decide +kernel
theorem dX12_three_46 : decode cX12_three 46 = .ok (.getfield 101, 3) := by decide +kernel
theorem dX12_three_49 : decode cX12_three 49 = .ok (.iload 4, 2) := by decide +kernel
theorem dX12_three_51 : decode cX12_three 51 = .ok (.aload_n 0, 1) := by decide +kernel
theorem dX12_three_52 : decode cX12_three 52 = .ok (.iload_n 3, 1) := by decide +kernel
theorem dX12_three_53 : decode cX12_three 53 = .ok (.iload 4, 2) := by decide +kernel
theorem dX12_three_55 : decode cX12_three 55 = .ok (.invokevirtual 387, 3) := by decide +kernel
theorem dX12_three_58 : decode cX12_three 58 = .ok (.iastore, 1) := by decide +kernel
theorem dX12_three_59 : decode cX12_three 59 = .ok (.iinc 4 1, 3) := by decide +kernel
theorem dX12_three_62 : decode cX12_three 62 = .ok (.goto (-26), 3) := by decide +kernel
theorem dX12_three_24 : decode cX12_three 24 = .ok (.aload_n 0, 1) := by decide +kernel
theorem dX12_three_25 : decode cX12_three 25 = .ok (.aload_n 0, 1) := by decide +kernel
theorem dX12_three_26 : decode cX12_three 26 = .ok (.iload_n 3, 1) := by decide +kernel
theorem dX12_three_27 : decode cX12_three 27 = .ok (.invokevirtual 381, 3) := by decide +kernel
theorem dX12_three_30 : decode cX12_three 30 = .ok (.putfield 443, 3) := by decide +kernel
theorem dX12_three_33 : decode cX12_three 33 = .ok (.iconst 0, 1) := by decide +kernel
theorem dX12_three_34 : decode cX12_three 34 = .ok (.istore 4, 2) := by decide +kernel
set_option maxRecDepth 100000 in
set_option maxHeartbeats 4000000 in
theorem h_three {l : Launch} {E : (Nat → Prop) → State → Prop} {ad : List Nat} {D : va_G} {cy : Nat → ClassId} (h : fx_env E D classes (tys cy) nestW) (r : Nat) (u v x3 : Int) (hr0 : ad[0]? = some r) (hu : rg u) (hv : rg v) (hx3 : rg x3) : hM l yX12_three cX12_three 5 (some .int) ({ frames := 5, cells := 0, slots := 0, locals := 124 }) E ad D cy (fun av ws => av = [.ref r, zv u, zv v, zv x3] ∧ imSW ws) (fun _ ws rv ws1 => fx_sm (gsM, TM, cy, fun _ => True) [(12, 45), (12, 46), (12, 47), (12, 55), (1000, 27), (1000, 28), (1000, 29), (1000, 32), (1000, 33), (1000, 34)] ws ws1 ∧ ∃ z, rv = some (zv z)) := by
  refine hM_of h (by decide) ?_
  intro av ws p e s m below meth c hwo hnd hpre hlocks hr C
  obtain ⟨rfl, hpre⟩ := hpre
  refine ⟨Nat.le_of_ble_eq_true rfl, ?_⟩
  simp only [rg] at hu hv hx3
  have hB0 := fl_b (fi := 34) (lo := 0) (hi := 1) hwo hr0 rfl
  have hS0 := el_b (fi := 13) (g := 5) (n := 2) (lo := 0) (hi := 5) (j := Int.toNat (vi ws 0 34)) hwo hr0 rfl (by decide) TMa_5 (by omega)
  refine hr_pick (lv' := [(0, .ref r), (1, zv u), (2, zv v), (3, zv x3)]) [0, 1, 2, 3] rfl ?_
  refine hr_aln C 0 dX12_three_0 rfl rfl rfl ?_
  refine hr_ic C dX12_three_1 rfl ?_
  refine hr_pI (lo := 0) (hi := 36) C hr0 TM0 rfl ⟨by decide, by decide⟩ pl_X12_375 dX12_three_2 (by omega) (by omega) rfl (fun w1 o2 s3 e4 => ?_)
  refine hr_aln C 0 dX12_three_5 rfl rfl rfl ?_
  refine hr_iln C 3 dX12_three_6 rfl rfl rfl ?_
  have hB := fl_b (fi := 34) (lo := 0) (hi := 1) o2 hr0 rfl
  have hS := el_b (fi := 13) (g := 5) (n := 2) (lo := 0) (hi := 5) (j := Int.toNat (vi w1 0 34)) o2 hr0 rfl (by decide) TMa_5 (by omega)
  refine hr_cV (As := [zv (x3)]) (rest := []) C (h_isSlip h r (x3) hr0 ⟨by omega, by omega⟩) ⟨by decide, by decide⟩ iV_X12_isSlip g_X12_363 TM0 hr0 dX12_three_7 rfl rfl (Nat.le_of_ble_eq_true rfl) rfl ⟨rfl, trivial⟩ (fun w5 rv o6 q7 => ?_)
  obtain ⟨rfl, rfl⟩ := q7
  obtain ⟨t8, et9⟩ : ∃ t, t = (if 0 ≤ x3 ∧ x3 ≤ vi w1 5 (Int.toNat (vi w1 0 34)) - 1 then 1 else 0 : Int) := ⟨_, rfl⟩
  rw [← et9]
  have e10 : (t8 = 1 ∧ (0 ≤ x3 ∧ x3 ≤ vi w1 5 (Int.toNat (vi w1 0 34)) - 1)) ∨ (t8 = 0 ∧ ¬ (0 ≤ x3 ∧ x3 ≤ vi w1 5 (Int.toNat (vi w1 0 34)) - 1)) := by rw [et9]; split <;> simp_all
  clear et9
  refine hr_norm (st' := [zv (t8)]) rfl ?_
  refine hr_if C 22 dX12_three_10 (by decide) ⟨by omega, by omega⟩ rfl (fun c11 => ?_) (fun c11 => ?_)
  · have c11 : (t8 : Int) = 0 := c11
    refine hr_ic C dX12_three_22 rfl ?_
    exact hr_iret C hlocks hr dX12_three_23 ⟨(fx_sm_tr fx_sm_refl s3 (by decide)), _, rfl⟩
  · have c11 : ¬ (t8 : Int) = 0 := c11
    refine hr_aln C 0 dX12_three_13 rfl rfl rfl ?_
    refine hr_iln C 1 dX12_three_14 rfl rfl rfl ?_
    refine hr_iln C 2 dX12_three_15 rfl rfl rfl ?_
    refine hr_cV (As := [zv (u), zv (v)]) (rest := []) C (h_layBoth h r (u) (v) hr0 ⟨by omega, by omega⟩ ⟨by omega, by omega⟩) ⟨by decide, by decide⟩ iV_X12_layBoth g_X12_460 TM0 hr0 dX12_three_16 rfl rfl (Nat.le_of_ble_eq_true rfl) rfl ⟨rfl, trivial⟩ (fun w12 rv o13 q14 => ?_)
    obtain ⟨s15, z16, rfl, hz⟩ := q14
    have hz1 : z16 = 0 ∨ z16 = 1 := hz.elim Or.inl (fun q => Or.inr q.1)
    refine hr_norm (st' := [zv (z16)]) rfl ?_
    refine hr_if C 24 dX12_three_19 (by decide) ⟨by omega, by omega⟩ rfl (fun c17 => ?_) (fun c17 => ?_)
    · have c17 : ¬ (z16 : Int) = 0 := c17
      obtain ⟨-, hs1, hs2, hl1, hl2, hl3⟩ := hz.resolve_left (by omega)
      have hsc : SL w1 x3 := ⟨by omega, by omega⟩
      have hW := el_b (fi := 11) (g := 3) (n := 2) (lo := 0) (hi := 9) (j := Int.toNat (vi w1 0 34)) o2 hr0 rfl (by decide) TMa_3 (by omega)
      have sw1 : imSW w1 := sw_sm hwo o2 s3 (by decide) hpre
      have elen := (wrd_sm o2 o13 s15 (by decide) x3 0).2
      have loop : ∀ (q : Nat) (k : Int) (w : va_W), (12 - k).toNat < q → fx_wo (gsM, TM, cy, fun _ => True) ad w → 0 ≤ k → k ≤ lenW w12 x3 → 0 ≤ lenW w12 x3 → lenW w12 x3 ≤ 8 → fx_sm (gsM, TM, cy, fun _ => True) [(12, 47), (1000, 29)] w12 w → vi w 0 47 = lenW w12 x3 → (∀ j : Nat, (j : Int) < k → vi w 29 j = wrdW w12 x3 j ∧ 0 ≤ wrdW w12 x3 j) → HW l E ad D cy (va_A ws s.heap.size) s.heap p e ({ frames := 5, cells := 0, slots := 0, locals := 124 }) s m ([.ref r, zv u, zv v, zv x3]).toArray below meth c (MQ below (hQ ad D cy (fun _ ws rv ws1 => fx_sm (gsM, TM, cy, fun _ => True) [(12, 45), (12, 46), (12, 47), (12, 55), (1000, 27), (1000, 28), (1000, 29), (1000, 32), (1000, 33), (1000, 34)] ws ws1 ∧ ∃ z, rv = some (zv z)) ([.ref r, zv u, zv v, zv x3]) ws s.heap.size) ([.ref r, zv u, zv v, zv x3]).toArray s 0 0 (va_A ws s.heap.size)) cX12_three 5 yX12_three.cls 36 [(0, .ref r), (3, zv x3), (4, zv k)] [] w := by
        intro q
        induction q with
        | zero => intro k w hq; omega
        | succ q ih =>
          intro k w hq how h1 h2 g1 g2 sm hl hj
          refine hr_il C 2 dX12_three_36 rfl rfl ?_
          refine hr_aln C 0 dX12_three_38 rfl rfl rfl ?_
          refine hr_gI (lo := 0) (hi := 12) C hr0 TM0 rfl fl_X12_443 dX12_three_39 rfl (fun b1 b2 => ?_)
          refine hr_cmp C 65 dX12_three_42 (by decide) ⟨by omega, by omega⟩ ⟨by omega, by omega⟩ rfl (fun c3 => ?_) (fun c3 => ?_)
          · have c3 : (vi w 0 47 : Int) ≤ k := c3
            refine hr_aln C 0 dX12_three_65 rfl rfl rfl ?_
            have ek : k = lenW w12 x3 := by omega
            have hl3 : LAID w1 w 47 29 x3 := LAID_pre o2 o13 s15 (by decide) ⟨hl, g1, g2, fun j hj2 => hj j (by omega)⟩
            have m1 := LAID_sm o13 how sm TMa_27 (by decide) hl1
            have m2 := LAID_sm o13 how sm TMa_28 (by decide) hl2
            have ow1 := OW_of hB sw1 hs1 m1
            have ow2 := OW_of hB sw1 hs2 m2
            have ow3 := OW_of hB sw1 hsc hl3
            have eW : vi w 3 (Int.toNat (vi w 0 34)) = vi w1 3 (Int.toNat (vi w1 0 34)) := by rw [sm_f o13 how sm (by decide), sm_a o13 how sm TMa_3 (by decide), sm_f o2 o13 s15 (by decide), sm_a o2 o13 s15 TMa_3 (by decide)]
            have hlen := And.intro m1.1 (And.intro m2.1 (And.intro m1.2.1 (And.intro m1.2.2.1 (And.intro m2.2.1 m2.2.2.1))))
            have hlen3 := And.intro hl3.1 (And.intro hl3.2.1 hl3.2.2.1)
            have hlaid : vi w 0 55 = 0 := by rw [sm_f o13 how sm (by decide)]; rw [sm_f o2 o13 s15 (by decide)]; rw [e4, if_pos ⟨rfl, rfl⟩]
            refine hr_cV (As := []) (rest := []) C (h_showSource h r (vi w 0 45) (vi w 0 46) (vi w 0 47) (vi w1 3 (Int.toNat (vi w1 0 34))) (vi w 27) (vi w 28) (vi w 29) hr0 ⟨by omega, by omega, by omega⟩ ⟨by omega, by omega, by omega⟩ (by omega) (by omega) ow1 ow2 ow3) ⟨by decide, by decide⟩ iV_X12_showSource g_X12_464 TM0 hr0 dX12_three_66 rfl rfl (Nat.le_of_ble_eq_true rfl) rfl ⟨rfl, ⟨rfl, rfl, rfl, eW, fun _ => rfl, fun _ => rfl, fun _ => rfl⟩, hlaid⟩ (fun w4 rv o5 q6 => ?_)
            obtain ⟨s7, z8, rfl, y1, y2⟩ := q6
            refine hr_norm (st' := [zv (z8)]) rfl ?_
            exact hr_iret C hlocks hr dX12_three_69 ⟨(fx_sm_tr (fx_sm_tr (fx_sm_tr (fx_sm_tr fx_sm_refl s3 (by decide)) s15 (by decide)) sm (by decide)) s7 (by decide)), _, rfl⟩
          · have c3 : (k : Int) < vi w 0 47 := c3
            refine hr_aln C 0 dX12_three_45 rfl rfl rfl ?_
            refine hr_gA (g := 29) C hr0 TM0 rfl (by decide) fl_X12_101 dX12_three_46 rfl (fun a9 ha10 => ?_)
            refine hr_il C 2 dX12_three_49 rfl rfl ?_
            refine hr_aln C 0 dX12_three_51 rfl rfl rfl ?_
            refine hr_iln C 1 dX12_three_52 rfl rfl rfl ?_
            refine hr_il C 2 dX12_three_53 rfl rfl ?_
            refine hr_cV (As := [zv (x3), zv (k)]) (rest := [zv (k), .ref a9]) C (h_wordOf h r x3 k hr0 ⟨by omega, by omega⟩ ⟨by omega, by omega⟩ (fun q => by omega)) ⟨by decide, by decide⟩ iV_X12_wordOf g_X12_387 TM0 hr0 dX12_three_55 rfl rfl (Nat.le_of_ble_eq_true rfl) rfl ⟨rfl, trivial⟩ (fun w11 rv o12 q13 => ?_)
            obtain ⟨rfl, rfl, x1, x2⟩ := q13
            have e1 := (wrd_sm o13 how sm (by decide) x3 k).1
            rw [e1] at x1 x2
            refine hr_norm (st' := [zv (wrdW w12 x3 k), zv (k), .ref a9]) (by rw [e1]; rfl) ?_
            refine hr_ast C ha10 TMa_29 (by omega) (by omega) (by decide) ⟨by omega, by omega⟩ (hp1 (by omega) (by omega)) dX12_three_58 rfl (fun w14 o15 s16 e17 => ?_)
            refine hr_inc (lv' := [(4, zv (k + 1)), (0, .ref r), (3, zv (x3))]) C 2 dX12_three_59 rfl (by decide) rfl rfl ?_
            refine hr_goto C 36 dX12_three_62 (by decide) ?_
            have k0 : vi w14 0 47 = lenW w12 x3 := by rw [e17, if_neg (by omega)]; exact hl
            refine hr_pick (lv' := [(0, .ref r), (3, zv (x3)), (4, zv (k + 1))]) [1, 2, 0] rfl ?_
            exact ih _ _ (by omega) o15 (by omega) (by omega) g1 g2 (fx_sm_tr sm s16 (by decide)) k0 (fun j hj2 => by
              rw [e17]
              by_cases ej : j = Int.toNat k
              · have ek : (j : Int) = k := by omega
                rw [if_pos ⟨rfl, ej⟩, ek]
                exact ⟨rfl, x1⟩
              · rw [if_neg (fun q => ej q.2)]
                exact hj j (by omega))
      refine hr_aln C 0 dX12_three_24 rfl rfl rfl ?_
      refine hr_aln C 0 dX12_three_25 rfl rfl rfl ?_
      refine hr_iln C 3 dX12_three_26 rfl rfl rfl ?_
      refine hr_cV (As := [zv (x3)]) (rest := [.ref r]) C (h_longOf h r x3 hr0 ⟨by omega, by omega⟩) ⟨by decide, by decide⟩ iV_X12_longOf g_X12_381 TM0 hr0 dX12_three_27 rfl rfl (Nat.le_of_ble_eq_true rfl) rfl ⟨rfl, trivial⟩ (fun w18 rv o19 q20 => ?_)
      obtain ⟨rfl, rfl, g1, g2, g3⟩ := q20
      refine hr_norm (st' := [zv (lenW w12 x3), .ref r]) rfl ?_
      refine hr_pI (lo := 0) (hi := 12) C hr0 TM0 rfl ⟨by decide, by decide⟩ pl_X12_443 dX12_three_30 (by omega) (by omega) rfl (fun w21 o22 s23 e24 => ?_)
      refine hr_ic C dX12_three_33 rfl ?_
      refine hr_is (lv' := [(4, zv (0)), (0, .ref r), (1, zv (u)), (2, zv (v)), (3, zv (x3))]) C dX12_three_34 (by decide) rfl rfl ?_
      have k0 : vi w21 0 47 = lenW w12 x3 := by rw [e24, if_pos ⟨rfl, rfl⟩]
      refine hr_pick (lv' := [(0, .ref r), (3, zv (x3)), (4, zv (0))]) [1, 4, 0] rfl ?_
      exact loop _ 0 _ (Nat.lt_succ_self _) o22 (by omega) (by omega) g1 (g3 (by omega)) (fx_sm_tr fx_sm_refl s23 (by decide)) k0 (fun j hj => by omega)
    · have c17 : (z16 : Int) = 0 := c17
      refine hr_ic C dX12_three_22 rfl ?_
      exact hr_iret C hlocks hr dX12_three_23 ⟨(fx_sm_tr (fx_sm_tr fx_sm_refl s3 (by decide)) s15 (by decide)), _, rfl⟩
